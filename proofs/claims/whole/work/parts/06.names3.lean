theorem dX8_keptOnes_44 : decode cX8_keptOnes 44 = .ok (.istore_n 2, 1) := by decide +kernel
theorem dX8_keptOnes_45 : decode cX8_keptOnes 45 = .ok (.iload_n 2, 1) := by decide +kernel
theorem dX8_keptOnes_46 : decode cX8_keptOnes 46 = .ok (.ifCond .lt 140, 3) := by decide +kernel
theorem dX8_keptOnes_49 : decode cX8_keptOnes 49 = .ok (.iconst 0, 1) := by decide +kernel
theorem dX8_keptOnes_50 : decode cX8_keptOnes 50 = .ok (.istore_n 3, 1) := by decide +kernel
theorem dX8_keptOnes_51 : decode cX8_keptOnes 51 = .ok (.iload_n 3, 1) := by decide +kernel
theorem dX8_keptOnes_52 : decode cX8_keptOnes 52 = .ok (.aload_n 0, 1) := by decide +kernel
theorem dX8_keptOnes_53 : decode cX8_keptOnes 53 = .ok (.getfield 12, 3) := by decide +kernel
theorem dX8_keptOnes_56 : decode cX8_keptOnes 56 = .ok (.getfield 116, 3) := by decide +kernel
theorem dX8_keptOnes_59 : decode cX8_keptOnes 59 = .ok (.if_icmp .ge 121, 3) := by decide +kernel
theorem dX8_keptOnes_62 : decode cX8_keptOnes 62 = .ok (.aload_n 0, 1) := by decide +kernel
theorem dX8_keptOnes_63 : decode cX8_keptOnes 63 = .ok (.getfield 12, 3) := by decide +kernel
theorem dX8_keptOnes_66 : decode cX8_keptOnes 66 = .ok (.getfield 145, 3) := by decide +kernel
theorem dX8_keptOnes_69 : decode cX8_keptOnes 69 = .ok (.iload_n 3, 1) := by decide +kernel
theorem dX8_keptOnes_70 : decode cX8_keptOnes 70 = .ok (.iaload, 1) := by decide +kernel
theorem dX8_keptOnes_71 : decode cX8_keptOnes 71 = .ok (.iload_n 2, 1) := by decide +kernel
theorem dX8_keptOnes_72 : decode cX8_keptOnes 72 = .ok (.if_icmp .ne 102, 3) := by decide +kernel
theorem dX8_keptOnes_75 : decode cX8_keptOnes 75 = .ok (.iload_n 1, 1) := by decide +kernel
theorem dX8_keptOnes_76 : decode cX8_keptOnes 76 = .ok (.iload_n 3, 1) := by decide +kernel
theorem dX8_keptOnes_77 : decode cX8_keptOnes 77 = .ok (.invokestatic 154, 3) := by decide +kernel
theorem dX8_keptOnes_80 : decode cX8_keptOnes 80 = .ok (.iand, 1) := by decide +kernel
theorem dX8_keptOnes_81 : decode cX8_keptOnes 81 = .ok (.ifCond .ne 6, 3) := by decide +kernel
theorem dX8_keptOnes_84 : decode cX8_keptOnes 84 = .ok (.goto 90, 3) := by decide +kernel
theorem dX8_keptOnes_87 : decode cX8_keptOnes 87 = .ok (.aload_n 0, 1) := by decide +kernel
theorem dX8_keptOnes_88 : decode cX8_keptOnes 88 = .ok (.getfield 43, 3) := by decide +kernel
theorem dX8_keptOnes_91 : decode cX8_keptOnes 91 = .ok (.aload_n 0, 1) := by decide +kernel
theorem dX8_keptOnes_92 : decode cX8_keptOnes 92 = .ok (.getfield 12, 3) := by decide +kernel
theorem dX8_keptOnes_95 : decode cX8_keptOnes 95 = .ok (.getfield 139, 3) := by decide +kernel
theorem dX8_keptOnes_98 : decode cX8_keptOnes 98 = .ok (.iload_n 3, 1) := by decide +kernel
theorem dX8_keptOnes_99 : decode cX8_keptOnes 99 = .ok (.iaload, 1) := by decide +kernel
theorem dX8_keptOnes_100 : decode cX8_keptOnes 100 = .ok (.aload_n 0, 1) := by decide +kernel
theorem dX8_keptOnes_101 : decode cX8_keptOnes 101 = .ok (.getfield 19, 3) := by decide +kernel
theorem dX8_keptOnes_104 : decode cX8_keptOnes 104 = .ok (.getfield 127, 3) := by decide +kernel
theorem dX8_keptOnes_107 : decode cX8_keptOnes 107 = .ok (.iload_n 3, 1) := by decide +kernel
theorem dX8_keptOnes_108 : decode cX8_keptOnes 108 = .ok (.iaload, 1) := by decide +kernel
theorem dX8_keptOnes_109 : decode cX8_keptOnes 109 = .ok (.invokevirtual 207, 3) := by decide +kernel
theorem dX8_keptOnes_112 : decode cX8_keptOnes 112 = .ok (.aload_n 0, 1) := by decide +kernel
theorem dX8_keptOnes_113 : decode cX8_keptOnes 113 = .ok (.getfield 12, 3) := by decide +kernel
theorem dX8_keptOnes_116 : decode cX8_keptOnes 116 = .ok (.getfield 136, 3) := by decide +kernel
theorem dX8_keptOnes_119 : decode cX8_keptOnes 119 = .ok (.iload_n 3, 1) := by decide +kernel
theorem dX8_keptOnes_120 : decode cX8_keptOnes 120 = .ok (.iaload, 1) := by decide +kernel
theorem dX8_keptOnes_121 : decode cX8_keptOnes 121 = .ok (.if_icmp .ge 6, 3) := by decide +kernel
theorem dX8_keptOnes_124 : decode cX8_keptOnes 124 = .ok (.goto 50, 3) := by decide +kernel
theorem dX8_keptOnes_127 : decode cX8_keptOnes 127 = .ok (.aload_n 0, 1) := by decide +kernel
theorem dX8_keptOnes_128 : decode cX8_keptOnes 128 = .ok (.getfield 43, 3) := by decide +kernel
theorem dX8_keptOnes_131 : decode cX8_keptOnes 131 = .ok (.aload_n 0, 1) := by decide +kernel
theorem dX8_keptOnes_132 : decode cX8_keptOnes 132 = .ok (.getfield 12, 3) := by decide +kernel
theorem dX8_keptOnes_135 : decode cX8_keptOnes 135 = .ok (.getfield 139, 3) := by decide +kernel
theorem dX8_keptOnes_138 : decode cX8_keptOnes 138 = .ok (.iload_n 3, 1) := by decide +kernel
theorem dX8_keptOnes_139 : decode cX8_keptOnes 139 = .ok (.iaload, 1) := by decide +kernel
theorem dX8_keptOnes_140 : decode cX8_keptOnes 140 = .ok (.aload_n 0, 1) := by decide +kernel
theorem dX8_keptOnes_141 : decode cX8_keptOnes 141 = .ok (.getfield 19, 3) := by decide +kernel
theorem dX8_keptOnes_144 : decode cX8_keptOnes 144 = .ok (.getfield 127, 3) := by decide +kernel
theorem dX8_keptOnes_147 : decode cX8_keptOnes 147 = .ok (.iload_n 3, 1) := by decide +kernel
theorem dX8_keptOnes_148 : decode cX8_keptOnes 148 = .ok (.iaload, 1) := by decide +kernel
theorem dX8_keptOnes_149 : decode cX8_keptOnes 149 = .ok (.aload_n 0, 1) := by decide +kernel
theorem dX8_keptOnes_150 : decode cX8_keptOnes 150 = .ok (.getfield 12, 3) := by decide +kernel
theorem dX8_keptOnes_153 : decode cX8_keptOnes 153 = .ok (.getfield 136, 3) := by decide +kernel
theorem dX8_keptOnes_156 : decode cX8_keptOnes 156 = .ok (.iload_n 3, 1) := by decide +kernel
theorem dX8_keptOnes_157 : decode cX8_keptOnes 157 = .ok (.iaload, 1) := by decide +kernel
theorem dX8_keptOnes_158 : decode cX8_keptOnes 158 = .ok (.invokevirtual 171, 3) := by decide +kernel
theorem dX8_keptOnes_161 : decode cX8_keptOnes 161 = .ok (.aload_n 0, 1) := by decide +kernel
theorem dX8_keptOnes_162 : decode cX8_keptOnes 162 = .ok (.dup, 1) := by decide +kernel
theorem dX8_keptOnes_163 : decode cX8_keptOnes 163 = .ok (.getfield 319, 3) := by decide +kernel
theorem dX8_keptOnes_166 : decode cX8_keptOnes 166 = .ok (.iload_n 3, 1) := by decide +kernel
theorem dX8_keptOnes_167 : decode cX8_keptOnes 167 = .ok (.invokestatic 154, 3) := by decide +kernel
theorem dX8_keptOnes_170 : decode cX8_keptOnes 170 = .ok (.ior, 1) := by decide +kernel
theorem dX8_keptOnes_171 : decode cX8_keptOnes 171 = .ok (.putfield 319, 3) := by decide +kernel
theorem dX8_keptOnes_174 : decode cX8_keptOnes 174 = .ok (.iinc 3 1, 3) := by decide +kernel
theorem dX8_keptOnes_177 : decode cX8_keptOnes 177 = .ok (.goto (-126), 3) := by decide +kernel
theorem dX8_keptOnes_180 : decode cX8_keptOnes 180 = .ok (.iinc 2 (-1), 3) := by decide +kernel
theorem dX8_keptOnes_183 : decode cX8_keptOnes 183 = .ok (.goto (-138), 3) := by decide +kernel
theorem dX8_keptOnes_186 : decode cX8_keptOnes 186 = .ok (.aload_n 0, 1) := by decide +kernel
theorem dX8_keptOnes_187 : decode cX8_keptOnes 187 = .ok (.iconst 1, 1) := by decide +kernel
theorem dX8_keptOnes_188 : decode cX8_keptOnes 188 = .ok (.putfield 316, 3) := by decide +kernel
theorem dX8_keptOnes_191 : decode cX8_keptOnes 191 = .ok (.aload_n 0, 1) := by decide +kernel
theorem dX8_keptOnes_192 : decode cX8_keptOnes 192 = .ok (.getfield 319, 3) := by decide +kernel
theorem dX8_keptOnes_195 : decode cX8_keptOnes 195 = .ok (.ireturn, 1) := by decide +kernel
set_option maxRecDepth 20000 in
theorem ggX8_printLedger_X3_clear : GoodIn wsX8_printLedger wsX3_clear := goodIn_r _ [8, 9, 97, 98] (by decide +kernel) (by decide +kernel)
set_option maxRecDepth 20000 in
theorem gX8_printLedger_X3_clear : GoodIn wsX8_printLedger (wsV RX8 322 RX3 yX3_clear wsX3_clear) := goodIn_app (goodIn_of _ (by decide +kernel)) ggX8_printLedger_X3_clear
set_option maxRecDepth 20000 in
theorem ggX8_printLedger_X3_number : GoodIn wsX8_printLedger wsX3_number := goodIn_r _ [13, 14, 15, 16, 7, 17, 9, 18, 97, 98] (by decide +kernel) (by decide +kernel)
set_option maxRecDepth 20000 in
theorem gX8_printLedger_X3_number : GoodIn wsX8_printLedger (wsV RX8 323 RX3 yX3_number wsX3_number) := goodIn_app (goodIn_of _ (by decide +kernel)) ggX8_printLedger_X3_number
set_option maxRecDepth 20000 in
theorem ggX8_printLedger_X3_sign : GoodIn wsX8_printLedger wsX3_sign := goodIn_r _ [17, 9, 18, 97, 98] (by decide +kernel) (by decide +kernel)
set_option maxRecDepth 20000 in
theorem gX8_printLedger_X3_sign : GoodIn wsX8_printLedger (wsV RX8 327 RX3 yX3_sign wsX3_sign) := goodIn_app (goodIn_of _ (by decide +kernel)) ggX8_printLedger_X3_sign
set_option maxRecDepth 20000 in
theorem ggX8_printLedger_X3_word : GoodIn wsX8_printLedger wsX3_word := goodIn_r _ [23, 24, 25, 26, 27, 28, 29, 30, 31, 32, 33, 34, 35, 36, 37, 38, 39, 40, 41, 42, 43, 44, 45, 46, 47, 48, 49, 50, 51, 52, 53, 54, 55, 56, 57, 58, 59, 60, 61, 62, 63, 64, 65, 66, 67, 68, 69, 70, 71, 72, 14, 15, 16, 7, 17, 9, 18, 97, 98] (by decide +kernel) (by decide +kernel)
set_option maxRecDepth 20000 in
theorem gX8_printLedger_X3_word : GoodIn wsX8_printLedger (wsV RX8 332 RX3 yX3_word wsX3_word) := goodIn_app (goodIn_of _ (by decide +kernel)) ggX8_printLedger_X3_word
theorem dX8_printLedger_0 : decode cX8_printLedger 0 = .ok (.aload_n 0, 1) := by decide +kernel
theorem dX8_printLedger_1 : decode cX8_printLedger 1 = .ok (.getfield 64, 3) := by decide +kernel
theorem dX8_printLedger_4 : decode cX8_printLedger 4 = .ok (.invokevirtual 322, 3) := by decide +kernel
theorem dX8_printLedger_7 : decode cX8_printLedger 7 = .ok (.aload_n 0, 1) := by decide +kernel
theorem dX8_printLedger_8 : decode cX8_printLedger 8 = .ok (.getfield 64, 3) := by decide +kernel
theorem dX8_printLedger_11 : decode cX8_printLedger 11 = .ok (.iload_n 1, 1) := by decide +kernel
theorem dX8_printLedger_12 : decode cX8_printLedger 12 = .ok (.invokevirtual 323, 3) := by decide +kernel
theorem dX8_printLedger_15 : decode cX8_printLedger 15 = .ok (.aload_n 0, 1) := by decide +kernel
theorem dX8_printLedger_16 : decode cX8_printLedger 16 = .ok (.getfield 64, 3) := by decide +kernel
theorem dX8_printLedger_19 : decode cX8_printLedger 19 = .ok (.bipush 58, 2) := by decide +kernel
theorem dX8_printLedger_21 : decode cX8_printLedger 21 = .ok (.invokevirtual 327, 3) := by decide +kernel
theorem dX8_printLedger_24 : decode cX8_printLedger 24 = .ok (.aload_n 0, 1) := by decide +kernel
theorem dX8_printLedger_25 : decode cX8_printLedger 25 = .ok (.getfield 64, 3) := by decide +kernel
theorem dX8_printLedger_28 : decode cX8_printLedger 28 = .ok (.aload_n 0, 1) := by decide +kernel
theorem dX8_printLedger_29 : decode cX8_printLedger 29 = .ok (.getfield 12, 3) := by decide +kernel
theorem dX8_printLedger_32 : decode cX8_printLedger 32 = .ok (.getfield 136, 3) := by decide +kernel
theorem dX8_printLedger_35 : decode cX8_printLedger 35 = .ok (.iload_n 1, 1) := by decide +kernel
theorem dX8_printLedger_36 : decode cX8_printLedger 36 = .ok (.iaload, 1) := by decide +kernel
theorem dX8_printLedger_37 : decode cX8_printLedger 37 = .ok (.invokevirtual 323, 3) := by decide +kernel
theorem dX8_printLedger_40 : decode cX8_printLedger 40 = .ok (.iconst 0, 1) := by decide +kernel
theorem dX8_printLedger_41 : decode cX8_printLedger 41 = .ok (.istore_n 3, 1) := by decide +kernel
theorem dX8_printLedger_42 : decode cX8_printLedger 42 = .ok (.iload_n 3, 1) := by decide +kernel
theorem dX8_printLedger_43 : decode cX8_printLedger 43 = .ok (.iconst 3, 1) := by decide +kernel
theorem dX8_printLedger_44 : decode cX8_printLedger 44 = .ok (.if_icmp .ge 37, 3) := by decide +kernel
theorem dX8_printLedger_47 : decode cX8_printLedger 47 = .ok (.aload_n 0, 1) := by decide +kernel
theorem dX8_printLedger_48 : decode cX8_printLedger 48 = .ok (.getfield 12, 3) := by decide +kernel
theorem dX8_printLedger_51 : decode cX8_printLedger 51 = .ok (.getfield 139, 3) := by decide +kernel
theorem dX8_printLedger_54 : decode cX8_printLedger 54 = .ok (.iload_n 1, 1) := by decide +kernel
theorem dX8_printLedger_55 : decode cX8_printLedger 55 = .ok (.iaload, 1) := by decide +kernel
theorem dX8_printLedger_56 : decode cX8_printLedger 56 = .ok (.iload_n 3, 1) := by decide +kernel
theorem dX8_printLedger_57 : decode cX8_printLedger 57 = .ok (.ishr, 1) := by decide +kernel
theorem dX8_printLedger_58 : decode cX8_printLedger 58 = .ok (.iconst 1, 1) := by decide +kernel
theorem dX8_printLedger_59 : decode cX8_printLedger 59 = .ok (.iand, 1) := by decide +kernel
theorem dX8_printLedger_60 : decode cX8_printLedger 60 = .ok (.ifCond .eq 15, 3) := by decide +kernel
theorem dX8_printLedger_63 : decode cX8_printLedger 63 = .ok (.aload_n 0, 1) := by decide +kernel
theorem dX8_printLedger_64 : decode cX8_printLedger 64 = .ok (.getfield 64, 3) := by decide +kernel
theorem dX8_printLedger_67 : decode cX8_printLedger 67 = .ok (.bipush 97, 2) := by decide +kernel
theorem dX8_printLedger_69 : decode cX8_printLedger 69 = .ok (.iload_n 3, 1) := by decide +kernel
theorem dX8_printLedger_70 : decode cX8_printLedger 70 = .ok (.iadd, 1) := by decide +kernel
theorem dX8_printLedger_71 : decode cX8_printLedger 71 = .ok (.i2c, 1) := by decide +kernel
theorem dX8_printLedger_72 : decode cX8_printLedger 72 = .ok (.invokevirtual 327, 3) := by decide +kernel
theorem dX8_printLedger_75 : decode cX8_printLedger 75 = .ok (.iinc 3 1, 3) := by decide +kernel
theorem dX8_printLedger_78 : decode cX8_printLedger 78 = .ok (.goto (-36), 3) := by decide +kernel
theorem dX8_printLedger_81 : decode cX8_printLedger 81 = .ok (.aload_n 0, 1) := by decide +kernel
theorem dX8_printLedger_82 : decode cX8_printLedger 82 = .ok (.getfield 64, 3) := by decide +kernel
theorem dX8_printLedger_85 : decode cX8_printLedger 85 = .ok (.bipush 64, 2) := by decide +kernel
theorem dX8_printLedger_87 : decode cX8_printLedger 87 = .ok (.invokevirtual 327, 3) := by decide +kernel
theorem dX8_printLedger_90 : decode cX8_printLedger 90 = .ok (.aload_n 0, 1) := by decide +kernel
theorem dX8_printLedger_91 : decode cX8_printLedger 91 = .ok (.getfield 64, 3) := by decide +kernel
theorem dX8_printLedger_94 : decode cX8_printLedger 94 = .ok (.aload_n 0, 1) := by decide +kernel
theorem dX8_printLedger_95 : decode cX8_printLedger 95 = .ok (.getfield 19, 3) := by decide +kernel
theorem dX8_printLedger_98 : decode cX8_printLedger 98 = .ok (.getfield 127, 3) := by decide +kernel
theorem dX8_printLedger_101 : decode cX8_printLedger 101 = .ok (.iload_n 1, 1) := by decide +kernel
theorem dX8_printLedger_102 : decode cX8_printLedger 102 = .ok (.iaload, 1) := by decide +kernel
theorem dX8_printLedger_103 : decode cX8_printLedger 103 = .ok (.invokevirtual 323, 3) := by decide +kernel
theorem dX8_printLedger_106 : decode cX8_printLedger 106 = .ok (.aload_n 0, 1) := by decide +kernel
theorem dX8_printLedger_107 : decode cX8_printLedger 107 = .ok (.getfield 64, 3) := by decide +kernel
theorem dX8_printLedger_110 : decode cX8_printLedger 110 = .ok (.bipush 103, 2) := by decide +kernel
theorem dX8_printLedger_112 : decode cX8_printLedger 112 = .ok (.invokevirtual 327, 3) := by decide +kernel
theorem dX8_printLedger_115 : decode cX8_printLedger 115 = .ok (.aload_n 0, 1) := by decide +kernel
theorem dX8_printLedger_116 : decode cX8_printLedger 116 = .ok (.getfield 64, 3) := by decide +kernel
theorem dX8_printLedger_119 : decode cX8_printLedger 119 = .ok (.aload_n 0, 1) := by decide +kernel
theorem dX8_printLedger_120 : decode cX8_printLedger 120 = .ok (.getfield 12, 3) := by decide +kernel
theorem dX8_printLedger_123 : decode cX8_printLedger 123 = .ok (.getfield 142, 3) := by decide +kernel
theorem dX8_printLedger_126 : decode cX8_printLedger 126 = .ok (.iload_n 1, 1) := by decide +kernel
theorem dX8_printLedger_127 : decode cX8_printLedger 127 = .ok (.iaload, 1) := by decide +kernel
theorem dX8_printLedger_128 : decode cX8_printLedger 128 = .ok (.invokevirtual 323, 3) := by decide +kernel
theorem dX8_printLedger_131 : decode cX8_printLedger 131 = .ok (.aload_n 0, 1) := by decide +kernel
theorem dX8_printLedger_132 : decode cX8_printLedger 132 = .ok (.getfield 64, 3) := by decide +kernel
theorem dX8_printLedger_135 : decode cX8_printLedger 135 = .ok (.bipush 114, 2) := by decide +kernel
theorem dX8_printLedger_137 : decode cX8_printLedger 137 = .ok (.invokevirtual 327, 3) := by decide +kernel
theorem dX8_printLedger_140 : decode cX8_printLedger 140 = .ok (.aload_n 0, 1) := by decide +kernel
theorem dX8_printLedger_141 : decode cX8_printLedger 141 = .ok (.getfield 64, 3) := by decide +kernel
theorem dX8_printLedger_144 : decode cX8_printLedger 144 = .ok (.aload_n 0, 1) := by decide +kernel
theorem dX8_printLedger_145 : decode cX8_printLedger 145 = .ok (.getfield 12, 3) := by decide +kernel
theorem dX8_printLedger_148 : decode cX8_printLedger 148 = .ok (.getfield 145, 3) := by decide +kernel
theorem dX8_printLedger_151 : decode cX8_printLedger 151 = .ok (.iload_n 1, 1) := by decide +kernel
theorem dX8_printLedger_152 : decode cX8_printLedger 152 = .ok (.iaload, 1) := by decide +kernel
theorem dX8_printLedger_153 : decode cX8_printLedger 153 = .ok (.invokevirtual 323, 3) := by decide +kernel
theorem dX8_printLedger_156 : decode cX8_printLedger 156 = .ok (.aload_n 0, 1) := by decide +kernel
theorem dX8_printLedger_157 : decode cX8_printLedger 157 = .ok (.getfield 64, 3) := by decide +kernel
theorem dX8_printLedger_160 : decode cX8_printLedger 160 = .ok (.bipush 32, 2) := by decide +kernel
theorem dX8_printLedger_162 : decode cX8_printLedger 162 = .ok (.invokevirtual 327, 3) := by decide +kernel
theorem dX8_printLedger_165 : decode cX8_printLedger 165 = .ok (.aload_n 0, 1) := by decide +kernel
theorem dX8_printLedger_166 : decode cX8_printLedger 166 = .ok (.getfield 19, 3) := by decide +kernel
theorem dX8_printLedger_169 : decode cX8_printLedger 169 = .ok (.getfield 124, 3) := by decide +kernel
theorem dX8_printLedger_172 : decode cX8_printLedger 172 = .ok (.iload_n 1, 1) := by decide +kernel
theorem dX8_printLedger_173 : decode cX8_printLedger 173 = .ok (.iaload, 1) := by decide +kernel
theorem dX8_printLedger_174 : decode cX8_printLedger 174 = .ok (.lookupswitch 52 #[(0, 26), (2, 39)], 26) := by decide +kernel
theorem dX8_printLedger_200 : decode cX8_printLedger 200 = .ok (.aload_n 0, 1) := by decide +kernel
theorem dX8_printLedger_201 : decode cX8_printLedger 201 = .ok (.getfield 64, 3) := by decide +kernel
theorem dX8_printLedger_204 : decode cX8_printLedger 204 = .ok (.ldc_w 330, 3) := by decide +kernel
theorem dX8_printLedger_207 : decode cX8_printLedger 207 = .ok (.invokevirtual 332, 3) := by decide +kernel
theorem dX8_printLedger_210 : decode cX8_printLedger 210 = .ok (.goto 36, 3) := by decide +kernel
theorem dX8_printLedger_213 : decode cX8_printLedger 213 = .ok (.aload_n 0, 1) := by decide +kernel
theorem dX8_printLedger_214 : decode cX8_printLedger 214 = .ok (.getfield 64, 3) := by decide +kernel
theorem dX8_printLedger_217 : decode cX8_printLedger 217 = .ok (.ldc_w 336, 3) := by decide +kernel
theorem dX8_printLedger_220 : decode cX8_printLedger 220 = .ok (.invokevirtual 332, 3) := by decide +kernel
theorem dX8_printLedger_223 : decode cX8_printLedger 223 = .ok (.goto 23, 3) := by decide +kernel
theorem dX8_printLedger_226 : decode cX8_printLedger 226 = .ok (.aload_n 0, 1) := by decide +kernel
theorem dX8_printLedger_227 : decode cX8_printLedger 227 = .ok (.getfield 64, 3) := by decide +kernel
theorem dX8_printLedger_230 : decode cX8_printLedger 230 = .ok (.iload_n 2, 1) := by decide +kernel
theorem dX8_printLedger_231 : decode cX8_printLedger 231 = .ok (.ifCond .eq 9, 3) := by decide +kernel
theorem dX8_printLedger_234 : decode cX8_printLedger 234 = .ok (.ldc_w 338, 3) := by decide +kernel
theorem dX8_printLedger_237 : decode cX8_printLedger 237 = .ok (.goto 6, 3) := by decide +kernel
theorem dX8_printLedger_240 : decode cX8_printLedger 240 = .ok (.ldc_w 340, 3) := by decide +kernel
theorem dX8_printLedger_243 : decode cX8_printLedger 243 = .ok (.invokevirtual 332, 3) := by decide +kernel
theorem dX8_printLedger_246 : decode cX8_printLedger 246 = .ok (.return_, 1) := by decide +kernel
set_option maxRecDepth 20000 in
theorem ggX8_become_X8_noteChange : GoodIn wsX8_become wsX8_noteChange := goodIn_r _ [6, 7, 8, 1, 9, 10, 11, 12, 13, 14, 15, 16, 17, 18, 19, 20, 21, 22, 23, 24, 25, 26, 27, 28, 29, 30, 31, 32, 33, 34, 35, 36, 37, 38, 39, 40, 41, 42, 61, 62, 63, 64, 65, 66, 67, 68, 69, 70, 71, 72, 73, 79, 80, 81, 82, 83, 84, 85, 86, 87, 74, 75, 76, 77, 78] (by decide +kernel) (by decide +kernel)
set_option maxRecDepth 20000 in
theorem gX8_become_X8_noteChange : GoodIn wsX8_become (wsV RX8 83 RX8 yX8_noteChange wsX8_noteChange) := goodIn_app (goodIn_of _ (by decide +kernel)) ggX8_become_X8_noteChange
set_option maxRecDepth 20000 in
theorem ggX8_become_X8_howMany : GoodIn wsX8_become wsX8_howMany := goodIn_r _ [46, 47, 48, 49, 5, 50, 9, 1, 51, 52, 53, 54, 55, 56, 57, 58, 59, 60, 61, 62, 63, 64, 65, 66, 67, 68, 69, 70, 71, 72, 73, 79, 80, 81, 82, 83, 84, 74, 75, 76, 77, 78] (by decide +kernel) (by decide +kernel)
set_option maxRecDepth 20000 in
theorem gX8_become_X8_howMany : GoodIn wsX8_become (wsV RX8 301 RX8 yX8_howMany wsX8_howMany) := goodIn_app (goodIn_of _ (by decide +kernel)) ggX8_become_X8_howMany
theorem dX8_become_0 : decode cX8_become 0 = .ok (.aload_n 0, 1) := by decide +kernel
theorem dX8_become_1 : decode cX8_become 1 = .ok (.getfield 19, 3) := by decide +kernel
theorem dX8_become_4 : decode cX8_become 4 = .ok (.getfield 124, 3) := by decide +kernel
theorem dX8_become_7 : decode cX8_become 7 = .ok (.iload_n 1, 1) := by decide +kernel
theorem dX8_become_8 : decode cX8_become 8 = .ok (.iload_n 2, 1) := by decide +kernel
theorem dX8_become_9 : decode cX8_become 9 = .ok (.iastore, 1) := by decide +kernel
theorem dX8_become_10 : decode cX8_become 10 = .ok (.aload_n 0, 1) := by decide +kernel
theorem dX8_become_11 : decode cX8_become 11 = .ok (.invokevirtual 83, 3) := by decide +kernel
theorem dX8_become_14 : decode cX8_become 14 = .ok (.aload_n 0, 1) := by decide +kernel
theorem dX8_become_15 : decode cX8_become 15 = .ok (.iconst 1, 1) := by decide +kernel
theorem dX8_become_16 : decode cX8_become 16 = .ok (.invokevirtual 301, 3) := by decide +kernel
theorem dX8_become_19 : decode cX8_become 19 = .ok (.ireturn, 1) := by decide +kernel
set_option maxRecDepth 20000 in
theorem ggX8_noteChange_X2_note : GoodIn wsX8_noteChange wsX2_note := goodIn_r _ [9, 10, 11, 12, 13, 14, 15, 8, 16, 17, 18, 19, 20, 21, 22, 23, 24, 25, 26, 27, 28, 29, 30, 31, 32, 33, 34, 35, 36, 37, 57, 58, 59, 60, 61, 62, 63, 64] (by decide +kernel) (by decide +kernel)
set_option maxRecDepth 20000 in
theorem gX8_noteChange_X2_note : GoodIn wsX8_noteChange (wsV RX8 342 RX2 yX2_note wsX2_note) := goodIn_app (goodIn_of _ (by decide +kernel)) ggX8_noteChange_X2_note
theorem dX8_noteChange_0 : decode cX8_noteChange 0 = .ok (.aload_n 0, 1) := by decide +kernel
theorem dX8_noteChange_1 : decode cX8_noteChange 1 = .ok (.iconst 0, 1) := by decide +kernel
theorem dX8_noteChange_2 : decode cX8_noteChange 2 = .ok (.putfield 316, 3) := by decide +kernel
theorem dX8_noteChange_5 : decode cX8_noteChange 5 = .ok (.aload_n 0, 1) := by decide +kernel
theorem dX8_noteChange_6 : decode cX8_noteChange 6 = .ok (.getfield 29, 3) := by decide +kernel
theorem dX8_noteChange_9 : decode cX8_noteChange 9 = .ok (.aload_n 0, 1) := by decide +kernel
theorem dX8_noteChange_10 : decode cX8_noteChange 10 = .ok (.getfield 19, 3) := by decide +kernel
theorem dX8_noteChange_13 : decode cX8_noteChange 13 = .ok (.aload_n 0, 1) := by decide +kernel
theorem dX8_noteChange_14 : decode cX8_noteChange 14 = .ok (.getfield 12, 3) := by decide +kernel
theorem dX8_noteChange_17 : decode cX8_noteChange 17 = .ok (.getfield 116, 3) := by decide +kernel
theorem dX8_noteChange_20 : decode cX8_noteChange 20 = .ok (.invokevirtual 342, 3) := by decide +kernel
theorem dX8_noteChange_23 : decode cX8_noteChange 23 = .ok (.return_, 1) := by decide +kernel
set_option maxRecDepth 20000 in
theorem ggX8_layBack_X5_copyOf : GoodIn wsX8_layBack wsX5_copyOf := goodIn_r _ [8, 9, 10, 11, 12, 13, 14, 15, 16, 17, 18, 19, 20, 21, 22, 23, 24, 38, 39, 40, 41, 42] (by decide +kernel) (by decide +kernel)
set_option maxRecDepth 20000 in
theorem gX8_layBack_X5_copyOf : GoodIn wsX8_layBack (wsV RX8 293 RX5 yX5_copyOf wsX5_copyOf) := goodIn_app (goodIn_of _ (by decide +kernel)) ggX8_layBack_X5_copyOf
theorem dX8_layBack_0 : decode cX8_layBack 0 = .ok (.aload_n 0, 1) := by decide +kernel
theorem dX8_layBack_1 : decode cX8_layBack 1 = .ok (.getfield 19, 3) := by decide +kernel
theorem dX8_layBack_4 : decode cX8_layBack 4 = .ok (.aload_n 1, 1) := by decide +kernel
theorem dX8_layBack_5 : decode cX8_layBack 5 = .ok (.aload_n 1, 1) := by decide +kernel
theorem dX8_layBack_6 : decode cX8_layBack 6 = .ok (.getfield 345, 3) := by decide +kernel
theorem dX8_layBack_9 : decode cX8_layBack 9 = .ok (.invokevirtual 293, 3) := by decide +kernel
theorem dX8_layBack_12 : decode cX8_layBack 12 = .ok (.aload_n 1, 1) := by decide +kernel
theorem dX8_layBack_13 : decode cX8_layBack 13 = .ok (.getfield 345, 3) := by decide +kernel
theorem dX8_layBack_16 : decode cX8_layBack 16 = .ok (.istore_n 2, 1) := by decide +kernel
theorem dX8_layBack_17 : decode cX8_layBack 17 = .ok (.iload_n 2, 1) := by decide +kernel
theorem dX8_layBack_18 : decode cX8_layBack 18 = .ok (.aload_n 0, 1) := by decide +kernel
theorem dX8_layBack_19 : decode cX8_layBack 19 = .ok (.getfield 12, 3) := by decide +kernel
theorem dX8_layBack_22 : decode cX8_layBack 22 = .ok (.getfield 116, 3) := by decide +kernel
theorem dX8_layBack_25 : decode cX8_layBack 25 = .ok (.if_icmp .ge 19, 3) := by decide +kernel
theorem dX8_layBack_28 : decode cX8_layBack 28 = .ok (.aload_n 0, 1) := by decide +kernel
theorem dX8_layBack_29 : decode cX8_layBack 29 = .ok (.getfield 19, 3) := by decide +kernel
theorem dX8_layBack_32 : decode cX8_layBack 32 = .ok (.getfield 124, 3) := by decide +kernel
theorem dX8_layBack_35 : decode cX8_layBack 35 = .ok (.iload_n 2, 1) := by decide +kernel
theorem dX8_layBack_36 : decode cX8_layBack 36 = .ok (.iconst 0, 1) := by decide +kernel
theorem dX8_layBack_37 : decode cX8_layBack 37 = .ok (.iastore, 1) := by decide +kernel
theorem dX8_layBack_38 : decode cX8_layBack 38 = .ok (.iinc 2 1, 3) := by decide +kernel
theorem dX8_layBack_41 : decode cX8_layBack 41 = .ok (.goto (-24), 3) := by decide +kernel
theorem dX8_layBack_44 : decode cX8_layBack 44 = .ok (.aload_n 0, 1) := by decide +kernel
theorem dX8_layBack_45 : decode cX8_layBack 45 = .ok (.iconst 0, 1) := by decide +kernel
theorem dX8_layBack_46 : decode cX8_layBack 46 = .ok (.putfield 316, 3) := by decide +kernel
theorem dX8_layBack_49 : decode cX8_layBack 49 = .ok (.return_, 1) := by decide +kernel
set_option maxRecDepth 20000 in
theorem ggX8_layStepBack_X8_layBack : GoodIn wsX8_layStepBack wsX8_layBack := goodIn_r _ [7, 2, 1, 8, 9, 10, 11, 12, 13, 14, 15, 16, 17, 18, 19, 20, 21, 22, 23, 24, 25, 26, 27, 28, 29, 35, 36, 37, 38, 39, 40, 41, 42, 43, 44, 45, 46, 47, 30, 31, 32, 33, 34, 48, 49, 50, 51, 52, 53] (by decide +kernel) (by decide +kernel)
set_option maxRecDepth 20000 in
theorem gX8_layStepBack_X8_layBack : GoodIn wsX8_layStepBack (wsV RX8 304 RX8 yX8_layBack wsX8_layBack) := goodIn_app (goodIn_of _ (by decide +kernel)) ggX8_layStepBack_X8_layBack
theorem dX8_layStepBack_0 : decode cX8_layStepBack 0 = .ok (.aload_n 0, 1) := by decide +kernel
theorem dX8_layStepBack_1 : decode cX8_layStepBack 1 = .ok (.aload_n 1, 1) := by decide +kernel
theorem dX8_layStepBack_2 : decode cX8_layStepBack 2 = .ok (.invokevirtual 304, 3) := by decide +kernel
theorem dX8_layStepBack_5 : decode cX8_layStepBack 5 = .ok (.aload_n 1, 1) := by decide +kernel
theorem dX8_layStepBack_6 : decode cX8_layStepBack 6 = .ok (.getfield 345, 3) := by decide +kernel
theorem dX8_layStepBack_9 : decode cX8_layStepBack 9 = .ok (.istore_n 2, 1) := by decide +kernel
theorem dX8_layStepBack_10 : decode cX8_layStepBack 10 = .ok (.iload_n 2, 1) := by decide +kernel
theorem dX8_layStepBack_11 : decode cX8_layStepBack 11 = .ok (.aload_n 0, 1) := by decide +kernel
theorem dX8_layStepBack_12 : decode cX8_layStepBack 12 = .ok (.getfield 12, 3) := by decide +kernel
theorem dX8_layStepBack_15 : decode cX8_layStepBack 15 = .ok (.getfield 116, 3) := by decide +kernel
theorem dX8_layStepBack_18 : decode cX8_layStepBack 18 = .ok (.if_icmp .ge 27, 3) := by decide +kernel
theorem dX8_layStepBack_21 : decode cX8_layStepBack 21 = .ok (.aload_n 0, 1) := by decide +kernel
theorem dX8_layStepBack_22 : decode cX8_layStepBack 22 = .ok (.getfield 19, 3) := by decide +kernel
theorem dX8_layStepBack_25 : decode cX8_layStepBack 25 = .ok (.getfield 127, 3) := by decide +kernel
theorem dX8_layStepBack_28 : decode cX8_layStepBack 28 = .ok (.iload_n 2, 1) := by decide +kernel
theorem dX8_layStepBack_29 : decode cX8_layStepBack 29 = .ok (.aload_n 0, 1) := by decide +kernel
theorem dX8_layStepBack_30 : decode cX8_layStepBack 30 = .ok (.getfield 12, 3) := by decide +kernel
theorem dX8_layStepBack_33 : decode cX8_layStepBack 33 = .ok (.getfield 130, 3) := by decide +kernel
theorem dX8_layStepBack_36 : decode cX8_layStepBack 36 = .ok (.iload_n 2, 1) := by decide +kernel
theorem dX8_layStepBack_37 : decode cX8_layStepBack 37 = .ok (.iaload, 1) := by decide +kernel
theorem dX8_layStepBack_38 : decode cX8_layStepBack 38 = .ok (.iastore, 1) := by decide +kernel
theorem dX8_layStepBack_39 : decode cX8_layStepBack 39 = .ok (.iinc 2 1, 3) := by decide +kernel
theorem dX8_layStepBack_42 : decode cX8_layStepBack 42 = .ok (.goto (-32), 3) := by decide +kernel
theorem dX8_layStepBack_45 : decode cX8_layStepBack 45 = .ok (.return_, 1) := by decide +kernel
theorem dX9_init_0 : decode cX9_init 0 = .ok (.aload_n 0, 1) := by decide +kernel
theorem dX9_init_1 : decode cX9_init 1 = .ok (.invokespecial 1, 3) := by decide +kernel
theorem dX9_init_4 : decode cX9_init 4 = .ok (.aload_n 0, 1) := by decide +kernel
theorem dX9_init_5 : decode cX9_init 5 = .ok (.bipush 88, 2) := by decide +kernel
theorem dX9_init_7 : decode cX9_init 7 = .ok (.newarray .int, 2) := by decide +kernel
theorem dX9_init_9 : decode cX9_init 9 = .ok (.putfield 9, 3) := by decide +kernel
theorem dX9_init_12 : decode cX9_init 12 = .ok (.aload_n 0, 1) := by decide +kernel
theorem dX9_init_13 : decode cX9_init 13 = .ok (.bipush 24, 2) := by decide +kernel
theorem dX9_init_15 : decode cX9_init 15 = .ok (.newarray .int, 2) := by decide +kernel
theorem dX9_init_17 : decode cX9_init 17 = .ok (.putfield 13, 3) := by decide +kernel
theorem dX9_init_20 : decode cX9_init 20 = .ok (.aload_n 0, 1) := by decide +kernel
theorem dX9_init_21 : decode cX9_init 21 = .ok (.bipush 24, 2) := by decide +kernel
theorem dX9_init_23 : decode cX9_init 23 = .ok (.newarray .int, 2) := by decide +kernel
theorem dX9_init_25 : decode cX9_init 25 = .ok (.putfield 16, 3) := by decide +kernel
theorem dX9_init_28 : decode cX9_init 28 = .ok (.aload_n 0, 1) := by decide +kernel
theorem dX9_init_29 : decode cX9_init 29 = .ok (.bipush 24, 2) := by decide +kernel
theorem dX9_init_31 : decode cX9_init 31 = .ok (.newarray .int, 2) := by decide +kernel
theorem dX9_init_33 : decode cX9_init 33 = .ok (.putfield 19, 3) := by decide +kernel
theorem dX9_init_36 : decode cX9_init 36 = .ok (.aload_n 0, 1) := by decide +kernel
theorem dX9_init_37 : decode cX9_init 37 = .ok (.bipush 24, 2) := by decide +kernel
theorem dX9_init_39 : decode cX9_init 39 = .ok (.newarray .int, 2) := by decide +kernel
theorem dX9_init_41 : decode cX9_init 41 = .ok (.putfield 22, 3) := by decide +kernel
theorem dX9_init_44 : decode cX9_init 44 = .ok (.aload_n 0, 1) := by decide +kernel
theorem dX9_init_45 : decode cX9_init 45 = .ok (.bipush 12, 2) := by decide +kernel
theorem dX9_init_47 : decode cX9_init 47 = .ok (.bipush 88, 2) := by decide +kernel
theorem dX9_init_49 : decode cX9_init 49 = .ok (.multianewarray 25 2, 4) := by decide +kernel
theorem dX9_init_53 : decode cX9_init 53 = .ok (.putfield 27, 3) := by decide +kernel
theorem dX9_init_56 : decode cX9_init 56 = .ok (.aload_n 0, 1) := by decide +kernel
theorem dX9_init_57 : decode cX9_init 57 = .ok (.bipush 12, 2) := by decide +kernel
theorem dX9_init_59 : decode cX9_init 59 = .ok (.bipush 88, 2) := by decide +kernel
theorem dX9_init_61 : decode cX9_init 61 = .ok (.multianewarray 25 2, 4) := by decide +kernel
theorem dX9_init_65 : decode cX9_init 65 = .ok (.putfield 30, 3) := by decide +kernel
theorem dX9_init_68 : decode cX9_init 68 = .ok (.aload_n 0, 1) := by decide +kernel
theorem dX9_init_69 : decode cX9_init 69 = .ok (.bipush 12, 2) := by decide +kernel
theorem dX9_init_71 : decode cX9_init 71 = .ok (.newarray .int, 2) := by decide +kernel
theorem dX9_init_73 : decode cX9_init 73 = .ok (.putfield 33, 3) := by decide +kernel
theorem dX9_init_76 : decode cX9_init 76 = .ok (.aload_n 0, 1) := by decide +kernel
theorem dX9_init_77 : decode cX9_init 77 = .ok (.bipush 88, 2) := by decide +kernel
theorem dX9_init_79 : decode cX9_init 79 = .ok (.newarray .int, 2) := by decide +kernel
theorem dX9_init_81 : decode cX9_init 81 = .ok (.putfield 36, 3) := by decide +kernel
theorem dX9_init_84 : decode cX9_init 84 = .ok (.aload_n 0, 1) := by decide +kernel
theorem dX9_init_85 : decode cX9_init 85 = .ok (.bipush 88, 2) := by decide +kernel
theorem dX9_init_87 : decode cX9_init 87 = .ok (.newarray .int, 2) := by decide +kernel
theorem dX9_init_89 : decode cX9_init 89 = .ok (.putfield 39, 3) := by decide +kernel
theorem dX9_init_92 : decode cX9_init 92 = .ok (.aload_n 0, 1) := by decide +kernel
theorem dX9_init_93 : decode cX9_init 93 = .ok (.iconst (-1), 1) := by decide +kernel
theorem dX9_init_94 : decode cX9_init 94 = .ok (.putfield 42, 3) := by decide +kernel
theorem dX9_init_97 : decode cX9_init 97 = .ok (.aload_n 0, 1) := by decide +kernel
theorem dX9_init_98 : decode cX9_init 98 = .ok (.bipush 39, 2) := by decide +kernel
theorem dX9_init_100 : decode cX9_init 100 = .ok (.newarray .int, 2) := by decide +kernel
theorem dX9_init_102 : decode cX9_init 102 = .ok (.putfield 46, 3) := by decide +kernel
theorem dX9_init_105 : decode cX9_init 105 = .ok (.aload_n 0, 1) := by decide +kernel
theorem dX9_init_106 : decode cX9_init 106 = .ok (.bipush 100, 2) := by decide +kernel
theorem dX9_init_108 : decode cX9_init 108 = .ok (.newarray .int, 2) := by decide +kernel
theorem dX9_init_110 : decode cX9_init 110 = .ok (.putfield 49, 3) := by decide +kernel
theorem dX9_init_113 : decode cX9_init 113 = .ok (.aload_n 0, 1) := by decide +kernel
theorem dX9_init_114 : decode cX9_init 114 = .ok (.iconst 5, 1) := by decide +kernel
theorem dX9_init_115 : decode cX9_init 115 = .ok (.newarray .int, 2) := by decide +kernel
theorem dX9_init_117 : decode cX9_init 117 = .ok (.putfield 52, 3) := by decide +kernel
theorem dX9_init_120 : decode cX9_init 120 = .ok (.aload_n 0, 1) := by decide +kernel
theorem dX9_init_121 : decode cX9_init 121 = .ok (.bipush 36, 2) := by decide +kernel
theorem dX9_init_123 : decode cX9_init 123 = .ok (.bipush 24, 2) := by decide +kernel
theorem dX9_init_125 : decode cX9_init 125 = .ok (.multianewarray 25 2, 4) := by decide +kernel
theorem dX9_init_129 : decode cX9_init 129 = .ok (.putfield 55, 3) := by decide +kernel
theorem dX9_init_132 : decode cX9_init 132 = .ok (.aload_n 0, 1) := by decide +kernel
theorem dX9_init_133 : decode cX9_init 133 = .ok (.bipush 36, 2) := by decide +kernel
theorem dX9_init_135 : decode cX9_init 135 = .ok (.newarray .int, 2) := by decide +kernel
theorem dX9_init_137 : decode cX9_init 137 = .ok (.putfield 58, 3) := by decide +kernel
theorem dX9_init_140 : decode cX9_init 140 = .ok (.aload_n 0, 1) := by decide +kernel
theorem dX9_init_141 : decode cX9_init 141 = .ok (.bipush 24, 2) := by decide +kernel
theorem dX9_init_143 : decode cX9_init 143 = .ok (.newarray .int, 2) := by decide +kernel
theorem dX9_init_145 : decode cX9_init 145 = .ok (.putfield 61, 3) := by decide +kernel
theorem dX9_init_148 : decode cX9_init 148 = .ok (.aload_n 0, 1) := by decide +kernel
theorem dX9_init_149 : decode cX9_init 149 = .ok (.bipush 60, 2) := by decide +kernel
theorem dX9_init_151 : decode cX9_init 151 = .ok (.newarray .int, 2) := by decide +kernel
theorem dX9_init_153 : decode cX9_init 153 = .ok (.putfield 64, 3) := by decide +kernel
theorem dX9_init_156 : decode cX9_init 156 = .ok (.aload_n 0, 1) := by decide +kernel
theorem dX9_init_157 : decode cX9_init 157 = .ok (.bipush 60, 2) := by decide +kernel
theorem dX9_init_159 : decode cX9_init 159 = .ok (.newarray .int, 2) := by decide +kernel
theorem dX9_init_161 : decode cX9_init 161 = .ok (.putfield 67, 3) := by decide +kernel
theorem dX9_init_164 : decode cX9_init 164 = .ok (.aload_n 0, 1) := by decide +kernel
theorem dX9_init_165 : decode cX9_init 165 = .ok (.bipush 24, 2) := by decide +kernel
theorem dX9_init_167 : decode cX9_init 167 = .ok (.newarray .int, 2) := by decide +kernel
theorem dX9_init_169 : decode cX9_init 169 = .ok (.putfield 70, 3) := by decide +kernel
theorem dX9_init_172 : decode cX9_init 172 = .ok (.aload_n 0, 1) := by decide +kernel
theorem dX9_init_173 : decode cX9_init 173 = .ok (.bipush 96, 2) := by decide +kernel
theorem dX9_init_175 : decode cX9_init 175 = .ok (.newarray .long, 2) := by decide +kernel
theorem dX9_init_177 : decode cX9_init 177 = .ok (.putfield 73, 3) := by decide +kernel
theorem dX9_init_180 : decode cX9_init 180 = .ok (.aload_n 0, 1) := by decide +kernel
theorem dX9_init_181 : decode cX9_init 181 = .ok (.iconst 4, 1) := by decide +kernel
theorem dX9_init_182 : decode cX9_init 182 = .ok (.newarray .int, 2) := by decide +kernel
theorem dX9_init_184 : decode cX9_init 184 = .ok (.putfield 77, 3) := by decide +kernel
theorem dX9_init_187 : decode cX9_init 187 = .ok (.iconst 0, 1) := by decide +kernel
theorem dX9_init_188 : decode cX9_init 188 = .ok (.istore_n 1, 1) := by decide +kernel
theorem dX9_init_189 : decode cX9_init 189 = .ok (.iload_n 1, 1) := by decide +kernel
theorem dX9_init_190 : decode cX9_init 190 = .ok (.iconst 4, 1) := by decide +kernel
theorem dX9_init_191 : decode cX9_init 191 = .ok (.if_icmp .ge 20, 3) := by decide +kernel
theorem dX9_init_194 : decode cX9_init 194 = .ok (.aload_n 0, 1) := by decide +kernel
theorem dX9_init_195 : decode cX9_init 195 = .ok (.getfield 9, 3) := by decide +kernel
theorem dX9_init_198 : decode cX9_init 198 = .ok (.bipush 36, 2) := by decide +kernel
theorem dX9_init_200 : decode cX9_init 200 = .ok (.iload_n 1, 1) := by decide +kernel
theorem dX9_init_201 : decode cX9_init 201 = .ok (.iadd, 1) := by decide +kernel
theorem dX9_init_202 : decode cX9_init 202 = .ok (.bipush 100, 2) := by decide +kernel
theorem dX9_init_204 : decode cX9_init 204 = .ok (.iastore, 1) := by decide +kernel
theorem dX9_init_205 : decode cX9_init 205 = .ok (.iinc 1 1, 3) := by decide +kernel
theorem dX9_init_208 : decode cX9_init 208 = .ok (.goto (-19), 3) := by decide +kernel
theorem dX9_init_211 : decode cX9_init 211 = .ok (.iconst 0, 1) := by decide +kernel
theorem dX9_init_212 : decode cX9_init 212 = .ok (.istore_n 1, 1) := by decide +kernel
theorem dX9_init_213 : decode cX9_init 213 = .ok (.iload_n 1, 1) := by decide +kernel
theorem dX9_init_214 : decode cX9_init 214 = .ok (.iconst 4, 1) := by decide +kernel
theorem dX9_init_215 : decode cX9_init 215 = .ok (.if_icmp .ge 16, 3) := by decide +kernel
theorem dX9_init_218 : decode cX9_init 218 = .ok (.aload_n 0, 1) := by decide +kernel
theorem dX9_init_219 : decode cX9_init 219 = .ok (.getfield 77, 3) := by decide +kernel
theorem dX9_init_222 : decode cX9_init 222 = .ok (.iload_n 1, 1) := by decide +kernel
theorem dX9_init_223 : decode cX9_init 223 = .ok (.iconst (-1), 1) := by decide +kernel
theorem dX9_init_224 : decode cX9_init 224 = .ok (.iastore, 1) := by decide +kernel
theorem dX9_init_225 : decode cX9_init 225 = .ok (.iinc 1 1, 3) := by decide +kernel
theorem dX9_init_228 : decode cX9_init 228 = .ok (.goto (-15), 3) := by decide +kernel
theorem dX9_init_231 : decode cX9_init 231 = .ok (.return_, 1) := by decide +kernel
theorem dX9_isIn_0 : decode cX9_isIn 0 = .ok (.iload_n 0, 1) := by decide +kernel
theorem dX9_isIn_1 : decode cX9_isIn 1 = .ok (.iload_n 1, 1) := by decide +kernel
theorem dX9_isIn_2 : decode cX9_isIn 2 = .ok (.if_icmp .lt 12, 3) := by decide +kernel
theorem dX9_isIn_5 : decode cX9_isIn 5 = .ok (.iload_n 0, 1) := by decide +kernel
theorem dX9_isIn_6 : decode cX9_isIn 6 = .ok (.iload_n 2, 1) := by decide +kernel
theorem dX9_isIn_7 : decode cX9_isIn 7 = .ok (.if_icmp .gt 7, 3) := by decide +kernel
theorem dX9_isIn_10 : decode cX9_isIn 10 = .ok (.iconst 1, 1) := by decide +kernel
theorem dX9_isIn_11 : decode cX9_isIn 11 = .ok (.goto 4, 3) := by decide +kernel
theorem dX9_isIn_14 : decode cX9_isIn 14 = .ok (.iconst 0, 1) := by decide +kernel
theorem dX9_isIn_15 : decode cX9_isIn 15 = .ok (.ireturn, 1) := by decide +kernel
set_option maxRecDepth 20000 in
theorem ggX9_isOrder_X9_isIn : GoodIn wsX9_isOrder wsX9_isIn := goodIn_r _ [5] (by decide +kernel) (by decide +kernel)
set_option maxRecDepth 20000 in
theorem gX9_isOrder_X9_isIn : GoodIn wsX9_isOrder (va_wsS RX9 83 yX9_isIn wsX9_isIn) := goodIn_app (goodIn_of _ (by decide +kernel)) ggX9_isOrder_X9_isIn
theorem dX9_isOrder_0 : decode cX9_isOrder 0 = .ok (.iload_n 1, 1) := by decide +kernel
theorem dX9_isOrder_1 : decode cX9_isOrder 1 = .ok (.iconst 0, 1) := by decide +kernel
theorem dX9_isOrder_2 : decode cX9_isOrder 2 = .ok (.aload_n 0, 1) := by decide +kernel
theorem dX9_isOrder_3 : decode cX9_isOrder 3 = .ok (.getfield 80, 3) := by decide +kernel
theorem dX9_isOrder_6 : decode cX9_isOrder 6 = .ok (.iconst 1, 1) := by decide +kernel
theorem dX9_isOrder_7 : decode cX9_isOrder 7 = .ok (.isub, 1) := by decide +kernel
theorem dX9_isOrder_8 : decode cX9_isOrder 8 = .ok (.invokestatic 83, 3) := by decide +kernel
theorem dX9_isOrder_11 : decode cX9_isOrder 11 = .ok (.ireturn, 1) := by decide +kernel
set_option maxRecDepth 20000 in
theorem ggX9_isSupply_X9_isIn : GoodIn wsX9_isSupply wsX9_isIn := goodIn_r _ [4] (by decide +kernel) (by decide +kernel)
set_option maxRecDepth 20000 in
theorem gX9_isSupply_X9_isIn : GoodIn wsX9_isSupply (va_wsS RX9 83 yX9_isIn wsX9_isIn) := goodIn_app (goodIn_of _ (by decide +kernel)) ggX9_isSupply_X9_isIn
theorem dX9_isSupply_0 : decode cX9_isSupply 0 = .ok (.iload_n 0, 1) := by decide +kernel
theorem dX9_isSupply_1 : decode cX9_isSupply 1 = .ok (.iconst 0, 1) := by decide +kernel
theorem dX9_isSupply_2 : decode cX9_isSupply 2 = .ok (.iconst 2, 1) := by decide +kernel
theorem dX9_isSupply_3 : decode cX9_isSupply 3 = .ok (.invokestatic 83, 3) := by decide +kernel
theorem dX9_isSupply_6 : decode cX9_isSupply 6 = .ok (.ifCond .eq 17, 3) := by decide +kernel
theorem dX9_isSupply_9 : decode cX9_isSupply 9 = .ok (.iload_n 1, 1) := by decide +kernel
theorem dX9_isSupply_10 : decode cX9_isSupply 10 = .ok (.iconst 0, 1) := by decide +kernel
theorem dX9_isSupply_11 : decode cX9_isSupply 11 = .ok (.bipush 11, 2) := by decide +kernel
theorem dX9_isSupply_13 : decode cX9_isSupply 13 = .ok (.invokestatic 83, 3) := by decide +kernel
theorem dX9_isSupply_16 : decode cX9_isSupply 16 = .ok (.ifCond .eq 7, 3) := by decide +kernel
theorem dX9_isSupply_19 : decode cX9_isSupply 19 = .ok (.iconst 1, 1) := by decide +kernel
theorem dX9_isSupply_20 : decode cX9_isSupply 20 = .ok (.goto 4, 3) := by decide +kernel
theorem dX9_isSupply_23 : decode cX9_isSupply 23 = .ok (.iconst 0, 1) := by decide +kernel
theorem dX9_isSupply_24 : decode cX9_isSupply 24 = .ok (.ireturn, 1) := by decide +kernel
theorem dX9_at_0 : decode cX9_at 0 = .ok (.iconst 0, 1) := by decide +kernel
theorem dX9_at_1 : decode cX9_at 1 = .ok (.bipush 12, 2) := by decide +kernel
theorem dX9_at_3 : decode cX9_at 3 = .ok (.iload_n 0, 1) := by decide +kernel
theorem dX9_at_4 : decode cX9_at 4 = .ok (.imul, 1) := by decide +kernel
theorem dX9_at_5 : decode cX9_at 5 = .ok (.iadd, 1) := by decide +kernel
theorem dX9_at_6 : decode cX9_at 6 = .ok (.iload_n 1, 1) := by decide +kernel
theorem dX9_at_7 : decode cX9_at 7 = .ok (.iadd, 1) := by decide +kernel
theorem dX9_at_8 : decode cX9_at 8 = .ok (.ireturn, 1) := by decide +kernel
theorem dX9_isWhat_0 : decode cX9_isWhat 0 = .ok (.aload_n 0, 1) := by decide +kernel
theorem dX9_isWhat_1 : decode cX9_isWhat 1 = .ok (.getfield 9, 3) := by decide +kernel
theorem dX9_isWhat_4 : decode cX9_isWhat 4 = .ok (.bipush 40, 2) := by decide +kernel
theorem dX9_isWhat_6 : decode cX9_isWhat 6 = .ok (.iload_n 1, 1) := by decide +kernel
theorem dX9_isWhat_7 : decode cX9_isWhat 7 = .ok (.iadd, 1) := by decide +kernel
theorem dX9_isWhat_8 : decode cX9_isWhat 8 = .ok (.iaload, 1) := by decide +kernel
theorem dX9_isWhat_9 : decode cX9_isWhat 9 = .ok (.iload_n 2, 1) := by decide +kernel
theorem dX9_isWhat_10 : decode cX9_isWhat 10 = .ok (.if_icmp .ne 7, 3) := by decide +kernel
theorem dX9_isWhat_13 : decode cX9_isWhat 13 = .ok (.iconst 1, 1) := by decide +kernel
theorem dX9_isWhat_14 : decode cX9_isWhat 14 = .ok (.goto 4, 3) := by decide +kernel
theorem dX9_isWhat_17 : decode cX9_isWhat 17 = .ok (.iconst 0, 1) := by decide +kernel
theorem dX9_isWhat_18 : decode cX9_isWhat 18 = .ok (.ireturn, 1) := by decide +kernel
set_option maxRecDepth 20000 in
theorem ggX9_those_X9_isWhat : GoodIn wsX9_those wsX9_isWhat := goodIn_r _ [6, 7, 8, 9, 10, 11, 12, 13, 14, 15, 16, 17, 18, 19, 20, 21, 22, 23, 24, 25, 26, 27, 28, 29, 30, 31, 32, 33, 34, 35, 36, 37, 38, 39, 40, 41, 42] (by decide +kernel) (by decide +kernel)
set_option maxRecDepth 20000 in
theorem gX9_those_X9_isWhat : GoodIn wsX9_those (wsV RX9 87 RX9 yX9_isWhat wsX9_isWhat) := goodIn_app (goodIn_of _ (by decide +kernel)) ggX9_those_X9_isWhat
theorem dX9_those_0 : decode cX9_those 0 = .ok (.iconst 0, 1) := by decide +kernel
theorem dX9_those_1 : decode cX9_those 1 = .ok (.istore_n 2, 1) := by decide +kernel
theorem dX9_those_2 : decode cX9_those 2 = .ok (.iconst 0, 1) := by decide +kernel
theorem dX9_those_3 : decode cX9_those 3 = .ok (.istore_n 3, 1) := by decide +kernel
theorem dX9_those_4 : decode cX9_those 4 = .ok (.iload_n 3, 1) := by decide +kernel
theorem dX9_those_5 : decode cX9_those 5 = .ok (.aload_n 0, 1) := by decide +kernel
theorem dX9_those_6 : decode cX9_those 6 = .ok (.getfield 80, 3) := by decide +kernel
theorem dX9_those_9 : decode cX9_those 9 = .ok (.if_icmp .ge 28, 3) := by decide +kernel
theorem dX9_those_12 : decode cX9_those 12 = .ok (.iload_n 2, 1) := by decide +kernel
theorem dX9_those_13 : decode cX9_those 13 = .ok (.aload_n 0, 1) := by decide +kernel
theorem dX9_those_14 : decode cX9_those 14 = .ok (.iload_n 3, 1) := by decide +kernel
theorem dX9_those_15 : decode cX9_those 15 = .ok (.iload_n 1, 1) := by decide +kernel
theorem dX9_those_16 : decode cX9_those 16 = .ok (.invokevirtual 87, 3) := by decide +kernel
theorem dX9_those_19 : decode cX9_those 19 = .ok (.ifCond .eq 9, 3) := by decide +kernel
theorem dX9_those_22 : decode cX9_those 22 = .ok (.iconst 1, 1) := by decide +kernel
theorem dX9_those_23 : decode cX9_those 23 = .ok (.iload_n 3, 1) := by decide +kernel
theorem dX9_those_24 : decode cX9_those 24 = .ok (.ishl, 1) := by decide +kernel
theorem dX9_those_25 : decode cX9_those 25 = .ok (.goto 4, 3) := by decide +kernel
theorem dX9_those_28 : decode cX9_those 28 = .ok (.iconst 0, 1) := by decide +kernel
theorem dX9_those_29 : decode cX9_those 29 = .ok (.ior, 1) := by decide +kernel
theorem dX9_those_30 : decode cX9_those 30 = .ok (.istore_n 2, 1) := by decide +kernel
theorem dX9_those_31 : decode cX9_those 31 = .ok (.iinc 3 1, 3) := by decide +kernel
theorem dX9_those_34 : decode cX9_those 34 = .ok (.goto (-30), 3) := by decide +kernel
theorem dX9_those_37 : decode cX9_those 37 = .ok (.iload_n 2, 1) := by decide +kernel
theorem dX9_those_38 : decode cX9_those 38 = .ok (.ireturn, 1) := by decide +kernel
theorem dX9_size_0 : decode cX9_size 0 = .ok (.iconst 0, 1) := by decide +kernel
theorem dX9_size_1 : decode cX9_size 1 = .ok (.istore_n 1, 1) := by decide +kernel
theorem dX9_size_2 : decode cX9_size 2 = .ok (.iload_n 0, 1) := by decide +kernel
theorem dX9_size_3 : decode cX9_size 3 = .ok (.istore_n 2, 1) := by decide +kernel
theorem dX9_size_4 : decode cX9_size 4 = .ok (.iload_n 2, 1) := by decide +kernel
theorem dX9_size_5 : decode cX9_size 5 = .ok (.ifCond .eq 15, 3) := by decide +kernel
theorem dX9_size_8 : decode cX9_size 8 = .ok (.iinc 1 1, 3) := by decide +kernel
theorem dX9_size_11 : decode cX9_size 11 = .ok (.iload_n 2, 1) := by decide +kernel
theorem dX9_size_12 : decode cX9_size 12 = .ok (.iload_n 2, 1) := by decide +kernel
theorem dX9_size_13 : decode cX9_size 13 = .ok (.iconst 1, 1) := by decide +kernel
theorem dX9_size_14 : decode cX9_size 14 = .ok (.isub, 1) := by decide +kernel
theorem dX9_size_15 : decode cX9_size 15 = .ok (.iand, 1) := by decide +kernel
theorem dX9_size_16 : decode cX9_size 16 = .ok (.istore_n 2, 1) := by decide +kernel
theorem dX9_size_17 : decode cX9_size 17 = .ok (.goto (-13), 3) := by decide +kernel
theorem dX9_size_20 : decode cX9_size 20 = .ok (.iload_n 1, 1) := by decide +kernel
theorem dX9_size_21 : decode cX9_size 21 = .ok (.ireturn, 1) := by decide +kernel
set_option maxRecDepth 20000 in
theorem ggX9_begins_X9_copies : GoodIn wsX9_begins wsX9_copies := goodIn_r _ [6] (by decide +kernel) (by decide +kernel)
set_option maxRecDepth 20000 in
theorem gX9_begins_X9_copies : GoodIn wsX9_begins (va_wsS RX9 91 yX9_copies wsX9_copies) := goodIn_app (goodIn_of _ (by decide +kernel)) ggX9_begins_X9_copies
theorem dX9_begins_0 : decode cX9_begins 0 = .ok (.aload_n 0, 1) := by decide +kernel
theorem dX9_begins_1 : decode cX9_begins 1 = .ok (.getfield 9, 3) := by decide +kernel
theorem dX9_begins_4 : decode cX9_begins 4 = .ok (.aload_n 0, 1) := by decide +kernel
theorem dX9_begins_5 : decode cX9_begins 5 = .ok (.getfield 36, 3) := by decide +kernel
theorem dX9_begins_8 : decode cX9_begins 8 = .ok (.invokestatic 91, 3) := by decide +kernel
theorem dX9_begins_11 : decode cX9_begins 11 = .ok (.return_, 1) := by decide +kernel
theorem dX9_copies_0 : decode cX9_copies 0 = .ok (.iconst 0, 1) := by decide +kernel
theorem dX9_copies_1 : decode cX9_copies 1 = .ok (.istore_n 2, 1) := by decide +kernel
theorem dX9_copies_2 : decode cX9_copies 2 = .ok (.iload_n 2, 1) := by decide +kernel
theorem dX9_copies_3 : decode cX9_copies 3 = .ok (.aload_n 0, 1) := by decide +kernel
theorem dX9_copies_4 : decode cX9_copies 4 = .ok (.arraylength, 1) := by decide +kernel
theorem dX9_copies_5 : decode cX9_copies 5 = .ok (.if_icmp .ge 15, 3) := by decide +kernel
theorem dX9_copies_8 : decode cX9_copies 8 = .ok (.aload_n 1, 1) := by decide +kernel
theorem dX9_copies_9 : decode cX9_copies 9 = .ok (.iload_n 2, 1) := by decide +kernel
theorem dX9_copies_10 : decode cX9_copies 10 = .ok (.aload_n 0, 1) := by decide +kernel
theorem dX9_copies_11 : decode cX9_copies 11 = .ok (.iload_n 2, 1) := by decide +kernel
theorem dX9_copies_12 : decode cX9_copies 12 = .ok (.iaload, 1) := by decide +kernel
theorem dX9_copies_13 : decode cX9_copies 13 = .ok (.iastore, 1) := by decide +kernel
theorem dX9_copies_14 : decode cX9_copies 14 = .ok (.iinc 2 1, 3) := by decide +kernel
theorem dX9_copies_17 : decode cX9_copies 17 = .ok (.goto (-15), 3) := by decide +kernel
theorem dX9_copies_20 : decode cX9_copies 20 = .ok (.return_, 1) := by decide +kernel
set_option maxRecDepth 20000 in
theorem ggX9_changed_X9_copies : GoodIn wsX9_changed wsX9_copies := goodIn_r _ [12] (by decide +kernel) (by decide +kernel)
set_option maxRecDepth 20000 in
theorem gX9_changed_X9_copies : GoodIn wsX9_changed (va_wsS RX9 91 yX9_copies wsX9_copies) := goodIn_app (goodIn_of _ (by decide +kernel)) ggX9_changed_X9_copies
theorem dX9_changed_0 : decode cX9_changed 0 = .ok (.aload_n 0, 1) := by decide +kernel
theorem dX9_changed_1 : decode cX9_changed 1 = .ok (.getfield 95, 3) := by decide +kernel
theorem dX9_changed_4 : decode cX9_changed 4 = .ok (.bipush 12, 2) := by decide +kernel
theorem dX9_changed_6 : decode cX9_changed 6 = .ok (.if_icmp .ne 75, 3) := by decide +kernel
theorem dX9_changed_9 : decode cX9_changed 9 = .ok (.iconst 1, 1) := by decide +kernel
theorem dX9_changed_10 : decode cX9_changed 10 = .ok (.istore_n 1, 1) := by decide +kernel
theorem dX9_changed_11 : decode cX9_changed 11 = .ok (.iload_n 1, 1) := by decide +kernel
theorem dX9_changed_12 : decode cX9_changed 12 = .ok (.bipush 12, 2) := by decide +kernel
theorem dX9_changed_14 : decode cX9_changed 14 = .ok (.if_icmp .ge 57, 3) := by decide +kernel
theorem dX9_changed_17 : decode cX9_changed 17 = .ok (.aload_n 0, 1) := by decide +kernel
theorem dX9_changed_18 : decode cX9_changed 18 = .ok (.getfield 27, 3) := by decide +kernel
theorem dX9_changed_21 : decode cX9_changed 21 = .ok (.iload_n 1, 1) := by decide +kernel
theorem dX9_changed_22 : decode cX9_changed 22 = .ok (.aaload, 1) := by decide +kernel
theorem dX9_changed_23 : decode cX9_changed 23 = .ok (.aload_n 0, 1) := by decide +kernel
theorem dX9_changed_24 : decode cX9_changed 24 = .ok (.getfield 27, 3) := by decide +kernel
theorem dX9_changed_27 : decode cX9_changed 27 = .ok (.iload_n 1, 1) := by decide +kernel
theorem dX9_changed_28 : decode cX9_changed 28 = .ok (.iconst 1, 1) := by decide +kernel
theorem dX9_changed_29 : decode cX9_changed 29 = .ok (.isub, 1) := by decide +kernel
theorem dX9_changed_30 : decode cX9_changed 30 = .ok (.aaload, 1) := by decide +kernel
theorem dX9_changed_31 : decode cX9_changed 31 = .ok (.invokestatic 91, 3) := by decide +kernel
theorem dX9_changed_34 : decode cX9_changed 34 = .ok (.aload_n 0, 1) := by decide +kernel
theorem dX9_changed_35 : decode cX9_changed 35 = .ok (.getfield 30, 3) := by decide +kernel
theorem dX9_changed_38 : decode cX9_changed 38 = .ok (.iload_n 1, 1) := by decide +kernel
theorem dX9_changed_39 : decode cX9_changed 39 = .ok (.aaload, 1) := by decide +kernel
theorem dX9_changed_40 : decode cX9_changed 40 = .ok (.aload_n 0, 1) := by decide +kernel
theorem dX9_changed_41 : decode cX9_changed 41 = .ok (.getfield 30, 3) := by decide +kernel
theorem dX9_changed_44 : decode cX9_changed 44 = .ok (.iload_n 1, 1) := by decide +kernel
theorem dX9_changed_45 : decode cX9_changed 45 = .ok (.iconst 1, 1) := by decide +kernel
theorem dX9_changed_46 : decode cX9_changed 46 = .ok (.isub, 1) := by decide +kernel
theorem dX9_changed_47 : decode cX9_changed 47 = .ok (.aaload, 1) := by decide +kernel
theorem dX9_changed_48 : decode cX9_changed 48 = .ok (.invokestatic 91, 3) := by decide +kernel
theorem dX9_changed_51 : decode cX9_changed 51 = .ok (.aload_n 0, 1) := by decide +kernel
theorem dX9_changed_52 : decode cX9_changed 52 = .ok (.getfield 33, 3) := by decide +kernel
theorem dX9_changed_55 : decode cX9_changed 55 = .ok (.iload_n 1, 1) := by decide +kernel
theorem dX9_changed_56 : decode cX9_changed 56 = .ok (.iconst 1, 1) := by decide +kernel
theorem dX9_changed_57 : decode cX9_changed 57 = .ok (.isub, 1) := by decide +kernel
theorem dX9_changed_58 : decode cX9_changed 58 = .ok (.aload_n 0, 1) := by decide +kernel
theorem dX9_changed_59 : decode cX9_changed 59 = .ok (.getfield 33, 3) := by decide +kernel
theorem dX9_changed_62 : decode cX9_changed 62 = .ok (.iload_n 1, 1) := by decide +kernel
theorem dX9_changed_63 : decode cX9_changed 63 = .ok (.iaload, 1) := by decide +kernel
theorem dX9_changed_64 : decode cX9_changed 64 = .ok (.iastore, 1) := by decide +kernel
theorem dX9_changed_65 : decode cX9_changed 65 = .ok (.iinc 1 1, 3) := by decide +kernel
theorem dX9_changed_68 : decode cX9_changed 68 = .ok (.goto (-57), 3) := by decide +kernel
theorem dX9_changed_71 : decode cX9_changed 71 = .ok (.aload_n 0, 1) := by decide +kernel
theorem dX9_changed_72 : decode cX9_changed 72 = .ok (.dup, 1) := by decide +kernel
theorem dX9_changed_73 : decode cX9_changed 73 = .ok (.getfield 95, 3) := by decide +kernel
theorem dX9_changed_76 : decode cX9_changed 76 = .ok (.iconst 1, 1) := by decide +kernel
theorem dX9_changed_77 : decode cX9_changed 77 = .ok (.isub, 1) := by decide +kernel
theorem dX9_changed_78 : decode cX9_changed 78 = .ok (.putfield 95, 3) := by decide +kernel
theorem dX9_changed_81 : decode cX9_changed 81 = .ok (.aload_n 0, 1) := by decide +kernel
theorem dX9_changed_82 : decode cX9_changed 82 = .ok (.getfield 36, 3) := by decide +kernel
theorem dX9_changed_85 : decode cX9_changed 85 = .ok (.aload_n 0, 1) := by decide +kernel
theorem dX9_changed_86 : decode cX9_changed 86 = .ok (.getfield 27, 3) := by decide +kernel
theorem dX9_changed_89 : decode cX9_changed 89 = .ok (.aload_n 0, 1) := by decide +kernel
theorem dX9_changed_90 : decode cX9_changed 90 = .ok (.getfield 95, 3) := by decide +kernel
theorem dX9_changed_93 : decode cX9_changed 93 = .ok (.aaload, 1) := by decide +kernel
theorem dX9_changed_94 : decode cX9_changed 94 = .ok (.invokestatic 91, 3) := by decide +kernel
theorem dX9_changed_97 : decode cX9_changed 97 = .ok (.aload_n 0, 1) := by decide +kernel
theorem dX9_changed_98 : decode cX9_changed 98 = .ok (.getfield 9, 3) := by decide +kernel
theorem dX9_changed_101 : decode cX9_changed 101 = .ok (.aload_n 0, 1) := by decide +kernel
theorem dX9_changed_102 : decode cX9_changed 102 = .ok (.getfield 30, 3) := by decide +kernel
theorem dX9_changed_105 : decode cX9_changed 105 = .ok (.aload_n 0, 1) := by decide +kernel
theorem dX9_changed_106 : decode cX9_changed 106 = .ok (.getfield 95, 3) := by decide +kernel
theorem dX9_changed_109 : decode cX9_changed 109 = .ok (.aaload, 1) := by decide +kernel
theorem dX9_changed_110 : decode cX9_changed 110 = .ok (.invokestatic 91, 3) := by decide +kernel
theorem dX9_changed_113 : decode cX9_changed 113 = .ok (.aload_n 0, 1) := by decide +kernel
theorem dX9_changed_114 : decode cX9_changed 114 = .ok (.getfield 33, 3) := by decide +kernel
theorem dX9_changed_117 : decode cX9_changed 117 = .ok (.aload_n 0, 1) := by decide +kernel
theorem dX9_changed_118 : decode cX9_changed 118 = .ok (.getfield 95, 3) := by decide +kernel
theorem dX9_changed_121 : decode cX9_changed 121 = .ok (.aload_n 0, 1) := by decide +kernel
theorem dX9_changed_122 : decode cX9_changed 122 = .ok (.getfield 80, 3) := by decide +kernel
theorem dX9_changed_125 : decode cX9_changed 125 = .ok (.iastore, 1) := by decide +kernel
theorem dX9_changed_126 : decode cX9_changed 126 = .ok (.aload_n 0, 1) := by decide +kernel
theorem dX9_changed_127 : decode cX9_changed 127 = .ok (.dup, 1) := by decide +kernel
theorem dX9_changed_128 : decode cX9_changed 128 = .ok (.getfield 95, 3) := by decide +kernel
theorem dX9_changed_131 : decode cX9_changed 131 = .ok (.iconst 1, 1) := by decide +kernel
theorem dX9_changed_132 : decode cX9_changed 132 = .ok (.iadd, 1) := by decide +kernel
theorem dX9_changed_133 : decode cX9_changed 133 = .ok (.putfield 95, 3) := by decide +kernel
theorem dX9_changed_136 : decode cX9_changed 136 = .ok (.aload_n 0, 1) := by decide +kernel
theorem dX9_changed_137 : decode cX9_changed 137 = .ok (.aload_n 0, 1) := by decide +kernel
theorem dX9_changed_138 : decode cX9_changed 138 = .ok (.getfield 95, 3) := by decide +kernel
theorem dX9_changed_141 : decode cX9_changed 141 = .ok (.putfield 98, 3) := by decide +kernel
theorem dX9_changed_144 : decode cX9_changed 144 = .ok (.return_, 1) := by decide +kernel
theorem dX9_laysBack_0 : decode cX9_laysBack 0 = .ok (.iconst 0, 1) := by decide +kernel
theorem dX9_laysBack_1 : decode cX9_laysBack 1 = .ok (.istore_n 3, 1) := by decide +kernel
theorem dX9_laysBack_2 : decode cX9_laysBack 2 = .ok (.iload_n 3, 1) := by decide +kernel
theorem dX9_laysBack_3 : decode cX9_laysBack 3 = .ok (.bipush 40, 2) := by decide +kernel
theorem dX9_laysBack_5 : decode cX9_laysBack 5 = .ok (.if_icmp .ge 18, 3) := by decide +kernel
theorem dX9_laysBack_8 : decode cX9_laysBack 8 = .ok (.aload_n 0, 1) := by decide +kernel
theorem dX9_laysBack_9 : decode cX9_laysBack 9 = .ok (.getfield 9, 3) := by decide +kernel
theorem dX9_laysBack_12 : decode cX9_laysBack 12 = .ok (.iload_n 3, 1) := by decide +kernel
theorem dX9_laysBack_13 : decode cX9_laysBack 13 = .ok (.aload_n 1, 1) := by decide +kernel
theorem dX9_laysBack_14 : decode cX9_laysBack 14 = .ok (.iload_n 3, 1) := by decide +kernel
theorem dX9_laysBack_15 : decode cX9_laysBack 15 = .ok (.iaload, 1) := by decide +kernel
theorem dX9_laysBack_16 : decode cX9_laysBack 16 = .ok (.iastore, 1) := by decide +kernel
theorem dX9_laysBack_17 : decode cX9_laysBack 17 = .ok (.iinc 3 1, 3) := by decide +kernel
theorem dX9_laysBack_20 : decode cX9_laysBack 20 = .ok (.goto (-18), 3) := by decide +kernel
theorem dX9_laysBack_23 : decode cX9_laysBack 23 = .ok (.iconst 0, 1) := by decide +kernel
theorem dX9_laysBack_24 : decode cX9_laysBack 24 = .ok (.istore_n 3, 1) := by decide +kernel
theorem dX9_laysBack_25 : decode cX9_laysBack 25 = .ok (.iload_n 3, 1) := by decide +kernel
theorem dX9_laysBack_26 : decode cX9_laysBack 26 = .ok (.iload_n 2, 1) := by decide +kernel
theorem dX9_laysBack_27 : decode cX9_laysBack 27 = .ok (.if_icmp .ge 39, 3) := by decide +kernel
theorem dX9_laysBack_30 : decode cX9_laysBack 30 = .ok (.aload_n 0, 1) := by decide +kernel
theorem dX9_laysBack_31 : decode cX9_laysBack 31 = .ok (.getfield 9, 3) := by decide +kernel
theorem dX9_laysBack_34 : decode cX9_laysBack 34 = .ok (.bipush 40, 2) := by decide +kernel
theorem dX9_laysBack_36 : decode cX9_laysBack 36 = .ok (.iload_n 3, 1) := by decide +kernel
theorem dX9_laysBack_37 : decode cX9_laysBack 37 = .ok (.iadd, 1) := by decide +kernel
theorem dX9_laysBack_38 : decode cX9_laysBack 38 = .ok (.aload_n 1, 1) := by decide +kernel
theorem dX9_laysBack_39 : decode cX9_laysBack 39 = .ok (.bipush 40, 2) := by decide +kernel
theorem dX9_laysBack_41 : decode cX9_laysBack 41 = .ok (.iload_n 3, 1) := by decide +kernel
theorem dX9_laysBack_42 : decode cX9_laysBack 42 = .ok (.iadd, 1) := by decide +kernel
theorem dX9_laysBack_43 : decode cX9_laysBack 43 = .ok (.iaload, 1) := by decide +kernel
theorem dX9_laysBack_44 : decode cX9_laysBack 44 = .ok (.iastore, 1) := by decide +kernel
theorem dX9_laysBack_45 : decode cX9_laysBack 45 = .ok (.aload_n 0, 1) := by decide +kernel
theorem dX9_laysBack_46 : decode cX9_laysBack 46 = .ok (.getfield 9, 3) := by decide +kernel
theorem dX9_laysBack_49 : decode cX9_laysBack 49 = .ok (.bipush 64, 2) := by decide +kernel
theorem dX9_laysBack_51 : decode cX9_laysBack 51 = .ok (.iload_n 3, 1) := by decide +kernel
theorem dX9_laysBack_52 : decode cX9_laysBack 52 = .ok (.iadd, 1) := by decide +kernel
theorem dX9_laysBack_53 : decode cX9_laysBack 53 = .ok (.aload_n 1, 1) := by decide +kernel
theorem dX9_laysBack_54 : decode cX9_laysBack 54 = .ok (.bipush 64, 2) := by decide +kernel
theorem dX9_laysBack_56 : decode cX9_laysBack 56 = .ok (.iload_n 3, 1) := by decide +kernel
theorem dX9_laysBack_57 : decode cX9_laysBack 57 = .ok (.iadd, 1) := by decide +kernel
theorem dX9_laysBack_58 : decode cX9_laysBack 58 = .ok (.iaload, 1) := by decide +kernel
theorem dX9_laysBack_59 : decode cX9_laysBack 59 = .ok (.iastore, 1) := by decide +kernel
theorem dX9_laysBack_60 : decode cX9_laysBack 60 = .ok (.iinc 3 1, 3) := by decide +kernel
theorem dX9_laysBack_63 : decode cX9_laysBack 63 = .ok (.goto (-38), 3) := by decide +kernel
theorem dX9_laysBack_66 : decode cX9_laysBack 66 = .ok (.return_, 1) := by decide +kernel
set_option maxRecDepth 20000 in
theorem ggX9_undo_X9_laysBack : GoodIn wsX9_undo wsX9_laysBack := goodIn_r _ [8, 9, 10, 11, 12, 13, 14, 15, 16, 17, 18, 19, 20, 21, 22, 23, 24, 25, 26, 27, 28, 29, 30, 31, 32, 33, 34, 35, 36, 37, 38, 39, 40, 41, 42, 43, 44] (by decide +kernel) (by decide +kernel)
set_option maxRecDepth 20000 in
theorem gX9_undo_X9_laysBack : GoodIn wsX9_undo (wsV RX9 101 RX9 yX9_laysBack wsX9_laysBack) := goodIn_app (goodIn_of _ (by decide +kernel)) ggX9_undo_X9_laysBack
theorem dX9_undo_0 : decode cX9_undo 0 = .ok (.aload_n 0, 1) := by decide +kernel
theorem dX9_undo_1 : decode cX9_undo 1 = .ok (.getfield 95, 3) := by decide +kernel
theorem dX9_undo_4 : decode cX9_undo 4 = .ok (.ifCond .ne 6, 3) := by decide +kernel
theorem dX9_undo_7 : decode cX9_undo 7 = .ok (.bipush (-5), 2) := by decide +kernel
theorem dX9_undo_9 : decode cX9_undo 9 = .ok (.ireturn, 1) := by decide +kernel
theorem dX9_undo_10 : decode cX9_undo 10 = .ok (.aload_n 0, 1) := by decide +kernel
theorem dX9_undo_11 : decode cX9_undo 11 = .ok (.dup, 1) := by decide +kernel
theorem dX9_undo_12 : decode cX9_undo 12 = .ok (.getfield 95, 3) := by decide +kernel
theorem dX9_undo_15 : decode cX9_undo 15 = .ok (.iconst 1, 1) := by decide +kernel
theorem dX9_undo_16 : decode cX9_undo 16 = .ok (.isub, 1) := by decide +kernel
theorem dX9_undo_17 : decode cX9_undo 17 = .ok (.putfield 95, 3) := by decide +kernel
theorem dX9_undo_20 : decode cX9_undo 20 = .ok (.aload_n 0, 1) := by decide +kernel
theorem dX9_undo_21 : decode cX9_undo 21 = .ok (.aload_n 0, 1) := by decide +kernel
theorem dX9_undo_22 : decode cX9_undo 22 = .ok (.getfield 27, 3) := by decide +kernel
theorem dX9_undo_25 : decode cX9_undo 25 = .ok (.aload_n 0, 1) := by decide +kernel
theorem dX9_undo_26 : decode cX9_undo 26 = .ok (.getfield 95, 3) := by decide +kernel
theorem dX9_undo_29 : decode cX9_undo 29 = .ok (.aaload, 1) := by decide +kernel
theorem dX9_undo_30 : decode cX9_undo 30 = .ok (.aload_n 0, 1) := by decide +kernel
theorem dX9_undo_31 : decode cX9_undo 31 = .ok (.getfield 33, 3) := by decide +kernel
theorem dX9_undo_34 : decode cX9_undo 34 = .ok (.aload_n 0, 1) := by decide +kernel
theorem dX9_undo_35 : decode cX9_undo 35 = .ok (.getfield 95, 3) := by decide +kernel
theorem dX9_undo_38 : decode cX9_undo 38 = .ok (.iaload, 1) := by decide +kernel
theorem dX9_undo_39 : decode cX9_undo 39 = .ok (.invokevirtual 101, 3) := by decide +kernel
theorem dX9_undo_42 : decode cX9_undo 42 = .ok (.aload_n 0, 1) := by decide +kernel
theorem dX9_undo_43 : decode cX9_undo 43 = .ok (.getfield 95, 3) := by decide +kernel
theorem dX9_undo_46 : decode cX9_undo 46 = .ok (.ireturn, 1) := by decide +kernel
set_option maxRecDepth 20000 in
theorem ggX9_redo_X9_laysBack : GoodIn wsX9_redo wsX9_laysBack := goodIn_r _ [9, 10, 11, 12, 13, 14, 15, 16, 17, 18, 19, 20, 21, 22, 23, 24, 25, 26, 27, 28, 29, 30, 31, 32, 33, 34, 35, 36, 37, 38, 39, 40, 41, 42, 43, 44, 45] (by decide +kernel) (by decide +kernel)
set_option maxRecDepth 20000 in
theorem gX9_redo_X9_laysBack : GoodIn wsX9_redo (wsV RX9 101 RX9 yX9_laysBack wsX9_laysBack) := goodIn_app (goodIn_of _ (by decide +kernel)) ggX9_redo_X9_laysBack
theorem dX9_redo_0 : decode cX9_redo 0 = .ok (.aload_n 0, 1) := by decide +kernel
theorem dX9_redo_1 : decode cX9_redo 1 = .ok (.getfield 95, 3) := by decide +kernel
theorem dX9_redo_4 : decode cX9_redo 4 = .ok (.aload_n 0, 1) := by decide +kernel
theorem dX9_redo_5 : decode cX9_redo 5 = .ok (.getfield 98, 3) := by decide +kernel
theorem dX9_redo_8 : decode cX9_redo 8 = .ok (.if_icmp .ne 6, 3) := by decide +kernel
theorem dX9_redo_11 : decode cX9_redo 11 = .ok (.bipush (-5), 2) := by decide +kernel
theorem dX9_redo_13 : decode cX9_redo 13 = .ok (.ireturn, 1) := by decide +kernel
theorem dX9_redo_14 : decode cX9_redo 14 = .ok (.aload_n 0, 1) := by decide +kernel
theorem dX9_redo_15 : decode cX9_redo 15 = .ok (.aload_n 0, 1) := by decide +kernel
theorem dX9_redo_16 : decode cX9_redo 16 = .ok (.getfield 30, 3) := by decide +kernel
theorem dX9_redo_19 : decode cX9_redo 19 = .ok (.aload_n 0, 1) := by decide +kernel
theorem dX9_redo_20 : decode cX9_redo 20 = .ok (.getfield 95, 3) := by decide +kernel
theorem dX9_redo_23 : decode cX9_redo 23 = .ok (.aaload, 1) := by decide +kernel
theorem dX9_redo_24 : decode cX9_redo 24 = .ok (.aload_n 0, 1) := by decide +kernel
theorem dX9_redo_25 : decode cX9_redo 25 = .ok (.getfield 33, 3) := by decide +kernel
theorem dX9_redo_28 : decode cX9_redo 28 = .ok (.aload_n 0, 1) := by decide +kernel
theorem dX9_redo_29 : decode cX9_redo 29 = .ok (.getfield 95, 3) := by decide +kernel
theorem dX9_redo_32 : decode cX9_redo 32 = .ok (.iaload, 1) := by decide +kernel
theorem dX9_redo_33 : decode cX9_redo 33 = .ok (.invokevirtual 101, 3) := by decide +kernel
theorem dX9_redo_36 : decode cX9_redo 36 = .ok (.aload_n 0, 1) := by decide +kernel
theorem dX9_redo_37 : decode cX9_redo 37 = .ok (.dup, 1) := by decide +kernel
theorem dX9_redo_38 : decode cX9_redo 38 = .ok (.getfield 95, 3) := by decide +kernel
theorem dX9_redo_41 : decode cX9_redo 41 = .ok (.iconst 1, 1) := by decide +kernel
theorem dX9_redo_42 : decode cX9_redo 42 = .ok (.iadd, 1) := by decide +kernel
theorem dX9_redo_43 : decode cX9_redo 43 = .ok (.putfield 95, 3) := by decide +kernel
theorem dX9_redo_46 : decode cX9_redo 46 = .ok (.aload_n 0, 1) := by decide +kernel
theorem dX9_redo_47 : decode cX9_redo 47 = .ok (.getfield 98, 3) := by decide +kernel
theorem dX9_redo_50 : decode cX9_redo 50 = .ok (.aload_n 0, 1) := by decide +kernel
theorem dX9_redo_51 : decode cX9_redo 51 = .ok (.getfield 95, 3) := by decide +kernel
theorem dX9_redo_54 : decode cX9_redo 54 = .ok (.isub, 1) := by decide +kernel
theorem dX9_redo_55 : decode cX9_redo 55 = .ok (.ireturn, 1) := by decide +kernel
set_option maxRecDepth 20000 in
theorem ggX9_image_X9_copies : GoodIn wsX9_image wsX9_copies := goodIn_r _ [8] (by decide +kernel) (by decide +kernel)
set_option maxRecDepth 20000 in
theorem gX9_image_X9_copies : GoodIn wsX9_image (va_wsS RX9 91 yX9_copies wsX9_copies) := goodIn_app (goodIn_of _ (by decide +kernel)) ggX9_image_X9_copies
set_option maxRecDepth 20000 in
theorem ggX9_image_X9_those : GoodIn wsX9_image wsX9_those := goodIn_r _ [12, 3, 13, 14, 15, 7, 16, 1, 20, 21, 22, 23, 24, 25, 26, 27, 28, 29, 30, 31, 32, 33, 34, 35, 36, 37, 38, 39, 40, 41, 42, 43, 44, 45, 46, 47, 48, 49, 50, 51, 52, 53, 54] (by decide +kernel) (by decide +kernel)
set_option maxRecDepth 20000 in
theorem gX9_image_X9_those : GoodIn wsX9_image (wsV RX9 105 RX9 yX9_those wsX9_those) := goodIn_app (goodIn_of _ (by decide +kernel)) ggX9_image_X9_those
set_option maxRecDepth 20000 in
theorem ggX9_image_X9_size : GoodIn wsX9_image wsX9_size := goodIn_r _ [19] (by decide +kernel) (by decide +kernel)
set_option maxRecDepth 20000 in
theorem gX9_image_X9_size : GoodIn wsX9_image (va_wsS RX9 109 yX9_size wsX9_size) := goodIn_app (goodIn_of _ (by decide +kernel)) ggX9_image_X9_size
theorem dX9_image_0 : decode cX9_image 0 = .ok (.aload_n 0, 1) := by decide +kernel
theorem dX9_image_1 : decode cX9_image 1 = .ok (.getfield 9, 3) := by decide +kernel
theorem dX9_image_4 : decode cX9_image 4 = .ok (.aload_n 0, 1) := by decide +kernel
theorem dX9_image_5 : decode cX9_image 5 = .ok (.getfield 39, 3) := by decide +kernel
theorem dX9_image_8 : decode cX9_image 8 = .ok (.invokestatic 91, 3) := by decide +kernel
theorem dX9_image_11 : decode cX9_image 11 = .ok (.aload_n 0, 1) := by decide +kernel
theorem dX9_image_12 : decode cX9_image 12 = .ok (.aload_n 0, 1) := by decide +kernel
theorem dX9_image_13 : decode cX9_image 13 = .ok (.getfield 80, 3) := by decide +kernel
theorem dX9_image_16 : decode cX9_image 16 = .ok (.putfield 42, 3) := by decide +kernel
theorem dX9_image_19 : decode cX9_image 19 = .ok (.aload_n 0, 1) := by decide +kernel
theorem dX9_image_20 : decode cX9_image 20 = .ok (.iconst 1, 1) := by decide +kernel
theorem dX9_image_21 : decode cX9_image 21 = .ok (.invokevirtual 105, 3) := by decide +kernel
theorem dX9_image_24 : decode cX9_image 24 = .ok (.invokestatic 109, 3) := by decide +kernel
theorem dX9_image_27 : decode cX9_image 27 = .ok (.ireturn, 1) := by decide +kernel
set_option maxRecDepth 20000 in
theorem ggX9_back_X9_laysBack : GoodIn wsX9_back wsX9_laysBack := goodIn_r _ [11, 4, 23, 24, 25, 26, 27, 28, 29, 30, 31, 32, 33, 34, 35, 36, 37, 38, 39, 40, 41, 42, 43, 44, 45, 46, 47, 48, 49, 50, 51, 52, 53, 54, 55, 56, 57] (by decide +kernel) (by decide +kernel)
set_option maxRecDepth 20000 in
theorem gX9_back_X9_laysBack : GoodIn wsX9_back (wsV RX9 101 RX9 yX9_laysBack wsX9_laysBack) := goodIn_app (goodIn_of _ (by decide +kernel)) ggX9_back_X9_laysBack
set_option maxRecDepth 20000 in
theorem ggX9_back_X9_those : GoodIn wsX9_back wsX9_those := goodIn_r _ [15, 3, 16, 17, 18, 10, 19, 4, 23, 24, 25, 26, 27, 28, 29, 30, 31, 32, 33, 34, 35, 36, 37, 38, 39, 40, 41, 42, 43, 44, 45, 46, 47, 48, 49, 50, 51, 52, 53, 54, 55, 56, 57] (by decide +kernel) (by decide +kernel)
set_option maxRecDepth 20000 in
theorem gX9_back_X9_those : GoodIn wsX9_back (wsV RX9 105 RX9 yX9_those wsX9_those) := goodIn_app (goodIn_of _ (by decide +kernel)) ggX9_back_X9_those
set_option maxRecDepth 20000 in
theorem ggX9_back_X9_size : GoodIn wsX9_back wsX9_size := goodIn_r _ [22] (by decide +kernel) (by decide +kernel)
set_option maxRecDepth 20000 in
theorem gX9_back_X9_size : GoodIn wsX9_back (va_wsS RX9 109 yX9_size wsX9_size) := goodIn_app (goodIn_of _ (by decide +kernel)) ggX9_back_X9_size
theorem dX9_back_0 : decode cX9_back 0 = .ok (.aload_n 0, 1) := by decide +kernel
theorem dX9_back_1 : decode cX9_back 1 = .ok (.getfield 42, 3) := by decide +kernel
theorem dX9_back_4 : decode cX9_back 4 = .ok (.ifCond .ge 6, 3) := by decide +kernel
theorem dX9_back_7 : decode cX9_back 7 = .ok (.bipush (-5), 2) := by decide +kernel
theorem dX9_back_9 : decode cX9_back 9 = .ok (.ireturn, 1) := by decide +kernel
theorem dX9_back_10 : decode cX9_back 10 = .ok (.aload_n 0, 1) := by decide +kernel
theorem dX9_back_11 : decode cX9_back 11 = .ok (.aload_n 0, 1) := by decide +kernel
theorem dX9_back_12 : decode cX9_back 12 = .ok (.getfield 39, 3) := by decide +kernel
theorem dX9_back_15 : decode cX9_back 15 = .ok (.aload_n 0, 1) := by decide +kernel
theorem dX9_back_16 : decode cX9_back 16 = .ok (.getfield 42, 3) := by decide +kernel
theorem dX9_back_19 : decode cX9_back 19 = .ok (.invokevirtual 101, 3) := by decide +kernel
theorem dX9_back_22 : decode cX9_back 22 = .ok (.aload_n 0, 1) := by decide +kernel
theorem dX9_back_23 : decode cX9_back 23 = .ok (.getfield 42, 3) := by decide +kernel
theorem dX9_back_26 : decode cX9_back 26 = .ok (.istore_n 1, 1) := by decide +kernel
theorem dX9_back_27 : decode cX9_back 27 = .ok (.iload_n 1, 1) := by decide +kernel
theorem dX9_back_28 : decode cX9_back 28 = .ok (.aload_n 0, 1) := by decide +kernel
theorem dX9_back_29 : decode cX9_back 29 = .ok (.getfield 80, 3) := by decide +kernel
theorem dX9_back_32 : decode cX9_back 32 = .ok (.if_icmp .ge 19, 3) := by decide +kernel
theorem dX9_back_35 : decode cX9_back 35 = .ok (.aload_n 0, 1) := by decide +kernel
theorem dX9_back_36 : decode cX9_back 36 = .ok (.getfield 9, 3) := by decide +kernel
theorem dX9_back_39 : decode cX9_back 39 = .ok (.bipush 40, 2) := by decide +kernel
theorem dX9_back_41 : decode cX9_back 41 = .ok (.iload_n 1, 1) := by decide +kernel
theorem dX9_back_42 : decode cX9_back 42 = .ok (.iadd, 1) := by decide +kernel
theorem dX9_back_43 : decode cX9_back 43 = .ok (.iconst 0, 1) := by decide +kernel
theorem dX9_back_44 : decode cX9_back 44 = .ok (.iastore, 1) := by decide +kernel
theorem dX9_back_45 : decode cX9_back 45 = .ok (.iinc 1 1, 3) := by decide +kernel
theorem dX9_back_48 : decode cX9_back 48 = .ok (.goto (-21), 3) := by decide +kernel
theorem dX9_back_51 : decode cX9_back 51 = .ok (.aload_n 0, 1) := by decide +kernel
theorem dX9_back_52 : decode cX9_back 52 = .ok (.iconst 0, 1) := by decide +kernel
theorem dX9_back_53 : decode cX9_back 53 = .ok (.putfield 98, 3) := by decide +kernel
theorem dX9_back_56 : decode cX9_back 56 = .ok (.aload_n 0, 1) := by decide +kernel
theorem dX9_back_57 : decode cX9_back 57 = .ok (.iconst 0, 1) := by decide +kernel
theorem dX9_back_58 : decode cX9_back 58 = .ok (.putfield 95, 3) := by decide +kernel
theorem dX9_back_61 : decode cX9_back 61 = .ok (.aload_n 0, 1) := by decide +kernel
theorem dX9_back_62 : decode cX9_back 62 = .ok (.iconst 1, 1) := by decide +kernel
theorem dX9_back_63 : decode cX9_back 63 = .ok (.invokevirtual 105, 3) := by decide +kernel
theorem dX9_back_66 : decode cX9_back 66 = .ok (.invokestatic 109, 3) := by decide +kernel
theorem dX9_back_69 : decode cX9_back 69 = .ok (.ireturn, 1) := by decide +kernel
set_option maxRecDepth 20000 in
theorem ggX9_supply_X9_isSupply : GoodIn wsX9_supply wsX9_isSupply := goodIn_r _ [6, 7, 8, 5, 9] (by decide +kernel) (by decide +kernel)
set_option maxRecDepth 20000 in
theorem gX9_supply_X9_isSupply : GoodIn wsX9_supply (va_wsS RX9 112 yX9_isSupply wsX9_isSupply) := goodIn_app (goodIn_of _ (by decide +kernel)) ggX9_supply_X9_isSupply
set_option maxRecDepth 20000 in
theorem ggX9_supply_X9_isIn : GoodIn wsX9_supply wsX9_isIn := goodIn_r _ [9] (by decide +kernel) (by decide +kernel)
set_option maxRecDepth 20000 in
theorem gX9_supply_X9_isIn : GoodIn wsX9_supply (va_wsS RX9 83 yX9_isIn wsX9_isIn) := goodIn_app (goodIn_of _ (by decide +kernel)) ggX9_supply_X9_isIn
set_option maxRecDepth 20000 in
theorem ggX9_supply_X9_begins : GoodIn wsX9_supply wsX9_begins := goodIn_r _ [13, 1, 2, 14, 15, 5, 16, 30, 31, 32, 33, 34, 35, 36, 37, 38, 39, 40, 41, 42, 43, 44, 45, 46, 47, 48, 49, 50, 51, 52, 53, 54, 55, 56, 57, 58, 59, 60, 61, 62, 63, 64] (by decide +kernel) (by decide +kernel)
set_option maxRecDepth 20000 in
theorem gX9_supply_X9_begins : GoodIn wsX9_supply (wsV RX9 115 RX9 yX9_begins wsX9_begins) := goodIn_app (goodIn_of _ (by decide +kernel)) ggX9_supply_X9_begins
set_option maxRecDepth 20000 in
theorem ggX9_supply_X9_at : GoodIn wsX9_supply wsX9_at := goodIn_r _ [19] (by decide +kernel) (by decide +kernel)
set_option maxRecDepth 20000 in
theorem gX9_supply_X9_at : GoodIn wsX9_supply (va_wsS RX9 118 yX9_at wsX9_at) := goodIn_app (goodIn_of _ (by decide +kernel)) ggX9_supply_X9_at
set_option maxRecDepth 20000 in
theorem ggX9_supply_X9_changed : GoodIn wsX9_supply wsX9_changed := goodIn_r _ [23, 24, 25, 26, 27, 2, 1, 28, 29, 14, 15, 5, 16, 30, 31, 32, 33, 34, 35, 36, 37, 38, 39, 40, 41, 42, 43, 44, 45, 46, 47, 48, 49, 50, 51, 52, 53, 54, 55, 56, 57, 58, 59, 60, 61, 62, 63, 64] (by decide +kernel) (by decide +kernel)
set_option maxRecDepth 20000 in
theorem gX9_supply_X9_changed : GoodIn wsX9_supply (wsV RX9 122 RX9 yX9_changed wsX9_changed) := goodIn_app (goodIn_of _ (by decide +kernel)) ggX9_supply_X9_changed
theorem dX9_supply_0 : decode cX9_supply 0 = .ok (.iload_n 1, 1) := by decide +kernel
theorem dX9_supply_1 : decode cX9_supply 1 = .ok (.iload_n 2, 1) := by decide +kernel
theorem dX9_supply_2 : decode cX9_supply 2 = .ok (.invokestatic 112, 3) := by decide +kernel
theorem dX9_supply_5 : decode cX9_supply 5 = .ok (.ifCond .eq 13, 3) := by decide +kernel
theorem dX9_supply_8 : decode cX9_supply 8 = .ok (.iload_n 3, 1) := by decide +kernel
theorem dX9_supply_9 : decode cX9_supply 9 = .ok (.iconst 0, 1) := by decide +kernel
theorem dX9_supply_10 : decode cX9_supply 10 = .ok (.bipush 99, 2) := by decide +kernel
theorem dX9_supply_12 : decode cX9_supply 12 = .ok (.invokestatic 83, 3) := by decide +kernel
theorem dX9_supply_15 : decode cX9_supply 15 = .ok (.ifCond .ne 5, 3) := by decide +kernel
theorem dX9_supply_18 : decode cX9_supply 18 = .ok (.iconst (-1), 1) := by decide +kernel
theorem dX9_supply_19 : decode cX9_supply 19 = .ok (.ireturn, 1) := by decide +kernel
theorem dX9_supply_20 : decode cX9_supply 20 = .ok (.aload_n 0, 1) := by decide +kernel
theorem dX9_supply_21 : decode cX9_supply 21 = .ok (.invokevirtual 115, 3) := by decide +kernel
theorem dX9_supply_24 : decode cX9_supply 24 = .ok (.aload_n 0, 1) := by decide +kernel
theorem dX9_supply_25 : decode cX9_supply 25 = .ok (.getfield 9, 3) := by decide +kernel
theorem dX9_supply_28 : decode cX9_supply 28 = .ok (.iload_n 1, 1) := by decide +kernel
theorem dX9_supply_29 : decode cX9_supply 29 = .ok (.iload_n 2, 1) := by decide +kernel
theorem dX9_supply_30 : decode cX9_supply 30 = .ok (.invokestatic 118, 3) := by decide +kernel
theorem dX9_supply_33 : decode cX9_supply 33 = .ok (.iload_n 3, 1) := by decide +kernel
theorem dX9_supply_34 : decode cX9_supply 34 = .ok (.iastore, 1) := by decide +kernel
theorem dX9_supply_35 : decode cX9_supply 35 = .ok (.aload_n 0, 1) := by decide +kernel
theorem dX9_supply_36 : decode cX9_supply 36 = .ok (.invokevirtual 122, 3) := by decide +kernel
theorem dX9_supply_39 : decode cX9_supply 39 = .ok (.aload_n 0, 1) := by decide +kernel
theorem dX9_supply_40 : decode cX9_supply 40 = .ok (.getfield 36, 3) := by decide +kernel
theorem dX9_supply_43 : decode cX9_supply 43 = .ok (.iload_n 1, 1) := by decide +kernel
theorem dX9_supply_44 : decode cX9_supply 44 = .ok (.iload_n 2, 1) := by decide +kernel
theorem dX9_supply_45 : decode cX9_supply 45 = .ok (.invokestatic 118, 3) := by decide +kernel
theorem dX9_supply_48 : decode cX9_supply 48 = .ok (.iaload, 1) := by decide +kernel
theorem dX9_supply_49 : decode cX9_supply 49 = .ok (.ireturn, 1) := by decide +kernel
set_option maxRecDepth 20000 in
theorem ggX9_supplied_X9_isSupply : GoodIn wsX9_supplied wsX9_isSupply := goodIn_r _ [5, 6, 7, 4, 8] (by decide +kernel) (by decide +kernel)
set_option maxRecDepth 20000 in
theorem gX9_supplied_X9_isSupply : GoodIn wsX9_supplied (va_wsS RX9 112 yX9_isSupply wsX9_isSupply) := goodIn_app (goodIn_of _ (by decide +kernel)) ggX9_supplied_X9_isSupply
set_option maxRecDepth 20000 in
theorem ggX9_supplied_X9_at : GoodIn wsX9_supplied wsX9_at := goodIn_r _ [11] (by decide +kernel) (by decide +kernel)
set_option maxRecDepth 20000 in
theorem gX9_supplied_X9_at : GoodIn wsX9_supplied (va_wsS RX9 118 yX9_at wsX9_at) := goodIn_app (goodIn_of _ (by decide +kernel)) ggX9_supplied_X9_at
theorem dX9_supplied_0 : decode cX9_supplied 0 = .ok (.iload_n 1, 1) := by decide +kernel
theorem dX9_supplied_1 : decode cX9_supplied 1 = .ok (.iload_n 2, 1) := by decide +kernel
theorem dX9_supplied_2 : decode cX9_supplied 2 = .ok (.invokestatic 112, 3) := by decide +kernel
theorem dX9_supplied_5 : decode cX9_supplied 5 = .ok (.ifCond .eq 16, 3) := by decide +kernel
theorem dX9_supplied_8 : decode cX9_supplied 8 = .ok (.aload_n 0, 1) := by decide +kernel
theorem dX9_supplied_9 : decode cX9_supplied 9 = .ok (.getfield 9, 3) := by decide +kernel
theorem dX9_supplied_12 : decode cX9_supplied 12 = .ok (.iload_n 1, 1) := by decide +kernel
theorem dX9_supplied_13 : decode cX9_supplied 13 = .ok (.iload_n 2, 1) := by decide +kernel
theorem dX9_supplied_14 : decode cX9_supplied 14 = .ok (.invokestatic 118, 3) := by decide +kernel
theorem dX9_supplied_17 : decode cX9_supplied 17 = .ok (.iaload, 1) := by decide +kernel
theorem dX9_supplied_18 : decode cX9_supplied 18 = .ok (.goto 4, 3) := by decide +kernel
theorem dX9_supplied_21 : decode cX9_supplied 21 = .ok (.iconst (-1), 1) := by decide +kernel
theorem dX9_supplied_22 : decode cX9_supplied 22 = .ok (.ireturn, 1) := by decide +kernel
set_option maxRecDepth 20000 in
theorem ggX9_share_X9_isIn : GoodIn wsX9_share wsX9_isIn := goodIn_r _ [6] (by decide +kernel) (by decide +kernel)
set_option maxRecDepth 20000 in
theorem gX9_share_X9_isIn : GoodIn wsX9_share (va_wsS RX9 83 yX9_isIn wsX9_isIn) := goodIn_app (goodIn_of _ (by decide +kernel)) ggX9_share_X9_isIn
set_option maxRecDepth 20000 in
theorem ggX9_share_X9_begins : GoodIn wsX9_share wsX9_begins := goodIn_r _ [10, 1, 2, 11, 12, 5, 13, 24, 25, 26, 27, 28, 29, 30, 31, 32, 33, 34, 35, 36, 37, 38, 39, 40, 41, 42, 43, 44, 45, 46, 47, 48, 49, 50, 51, 52, 53, 54, 55, 56, 57, 58] (by decide +kernel) (by decide +kernel)
set_option maxRecDepth 20000 in
theorem gX9_share_X9_begins : GoodIn wsX9_share (wsV RX9 115 RX9 yX9_begins wsX9_begins) := goodIn_app (goodIn_of _ (by decide +kernel)) ggX9_share_X9_begins
set_option maxRecDepth 20000 in
theorem ggX9_share_X9_changed : GoodIn wsX9_share wsX9_changed := goodIn_r _ [17, 18, 19, 20, 21, 2, 1, 22, 23, 11, 12, 5, 13, 24, 25, 26, 27, 28, 29, 30, 31, 32, 33, 34, 35, 36, 37, 38, 39, 40, 41, 42, 43, 44, 45, 46, 47, 48, 49, 50, 51, 52, 53, 54, 55, 56, 57, 58] (by decide +kernel) (by decide +kernel)
set_option maxRecDepth 20000 in
theorem gX9_share_X9_changed : GoodIn wsX9_share (wsV RX9 122 RX9 yX9_changed wsX9_changed) := goodIn_app (goodIn_of _ (by decide +kernel)) ggX9_share_X9_changed
theorem dX9_share_0 : decode cX9_share 0 = .ok (.iload_n 1, 1) := by decide +kernel
theorem dX9_share_1 : decode cX9_share 1 = .ok (.iconst 0, 1) := by decide +kernel
theorem dX9_share_2 : decode cX9_share 2 = .ok (.iconst 3, 1) := by decide +kernel
theorem dX9_share_3 : decode cX9_share 3 = .ok (.invokestatic 83, 3) := by decide +kernel
theorem dX9_share_6 : decode cX9_share 6 = .ok (.ifCond .eq 13, 3) := by decide +kernel
theorem dX9_share_9 : decode cX9_share 9 = .ok (.iload_n 2, 1) := by decide +kernel
theorem dX9_share_10 : decode cX9_share 10 = .ok (.iconst 0, 1) := by decide +kernel
theorem dX9_share_11 : decode cX9_share 11 = .ok (.bipush 100, 2) := by decide +kernel
theorem dX9_share_13 : decode cX9_share 13 = .ok (.invokestatic 83, 3) := by decide +kernel
theorem dX9_share_16 : decode cX9_share 16 = .ok (.ifCond .ne 5, 3) := by decide +kernel
theorem dX9_share_19 : decode cX9_share 19 = .ok (.iconst (-1), 1) := by decide +kernel
theorem dX9_share_20 : decode cX9_share 20 = .ok (.ireturn, 1) := by decide +kernel
theorem dX9_share_21 : decode cX9_share 21 = .ok (.aload_n 0, 1) := by decide +kernel
theorem dX9_share_22 : decode cX9_share 22 = .ok (.invokevirtual 115, 3) := by decide +kernel
theorem dX9_share_25 : decode cX9_share 25 = .ok (.aload_n 0, 1) := by decide +kernel
theorem dX9_share_26 : decode cX9_share 26 = .ok (.getfield 9, 3) := by decide +kernel
theorem dX9_share_29 : decode cX9_share 29 = .ok (.bipush 36, 2) := by decide +kernel
theorem dX9_share_31 : decode cX9_share 31 = .ok (.iload_n 1, 1) := by decide +kernel
theorem dX9_share_32 : decode cX9_share 32 = .ok (.iadd, 1) := by decide +kernel
theorem dX9_share_33 : decode cX9_share 33 = .ok (.iload_n 2, 1) := by decide +kernel
theorem dX9_share_34 : decode cX9_share 34 = .ok (.iastore, 1) := by decide +kernel
theorem dX9_share_35 : decode cX9_share 35 = .ok (.aload_n 0, 1) := by decide +kernel
theorem dX9_share_36 : decode cX9_share 36 = .ok (.invokevirtual 122, 3) := by decide +kernel
theorem dX9_share_39 : decode cX9_share 39 = .ok (.aload_n 0, 1) := by decide +kernel
theorem dX9_share_40 : decode cX9_share 40 = .ok (.getfield 36, 3) := by decide +kernel
theorem dX9_share_43 : decode cX9_share 43 = .ok (.bipush 36, 2) := by decide +kernel
theorem dX9_share_45 : decode cX9_share 45 = .ok (.iload_n 1, 1) := by decide +kernel
theorem dX9_share_46 : decode cX9_share 46 = .ok (.iadd, 1) := by decide +kernel
theorem dX9_share_47 : decode cX9_share 47 = .ok (.iaload, 1) := by decide +kernel
theorem dX9_share_48 : decode cX9_share 48 = .ok (.ireturn, 1) := by decide +kernel
theorem dX9_allSupplies_0 : decode cX9_allSupplies 0 = .ok (.iconst 0, 1) := by decide +kernel
theorem dX9_allSupplies_1 : decode cX9_allSupplies 1 = .ok (.istore_n 1, 1) := by decide +kernel
theorem dX9_allSupplies_2 : decode cX9_allSupplies 2 = .ok (.iconst 0, 1) := by decide +kernel
theorem dX9_allSupplies_3 : decode cX9_allSupplies 3 = .ok (.istore_n 2, 1) := by decide +kernel
theorem dX9_allSupplies_4 : decode cX9_allSupplies 4 = .ok (.iload_n 2, 1) := by decide +kernel
theorem dX9_allSupplies_5 : decode cX9_allSupplies 5 = .ok (.bipush 36, 2) := by decide +kernel
theorem dX9_allSupplies_7 : decode cX9_allSupplies 7 = .ok (.if_icmp .ge 20, 3) := by decide +kernel
theorem dX9_allSupplies_10 : decode cX9_allSupplies 10 = .ok (.iload_n 1, 1) := by decide +kernel
theorem dX9_allSupplies_11 : decode cX9_allSupplies 11 = .ok (.aload_n 0, 1) := by decide +kernel
theorem dX9_allSupplies_12 : decode cX9_allSupplies 12 = .ok (.getfield 9, 3) := by decide +kernel
theorem dX9_allSupplies_15 : decode cX9_allSupplies 15 = .ok (.iconst 0, 1) := by decide +kernel
theorem dX9_allSupplies_16 : decode cX9_allSupplies 16 = .ok (.iload_n 2, 1) := by decide +kernel
theorem dX9_allSupplies_17 : decode cX9_allSupplies 17 = .ok (.iadd, 1) := by decide +kernel
theorem dX9_allSupplies_18 : decode cX9_allSupplies 18 = .ok (.iaload, 1) := by decide +kernel
theorem dX9_allSupplies_19 : decode cX9_allSupplies 19 = .ok (.iadd, 1) := by decide +kernel
theorem dX9_allSupplies_20 : decode cX9_allSupplies 20 = .ok (.istore_n 1, 1) := by decide +kernel
theorem dX9_allSupplies_21 : decode cX9_allSupplies 21 = .ok (.iinc 2 1, 3) := by decide +kernel
theorem dX9_allSupplies_24 : decode cX9_allSupplies 24 = .ok (.goto (-20), 3) := by decide +kernel
theorem dX9_allSupplies_27 : decode cX9_allSupplies 27 = .ok (.iload_n 1, 1) := by decide +kernel
theorem dX9_allSupplies_28 : decode cX9_allSupplies 28 = .ok (.ireturn, 1) := by decide +kernel
set_option maxRecDepth 20000 in
theorem ggX9_shareOf_X9_allSupplies : GoodIn wsX9_shareOf wsX9_allSupplies := goodIn_r _ [6, 1, 7, 8, 9, 10, 11, 12, 13, 14, 15, 16, 17, 18, 19, 20, 21, 22, 23, 24, 25, 26, 27, 28, 29, 30, 31, 32, 33, 34, 35, 36, 37, 38, 39, 40, 41] (by decide +kernel) (by decide +kernel)
set_option maxRecDepth 20000 in
theorem gX9_shareOf_X9_allSupplies : GoodIn wsX9_shareOf (wsV RX9 125 RX9 yX9_allSupplies wsX9_allSupplies) := goodIn_app (goodIn_of _ (by decide +kernel)) ggX9_shareOf_X9_allSupplies
theorem dX9_shareOf_0 : decode cX9_shareOf 0 = .ok (.aload_n 0, 1) := by decide +kernel
theorem dX9_shareOf_1 : decode cX9_shareOf 1 = .ok (.getfield 9, 3) := by decide +kernel
theorem dX9_shareOf_4 : decode cX9_shareOf 4 = .ok (.bipush 36, 2) := by decide +kernel
theorem dX9_shareOf_6 : decode cX9_shareOf 6 = .ok (.iload_n 1, 1) := by decide +kernel
theorem dX9_shareOf_7 : decode cX9_shareOf 7 = .ok (.iadd, 1) := by decide +kernel
theorem dX9_shareOf_8 : decode cX9_shareOf 8 = .ok (.iaload, 1) := by decide +kernel
theorem dX9_shareOf_9 : decode cX9_shareOf 9 = .ok (.aload_n 0, 1) := by decide +kernel
theorem dX9_shareOf_10 : decode cX9_shareOf 10 = .ok (.invokevirtual 125, 3) := by decide +kernel
theorem dX9_shareOf_13 : decode cX9_shareOf 13 = .ok (.imul, 1) := by decide +kernel
theorem dX9_shareOf_14 : decode cX9_shareOf 14 = .ok (.bipush 100, 2) := by decide +kernel
theorem dX9_shareOf_16 : decode cX9_shareOf 16 = .ok (.idiv, 1) := by decide +kernel
theorem dX9_shareOf_17 : decode cX9_shareOf 17 = .ok (.ireturn, 1) := by decide +kernel
theorem dX9_amountsOf_0 : decode cX9_amountsOf 0 = .ok (.iconst 0, 1) := by decide +kernel
theorem dX9_amountsOf_1 : decode cX9_amountsOf 1 = .ok (.istore_n 3, 1) := by decide +kernel
theorem dX9_amountsOf_2 : decode cX9_amountsOf 2 = .ok (.iconst 0, 1) := by decide +kernel
theorem dX9_amountsOf_3 : decode cX9_amountsOf 3 = .ok (.istore 4, 2) := by decide +kernel
theorem dX9_amountsOf_5 : decode cX9_amountsOf 5 = .ok (.iload 4, 2) := by decide +kernel
theorem dX9_amountsOf_7 : decode cX9_amountsOf 7 = .ok (.aload_n 0, 1) := by decide +kernel
theorem dX9_amountsOf_8 : decode cX9_amountsOf 8 = .ok (.getfield 80, 3) := by decide +kernel
theorem dX9_amountsOf_11 : decode cX9_amountsOf 11 = .ok (.if_icmp .ge 48, 3) := by decide +kernel
theorem dX9_amountsOf_14 : decode cX9_amountsOf 14 = .ok (.iload_n 3, 1) := by decide +kernel
theorem dX9_amountsOf_15 : decode cX9_amountsOf 15 = .ok (.iload_n 1, 1) := by decide +kernel
theorem dX9_amountsOf_16 : decode cX9_amountsOf 16 = .ok (.iload 4, 2) := by decide +kernel
theorem dX9_amountsOf_18 : decode cX9_amountsOf 18 = .ok (.ishr, 1) := by decide +kernel
theorem dX9_amountsOf_19 : decode cX9_amountsOf 19 = .ok (.iconst 1, 1) := by decide +kernel
theorem dX9_amountsOf_20 : decode cX9_amountsOf 20 = .ok (.iand, 1) := by decide +kernel
theorem dX9_amountsOf_21 : decode cX9_amountsOf 21 = .ok (.iconst 1, 1) := by decide +kernel
theorem dX9_amountsOf_22 : decode cX9_amountsOf 22 = .ok (.if_icmp .ne 28, 3) := by decide +kernel
theorem dX9_amountsOf_25 : decode cX9_amountsOf 25 = .ok (.iload_n 2, 1) := by decide +kernel
theorem dX9_amountsOf_26 : decode cX9_amountsOf 26 = .ok (.ifCond .lt 14, 3) := by decide +kernel
theorem dX9_amountsOf_29 : decode cX9_amountsOf 29 = .ok (.aload_n 0, 1) := by decide +kernel
theorem dX9_amountsOf_30 : decode cX9_amountsOf 30 = .ok (.getfield 19, 3) := by decide +kernel
theorem dX9_amountsOf_33 : decode cX9_amountsOf 33 = .ok (.iload 4, 2) := by decide +kernel
theorem dX9_amountsOf_35 : decode cX9_amountsOf 35 = .ok (.iaload, 1) := by decide +kernel
theorem dX9_amountsOf_36 : decode cX9_amountsOf 36 = .ok (.iload_n 2, 1) := by decide +kernel
theorem dX9_amountsOf_37 : decode cX9_amountsOf 37 = .ok (.if_icmp .ne 13, 3) := by decide +kernel
theorem dX9_amountsOf_40 : decode cX9_amountsOf 40 = .ok (.aload_n 0, 1) := by decide +kernel
theorem dX9_amountsOf_41 : decode cX9_amountsOf 41 = .ok (.getfield 13, 3) := by decide +kernel
theorem dX9_amountsOf_44 : decode cX9_amountsOf 44 = .ok (.iload 4, 2) := by decide +kernel
theorem dX9_amountsOf_46 : decode cX9_amountsOf 46 = .ok (.iaload, 1) := by decide +kernel
theorem dX9_amountsOf_47 : decode cX9_amountsOf 47 = .ok (.goto 4, 3) := by decide +kernel
theorem dX9_amountsOf_50 : decode cX9_amountsOf 50 = .ok (.iconst 0, 1) := by decide +kernel
theorem dX9_amountsOf_51 : decode cX9_amountsOf 51 = .ok (.iadd, 1) := by decide +kernel
theorem dX9_amountsOf_52 : decode cX9_amountsOf 52 = .ok (.istore_n 3, 1) := by decide +kernel
theorem dX9_amountsOf_53 : decode cX9_amountsOf 53 = .ok (.iinc 4 1, 3) := by decide +kernel
theorem dX9_amountsOf_56 : decode cX9_amountsOf 56 = .ok (.goto (-51), 3) := by decide +kernel
theorem dX9_amountsOf_59 : decode cX9_amountsOf 59 = .ok (.iload_n 3, 1) := by decide +kernel
theorem dX9_amountsOf_60 : decode cX9_amountsOf 60 = .ok (.ireturn, 1) := by decide +kernel
set_option maxRecDepth 20000 in
theorem ggX9_group_X9_isIn : GoodIn wsX9_group wsX9_isIn := goodIn_r _ [5] (by decide +kernel) (by decide +kernel)
set_option maxRecDepth 20000 in
theorem gX9_group_X9_isIn : GoodIn wsX9_group (va_wsS RX9 83 yX9_isIn wsX9_isIn) := goodIn_app (goodIn_of _ (by decide +kernel)) ggX9_group_X9_isIn
set_option maxRecDepth 20000 in
theorem ggX9_group_X9_shareOf : GoodIn wsX9_group wsX9_shareOf := goodIn_r _ [9, 1, 10, 11, 12, 4, 13, 29, 30, 31, 32, 33, 34, 35, 36, 37, 38, 39, 40, 41, 42, 43, 44, 45, 46, 47, 48, 49, 50, 51, 52, 53, 54, 55, 56, 57, 58, 59, 60, 61, 62, 63] (by decide +kernel) (by decide +kernel)
set_option maxRecDepth 20000 in
theorem gX9_group_X9_shareOf : GoodIn wsX9_group (wsV RX9 129 RX9 yX9_shareOf wsX9_shareOf) := goodIn_app (goodIn_of _ (by decide +kernel)) ggX9_group_X9_shareOf
set_option maxRecDepth 20000 in
theorem ggX9_group_X9_those : GoodIn wsX9_group wsX9_those := goodIn_r _ [17, 18, 19, 20, 21, 4, 22, 1, 29, 30, 31, 32, 33, 34, 35, 36, 37, 38, 39, 40, 41, 42, 43, 44, 45, 46, 47, 48, 49, 50, 51, 52, 53, 54, 55, 56, 57, 58, 59, 60, 61, 62, 63] (by decide +kernel) (by decide +kernel)
set_option maxRecDepth 20000 in
theorem gX9_group_X9_those : GoodIn wsX9_group (wsV RX9 105 RX9 yX9_those wsX9_those) := goodIn_app (goodIn_of _ (by decide +kernel)) ggX9_group_X9_those
set_option maxRecDepth 20000 in
theorem ggX9_group_X9_amountsOf : GoodIn wsX9_group wsX9_amountsOf := goodIn_r _ [26, 18, 27, 28, 29, 30, 31, 32, 33, 34, 35, 36, 37, 38, 39, 40, 41, 42, 43, 44, 45, 46, 47, 48, 49, 50, 51, 52, 53, 54, 55, 56, 57, 58, 59, 60, 61, 62, 63] (by decide +kernel) (by decide +kernel)
set_option maxRecDepth 20000 in
theorem gX9_group_X9_amountsOf : GoodIn wsX9_group (wsV RX9 132 RX9 yX9_amountsOf wsX9_amountsOf) := goodIn_app (goodIn_of _ (by decide +kernel)) ggX9_group_X9_amountsOf
theorem dX9_group_0 : decode cX9_group 0 = .ok (.iload_n 1, 1) := by decide +kernel
theorem dX9_group_1 : decode cX9_group 1 = .ok (.iconst 0, 1) := by decide +kernel
theorem dX9_group_2 : decode cX9_group 2 = .ok (.iconst 3, 1) := by decide +kernel
theorem dX9_group_3 : decode cX9_group 3 = .ok (.invokestatic 83, 3) := by decide +kernel
theorem dX9_group_6 : decode cX9_group 6 = .ok (.ifCond .eq 12, 3) := by decide +kernel
theorem dX9_group_9 : decode cX9_group 9 = .ok (.iload_n 2, 1) := by decide +kernel
theorem dX9_group_10 : decode cX9_group 10 = .ok (.iconst 0, 1) := by decide +kernel
theorem dX9_group_11 : decode cX9_group 11 = .ok (.iconst 2, 1) := by decide +kernel
theorem dX9_group_12 : decode cX9_group 12 = .ok (.invokestatic 83, 3) := by decide +kernel
theorem dX9_group_15 : decode cX9_group 15 = .ok (.ifCond .ne 5, 3) := by decide +kernel
theorem dX9_group_18 : decode cX9_group 18 = .ok (.iconst (-1), 1) := by decide +kernel
theorem dX9_group_19 : decode cX9_group 19 = .ok (.ireturn, 1) := by decide +kernel
theorem dX9_group_20 : decode cX9_group 20 = .ok (.iload_n 2, 1) := by decide +kernel
theorem dX9_group_21 : decode cX9_group 21 = .ok (.ifCond .ne 15, 3) := by decide +kernel
theorem dX9_group_24 : decode cX9_group 24 = .ok (.aload_n 0, 1) := by decide +kernel
theorem dX9_group_25 : decode cX9_group 25 = .ok (.getfield 9, 3) := by decide +kernel
theorem dX9_group_28 : decode cX9_group 28 = .ok (.bipush 36, 2) := by decide +kernel
theorem dX9_group_30 : decode cX9_group 30 = .ok (.iload_n 1, 1) := by decide +kernel
theorem dX9_group_31 : decode cX9_group 31 = .ok (.iadd, 1) := by decide +kernel
theorem dX9_group_32 : decode cX9_group 32 = .ok (.iaload, 1) := by decide +kernel
theorem dX9_group_33 : decode cX9_group 33 = .ok (.goto 26, 3) := by decide +kernel
theorem dX9_group_36 : decode cX9_group 36 = .ok (.iload_n 2, 1) := by decide +kernel
theorem dX9_group_37 : decode cX9_group 37 = .ok (.iconst 1, 1) := by decide +kernel
theorem dX9_group_38 : decode cX9_group 38 = .ok (.if_icmp .ne 11, 3) := by decide +kernel
theorem dX9_group_41 : decode cX9_group 41 = .ok (.aload_n 0, 1) := by decide +kernel
theorem dX9_group_42 : decode cX9_group 42 = .ok (.iload_n 1, 1) := by decide +kernel
theorem dX9_group_43 : decode cX9_group 43 = .ok (.invokevirtual 129, 3) := by decide +kernel
theorem dX9_group_46 : decode cX9_group 46 = .ok (.goto 13, 3) := by decide +kernel
theorem dX9_group_49 : decode cX9_group 49 = .ok (.aload_n 0, 1) := by decide +kernel
theorem dX9_group_50 : decode cX9_group 50 = .ok (.aload_n 0, 1) := by decide +kernel
theorem dX9_group_51 : decode cX9_group 51 = .ok (.iconst 1, 1) := by decide +kernel
theorem dX9_group_52 : decode cX9_group 52 = .ok (.invokevirtual 105, 3) := by decide +kernel
theorem dX9_group_55 : decode cX9_group 55 = .ok (.iload_n 1, 1) := by decide +kernel
theorem dX9_group_56 : decode cX9_group 56 = .ok (.invokevirtual 132, 3) := by decide +kernel
theorem dX9_group_59 : decode cX9_group 59 = .ok (.ireturn, 1) := by decide +kernel
set_option maxRecDepth 20000 in
theorem ggX9_findSums_X9_at : GoodIn wsX9_findSums wsX9_at := goodIn_r _ [6] (by decide +kernel) (by decide +kernel)
set_option maxRecDepth 20000 in
theorem gX9_findSums_X9_at : GoodIn wsX9_findSums (va_wsS RX9 118 yX9_at wsX9_at) := goodIn_app (goodIn_of _ (by decide +kernel)) ggX9_findSums_X9_at
theorem dX9_findSums_0 : decode cX9_findSums 0 = .ok (.iconst 0, 1) := by decide +kernel
theorem dX9_findSums_1 : decode cX9_findSums 1 = .ok (.istore_n 1, 1) := by decide +kernel
theorem dX9_findSums_2 : decode cX9_findSums 2 = .ok (.iload_n 1, 1) := by decide +kernel
theorem dX9_findSums_3 : decode cX9_findSums 3 = .ok (.iconst 3, 1) := by decide +kernel
theorem dX9_findSums_4 : decode cX9_findSums 4 = .ok (.if_icmp .ge 62, 3) := by decide +kernel
theorem dX9_findSums_7 : decode cX9_findSums 7 = .ok (.iconst 0, 1) := by decide +kernel
theorem dX9_findSums_8 : decode cX9_findSums 8 = .ok (.istore_n 2, 1) := by decide +kernel
theorem dX9_findSums_9 : decode cX9_findSums 9 = .ok (.aload_n 0, 1) := by decide +kernel
theorem dX9_findSums_10 : decode cX9_findSums 10 = .ok (.getfield 46, 3) := by decide +kernel
theorem dX9_findSums_13 : decode cX9_findSums 13 = .ok (.bipush 13, 2) := by decide +kernel
theorem dX9_findSums_15 : decode cX9_findSums 15 = .ok (.iload_n 1, 1) := by decide +kernel
theorem dX9_findSums_16 : decode cX9_findSums 16 = .ok (.imul, 1) := by decide +kernel
theorem dX9_findSums_17 : decode cX9_findSums 17 = .ok (.iconst 0, 1) := by decide +kernel
theorem dX9_findSums_18 : decode cX9_findSums 18 = .ok (.iastore, 1) := by decide +kernel
theorem dX9_findSums_19 : decode cX9_findSums 19 = .ok (.iconst 0, 1) := by decide +kernel
theorem dX9_findSums_20 : decode cX9_findSums 20 = .ok (.istore_n 3, 1) := by decide +kernel
theorem dX9_findSums_21 : decode cX9_findSums 21 = .ok (.iload_n 3, 1) := by decide +kernel
theorem dX9_findSums_22 : decode cX9_findSums 22 = .ok (.bipush 12, 2) := by decide +kernel
theorem dX9_findSums_24 : decode cX9_findSums 24 = .ok (.if_icmp .ge 36, 3) := by decide +kernel
theorem dX9_findSums_27 : decode cX9_findSums 27 = .ok (.iload_n 2, 1) := by decide +kernel
theorem dX9_findSums_28 : decode cX9_findSums 28 = .ok (.aload_n 0, 1) := by decide +kernel
theorem dX9_findSums_29 : decode cX9_findSums 29 = .ok (.getfield 9, 3) := by decide +kernel
theorem dX9_findSums_32 : decode cX9_findSums 32 = .ok (.iload_n 1, 1) := by decide +kernel
theorem dX9_findSums_33 : decode cX9_findSums 33 = .ok (.iload_n 3, 1) := by decide +kernel
theorem dX9_findSums_34 : decode cX9_findSums 34 = .ok (.invokestatic 118, 3) := by decide +kernel
theorem dX9_findSums_37 : decode cX9_findSums 37 = .ok (.iaload, 1) := by decide +kernel
theorem dX9_findSums_38 : decode cX9_findSums 38 = .ok (.iadd, 1) := by decide +kernel
theorem dX9_findSums_39 : decode cX9_findSums 39 = .ok (.istore_n 2, 1) := by decide +kernel
theorem dX9_findSums_40 : decode cX9_findSums 40 = .ok (.aload_n 0, 1) := by decide +kernel
theorem dX9_findSums_41 : decode cX9_findSums 41 = .ok (.getfield 46, 3) := by decide +kernel
theorem dX9_findSums_44 : decode cX9_findSums 44 = .ok (.bipush 13, 2) := by decide +kernel
theorem dX9_findSums_46 : decode cX9_findSums 46 = .ok (.iload_n 1, 1) := by decide +kernel
theorem dX9_findSums_47 : decode cX9_findSums 47 = .ok (.imul, 1) := by decide +kernel
theorem dX9_findSums_48 : decode cX9_findSums 48 = .ok (.iload_n 3, 1) := by decide +kernel
theorem dX9_findSums_49 : decode cX9_findSums 49 = .ok (.iadd, 1) := by decide +kernel
theorem dX9_findSums_50 : decode cX9_findSums 50 = .ok (.iconst 1, 1) := by decide +kernel
theorem dX9_findSums_51 : decode cX9_findSums 51 = .ok (.iadd, 1) := by decide +kernel
theorem dX9_findSums_52 : decode cX9_findSums 52 = .ok (.iload_n 2, 1) := by decide +kernel
theorem dX9_findSums_53 : decode cX9_findSums 53 = .ok (.iastore, 1) := by decide +kernel
theorem dX9_findSums_54 : decode cX9_findSums 54 = .ok (.iinc 3 1, 3) := by decide +kernel
theorem dX9_findSums_57 : decode cX9_findSums 57 = .ok (.goto (-36), 3) := by decide +kernel
theorem dX9_findSums_60 : decode cX9_findSums 60 = .ok (.iinc 1 1, 3) := by decide +kernel
theorem dX9_findSums_63 : decode cX9_findSums 63 = .ok (.goto (-61), 3) := by decide +kernel
theorem dX9_findSums_66 : decode cX9_findSums 66 = .ok (.return_, 1) := by decide +kernel
theorem dX9_partOf_0 : decode cX9_partOf 0 = .ok (.iload_n 1, 1) := by decide +kernel
theorem dX9_partOf_1 : decode cX9_partOf 1 = .ok (.ifCond .ne 11, 3) := by decide +kernel
theorem dX9_partOf_4 : decode cX9_partOf 4 = .ok (.iload_n 0, 1) := by decide +kernel
theorem dX9_partOf_5 : decode cX9_partOf 5 = .ok (.sipush 10000, 3) := by decide +kernel
theorem dX9_partOf_8 : decode cX9_partOf 8 = .ok (.idiv, 1) := by decide +kernel
theorem dX9_partOf_9 : decode cX9_partOf 9 = .ok (.goto 22, 3) := by decide +kernel
theorem dX9_partOf_12 : decode cX9_partOf 12 = .ok (.iload_n 1, 1) := by decide +kernel
theorem dX9_partOf_13 : decode cX9_partOf 13 = .ok (.iconst 1, 1) := by decide +kernel
theorem dX9_partOf_14 : decode cX9_partOf 14 = .ok (.if_icmp .ne 13, 3) := by decide +kernel
theorem dX9_partOf_17 : decode cX9_partOf 17 = .ok (.iload_n 0, 1) := by decide +kernel
theorem dX9_partOf_18 : decode cX9_partOf 18 = .ok (.bipush 100, 2) := by decide +kernel
theorem dX9_partOf_20 : decode cX9_partOf 20 = .ok (.idiv, 1) := by decide +kernel
theorem dX9_partOf_21 : decode cX9_partOf 21 = .ok (.bipush 100, 2) := by decide +kernel
theorem dX9_partOf_23 : decode cX9_partOf 23 = .ok (.irem, 1) := by decide +kernel
theorem dX9_partOf_24 : decode cX9_partOf 24 = .ok (.goto 7, 3) := by decide +kernel
theorem dX9_partOf_27 : decode cX9_partOf 27 = .ok (.iload_n 0, 1) := by decide +kernel
theorem dX9_partOf_28 : decode cX9_partOf 28 = .ok (.bipush 100, 2) := by decide +kernel
theorem dX9_partOf_30 : decode cX9_partOf 30 = .ok (.irem, 1) := by decide +kernel
theorem dX9_partOf_31 : decode cX9_partOf 31 = .ok (.ireturn, 1) := by decide +kernel
set_option maxRecDepth 20000 in
theorem ggX9_holds_X9_partOf : GoodIn wsX9_holds wsX9_partOf := goodIn_r _ [4] (by decide +kernel) (by decide +kernel)
set_option maxRecDepth 20000 in
theorem gX9_holds_X9_partOf : GoodIn wsX9_holds (va_wsS RX9 135 yX9_partOf wsX9_partOf) := goodIn_app (goodIn_of _ (by decide +kernel)) ggX9_holds_X9_partOf
theorem dX9_holds_0 : decode cX9_holds 0 = .ok (.iconst 0, 1) := by decide +kernel
theorem dX9_holds_1 : decode cX9_holds 1 = .ok (.istore 4, 2) := by decide +kernel
theorem dX9_holds_3 : decode cX9_holds 3 = .ok (.iload 4, 2) := by decide +kernel
theorem dX9_holds_5 : decode cX9_holds 5 = .ok (.iconst 3, 1) := by decide +kernel
theorem dX9_holds_6 : decode cX9_holds 6 = .ok (.if_icmp .ge 31, 3) := by decide +kernel
theorem dX9_holds_9 : decode cX9_holds 9 = .ok (.iload_n 2, 1) := by decide +kernel
theorem dX9_holds_10 : decode cX9_holds 10 = .ok (.iload 4, 2) := by decide +kernel
theorem dX9_holds_12 : decode cX9_holds 12 = .ok (.ishr, 1) := by decide +kernel
theorem dX9_holds_13 : decode cX9_holds 13 = .ok (.iconst 1, 1) := by decide +kernel
theorem dX9_holds_14 : decode cX9_holds 14 = .ok (.iand, 1) := by decide +kernel
theorem dX9_holds_15 : decode cX9_holds 15 = .ok (.iconst 1, 1) := by decide +kernel
theorem dX9_holds_16 : decode cX9_holds 16 = .ok (.if_icmp .ne 15, 3) := by decide +kernel
theorem dX9_holds_19 : decode cX9_holds 19 = .ok (.iload_n 3, 1) := by decide +kernel
theorem dX9_holds_20 : decode cX9_holds 20 = .ok (.iload_n 1, 1) := by decide +kernel
theorem dX9_holds_21 : decode cX9_holds 21 = .ok (.iload 4, 2) := by decide +kernel
theorem dX9_holds_23 : decode cX9_holds 23 = .ok (.invokestatic 135, 3) := by decide +kernel
theorem dX9_holds_26 : decode cX9_holds 26 = .ok (.if_icmp .lt 5, 3) := by decide +kernel
theorem dX9_holds_29 : decode cX9_holds 29 = .ok (.iconst 0, 1) := by decide +kernel
theorem dX9_holds_30 : decode cX9_holds 30 = .ok (.ireturn, 1) := by decide +kernel
theorem dX9_holds_31 : decode cX9_holds 31 = .ok (.iinc 4 1, 3) := by decide +kernel
theorem dX9_holds_34 : decode cX9_holds 34 = .ok (.goto (-31), 3) := by decide +kernel
theorem dX9_holds_37 : decode cX9_holds 37 = .ok (.iconst 1, 1) := by decide +kernel
theorem dX9_holds_38 : decode cX9_holds 38 = .ok (.ireturn, 1) := by decide +kernel
set_option maxRecDepth 20000 in
theorem ggX9_leftAt_X9_partOf : GoodIn wsX9_leftAt wsX9_partOf := goodIn_r _ [9] (by decide +kernel) (by decide +kernel)
set_option maxRecDepth 20000 in
theorem gX9_leftAt_X9_partOf : GoodIn wsX9_leftAt (va_wsS RX9 135 yX9_partOf wsX9_partOf) := goodIn_app (goodIn_of _ (by decide +kernel)) ggX9_leftAt_X9_partOf
set_option maxRecDepth 20000 in
theorem ggX9_leftAt_X9_holds : GoodIn wsX9_leftAt wsX9_holds := goodIn_r _ [13, 6, 7, 8, 9] (by decide +kernel) (by decide +kernel)
set_option maxRecDepth 20000 in
theorem gX9_leftAt_X9_holds : GoodIn wsX9_leftAt (wsV RX9 138 RX9 yX9_holds wsX9_holds) := goodIn_app (goodIn_of _ (by decide +kernel)) ggX9_leftAt_X9_holds
theorem dX9_leftAt_0 : decode cX9_leftAt 0 = .ok (.iconst 0, 1) := by decide +kernel
theorem dX9_leftAt_1 : decode cX9_leftAt 1 = .ok (.istore_n 3, 1) := by decide +kernel
theorem dX9_leftAt_2 : decode cX9_leftAt 2 = .ok (.iconst 0, 1) := by decide +kernel
theorem dX9_leftAt_3 : decode cX9_leftAt 3 = .ok (.istore 4, 2) := by decide +kernel
theorem dX9_leftAt_5 : decode cX9_leftAt 5 = .ok (.iload 4, 2) := by decide +kernel
theorem dX9_leftAt_7 : decode cX9_leftAt 7 = .ok (.iconst 3, 1) := by decide +kernel
theorem dX9_leftAt_8 : decode cX9_leftAt 8 = .ok (.if_icmp .ge 29, 3) := by decide +kernel
theorem dX9_leftAt_11 : decode cX9_leftAt 11 = .ok (.iload_n 3, 1) := by decide +kernel
theorem dX9_leftAt_12 : decode cX9_leftAt 12 = .ok (.aload_n 0, 1) := by decide +kernel
theorem dX9_leftAt_13 : decode cX9_leftAt 13 = .ok (.getfield 46, 3) := by decide +kernel
theorem dX9_leftAt_16 : decode cX9_leftAt 16 = .ok (.bipush 13, 2) := by decide +kernel
theorem dX9_leftAt_18 : decode cX9_leftAt 18 = .ok (.iload 4, 2) := by decide +kernel
theorem dX9_leftAt_20 : decode cX9_leftAt 20 = .ok (.imul, 1) := by decide +kernel
theorem dX9_leftAt_21 : decode cX9_leftAt 21 = .ok (.iload_n 1, 1) := by decide +kernel
theorem dX9_leftAt_22 : decode cX9_leftAt 22 = .ok (.iload 4, 2) := by decide +kernel
theorem dX9_leftAt_24 : decode cX9_leftAt 24 = .ok (.invokestatic 135, 3) := by decide +kernel
theorem dX9_leftAt_27 : decode cX9_leftAt 27 = .ok (.iadd, 1) := by decide +kernel
theorem dX9_leftAt_28 : decode cX9_leftAt 28 = .ok (.iaload, 1) := by decide +kernel
theorem dX9_leftAt_29 : decode cX9_leftAt 29 = .ok (.iadd, 1) := by decide +kernel
theorem dX9_leftAt_30 : decode cX9_leftAt 30 = .ok (.istore_n 3, 1) := by decide +kernel
theorem dX9_leftAt_31 : decode cX9_leftAt 31 = .ok (.iinc 4 1, 3) := by decide +kernel
theorem dX9_leftAt_34 : decode cX9_leftAt 34 = .ok (.goto (-29), 3) := by decide +kernel
theorem dX9_leftAt_37 : decode cX9_leftAt 37 = .ok (.iconst 0, 1) := by decide +kernel
theorem dX9_leftAt_38 : decode cX9_leftAt 38 = .ok (.istore 4, 2) := by decide +kernel
theorem dX9_leftAt_40 : decode cX9_leftAt 40 = .ok (.iload 4, 2) := by decide +kernel
theorem dX9_leftAt_42 : decode cX9_leftAt 42 = .ok (.aload_n 0, 1) := by decide +kernel
theorem dX9_leftAt_43 : decode cX9_leftAt 43 = .ok (.getfield 80, 3) := by decide +kernel
theorem dX9_leftAt_46 : decode cX9_leftAt 46 = .ok (.if_icmp .ge 58, 3) := by decide +kernel
theorem dX9_leftAt_49 : decode cX9_leftAt 49 = .ok (.iload_n 3, 1) := by decide +kernel
theorem dX9_leftAt_50 : decode cX9_leftAt 50 = .ok (.iload_n 2, 1) := by decide +kernel
theorem dX9_leftAt_51 : decode cX9_leftAt 51 = .ok (.iload 4, 2) := by decide +kernel
theorem dX9_leftAt_53 : decode cX9_leftAt 53 = .ok (.ishr, 1) := by decide +kernel
theorem dX9_leftAt_54 : decode cX9_leftAt 54 = .ok (.iconst 1, 1) := by decide +kernel
theorem dX9_leftAt_55 : decode cX9_leftAt 55 = .ok (.iand, 1) := by decide +kernel
theorem dX9_leftAt_56 : decode cX9_leftAt 56 = .ok (.iconst 1, 1) := by decide +kernel
theorem dX9_leftAt_57 : decode cX9_leftAt 57 = .ok (.if_icmp .ne 38, 3) := by decide +kernel
theorem dX9_leftAt_60 : decode cX9_leftAt 60 = .ok (.aload_n 0, 1) := by decide +kernel
theorem dX9_leftAt_61 : decode cX9_leftAt 61 = .ok (.iload_n 1, 1) := by decide +kernel
theorem dX9_leftAt_62 : decode cX9_leftAt 62 = .ok (.aload_n 0, 1) := by decide +kernel
theorem dX9_leftAt_63 : decode cX9_leftAt 63 = .ok (.getfield 16, 3) := by decide +kernel
theorem dX9_leftAt_66 : decode cX9_leftAt 66 = .ok (.iload 4, 2) := by decide +kernel
theorem dX9_leftAt_68 : decode cX9_leftAt 68 = .ok (.iaload, 1) := by decide +kernel
theorem dX9_leftAt_69 : decode cX9_leftAt 69 = .ok (.aload_n 0, 1) := by decide +kernel
theorem dX9_leftAt_70 : decode cX9_leftAt 70 = .ok (.getfield 9, 3) := by decide +kernel
theorem dX9_leftAt_73 : decode cX9_leftAt 73 = .ok (.bipush 64, 2) := by decide +kernel
theorem dX9_leftAt_75 : decode cX9_leftAt 75 = .ok (.iload 4, 2) := by decide +kernel
theorem dX9_leftAt_77 : decode cX9_leftAt 77 = .ok (.iadd, 1) := by decide +kernel
theorem dX9_leftAt_78 : decode cX9_leftAt 78 = .ok (.iaload, 1) := by decide +kernel
theorem dX9_leftAt_79 : decode cX9_leftAt 79 = .ok (.invokevirtual 138, 3) := by decide +kernel
theorem dX9_leftAt_82 : decode cX9_leftAt 82 = .ok (.ifCond .eq 13, 3) := by decide +kernel
theorem dX9_leftAt_85 : decode cX9_leftAt 85 = .ok (.aload_n 0, 1) := by decide +kernel
theorem dX9_leftAt_86 : decode cX9_leftAt 86 = .ok (.getfield 13, 3) := by decide +kernel
theorem dX9_leftAt_89 : decode cX9_leftAt 89 = .ok (.iload 4, 2) := by decide +kernel
theorem dX9_leftAt_91 : decode cX9_leftAt 91 = .ok (.iaload, 1) := by decide +kernel
theorem dX9_leftAt_92 : decode cX9_leftAt 92 = .ok (.goto 4, 3) := by decide +kernel
theorem dX9_leftAt_95 : decode cX9_leftAt 95 = .ok (.iconst 0, 1) := by decide +kernel
theorem dX9_leftAt_96 : decode cX9_leftAt 96 = .ok (.isub, 1) := by decide +kernel
theorem dX9_leftAt_97 : decode cX9_leftAt 97 = .ok (.istore_n 3, 1) := by decide +kernel
theorem dX9_leftAt_98 : decode cX9_leftAt 98 = .ok (.iinc 4 1, 3) := by decide +kernel
theorem dX9_leftAt_101 : decode cX9_leftAt 101 = .ok (.goto (-61), 3) := by decide +kernel
theorem dX9_leftAt_104 : decode cX9_leftAt 104 = .ok (.iload_n 3, 1) := by decide +kernel
theorem dX9_leftAt_105 : decode cX9_leftAt 105 = .ok (.ireturn, 1) := by decide +kernel
theorem dX9_step_0 : decode cX9_step 0 = .ok (.sipush 10000, 3) := by decide +kernel
theorem dX9_step_3 : decode cX9_step 3 = .ok (.iload_n 0, 1) := by decide +kernel
theorem dX9_step_4 : decode cX9_step 4 = .ok (.sipush 169, 3) := by decide +kernel
theorem dX9_step_7 : decode cX9_step 7 = .ok (.idiv, 1) := by decide +kernel
theorem dX9_step_8 : decode cX9_step 8 = .ok (.imul, 1) := by decide +kernel
theorem dX9_step_9 : decode cX9_step 9 = .ok (.bipush 100, 2) := by decide +kernel
theorem dX9_step_11 : decode cX9_step 11 = .ok (.iload_n 0, 1) := by decide +kernel
theorem dX9_step_12 : decode cX9_step 12 = .ok (.bipush 13, 2) := by decide +kernel
theorem dX9_step_14 : decode cX9_step 14 = .ok (.idiv, 1) := by decide +kernel
theorem dX9_step_15 : decode cX9_step 15 = .ok (.bipush 13, 2) := by decide +kernel
theorem dX9_step_17 : decode cX9_step 17 = .ok (.irem, 1) := by decide +kernel
theorem dX9_step_18 : decode cX9_step 18 = .ok (.imul, 1) := by decide +kernel
theorem dX9_step_19 : decode cX9_step 19 = .ok (.iadd, 1) := by decide +kernel
theorem dX9_step_20 : decode cX9_step 20 = .ok (.iload_n 0, 1) := by decide +kernel
theorem dX9_step_21 : decode cX9_step 21 = .ok (.bipush 13, 2) := by decide +kernel
theorem dX9_step_23 : decode cX9_step 23 = .ok (.irem, 1) := by decide +kernel
theorem dX9_step_24 : decode cX9_step 24 = .ok (.iadd, 1) := by decide +kernel
theorem dX9_step_25 : decode cX9_step 25 = .ok (.ireturn, 1) := by decide +kernel
set_option maxRecDepth 20000 in
theorem ggX9_findLeast_X9_findSums : GoodIn wsX9_findLeast wsX9_findSums := goodIn_r _ [8, 9, 10, 11, 12, 7, 13, 31, 32, 33, 34, 35, 36, 37, 38, 39, 40, 41, 42, 43, 44, 45, 46, 47, 48, 49, 50, 51, 52, 53, 54, 55, 56, 57, 58, 59, 60, 61, 62, 63, 64, 65] (by decide +kernel) (by decide +kernel)
set_option maxRecDepth 20000 in
theorem gX9_findLeast_X9_findSums : GoodIn wsX9_findLeast (wsV RX9 141 RX9 yX9_findSums wsX9_findSums) := goodIn_app (goodIn_of _ (by decide +kernel)) ggX9_findLeast_X9_findSums
set_option maxRecDepth 20000 in
theorem ggX9_findLeast_X9_step : GoodIn wsX9_findLeast wsX9_step := goodIn_r _ [16] (by decide +kernel) (by decide +kernel)
set_option maxRecDepth 20000 in
theorem gX9_findLeast_X9_step : GoodIn wsX9_findLeast (va_wsS RX9 150 yX9_step wsX9_step) := goodIn_app (goodIn_of _ (by decide +kernel)) ggX9_findLeast_X9_step
set_option maxRecDepth 20000 in
theorem ggX9_findLeast_X9_leftAt : GoodIn wsX9_findLeast wsX9_leftAt := goodIn_r _ [20, 9, 21, 22, 10, 23, 24, 25, 7, 26, 27, 28, 29, 30, 31, 32, 33, 34, 35, 36, 37, 38, 39, 40, 41, 42, 43, 44, 45, 46, 47, 48, 49, 50, 51, 52, 53, 54, 55, 56, 57, 58, 59, 60, 61, 62, 63, 64, 65] (by decide +kernel) (by decide +kernel)
set_option maxRecDepth 20000 in
theorem gX9_findLeast_X9_leftAt : GoodIn wsX9_findLeast (wsV RX9 153 RX9 yX9_leftAt wsX9_leftAt) := goodIn_app (goodIn_of _ (by decide +kernel)) ggX9_findLeast_X9_leftAt
theorem dX9_findLeast_0 : decode cX9_findLeast 0 = .ok (.aload_n 0, 1) := by decide +kernel
theorem dX9_findLeast_1 : decode cX9_findLeast 1 = .ok (.invokevirtual 141, 3) := by decide +kernel
theorem dX9_findLeast_4 : decode cX9_findLeast 4 = .ok (.aload_n 0, 1) := by decide +kernel
theorem dX9_findLeast_5 : decode cX9_findLeast 5 = .ok (.ldc 146, 2) := by decide +kernel
theorem dX9_findLeast_7 : decode cX9_findLeast 7 = .ok (.putfield 147, 3) := by decide +kernel
theorem dX9_findLeast_10 : decode cX9_findLeast 10 = .ok (.iconst 0, 1) := by decide +kernel
theorem dX9_findLeast_11 : decode cX9_findLeast 11 = .ok (.istore_n 2, 1) := by decide +kernel
theorem dX9_findLeast_12 : decode cX9_findLeast 12 = .ok (.iload_n 2, 1) := by decide +kernel
theorem dX9_findLeast_13 : decode cX9_findLeast 13 = .ok (.sipush 2197, 3) := by decide +kernel
theorem dX9_findLeast_16 : decode cX9_findLeast 16 = .ok (.if_icmp .ge 43, 3) := by decide +kernel
theorem dX9_findLeast_19 : decode cX9_findLeast 19 = .ok (.aload_n 0, 1) := by decide +kernel
theorem dX9_findLeast_20 : decode cX9_findLeast 20 = .ok (.iload_n 2, 1) := by decide +kernel
theorem dX9_findLeast_21 : decode cX9_findLeast 21 = .ok (.invokestatic 150, 3) := by decide +kernel
theorem dX9_findLeast_24 : decode cX9_findLeast 24 = .ok (.iload_n 1, 1) := by decide +kernel
theorem dX9_findLeast_25 : decode cX9_findLeast 25 = .ok (.invokevirtual 153, 3) := by decide +kernel
theorem dX9_findLeast_28 : decode cX9_findLeast 28 = .ok (.istore_n 3, 1) := by decide +kernel
theorem dX9_findLeast_29 : decode cX9_findLeast 29 = .ok (.iload_n 3, 1) := by decide +kernel
theorem dX9_findLeast_30 : decode cX9_findLeast 30 = .ok (.aload_n 0, 1) := by decide +kernel
theorem dX9_findLeast_31 : decode cX9_findLeast 31 = .ok (.getfield 147, 3) := by decide +kernel
theorem dX9_findLeast_34 : decode cX9_findLeast 34 = .ok (.if_icmp .lt 6, 3) := by decide +kernel
theorem dX9_findLeast_37 : decode cX9_findLeast 37 = .ok (.goto 16, 3) := by decide +kernel
theorem dX9_findLeast_40 : decode cX9_findLeast 40 = .ok (.aload_n 0, 1) := by decide +kernel
theorem dX9_findLeast_41 : decode cX9_findLeast 41 = .ok (.iload_n 3, 1) := by decide +kernel
theorem dX9_findLeast_42 : decode cX9_findLeast 42 = .ok (.putfield 147, 3) := by decide +kernel
theorem dX9_findLeast_45 : decode cX9_findLeast 45 = .ok (.aload_n 0, 1) := by decide +kernel
theorem dX9_findLeast_46 : decode cX9_findLeast 46 = .ok (.iload_n 2, 1) := by decide +kernel
theorem dX9_findLeast_47 : decode cX9_findLeast 47 = .ok (.invokestatic 150, 3) := by decide +kernel
theorem dX9_findLeast_50 : decode cX9_findLeast 50 = .ok (.putfield 156, 3) := by decide +kernel
theorem dX9_findLeast_53 : decode cX9_findLeast 53 = .ok (.iinc 2 1, 3) := by decide +kernel
theorem dX9_findLeast_56 : decode cX9_findLeast 56 = .ok (.goto (-44), 3) := by decide +kernel
theorem dX9_findLeast_59 : decode cX9_findLeast 59 = .ok (.return_, 1) := by decide +kernel
set_option maxRecDepth 20000 in
theorem ggX9_isMet_X9_findLeast : GoodIn wsX9_isMet wsX9_findLeast := goodIn_r _ [6, 7, 1, 8, 9, 10, 11, 5, 12, 13, 14, 15, 16, 17, 18, 19, 20, 21, 22, 23, 24, 25, 26, 27, 28, 29, 30, 31, 32, 33, 34, 35, 36, 37, 38, 39, 40, 41, 42, 43, 44, 45, 46, 47, 48, 49, 50, 51, 52, 53, 54, 55, 56, 57, 58, 59, 60, 61, 62, 63, 64, 65, 66, 67, 68, 69] (by decide +kernel) (by decide +kernel)
set_option maxRecDepth 20000 in
theorem gX9_isMet_X9_findLeast : GoodIn wsX9_isMet (wsV RX9 159 RX9 yX9_findLeast wsX9_findLeast) := goodIn_app (goodIn_of _ (by decide +kernel)) ggX9_isMet_X9_findLeast
theorem dX9_isMet_0 : decode cX9_isMet 0 = .ok (.aload_n 0, 1) := by decide +kernel
theorem dX9_isMet_1 : decode cX9_isMet 1 = .ok (.iload_n 1, 1) := by decide +kernel
theorem dX9_isMet_2 : decode cX9_isMet 2 = .ok (.invokevirtual 159, 3) := by decide +kernel
theorem dX9_isMet_5 : decode cX9_isMet 5 = .ok (.aload_n 0, 1) := by decide +kernel
theorem dX9_isMet_6 : decode cX9_isMet 6 = .ok (.getfield 147, 3) := by decide +kernel
theorem dX9_isMet_9 : decode cX9_isMet 9 = .ok (.ifCond .lt 7, 3) := by decide +kernel
theorem dX9_isMet_12 : decode cX9_isMet 12 = .ok (.iconst 1, 1) := by decide +kernel
theorem dX9_isMet_13 : decode cX9_isMet 13 = .ok (.goto 4, 3) := by decide +kernel
theorem dX9_isMet_16 : decode cX9_isMet 16 = .ok (.iconst 0, 1) := by decide +kernel
theorem dX9_isMet_17 : decode cX9_isMet 17 = .ok (.ireturn, 1) := by decide +kernel
set_option maxRecDepth 20000 in
theorem ggX9_canBe_X9_amountsOf : GoodIn wsX9_canBe wsX9_amountsOf := goodIn_r _ [6, 7, 1, 8, 52, 53, 54, 55, 56, 57, 58, 59, 60, 61, 62, 63, 64, 65, 66, 67, 68, 69, 70, 71, 72, 73, 74, 75, 76, 77, 78, 79, 80, 81, 82, 83, 84, 85, 86] (by decide +kernel) (by decide +kernel)
set_option maxRecDepth 20000 in
theorem gX9_canBe_X9_amountsOf : GoodIn wsX9_canBe (wsV RX9 132 RX9 yX9_amountsOf wsX9_amountsOf) := goodIn_app (goodIn_of _ (by decide +kernel)) ggX9_canBe_X9_amountsOf
set_option maxRecDepth 20000 in
theorem ggX9_canBe_X9_shareOf : GoodIn wsX9_canBe wsX9_shareOf := goodIn_r _ [12, 13, 14, 15, 16, 5, 17, 52, 53, 54, 55, 56, 57, 58, 59, 60, 61, 62, 63, 64, 65, 66, 67, 68, 69, 70, 71, 72, 73, 74, 75, 76, 77, 78, 79, 80, 81, 82, 83, 84, 85, 86] (by decide +kernel) (by decide +kernel)
set_option maxRecDepth 20000 in
theorem gX9_canBe_X9_shareOf : GoodIn wsX9_canBe (wsV RX9 129 RX9 yX9_shareOf wsX9_shareOf) := goodIn_app (goodIn_of _ (by decide +kernel)) ggX9_canBe_X9_shareOf
set_option maxRecDepth 20000 in
theorem ggX9_canBe_X9_isMet : GoodIn wsX9_canBe wsX9_isMet := goodIn_r _ [21, 22, 23, 24, 25, 5, 26, 27, 28, 29, 30, 31, 32, 33, 13, 34, 35, 36, 37, 38, 39, 40, 41, 42, 43, 7, 44, 8, 45, 46, 47, 48, 49, 50, 51, 52, 53, 54, 55, 56, 57, 58, 59, 60, 61, 62, 63, 64, 65, 66, 67, 68, 69, 70, 71, 72, 73, 74, 75, 76, 77, 78, 79, 80, 81, 82, 83, 84, 85, 86] (by decide +kernel) (by decide +kernel)
set_option maxRecDepth 20000 in
theorem gX9_canBe_X9_isMet : GoodIn wsX9_canBe (wsV RX9 163 RX9 yX9_isMet wsX9_isMet) := goodIn_app (goodIn_of _ (by decide +kernel)) ggX9_canBe_X9_isMet
theorem dX9_canBe_0 : decode cX9_canBe 0 = .ok (.iload_n 2, 1) := by decide +kernel
theorem dX9_canBe_1 : decode cX9_canBe 1 = .ok (.iconst 1, 1) := by decide +kernel
theorem dX9_canBe_2 : decode cX9_canBe 2 = .ok (.iload_n 1, 1) := by decide +kernel
theorem dX9_canBe_3 : decode cX9_canBe 3 = .ok (.ishl, 1) := by decide +kernel
theorem dX9_canBe_4 : decode cX9_canBe 4 = .ok (.ior, 1) := by decide +kernel
theorem dX9_canBe_5 : decode cX9_canBe 5 = .ok (.istore_n 3, 1) := by decide +kernel
theorem dX9_canBe_6 : decode cX9_canBe 6 = .ok (.aload_n 0, 1) := by decide +kernel
theorem dX9_canBe_7 : decode cX9_canBe 7 = .ok (.iload_n 3, 1) := by decide +kernel
theorem dX9_canBe_8 : decode cX9_canBe 8 = .ok (.aload_n 0, 1) := by decide +kernel
theorem dX9_canBe_9 : decode cX9_canBe 9 = .ok (.getfield 19, 3) := by decide +kernel
theorem dX9_canBe_12 : decode cX9_canBe 12 = .ok (.iload_n 1, 1) := by decide +kernel
theorem dX9_canBe_13 : decode cX9_canBe 13 = .ok (.iaload, 1) := by decide +kernel
theorem dX9_canBe_14 : decode cX9_canBe 14 = .ok (.invokevirtual 132, 3) := by decide +kernel
theorem dX9_canBe_17 : decode cX9_canBe 17 = .ok (.aload_n 0, 1) := by decide +kernel
theorem dX9_canBe_18 : decode cX9_canBe 18 = .ok (.aload_n 0, 1) := by decide +kernel
theorem dX9_canBe_19 : decode cX9_canBe 19 = .ok (.getfield 19, 3) := by decide +kernel
theorem dX9_canBe_22 : decode cX9_canBe 22 = .ok (.iload_n 1, 1) := by decide +kernel
theorem dX9_canBe_23 : decode cX9_canBe 23 = .ok (.iaload, 1) := by decide +kernel
theorem dX9_canBe_24 : decode cX9_canBe 24 = .ok (.invokevirtual 129, 3) := by decide +kernel
theorem dX9_canBe_27 : decode cX9_canBe 27 = .ok (.if_icmp .gt 15, 3) := by decide +kernel
theorem dX9_canBe_30 : decode cX9_canBe 30 = .ok (.aload_n 0, 1) := by decide +kernel
theorem dX9_canBe_31 : decode cX9_canBe 31 = .ok (.iload_n 3, 1) := by decide +kernel
theorem dX9_canBe_32 : decode cX9_canBe 32 = .ok (.invokevirtual 163, 3) := by decide +kernel
theorem dX9_canBe_35 : decode cX9_canBe 35 = .ok (.ifCond .eq 7, 3) := by decide +kernel
theorem dX9_canBe_38 : decode cX9_canBe 38 = .ok (.iconst 1, 1) := by decide +kernel
theorem dX9_canBe_39 : decode cX9_canBe 39 = .ok (.goto 4, 3) := by decide +kernel
theorem dX9_canBe_42 : decode cX9_canBe 42 = .ok (.iconst 0, 1) := by decide +kernel
theorem dX9_canBe_43 : decode cX9_canBe 43 = .ok (.ireturn, 1) := by decide +kernel
set_option maxRecDepth 20000 in
theorem ggX9_left_X9_partOf : GoodIn wsX9_left wsX9_partOf := goodIn_r _ [4] (by decide +kernel) (by decide +kernel)
set_option maxRecDepth 20000 in
theorem gX9_left_X9_partOf : GoodIn wsX9_left (va_wsS RX9 135 yX9_partOf wsX9_partOf) := goodIn_app (goodIn_of _ (by decide +kernel)) ggX9_left_X9_partOf
set_option maxRecDepth 20000 in
theorem ggX9_left_X9_findSums : GoodIn wsX9_left wsX9_findSums := goodIn_r _ [8, 9, 10, 11, 12, 3, 13, 33, 34, 35, 36, 37, 38, 39, 40, 41, 42, 43, 44, 45, 46, 47, 48, 49, 50, 51, 52, 53, 54, 55, 56, 57, 58, 59, 60, 61, 62, 63, 64, 65, 66, 67] (by decide +kernel) (by decide +kernel)
set_option maxRecDepth 20000 in
theorem gX9_left_X9_findSums : GoodIn wsX9_left (wsV RX9 141 RX9 yX9_findSums wsX9_findSums) := goodIn_app (goodIn_of _ (by decide +kernel)) ggX9_left_X9_findSums
set_option maxRecDepth 20000 in
theorem ggX9_left_X9_those : GoodIn wsX9_left wsX9_those := goodIn_r _ [17, 18, 19, 20, 21, 3, 22, 10, 33, 34, 35, 36, 37, 38, 39, 40, 41, 42, 43, 44, 45, 46, 47, 48, 49, 50, 51, 52, 53, 54, 55, 56, 57, 58, 59, 60, 61, 62, 63, 64, 65, 66, 67] (by decide +kernel) (by decide +kernel)
set_option maxRecDepth 20000 in
theorem gX9_left_X9_those : GoodIn wsX9_left (wsV RX9 105 RX9 yX9_those wsX9_those) := goodIn_app (goodIn_of _ (by decide +kernel)) ggX9_left_X9_those
set_option maxRecDepth 20000 in
theorem ggX9_left_X9_leftAt : GoodIn wsX9_left wsX9_leftAt := goodIn_r _ [26, 9, 18, 27, 10, 28, 1, 2, 3, 4, 29, 30, 31, 32, 33, 34, 35, 36, 37, 38, 39, 40, 41, 42, 43, 44, 45, 46, 47, 48, 49, 50, 51, 52, 53, 54, 55, 56, 57, 58, 59, 60, 61, 62, 63, 64, 65, 66, 67] (by decide +kernel) (by decide +kernel)
set_option maxRecDepth 20000 in
theorem gX9_left_X9_leftAt : GoodIn wsX9_left (wsV RX9 153 RX9 yX9_leftAt wsX9_leftAt) := goodIn_app (goodIn_of _ (by decide +kernel)) ggX9_left_X9_leftAt
theorem dX9_left_0 : decode cX9_left 0 = .ok (.iload_n 1, 1) := by decide +kernel
theorem dX9_left_1 : decode cX9_left 1 = .ok (.ifCond .lt 33, 3) := by decide +kernel
theorem dX9_left_4 : decode cX9_left 4 = .ok (.iload_n 1, 1) := by decide +kernel
theorem dX9_left_5 : decode cX9_left 5 = .ok (.iconst 0, 1) := by decide +kernel
theorem dX9_left_6 : decode cX9_left 6 = .ok (.invokestatic 135, 3) := by decide +kernel
theorem dX9_left_9 : decode cX9_left 9 = .ok (.bipush 12, 2) := by decide +kernel
theorem dX9_left_11 : decode cX9_left 11 = .ok (.if_icmp .gt 23, 3) := by decide +kernel
theorem dX9_left_14 : decode cX9_left 14 = .ok (.iload_n 1, 1) := by decide +kernel
theorem dX9_left_15 : decode cX9_left 15 = .ok (.iconst 1, 1) := by decide +kernel
theorem dX9_left_16 : decode cX9_left 16 = .ok (.invokestatic 135, 3) := by decide +kernel
theorem dX9_left_19 : decode cX9_left 19 = .ok (.bipush 12, 2) := by decide +kernel
theorem dX9_left_21 : decode cX9_left 21 = .ok (.if_icmp .gt 13, 3) := by decide +kernel
theorem dX9_left_24 : decode cX9_left 24 = .ok (.iload_n 1, 1) := by decide +kernel
theorem dX9_left_25 : decode cX9_left 25 = .ok (.iconst 2, 1) := by decide +kernel
theorem dX9_left_26 : decode cX9_left 26 = .ok (.invokestatic 135, 3) := by decide +kernel
theorem dX9_left_29 : decode cX9_left 29 = .ok (.bipush 12, 2) := by decide +kernel
theorem dX9_left_31 : decode cX9_left 31 = .ok (.if_icmp .le 7, 3) := by decide +kernel
theorem dX9_left_34 : decode cX9_left 34 = .ok (.sipush (-10000), 3) := by decide +kernel
theorem dX9_left_37 : decode cX9_left 37 = .ok (.ireturn, 1) := by decide +kernel
theorem dX9_left_38 : decode cX9_left 38 = .ok (.aload_n 0, 1) := by decide +kernel
theorem dX9_left_39 : decode cX9_left 39 = .ok (.invokevirtual 141, 3) := by decide +kernel
theorem dX9_left_42 : decode cX9_left 42 = .ok (.aload_n 0, 1) := by decide +kernel
theorem dX9_left_43 : decode cX9_left 43 = .ok (.iload_n 1, 1) := by decide +kernel
theorem dX9_left_44 : decode cX9_left 44 = .ok (.aload_n 0, 1) := by decide +kernel
theorem dX9_left_45 : decode cX9_left 45 = .ok (.iconst 1, 1) := by decide +kernel
theorem dX9_left_46 : decode cX9_left 46 = .ok (.invokevirtual 105, 3) := by decide +kernel
theorem dX9_left_49 : decode cX9_left 49 = .ok (.invokevirtual 153, 3) := by decide +kernel
theorem dX9_left_52 : decode cX9_left 52 = .ok (.ireturn, 1) := by decide +kernel
set_option maxRecDepth 20000 in
theorem ggX9_feed_X9_isIn : GoodIn wsX9_feed wsX9_isIn := goodIn_r _ [6] (by decide +kernel) (by decide +kernel)
set_option maxRecDepth 20000 in
theorem gX9_feed_X9_isIn : GoodIn wsX9_feed (va_wsS RX9 83 yX9_isIn wsX9_isIn) := goodIn_app (goodIn_of _ (by decide +kernel)) ggX9_feed_X9_isIn
theorem dX9_feed_0 : decode cX9_feed 0 = .ok (.iload_n 1, 1) := by decide +kernel
theorem dX9_feed_1 : decode cX9_feed 1 = .ok (.bipush 32, 2) := by decide +kernel
theorem dX9_feed_3 : decode cX9_feed 3 = .ok (.bipush 126, 2) := by decide +kernel
theorem dX9_feed_5 : decode cX9_feed 5 = .ok (.invokestatic 83, 3) := by decide +kernel
theorem dX9_feed_8 : decode cX9_feed 8 = .ok (.ifCond .ne 5, 3) := by decide +kernel
theorem dX9_feed_11 : decode cX9_feed 11 = .ok (.iconst (-1), 1) := by decide +kernel
theorem dX9_feed_12 : decode cX9_feed 12 = .ok (.ireturn, 1) := by decide +kernel
theorem dX9_feed_13 : decode cX9_feed 13 = .ok (.aload_n 0, 1) := by decide +kernel
theorem dX9_feed_14 : decode cX9_feed 14 = .ok (.getfield 167, 3) := by decide +kernel
theorem dX9_feed_17 : decode cX9_feed 17 = .ok (.bipush 100, 2) := by decide +kernel
theorem dX9_feed_19 : decode cX9_feed 19 = .ok (.if_icmp .ne 6, 3) := by decide +kernel
theorem dX9_feed_22 : decode cX9_feed 22 = .ok (.bipush (-3), 2) := by decide +kernel
theorem dX9_feed_24 : decode cX9_feed 24 = .ok (.ireturn, 1) := by decide +kernel
theorem dX9_feed_25 : decode cX9_feed 25 = .ok (.aload_n 0, 1) := by decide +kernel
theorem dX9_feed_26 : decode cX9_feed 26 = .ok (.getfield 49, 3) := by decide +kernel
theorem dX9_feed_29 : decode cX9_feed 29 = .ok (.aload_n 0, 1) := by decide +kernel
theorem dX9_feed_30 : decode cX9_feed 30 = .ok (.getfield 167, 3) := by decide +kernel
theorem dX9_feed_33 : decode cX9_feed 33 = .ok (.iload_n 1, 1) := by decide +kernel
theorem dX9_feed_34 : decode cX9_feed 34 = .ok (.iastore, 1) := by decide +kernel
theorem dX9_feed_35 : decode cX9_feed 35 = .ok (.aload_n 0, 1) := by decide +kernel
theorem dX9_feed_36 : decode cX9_feed 36 = .ok (.dup, 1) := by decide +kernel
theorem dX9_feed_37 : decode cX9_feed 37 = .ok (.getfield 167, 3) := by decide +kernel
theorem dX9_feed_40 : decode cX9_feed 40 = .ok (.iconst 1, 1) := by decide +kernel
theorem dX9_feed_41 : decode cX9_feed 41 = .ok (.iadd, 1) := by decide +kernel
theorem dX9_feed_42 : decode cX9_feed 42 = .ok (.putfield 167, 3) := by decide +kernel
theorem dX9_feed_45 : decode cX9_feed 45 = .ok (.aload_n 0, 1) := by decide +kernel
theorem dX9_feed_46 : decode cX9_feed 46 = .ok (.getfield 167, 3) := by decide +kernel
theorem dX9_feed_49 : decode cX9_feed 49 = .ok (.ireturn, 1) := by decide +kernel
set_option maxRecDepth 20000 in
theorem ggX9_isSign_X9_isIn : GoodIn wsX9_isSign wsX9_isIn := goodIn_r _ [7] (by decide +kernel) (by decide +kernel)
set_option maxRecDepth 20000 in
theorem gX9_isSign_X9_isIn : GoodIn wsX9_isSign (va_wsS RX9 83 yX9_isIn wsX9_isIn) := goodIn_app (goodIn_of _ (by decide +kernel)) ggX9_isSign_X9_isIn
theorem dX9_isSign_0 : decode cX9_isSign 0 = .ok (.aload_n 0, 1) := by decide +kernel
theorem dX9_isSign_1 : decode cX9_isSign 1 = .ok (.getfield 170, 3) := by decide +kernel
theorem dX9_isSign_4 : decode cX9_isSign 4 = .ok (.aload_n 0, 1) := by decide +kernel
theorem dX9_isSign_5 : decode cX9_isSign 5 = .ok (.getfield 167, 3) := by decide +kernel
theorem dX9_isSign_8 : decode cX9_isSign 8 = .ok (.if_icmp .ge 24, 3) := by decide +kernel
theorem dX9_isSign_11 : decode cX9_isSign 11 = .ok (.aload_n 0, 1) := by decide +kernel
theorem dX9_isSign_12 : decode cX9_isSign 12 = .ok (.getfield 49, 3) := by decide +kernel
theorem dX9_isSign_15 : decode cX9_isSign 15 = .ok (.aload_n 0, 1) := by decide +kernel
theorem dX9_isSign_16 : decode cX9_isSign 16 = .ok (.getfield 170, 3) := by decide +kernel
theorem dX9_isSign_19 : decode cX9_isSign 19 = .ok (.iaload, 1) := by decide +kernel
theorem dX9_isSign_20 : decode cX9_isSign 20 = .ok (.iload_n 1, 1) := by decide +kernel
theorem dX9_isSign_21 : decode cX9_isSign 21 = .ok (.iload_n 2, 1) := by decide +kernel
theorem dX9_isSign_22 : decode cX9_isSign 22 = .ok (.invokestatic 83, 3) := by decide +kernel
theorem dX9_isSign_25 : decode cX9_isSign 25 = .ok (.ifCond .eq 7, 3) := by decide +kernel
theorem dX9_isSign_28 : decode cX9_isSign 28 = .ok (.iconst 1, 1) := by decide +kernel
theorem dX9_isSign_29 : decode cX9_isSign 29 = .ok (.goto 4, 3) := by decide +kernel
theorem dX9_isSign_32 : decode cX9_isSign 32 = .ok (.iconst 0, 1) := by decide +kernel
theorem dX9_isSign_33 : decode cX9_isSign 33 = .ok (.ireturn, 1) := by decide +kernel
set_option maxRecDepth 20000 in
theorem ggX9_goesOn_X9_isSign : GoodIn wsX9_goesOn wsX9_isSign := goodIn_r _ [6, 1, 7, 8, 9, 10, 5, 11, 12, 13, 14, 15, 16, 17, 18, 19, 20, 21, 22, 23, 24, 25, 26, 27, 28, 29, 30, 31, 32, 33, 34, 35, 36, 37, 38, 39, 40, 41, 42, 43, 44, 45, 46] (by decide +kernel) (by decide +kernel)
set_option maxRecDepth 20000 in
theorem gX9_goesOn_X9_isSign : GoodIn wsX9_goesOn (wsV RX9 173 RX9 yX9_isSign wsX9_isSign) := goodIn_app (goodIn_of _ (by decide +kernel)) ggX9_goesOn_X9_isSign
theorem dX9_goesOn_0 : decode cX9_goesOn 0 = .ok (.aload_n 0, 1) := by decide +kernel
theorem dX9_goesOn_1 : decode cX9_goesOn 1 = .ok (.iload_n 1, 1) := by decide +kernel
theorem dX9_goesOn_2 : decode cX9_goesOn 2 = .ok (.iload_n 1, 1) := by decide +kernel
theorem dX9_goesOn_3 : decode cX9_goesOn 3 = .ok (.invokevirtual 173, 3) := by decide +kernel
theorem dX9_goesOn_6 : decode cX9_goesOn 6 = .ok (.ifCond .ne 5, 3) := by decide +kernel
theorem dX9_goesOn_9 : decode cX9_goesOn 9 = .ok (.iconst 0, 1) := by decide +kernel
theorem dX9_goesOn_10 : decode cX9_goesOn 10 = .ok (.ireturn, 1) := by decide +kernel
theorem dX9_goesOn_11 : decode cX9_goesOn 11 = .ok (.aload_n 0, 1) := by decide +kernel
theorem dX9_goesOn_12 : decode cX9_goesOn 12 = .ok (.dup, 1) := by decide +kernel
theorem dX9_goesOn_13 : decode cX9_goesOn 13 = .ok (.getfield 170, 3) := by decide +kernel
theorem dX9_goesOn_16 : decode cX9_goesOn 16 = .ok (.iconst 1, 1) := by decide +kernel
theorem dX9_goesOn_17 : decode cX9_goesOn 17 = .ok (.iadd, 1) := by decide +kernel
theorem dX9_goesOn_18 : decode cX9_goesOn 18 = .ok (.putfield 170, 3) := by decide +kernel
theorem dX9_goesOn_21 : decode cX9_goesOn 21 = .ok (.iconst 1, 1) := by decide +kernel
theorem dX9_goesOn_22 : decode cX9_goesOn 22 = .ok (.ireturn, 1) := by decide +kernel
set_option maxRecDepth 20000 in
theorem ggX9_number_X9_isSign : GoodIn wsX9_number wsX9_isSign := goodIn_r _ [7, 1, 8, 2, 9, 10, 6, 11, 17, 18, 19, 20, 21, 22, 23, 24, 25, 26, 27, 28, 29, 30, 31, 32, 33, 34, 35, 36, 37, 38, 39, 40, 41, 42, 43, 44, 45, 46, 47, 48, 49, 50, 51] (by decide +kernel) (by decide +kernel)
set_option maxRecDepth 20000 in
theorem gX9_number_X9_isSign : GoodIn wsX9_number (wsV RX9 173 RX9 yX9_isSign wsX9_isSign) := goodIn_app (goodIn_of _ (by decide +kernel)) ggX9_number_X9_isSign
set_option maxRecDepth 20000 in
theorem ggX9_number_X9_faults : GoodIn wsX9_number wsX9_faults := goodIn_r _ [15, 16, 17, 18, 19, 20, 21, 22, 23, 24, 25, 26, 27, 28, 29, 30, 31, 32, 33, 34, 35, 36, 37, 38, 39, 40, 41, 42, 43, 44, 45, 46, 47, 48, 49, 50, 51] (by decide +kernel) (by decide +kernel)
set_option maxRecDepth 20000 in
theorem gX9_number_X9_faults : GoodIn wsX9_number (wsV RX9 176 RX9 yX9_faults wsX9_faults) := goodIn_app (goodIn_of _ (by decide +kernel)) ggX9_number_X9_faults
set_option maxRecDepth 20000 in
theorem ggX9_number_X9_isIn : GoodIn wsX9_number wsX9_isIn := goodIn_r _ [11] (by decide +kernel) (by decide +kernel)
set_option maxRecDepth 20000 in
theorem gX9_number_X9_isIn : GoodIn wsX9_number (va_wsS RX9 83 yX9_isIn wsX9_isIn) := goodIn_app (goodIn_of _ (by decide +kernel)) ggX9_number_X9_isIn
theorem dX9_number_0 : decode cX9_number 0 = .ok (.aload_n 0, 1) := by decide +kernel
theorem dX9_number_1 : decode cX9_number 1 = .ok (.getfield 170, 3) := by decide +kernel
theorem dX9_number_4 : decode cX9_number 4 = .ok (.istore 4, 2) := by decide +kernel
theorem dX9_number_6 : decode cX9_number 6 = .ok (.iconst 0, 1) := by decide +kernel
theorem dX9_number_7 : decode cX9_number 7 = .ok (.istore 5, 2) := by decide +kernel
theorem dX9_number_9 : decode cX9_number 9 = .ok (.aload_n 0, 1) := by decide +kernel
theorem dX9_number_10 : decode cX9_number 10 = .ok (.getfield 170, 3) := by decide +kernel
theorem dX9_number_13 : decode cX9_number 13 = .ok (.iload 4, 2) := by decide +kernel
theorem dX9_number_15 : decode cX9_number 15 = .ok (.iload_n 1, 1) := by decide +kernel
theorem dX9_number_16 : decode cX9_number 16 = .ok (.iadd, 1) := by decide +kernel
theorem dX9_number_17 : decode cX9_number 17 = .ok (.if_icmp .ge 47, 3) := by decide +kernel
theorem dX9_number_20 : decode cX9_number 20 = .ok (.aload_n 0, 1) := by decide +kernel
theorem dX9_number_21 : decode cX9_number 21 = .ok (.bipush 48, 2) := by decide +kernel
theorem dX9_number_23 : decode cX9_number 23 = .ok (.bipush 57, 2) := by decide +kernel
theorem dX9_number_25 : decode cX9_number 25 = .ok (.invokevirtual 173, 3) := by decide +kernel
theorem dX9_number_28 : decode cX9_number 28 = .ok (.ifCond .eq 36, 3) := by decide +kernel
theorem dX9_number_31 : decode cX9_number 31 = .ok (.bipush 10, 2) := by decide +kernel
theorem dX9_number_33 : decode cX9_number 33 = .ok (.iload 5, 2) := by decide +kernel
theorem dX9_number_35 : decode cX9_number 35 = .ok (.imul, 1) := by decide +kernel
theorem dX9_number_36 : decode cX9_number 36 = .ok (.aload_n 0, 1) := by decide +kernel
theorem dX9_number_37 : decode cX9_number 37 = .ok (.getfield 49, 3) := by decide +kernel
theorem dX9_number_40 : decode cX9_number 40 = .ok (.aload_n 0, 1) := by decide +kernel
theorem dX9_number_41 : decode cX9_number 41 = .ok (.getfield 170, 3) := by decide +kernel
theorem dX9_number_44 : decode cX9_number 44 = .ok (.iaload, 1) := by decide +kernel
theorem dX9_number_45 : decode cX9_number 45 = .ok (.iadd, 1) := by decide +kernel
theorem dX9_number_46 : decode cX9_number 46 = .ok (.bipush 48, 2) := by decide +kernel
theorem dX9_number_48 : decode cX9_number 48 = .ok (.isub, 1) := by decide +kernel
theorem dX9_number_49 : decode cX9_number 49 = .ok (.istore 5, 2) := by decide +kernel
theorem dX9_number_51 : decode cX9_number 51 = .ok (.aload_n 0, 1) := by decide +kernel
theorem dX9_number_52 : decode cX9_number 52 = .ok (.dup, 1) := by decide +kernel
theorem dX9_number_53 : decode cX9_number 53 = .ok (.getfield 170, 3) := by decide +kernel
theorem dX9_number_56 : decode cX9_number 56 = .ok (.iconst 1, 1) := by decide +kernel
theorem dX9_number_57 : decode cX9_number 57 = .ok (.iadd, 1) := by decide +kernel
theorem dX9_number_58 : decode cX9_number 58 = .ok (.putfield 170, 3) := by decide +kernel
theorem dX9_number_61 : decode cX9_number 61 = .ok (.goto (-52), 3) := by decide +kernel
theorem dX9_number_64 : decode cX9_number 64 = .ok (.aload_n 0, 1) := by decide +kernel
theorem dX9_number_65 : decode cX9_number 65 = .ok (.getfield 170, 3) := by decide +kernel
theorem dX9_number_68 : decode cX9_number 68 = .ok (.iload 4, 2) := by decide +kernel
theorem dX9_number_70 : decode cX9_number 70 = .ok (.if_icmp .ne 12, 3) := by decide +kernel
theorem dX9_number_73 : decode cX9_number 73 = .ok (.aload_n 0, 1) := by decide +kernel
theorem dX9_number_74 : decode cX9_number 74 = .ok (.aload_n 0, 1) := by decide +kernel
theorem dX9_number_75 : decode cX9_number 75 = .ok (.getfield 170, 3) := by decide +kernel
theorem dX9_number_78 : decode cX9_number 78 = .ok (.invokevirtual 176, 3) := by decide +kernel
theorem dX9_number_81 : decode cX9_number 81 = .ok (.ireturn, 1) := by decide +kernel
theorem dX9_number_82 : decode cX9_number 82 = .ok (.iload 5, 2) := by decide +kernel
theorem dX9_number_84 : decode cX9_number 84 = .ok (.iload_n 2, 1) := by decide +kernel
theorem dX9_number_85 : decode cX9_number 85 = .ok (.iload_n 3, 1) := by decide +kernel
theorem dX9_number_86 : decode cX9_number 86 = .ok (.invokestatic 83, 3) := by decide +kernel
theorem dX9_number_89 : decode cX9_number 89 = .ok (.ifCond .eq 8, 3) := by decide +kernel
theorem dX9_number_92 : decode cX9_number 92 = .ok (.iload 5, 2) := by decide +kernel
theorem dX9_number_94 : decode cX9_number 94 = .ok (.goto 9, 3) := by decide +kernel
theorem dX9_number_97 : decode cX9_number 97 = .ok (.aload_n 0, 1) := by decide +kernel
theorem dX9_number_98 : decode cX9_number 98 = .ok (.iload 4, 2) := by decide +kernel
theorem dX9_number_100 : decode cX9_number 100 = .ok (.invokevirtual 176, 3) := by decide +kernel
theorem dX9_number_103 : decode cX9_number 103 = .ok (.ireturn, 1) := by decide +kernel
theorem dX9_faults_0 : decode cX9_faults 0 = .ok (.aload_n 0, 1) := by decide +kernel
theorem dX9_faults_1 : decode cX9_faults 1 = .ok (.iload_n 1, 1) := by decide +kernel
theorem dX9_faults_2 : decode cX9_faults 2 = .ok (.putfield 179, 3) := by decide +kernel
theorem dX9_faults_5 : decode cX9_faults 5 = .ok (.iconst (-1), 1) := by decide +kernel
theorem dX9_faults_6 : decode cX9_faults 6 = .ok (.ireturn, 1) := by decide +kernel
set_option maxRecDepth 20000 in
theorem ggX9_letters_X9_isSign : GoodIn wsX9_letters wsX9_isSign := goodIn_r _ [7, 2, 8, 1, 9, 10, 6, 11, 17, 18, 19, 20, 21, 22, 23, 24, 25, 26, 27, 28, 29, 30, 31, 32, 33, 34, 35, 36, 37, 38, 39, 40, 41, 42, 43, 44, 45, 46, 47, 48, 49, 50, 51] (by decide +kernel) (by decide +kernel)
set_option maxRecDepth 20000 in
theorem gX9_letters_X9_isSign : GoodIn wsX9_letters (wsV RX9 173 RX9 yX9_isSign wsX9_isSign) := goodIn_app (goodIn_of _ (by decide +kernel)) ggX9_letters_X9_isSign
set_option maxRecDepth 20000 in
theorem ggX9_letters_X9_faults : GoodIn wsX9_letters wsX9_faults := goodIn_r _ [15, 16, 17, 18, 19, 20, 21, 22, 23, 24, 25, 26, 27, 28, 29, 30, 31, 32, 33, 34, 35, 36, 37, 38, 39, 40, 41, 42, 43, 44, 45, 46, 47, 48, 49, 50, 51] (by decide +kernel) (by decide +kernel)
set_option maxRecDepth 20000 in
theorem gX9_letters_X9_faults : GoodIn wsX9_letters (wsV RX9 176 RX9 yX9_faults wsX9_faults) := goodIn_app (goodIn_of _ (by decide +kernel)) ggX9_letters_X9_faults
theorem dX9_letters_0 : decode cX9_letters 0 = .ok (.iconst 0, 1) := by decide +kernel
theorem dX9_letters_1 : decode cX9_letters 1 = .ok (.istore_n 1, 1) := by decide +kernel
theorem dX9_letters_2 : decode cX9_letters 2 = .ok (.aload_n 0, 1) := by decide +kernel
theorem dX9_letters_3 : decode cX9_letters 3 = .ok (.bipush 97, 2) := by decide +kernel
theorem dX9_letters_5 : decode cX9_letters 5 = .ok (.bipush 99, 2) := by decide +kernel
theorem dX9_letters_7 : decode cX9_letters 7 = .ok (.invokevirtual 173, 3) := by decide +kernel
theorem dX9_letters_10 : decode cX9_letters 10 = .ok (.ifCond .eq 50, 3) := by decide +kernel
theorem dX9_letters_13 : decode cX9_letters 13 = .ok (.iconst 1, 1) := by decide +kernel
theorem dX9_letters_14 : decode cX9_letters 14 = .ok (.aload_n 0, 1) := by decide +kernel
theorem dX9_letters_15 : decode cX9_letters 15 = .ok (.getfield 49, 3) := by decide +kernel
theorem dX9_letters_18 : decode cX9_letters 18 = .ok (.aload_n 0, 1) := by decide +kernel
theorem dX9_letters_19 : decode cX9_letters 19 = .ok (.getfield 170, 3) := by decide +kernel
theorem dX9_letters_22 : decode cX9_letters 22 = .ok (.iaload, 1) := by decide +kernel
theorem dX9_letters_23 : decode cX9_letters 23 = .ok (.bipush 97, 2) := by decide +kernel
theorem dX9_letters_25 : decode cX9_letters 25 = .ok (.isub, 1) := by decide +kernel
theorem dX9_letters_26 : decode cX9_letters 26 = .ok (.ishl, 1) := by decide +kernel
theorem dX9_letters_27 : decode cX9_letters 27 = .ok (.istore_n 2, 1) := by decide +kernel
theorem dX9_letters_28 : decode cX9_letters 28 = .ok (.iload_n 1, 1) := by decide +kernel
theorem dX9_letters_29 : decode cX9_letters 29 = .ok (.iload_n 2, 1) := by decide +kernel
theorem dX9_letters_30 : decode cX9_letters 30 = .ok (.iand, 1) := by decide +kernel
theorem dX9_letters_31 : decode cX9_letters 31 = .ok (.ifCond .eq 12, 3) := by decide +kernel
theorem dX9_letters_34 : decode cX9_letters 34 = .ok (.aload_n 0, 1) := by decide +kernel
theorem dX9_letters_35 : decode cX9_letters 35 = .ok (.aload_n 0, 1) := by decide +kernel
theorem dX9_letters_36 : decode cX9_letters 36 = .ok (.getfield 170, 3) := by decide +kernel
theorem dX9_letters_39 : decode cX9_letters 39 = .ok (.invokevirtual 176, 3) := by decide +kernel
theorem dX9_letters_42 : decode cX9_letters 42 = .ok (.ireturn, 1) := by decide +kernel
theorem dX9_letters_43 : decode cX9_letters 43 = .ok (.iload_n 1, 1) := by decide +kernel
theorem dX9_letters_44 : decode cX9_letters 44 = .ok (.iload_n 2, 1) := by decide +kernel
theorem dX9_letters_45 : decode cX9_letters 45 = .ok (.ior, 1) := by decide +kernel
theorem dX9_letters_46 : decode cX9_letters 46 = .ok (.istore_n 1, 1) := by decide +kernel
theorem dX9_letters_47 : decode cX9_letters 47 = .ok (.aload_n 0, 1) := by decide +kernel
theorem dX9_letters_48 : decode cX9_letters 48 = .ok (.dup, 1) := by decide +kernel
theorem dX9_letters_49 : decode cX9_letters 49 = .ok (.getfield 170, 3) := by decide +kernel
theorem dX9_letters_52 : decode cX9_letters 52 = .ok (.iconst 1, 1) := by decide +kernel
theorem dX9_letters_53 : decode cX9_letters 53 = .ok (.iadd, 1) := by decide +kernel
theorem dX9_letters_54 : decode cX9_letters 54 = .ok (.putfield 170, 3) := by decide +kernel
theorem dX9_letters_57 : decode cX9_letters 57 = .ok (.goto (-55), 3) := by decide +kernel
theorem dX9_letters_60 : decode cX9_letters 60 = .ok (.iload_n 1, 1) := by decide +kernel
theorem dX9_letters_61 : decode cX9_letters 61 = .ok (.ifCond .ne 14, 3) := by decide +kernel
theorem dX9_letters_64 : decode cX9_letters 64 = .ok (.aload_n 0, 1) := by decide +kernel
theorem dX9_letters_65 : decode cX9_letters 65 = .ok (.aload_n 0, 1) := by decide +kernel
theorem dX9_letters_66 : decode cX9_letters 66 = .ok (.getfield 170, 3) := by decide +kernel
theorem dX9_letters_69 : decode cX9_letters 69 = .ok (.invokevirtual 176, 3) := by decide +kernel
theorem dX9_letters_72 : decode cX9_letters 72 = .ok (.goto 4, 3) := by decide +kernel
theorem dX9_letters_75 : decode cX9_letters 75 = .ok (.iload_n 1, 1) := by decide +kernel
theorem dX9_letters_76 : decode cX9_letters 76 = .ok (.ireturn, 1) := by decide +kernel
set_option maxRecDepth 20000 in
theorem ggX9_readsLine_X9_number : GoodIn wsX9_readsLine wsX9_number := goodIn_r _ [7, 2, 8, 9, 10, 11, 6, 12, 13, 14, 15, 16, 17, 18, 19, 20, 21, 30, 31, 32, 33, 34, 35, 36, 37, 38, 39, 40, 41, 42, 43, 44, 45, 46, 47, 48, 49, 50, 51, 52, 53, 54, 55, 56, 57, 58, 59, 60, 61, 62, 63, 64] (by decide +kernel) (by decide +kernel)
set_option maxRecDepth 20000 in
theorem gX9_readsLine_X9_number : GoodIn wsX9_readsLine (wsV RX9 182 RX9 yX9_number wsX9_number) := goodIn_app (goodIn_of _ (by decide +kernel)) ggX9_readsLine_X9_number
set_option maxRecDepth 20000 in
theorem ggX9_readsLine_X9_letters : GoodIn wsX9_readsLine wsX9_letters := goodIn_r _ [25, 8, 2, 9, 10, 11, 6, 12, 13, 14, 15, 16, 17, 18, 19, 20, 21, 30, 31, 32, 33, 34, 35, 36, 37, 38, 39, 40, 41, 42, 43, 44, 45, 46, 47, 48, 49, 50, 51, 52, 53, 54, 55, 56, 57, 58, 59, 60, 61, 62, 63, 64] (by decide +kernel) (by decide +kernel)
set_option maxRecDepth 20000 in
theorem gX9_readsLine_X9_letters : GoodIn wsX9_readsLine (wsV RX9 186 RX9 yX9_letters wsX9_letters) := goodIn_app (goodIn_of _ (by decide +kernel)) ggX9_readsLine_X9_letters
set_option maxRecDepth 20000 in
theorem ggX9_readsLine_X9_goesOn : GoodIn wsX9_readsLine wsX9_goesOn := goodIn_r _ [29, 2, 9, 10, 11, 6, 12, 13, 8, 14, 15, 16, 30, 31, 32, 33, 34, 35, 36, 37, 38, 39, 40, 41, 42, 43, 44, 45, 46, 47, 48, 49, 50, 51, 52, 53, 54, 55, 56, 57, 58, 59, 60, 61, 62, 63, 64] (by decide +kernel) (by decide +kernel)
set_option maxRecDepth 20000 in
theorem gX9_readsLine_X9_goesOn : GoodIn wsX9_readsLine (wsV RX9 189 RX9 yX9_goesOn wsX9_goesOn) := goodIn_app (goodIn_of _ (by decide +kernel)) ggX9_readsLine_X9_goesOn
set_option maxRecDepth 20000 in
theorem ggX9_readsLine_X9_faults : GoodIn wsX9_readsLine wsX9_faults := goodIn_r _ [20, 21, 30, 31, 32, 33, 34, 35, 36, 37, 38, 39, 40, 41, 42, 43, 44, 45, 46, 47, 48, 49, 50, 51, 52, 53, 54, 55, 56, 57, 58, 59, 60, 61, 62, 63, 64] (by decide +kernel) (by decide +kernel)
set_option maxRecDepth 20000 in
theorem gX9_readsLine_X9_faults : GoodIn wsX9_readsLine (wsV RX9 176 RX9 yX9_faults wsX9_faults) := goodIn_app (goodIn_of _ (by decide +kernel)) ggX9_readsLine_X9_faults
theorem dX9_readsLine_0 : decode cX9_readsLine 0 = .ok (.aload_n 0, 1) := by decide +kernel
theorem dX9_readsLine_1 : decode cX9_readsLine 1 = .ok (.getfield 52, 3) := by decide +kernel
theorem dX9_readsLine_4 : decode cX9_readsLine 4 = .ok (.iconst 0, 1) := by decide +kernel
theorem dX9_readsLine_5 : decode cX9_readsLine 5 = .ok (.aload_n 0, 1) := by decide +kernel
theorem dX9_readsLine_6 : decode cX9_readsLine 6 = .ok (.iconst 2, 1) := by decide +kernel
theorem dX9_readsLine_7 : decode cX9_readsLine 7 = .ok (.iconst 1, 1) := by decide +kernel
theorem dX9_readsLine_8 : decode cX9_readsLine 8 = .ok (.bipush 60, 2) := by decide +kernel
theorem dX9_readsLine_10 : decode cX9_readsLine 10 = .ok (.invokevirtual 182, 3) := by decide +kernel
theorem dX9_readsLine_13 : decode cX9_readsLine 13 = .ok (.iastore, 1) := by decide +kernel
theorem dX9_readsLine_14 : decode cX9_readsLine 14 = .ok (.aload_n 0, 1) := by decide +kernel
theorem dX9_readsLine_15 : decode cX9_readsLine 15 = .ok (.getfield 52, 3) := by decide +kernel
theorem dX9_readsLine_18 : decode cX9_readsLine 18 = .ok (.iconst 0, 1) := by decide +kernel
theorem dX9_readsLine_19 : decode cX9_readsLine 19 = .ok (.iaload, 1) := by decide +kernel
theorem dX9_readsLine_20 : decode cX9_readsLine 20 = .ok (.ifCond .ge 5, 3) := by decide +kernel
theorem dX9_readsLine_23 : decode cX9_readsLine 23 = .ok (.iconst 0, 1) := by decide +kernel
theorem dX9_readsLine_24 : decode cX9_readsLine 24 = .ok (.ireturn, 1) := by decide +kernel
theorem dX9_readsLine_25 : decode cX9_readsLine 25 = .ok (.aload_n 0, 1) := by decide +kernel
theorem dX9_readsLine_26 : decode cX9_readsLine 26 = .ok (.getfield 52, 3) := by decide +kernel
theorem dX9_readsLine_29 : decode cX9_readsLine 29 = .ok (.iconst 1, 1) := by decide +kernel
theorem dX9_readsLine_30 : decode cX9_readsLine 30 = .ok (.aload_n 0, 1) := by decide +kernel
theorem dX9_readsLine_31 : decode cX9_readsLine 31 = .ok (.invokevirtual 186, 3) := by decide +kernel
theorem dX9_readsLine_34 : decode cX9_readsLine 34 = .ok (.iastore, 1) := by decide +kernel
theorem dX9_readsLine_35 : decode cX9_readsLine 35 = .ok (.aload_n 0, 1) := by decide +kernel
theorem dX9_readsLine_36 : decode cX9_readsLine 36 = .ok (.getfield 52, 3) := by decide +kernel
theorem dX9_readsLine_39 : decode cX9_readsLine 39 = .ok (.iconst 1, 1) := by decide +kernel
theorem dX9_readsLine_40 : decode cX9_readsLine 40 = .ok (.iaload, 1) := by decide +kernel
theorem dX9_readsLine_41 : decode cX9_readsLine 41 = .ok (.ifCond .ge 5, 3) := by decide +kernel
theorem dX9_readsLine_44 : decode cX9_readsLine 44 = .ok (.iconst 0, 1) := by decide +kernel
theorem dX9_readsLine_45 : decode cX9_readsLine 45 = .ok (.ireturn, 1) := by decide +kernel
theorem dX9_readsLine_46 : decode cX9_readsLine 46 = .ok (.aload_n 0, 1) := by decide +kernel
theorem dX9_readsLine_47 : decode cX9_readsLine 47 = .ok (.bipush 64, 2) := by decide +kernel
theorem dX9_readsLine_49 : decode cX9_readsLine 49 = .ok (.invokevirtual 189, 3) := by decide +kernel
theorem dX9_readsLine_52 : decode cX9_readsLine 52 = .ok (.ifCond .ne 20, 3) := by decide +kernel
theorem dX9_readsLine_55 : decode cX9_readsLine 55 = .ok (.aload_n 0, 1) := by decide +kernel
theorem dX9_readsLine_56 : decode cX9_readsLine 56 = .ok (.aload_n 0, 1) := by decide +kernel
theorem dX9_readsLine_57 : decode cX9_readsLine 57 = .ok (.getfield 170, 3) := by decide +kernel
theorem dX9_readsLine_60 : decode cX9_readsLine 60 = .ok (.invokevirtual 176, 3) := by decide +kernel
theorem dX9_readsLine_63 : decode cX9_readsLine 63 = .ok (.ifCond .le 7, 3) := by decide +kernel
theorem dX9_readsLine_66 : decode cX9_readsLine 66 = .ok (.iconst 1, 1) := by decide +kernel
theorem dX9_readsLine_67 : decode cX9_readsLine 67 = .ok (.goto 4, 3) := by decide +kernel
theorem dX9_readsLine_70 : decode cX9_readsLine 70 = .ok (.iconst 0, 1) := by decide +kernel
theorem dX9_readsLine_71 : decode cX9_readsLine 71 = .ok (.ireturn, 1) := by decide +kernel
theorem dX9_readsLine_72 : decode cX9_readsLine 72 = .ok (.aload_n 0, 1) := by decide +kernel
theorem dX9_readsLine_73 : decode cX9_readsLine 73 = .ok (.getfield 52, 3) := by decide +kernel
theorem dX9_readsLine_76 : decode cX9_readsLine 76 = .ok (.iconst 2, 1) := by decide +kernel
theorem dX9_readsLine_77 : decode cX9_readsLine 77 = .ok (.aload_n 0, 1) := by decide +kernel
theorem dX9_readsLine_78 : decode cX9_readsLine 78 = .ok (.iconst 2, 1) := by decide +kernel
theorem dX9_readsLine_79 : decode cX9_readsLine 79 = .ok (.iconst 0, 1) := by decide +kernel
theorem dX9_readsLine_80 : decode cX9_readsLine 80 = .ok (.bipush 11, 2) := by decide +kernel
theorem dX9_readsLine_82 : decode cX9_readsLine 82 = .ok (.invokevirtual 182, 3) := by decide +kernel
theorem dX9_readsLine_85 : decode cX9_readsLine 85 = .ok (.iastore, 1) := by decide +kernel
theorem dX9_readsLine_86 : decode cX9_readsLine 86 = .ok (.aload_n 0, 1) := by decide +kernel
theorem dX9_readsLine_87 : decode cX9_readsLine 87 = .ok (.getfield 52, 3) := by decide +kernel
theorem dX9_readsLine_90 : decode cX9_readsLine 90 = .ok (.iconst 2, 1) := by decide +kernel
theorem dX9_readsLine_91 : decode cX9_readsLine 91 = .ok (.iaload, 1) := by decide +kernel
theorem dX9_readsLine_92 : decode cX9_readsLine 92 = .ok (.ifCond .ge 5, 3) := by decide +kernel
theorem dX9_readsLine_95 : decode cX9_readsLine 95 = .ok (.iconst 0, 1) := by decide +kernel
theorem dX9_readsLine_96 : decode cX9_readsLine 96 = .ok (.ireturn, 1) := by decide +kernel
theorem dX9_readsLine_97 : decode cX9_readsLine 97 = .ok (.aload_n 0, 1) := by decide +kernel
theorem dX9_readsLine_98 : decode cX9_readsLine 98 = .ok (.getfield 52, 3) := by decide +kernel
theorem dX9_readsLine_101 : decode cX9_readsLine 101 = .ok (.iconst 3, 1) := by decide +kernel
theorem dX9_readsLine_102 : decode cX9_readsLine 102 = .ok (.aload_n 0, 1) := by decide +kernel
theorem dX9_readsLine_103 : decode cX9_readsLine 103 = .ok (.bipush 103, 2) := by decide +kernel
theorem dX9_readsLine_105 : decode cX9_readsLine 105 = .ok (.invokevirtual 189, 3) := by decide +kernel
theorem dX9_readsLine_108 : decode cX9_readsLine 108 = .ok (.ifCond .eq 13, 3) := by decide +kernel
theorem dX9_readsLine_111 : decode cX9_readsLine 111 = .ok (.aload_n 0, 1) := by decide +kernel
theorem dX9_readsLine_112 : decode cX9_readsLine 112 = .ok (.iconst 1, 1) := by decide +kernel
theorem dX9_readsLine_113 : decode cX9_readsLine 113 = .ok (.iconst 0, 1) := by decide +kernel
theorem dX9_readsLine_114 : decode cX9_readsLine 114 = .ok (.iconst 3, 1) := by decide +kernel
theorem dX9_readsLine_115 : decode cX9_readsLine 115 = .ok (.invokevirtual 182, 3) := by decide +kernel
theorem dX9_readsLine_118 : decode cX9_readsLine 118 = .ok (.goto 4, 3) := by decide +kernel
theorem dX9_readsLine_121 : decode cX9_readsLine 121 = .ok (.iconst 0, 1) := by decide +kernel
theorem dX9_readsLine_122 : decode cX9_readsLine 122 = .ok (.iastore, 1) := by decide +kernel
theorem dX9_readsLine_123 : decode cX9_readsLine 123 = .ok (.aload_n 0, 1) := by decide +kernel
theorem dX9_readsLine_124 : decode cX9_readsLine 124 = .ok (.getfield 52, 3) := by decide +kernel
theorem dX9_readsLine_127 : decode cX9_readsLine 127 = .ok (.iconst 3, 1) := by decide +kernel
theorem dX9_readsLine_128 : decode cX9_readsLine 128 = .ok (.iaload, 1) := by decide +kernel
theorem dX9_readsLine_129 : decode cX9_readsLine 129 = .ok (.ifCond .ge 5, 3) := by decide +kernel
theorem dX9_readsLine_132 : decode cX9_readsLine 132 = .ok (.iconst 0, 1) := by decide +kernel
theorem dX9_readsLine_133 : decode cX9_readsLine 133 = .ok (.ireturn, 1) := by decide +kernel
theorem dX9_readsLine_134 : decode cX9_readsLine 134 = .ok (.aload_n 0, 1) := by decide +kernel
theorem dX9_readsLine_135 : decode cX9_readsLine 135 = .ok (.getfield 52, 3) := by decide +kernel
theorem dX9_readsLine_138 : decode cX9_readsLine 138 = .ok (.iconst 4, 1) := by decide +kernel
theorem dX9_readsLine_139 : decode cX9_readsLine 139 = .ok (.aload_n 0, 1) := by decide +kernel
theorem dX9_readsLine_140 : decode cX9_readsLine 140 = .ok (.bipush 114, 2) := by decide +kernel
theorem dX9_readsLine_142 : decode cX9_readsLine 142 = .ok (.invokevirtual 189, 3) := by decide +kernel
theorem dX9_readsLine_145 : decode cX9_readsLine 145 = .ok (.ifCond .eq 14, 3) := by decide +kernel
theorem dX9_readsLine_148 : decode cX9_readsLine 148 = .ok (.aload_n 0, 1) := by decide +kernel
theorem dX9_readsLine_149 : decode cX9_readsLine 149 = .ok (.iconst 1, 1) := by decide +kernel
theorem dX9_readsLine_150 : decode cX9_readsLine 150 = .ok (.iconst 0, 1) := by decide +kernel
theorem dX9_readsLine_151 : decode cX9_readsLine 151 = .ok (.bipush 9, 2) := by decide +kernel
theorem dX9_readsLine_153 : decode cX9_readsLine 153 = .ok (.invokevirtual 182, 3) := by decide +kernel
theorem dX9_readsLine_156 : decode cX9_readsLine 156 = .ok (.goto 4, 3) := by decide +kernel
theorem dX9_readsLine_159 : decode cX9_readsLine 159 = .ok (.iconst 0, 1) := by decide +kernel
theorem dX9_readsLine_160 : decode cX9_readsLine 160 = .ok (.iastore, 1) := by decide +kernel
theorem dX9_readsLine_161 : decode cX9_readsLine 161 = .ok (.aload_n 0, 1) := by decide +kernel
theorem dX9_readsLine_162 : decode cX9_readsLine 162 = .ok (.getfield 52, 3) := by decide +kernel
theorem dX9_readsLine_165 : decode cX9_readsLine 165 = .ok (.iconst 4, 1) := by decide +kernel
theorem dX9_readsLine_166 : decode cX9_readsLine 166 = .ok (.iaload, 1) := by decide +kernel
theorem dX9_readsLine_167 : decode cX9_readsLine 167 = .ok (.ifCond .lt 7, 3) := by decide +kernel
theorem dX9_readsLine_170 : decode cX9_readsLine 170 = .ok (.iconst 1, 1) := by decide +kernel
theorem dX9_readsLine_171 : decode cX9_readsLine 171 = .ok (.goto 4, 3) := by decide +kernel
theorem dX9_readsLine_174 : decode cX9_readsLine 174 = .ok (.iconst 0, 1) := by decide +kernel
theorem dX9_readsLine_175 : decode cX9_readsLine 175 = .ok (.ireturn, 1) := by decide +kernel
theorem dX9_comes_0 : decode cX9_comes 0 = .ok (.aload_n 0, 1) := by decide +kernel
theorem dX9_comes_1 : decode cX9_comes 1 = .ok (.getfield 13, 3) := by decide +kernel
theorem dX9_comes_4 : decode cX9_comes 4 = .ok (.aload_n 0, 1) := by decide +kernel
theorem dX9_comes_5 : decode cX9_comes 5 = .ok (.getfield 80, 3) := by decide +kernel
theorem dX9_comes_8 : decode cX9_comes 8 = .ok (.aload_n 0, 1) := by decide +kernel
theorem dX9_comes_9 : decode cX9_comes 9 = .ok (.getfield 52, 3) := by decide +kernel
theorem dX9_comes_12 : decode cX9_comes 12 = .ok (.iconst 0, 1) := by decide +kernel
theorem dX9_comes_13 : decode cX9_comes 13 = .ok (.iaload, 1) := by decide +kernel
theorem dX9_comes_14 : decode cX9_comes 14 = .ok (.iastore, 1) := by decide +kernel
theorem dX9_comes_15 : decode cX9_comes 15 = .ok (.aload_n 0, 1) := by decide +kernel
theorem dX9_comes_16 : decode cX9_comes 16 = .ok (.getfield 16, 3) := by decide +kernel
theorem dX9_comes_19 : decode cX9_comes 19 = .ok (.aload_n 0, 1) := by decide +kernel
theorem dX9_comes_20 : decode cX9_comes 20 = .ok (.getfield 80, 3) := by decide +kernel
theorem dX9_comes_23 : decode cX9_comes 23 = .ok (.aload_n 0, 1) := by decide +kernel
theorem dX9_comes_24 : decode cX9_comes 24 = .ok (.getfield 52, 3) := by decide +kernel
theorem dX9_comes_27 : decode cX9_comes 27 = .ok (.iconst 1, 1) := by decide +kernel
theorem dX9_comes_28 : decode cX9_comes 28 = .ok (.iaload, 1) := by decide +kernel
theorem dX9_comes_29 : decode cX9_comes 29 = .ok (.iastore, 1) := by decide +kernel
theorem dX9_comes_30 : decode cX9_comes 30 = .ok (.aload_n 0, 1) := by decide +kernel
theorem dX9_comes_31 : decode cX9_comes 31 = .ok (.getfield 19, 3) := by decide +kernel
theorem dX9_comes_34 : decode cX9_comes 34 = .ok (.aload_n 0, 1) := by decide +kernel
theorem dX9_comes_35 : decode cX9_comes 35 = .ok (.getfield 80, 3) := by decide +kernel
theorem dX9_comes_38 : decode cX9_comes 38 = .ok (.aload_n 0, 1) := by decide +kernel
theorem dX9_comes_39 : decode cX9_comes 39 = .ok (.getfield 52, 3) := by decide +kernel
theorem dX9_comes_42 : decode cX9_comes 42 = .ok (.iconst 3, 1) := by decide +kernel
theorem dX9_comes_43 : decode cX9_comes 43 = .ok (.iaload, 1) := by decide +kernel
theorem dX9_comes_44 : decode cX9_comes 44 = .ok (.iastore, 1) := by decide +kernel
theorem dX9_comes_45 : decode cX9_comes 45 = .ok (.aload_n 0, 1) := by decide +kernel
theorem dX9_comes_46 : decode cX9_comes 46 = .ok (.getfield 22, 3) := by decide +kernel
theorem dX9_comes_49 : decode cX9_comes 49 = .ok (.aload_n 0, 1) := by decide +kernel
theorem dX9_comes_50 : decode cX9_comes 50 = .ok (.getfield 80, 3) := by decide +kernel
theorem dX9_comes_53 : decode cX9_comes 53 = .ok (.aload_n 0, 1) := by decide +kernel
theorem dX9_comes_54 : decode cX9_comes 54 = .ok (.getfield 52, 3) := by decide +kernel
theorem dX9_comes_57 : decode cX9_comes 57 = .ok (.iconst 4, 1) := by decide +kernel
theorem dX9_comes_58 : decode cX9_comes 58 = .ok (.iaload, 1) := by decide +kernel
theorem dX9_comes_59 : decode cX9_comes 59 = .ok (.iastore, 1) := by decide +kernel
theorem dX9_comes_60 : decode cX9_comes 60 = .ok (.aload_n 0, 1) := by decide +kernel
theorem dX9_comes_61 : decode cX9_comes 61 = .ok (.getfield 9, 3) := by decide +kernel
theorem dX9_comes_64 : decode cX9_comes 64 = .ok (.bipush 40, 2) := by decide +kernel
theorem dX9_comes_66 : decode cX9_comes 66 = .ok (.aload_n 0, 1) := by decide +kernel
theorem dX9_comes_67 : decode cX9_comes 67 = .ok (.getfield 80, 3) := by decide +kernel
theorem dX9_comes_70 : decode cX9_comes 70 = .ok (.iadd, 1) := by decide +kernel
theorem dX9_comes_71 : decode cX9_comes 71 = .ok (.iconst 0, 1) := by decide +kernel
theorem dX9_comes_72 : decode cX9_comes 72 = .ok (.iastore, 1) := by decide +kernel
theorem dX9_comes_73 : decode cX9_comes 73 = .ok (.aload_n 0, 1) := by decide +kernel
theorem dX9_comes_74 : decode cX9_comes 74 = .ok (.getfield 9, 3) := by decide +kernel
theorem dX9_comes_77 : decode cX9_comes 77 = .ok (.bipush 64, 2) := by decide +kernel
theorem dX9_comes_79 : decode cX9_comes 79 = .ok (.aload_n 0, 1) := by decide +kernel
theorem dX9_comes_80 : decode cX9_comes 80 = .ok (.getfield 80, 3) := by decide +kernel
theorem dX9_comes_83 : decode cX9_comes 83 = .ok (.iadd, 1) := by decide +kernel
theorem dX9_comes_84 : decode cX9_comes 84 = .ok (.aload_n 0, 1) := by decide +kernel
theorem dX9_comes_85 : decode cX9_comes 85 = .ok (.getfield 52, 3) := by decide +kernel
theorem dX9_comes_88 : decode cX9_comes 88 = .ok (.iconst 2, 1) := by decide +kernel
theorem dX9_comes_89 : decode cX9_comes 89 = .ok (.iaload, 1) := by decide +kernel
theorem dX9_comes_90 : decode cX9_comes 90 = .ok (.iastore, 1) := by decide +kernel
theorem dX9_comes_91 : decode cX9_comes 91 = .ok (.aload_n 0, 1) := by decide +kernel
theorem dX9_comes_92 : decode cX9_comes 92 = .ok (.dup, 1) := by decide +kernel
theorem dX9_comes_93 : decode cX9_comes 93 = .ok (.getfield 80, 3) := by decide +kernel
theorem dX9_comes_96 : decode cX9_comes 96 = .ok (.iconst 1, 1) := by decide +kernel
theorem dX9_comes_97 : decode cX9_comes 97 = .ok (.iadd, 1) := by decide +kernel
theorem dX9_comes_98 : decode cX9_comes 98 = .ok (.putfield 80, 3) := by decide +kernel
theorem dX9_comes_101 : decode cX9_comes 101 = .ok (.return_, 1) := by decide +kernel
set_option maxRecDepth 20000 in
theorem ggX9_readsAll_X9_faults : GoodIn wsX9_readsAll wsX9_faults := goodIn_r _ [8, 9, 44, 45, 46, 47, 48, 49, 50, 51, 52, 53, 54, 55, 56, 57, 58, 59, 60, 61, 62, 63, 64, 65, 66, 67, 68, 69, 70, 71, 72, 73, 74, 75, 76, 77, 78] (by decide +kernel) (by decide +kernel)
set_option maxRecDepth 20000 in
theorem gX9_readsAll_X9_faults : GoodIn wsX9_readsAll (wsV RX9 176 RX9 yX9_faults wsX9_faults) := goodIn_app (goodIn_of _ (by decide +kernel)) ggX9_readsAll_X9_faults
set_option maxRecDepth 20000 in
theorem ggX9_readsAll_X9_readsLine : GoodIn wsX9_readsAll wsX9_readsLine := goodIn_r _ [13, 14, 1, 15, 16, 17, 7, 18, 19, 20, 21, 22, 23, 3, 24, 25, 26, 4, 5, 6, 8, 9, 27, 28, 29, 30, 31, 32, 33, 34, 44, 45, 46, 47, 48, 49, 50, 51, 52, 53, 54, 55, 56, 57, 58, 59, 60, 61, 62, 63, 64, 65, 66, 67, 68, 69, 70, 71, 72, 73, 74, 75, 76, 77, 78] (by decide +kernel) (by decide +kernel)
set_option maxRecDepth 20000 in
theorem gX9_readsAll_X9_readsLine : GoodIn wsX9_readsAll (wsV RX9 192 RX9 yX9_readsLine wsX9_readsLine) := goodIn_app (goodIn_of _ (by decide +kernel)) ggX9_readsAll_X9_readsLine
set_option maxRecDepth 20000 in
theorem ggX9_readsAll_X9_comes : GoodIn wsX9_readsAll wsX9_comes := goodIn_r _ [38, 39, 2, 14, 40, 41, 42, 43, 44, 45, 46, 47, 48, 49, 50, 51, 52, 53, 54, 55, 56, 57, 58, 59, 60, 61, 62, 63, 64, 65, 66, 67, 68, 69, 70, 71, 72, 73, 74, 75, 76, 77, 78] (by decide +kernel) (by decide +kernel)
set_option maxRecDepth 20000 in
theorem gX9_readsAll_X9_comes : GoodIn wsX9_readsAll (wsV RX9 196 RX9 yX9_comes wsX9_comes) := goodIn_app (goodIn_of _ (by decide +kernel)) ggX9_readsAll_X9_comes
set_option maxRecDepth 20000 in
theorem ggX9_readsAll_X9_goesOn : GoodIn wsX9_readsAll wsX9_goesOn := goodIn_r _ [34, 1, 20, 21, 22, 7, 23, 3, 19, 24, 25, 26, 44, 45, 46, 47, 48, 49, 50, 51, 52, 53, 54, 55, 56, 57, 58, 59, 60, 61, 62, 63, 64, 65, 66, 67, 68, 69, 70, 71, 72, 73, 74, 75, 76, 77, 78] (by decide +kernel) (by decide +kernel)
set_option maxRecDepth 20000 in
theorem gX9_readsAll_X9_goesOn : GoodIn wsX9_readsAll (wsV RX9 189 RX9 yX9_goesOn wsX9_goesOn) := goodIn_app (goodIn_of _ (by decide +kernel)) ggX9_readsAll_X9_goesOn
theorem dX9_readsAll_0 : decode cX9_readsAll 0 = .ok (.aload_n 0, 1) := by decide +kernel
theorem dX9_readsAll_1 : decode cX9_readsAll 1 = .ok (.iconst 0, 1) := by decide +kernel
theorem dX9_readsAll_2 : decode cX9_readsAll 2 = .ok (.putfield 170, 3) := by decide +kernel
theorem dX9_readsAll_5 : decode cX9_readsAll 5 = .ok (.aload_n 0, 1) := by decide +kernel
theorem dX9_readsAll_6 : decode cX9_readsAll 6 = .ok (.getfield 80, 3) := by decide +kernel
theorem dX9_readsAll_9 : decode cX9_readsAll 9 = .ok (.bipush 24, 2) := by decide +kernel
theorem dX9_readsAll_11 : decode cX9_readsAll 11 = .ok (.if_icmp .ne 20, 3) := by decide +kernel
theorem dX9_readsAll_14 : decode cX9_readsAll 14 = .ok (.aload_n 0, 1) := by decide +kernel
theorem dX9_readsAll_15 : decode cX9_readsAll 15 = .ok (.aload_n 0, 1) := by decide +kernel
theorem dX9_readsAll_16 : decode cX9_readsAll 16 = .ok (.getfield 170, 3) := by decide +kernel
theorem dX9_readsAll_19 : decode cX9_readsAll 19 = .ok (.invokevirtual 176, 3) := by decide +kernel
theorem dX9_readsAll_22 : decode cX9_readsAll 22 = .ok (.ifCond .le 7, 3) := by decide +kernel
theorem dX9_readsAll_25 : decode cX9_readsAll 25 = .ok (.iconst 1, 1) := by decide +kernel
theorem dX9_readsAll_26 : decode cX9_readsAll 26 = .ok (.goto 4, 3) := by decide +kernel
theorem dX9_readsAll_29 : decode cX9_readsAll 29 = .ok (.iconst 0, 1) := by decide +kernel
theorem dX9_readsAll_30 : decode cX9_readsAll 30 = .ok (.ireturn, 1) := by decide +kernel
theorem dX9_readsAll_31 : decode cX9_readsAll 31 = .ok (.aload_n 0, 1) := by decide +kernel
theorem dX9_readsAll_32 : decode cX9_readsAll 32 = .ok (.invokevirtual 192, 3) := by decide +kernel
theorem dX9_readsAll_35 : decode cX9_readsAll 35 = .ok (.ifCond .ne 5, 3) := by decide +kernel
theorem dX9_readsAll_38 : decode cX9_readsAll 38 = .ok (.iconst 0, 1) := by decide +kernel
theorem dX9_readsAll_39 : decode cX9_readsAll 39 = .ok (.ireturn, 1) := by decide +kernel
theorem dX9_readsAll_40 : decode cX9_readsAll 40 = .ok (.aload_n 0, 1) := by decide +kernel
theorem dX9_readsAll_41 : decode cX9_readsAll 41 = .ok (.invokevirtual 196, 3) := by decide +kernel
theorem dX9_readsAll_44 : decode cX9_readsAll 44 = .ok (.aload_n 0, 1) := by decide +kernel
theorem dX9_readsAll_45 : decode cX9_readsAll 45 = .ok (.getfield 170, 3) := by decide +kernel
theorem dX9_readsAll_48 : decode cX9_readsAll 48 = .ok (.aload_n 0, 1) := by decide +kernel
theorem dX9_readsAll_49 : decode cX9_readsAll 49 = .ok (.getfield 167, 3) := by decide +kernel
theorem dX9_readsAll_52 : decode cX9_readsAll 52 = .ok (.if_icmp .ne 5, 3) := by decide +kernel
theorem dX9_readsAll_55 : decode cX9_readsAll 55 = .ok (.iconst 1, 1) := by decide +kernel
theorem dX9_readsAll_56 : decode cX9_readsAll 56 = .ok (.ireturn, 1) := by decide +kernel
theorem dX9_readsAll_57 : decode cX9_readsAll 57 = .ok (.aload_n 0, 1) := by decide +kernel
theorem dX9_readsAll_58 : decode cX9_readsAll 58 = .ok (.bipush 59, 2) := by decide +kernel
theorem dX9_readsAll_60 : decode cX9_readsAll 60 = .ok (.invokevirtual 189, 3) := by decide +kernel
theorem dX9_readsAll_63 : decode cX9_readsAll 63 = .ok (.ifCond .ne (-58), 3) := by decide +kernel
theorem dX9_readsAll_66 : decode cX9_readsAll 66 = .ok (.aload_n 0, 1) := by decide +kernel
theorem dX9_readsAll_67 : decode cX9_readsAll 67 = .ok (.aload_n 0, 1) := by decide +kernel
theorem dX9_readsAll_68 : decode cX9_readsAll 68 = .ok (.getfield 170, 3) := by decide +kernel
theorem dX9_readsAll_71 : decode cX9_readsAll 71 = .ok (.invokevirtual 176, 3) := by decide +kernel
theorem dX9_readsAll_74 : decode cX9_readsAll 74 = .ok (.ifCond .le 7, 3) := by decide +kernel
theorem dX9_readsAll_77 : decode cX9_readsAll 77 = .ok (.iconst 1, 1) := by decide +kernel
theorem dX9_readsAll_78 : decode cX9_readsAll 78 = .ok (.goto 4, 3) := by decide +kernel
theorem dX9_readsAll_81 : decode cX9_readsAll 81 = .ok (.iconst 0, 1) := by decide +kernel
theorem dX9_readsAll_82 : decode cX9_readsAll 82 = .ok (.ireturn, 1) := by decide +kernel
set_option maxRecDepth 20000 in
theorem ggX9_orders_X9_readsAll : GoodIn wsX9_orders wsX9_readsAll := goodIn_r _ [8, 9, 1, 2, 10, 11, 12, 7, 13, 3, 14, 15, 16, 17, 18, 19, 20, 21, 22, 23, 24, 25, 26, 27, 28, 29, 30, 31, 32, 33, 34, 35, 36, 37, 38, 39, 40, 41, 42, 43, 44, 45, 46, 47, 48, 49, 50, 51, 52, 53, 54, 55, 56, 57, 58, 59, 60, 61, 62, 63, 64, 65, 66, 67, 68, 69, 70, 71, 72, 73, 74, 75, 76, 77, 78, 79, 80, 81, 82] (by decide +kernel) (by decide +kernel)
set_option maxRecDepth 20000 in
theorem gX9_orders_X9_readsAll : GoodIn wsX9_orders (wsV RX9 199 RX9 yX9_readsAll wsX9_readsAll) := goodIn_app (goodIn_of _ (by decide +kernel)) ggX9_orders_X9_readsAll
theorem dX9_orders_0 : decode cX9_orders 0 = .ok (.aload_n 0, 1) := by decide +kernel
theorem dX9_orders_1 : decode cX9_orders 1 = .ok (.getfield 80, 3) := by decide +kernel
theorem dX9_orders_4 : decode cX9_orders 4 = .ok (.istore_n 1, 1) := by decide +kernel
theorem dX9_orders_5 : decode cX9_orders 5 = .ok (.aload_n 0, 1) := by decide +kernel
theorem dX9_orders_6 : decode cX9_orders 6 = .ok (.invokevirtual 199, 3) := by decide +kernel
theorem dX9_orders_9 : decode cX9_orders 9 = .ok (.istore_n 2, 1) := by decide +kernel
theorem dX9_orders_10 : decode cX9_orders 10 = .ok (.aload_n 0, 1) := by decide +kernel
theorem dX9_orders_11 : decode cX9_orders 11 = .ok (.iconst 0, 1) := by decide +kernel
theorem dX9_orders_12 : decode cX9_orders 12 = .ok (.putfield 167, 3) := by decide +kernel
theorem dX9_orders_15 : decode cX9_orders 15 = .ok (.iload_n 2, 1) := by decide +kernel
theorem dX9_orders_16 : decode cX9_orders 16 = .ok (.ifCond .eq 8, 3) := by decide +kernel
theorem dX9_orders_19 : decode cX9_orders 19 = .ok (.aload_n 0, 1) := by decide +kernel
theorem dX9_orders_20 : decode cX9_orders 20 = .ok (.getfield 80, 3) := by decide +kernel
theorem dX9_orders_23 : decode cX9_orders 23 = .ok (.ireturn, 1) := by decide +kernel
theorem dX9_orders_24 : decode cX9_orders 24 = .ok (.aload_n 0, 1) := by decide +kernel
theorem dX9_orders_25 : decode cX9_orders 25 = .ok (.iload_n 1, 1) := by decide +kernel
theorem dX9_orders_26 : decode cX9_orders 26 = .ok (.putfield 80, 3) := by decide +kernel
theorem dX9_orders_29 : decode cX9_orders 29 = .ok (.bipush (-100), 2) := by decide +kernel
theorem dX9_orders_31 : decode cX9_orders 31 = .ok (.aload_n 0, 1) := by decide +kernel
theorem dX9_orders_32 : decode cX9_orders 32 = .ok (.getfield 179, 3) := by decide +kernel
theorem dX9_orders_35 : decode cX9_orders 35 = .ok (.isub, 1) := by decide +kernel
theorem dX9_orders_36 : decode cX9_orders 36 = .ok (.ireturn, 1) := by decide +kernel
set_option maxRecDepth 20000 in
theorem ggX9_of_X9_isOrder : GoodIn wsX9_of wsX9_isOrder := goodIn_r _ [10, 11, 12, 13, 9, 14, 71, 72, 73, 74, 75, 76, 77, 78, 79, 80, 81, 82, 83, 84, 85, 86, 87, 88, 89, 90, 91, 92, 93, 94, 95, 96, 97, 98, 99, 100, 101, 102, 103, 104, 105] (by decide +kernel) (by decide +kernel)
set_option maxRecDepth 20000 in
theorem gX9_of_X9_isOrder : GoodIn wsX9_of (wsV RX9 202 RX9 yX9_isOrder wsX9_isOrder) := goodIn_app (goodIn_of _ (by decide +kernel)) ggX9_of_X9_isOrder
set_option maxRecDepth 20000 in
theorem ggX9_of_X9_isLate : GoodIn wsX9_of wsX9_isLate := goodIn_r _ [18, 19, 20, 21, 22, 9, 23, 3, 24, 25, 26, 27, 28, 29, 30, 31, 32, 33, 11, 34, 35, 36, 37, 5, 38, 39, 40, 41, 42, 43, 44, 45, 46, 47, 48, 49, 50, 51, 52, 53, 54, 55, 56, 57, 58, 59, 60, 61, 62, 63, 2, 1, 64, 65, 66, 67, 68, 69, 70, 71, 72, 73, 74, 75, 76, 77, 78, 79, 80, 81, 82, 83, 84, 85, 86, 87, 88, 89, 90, 91, 92, 93, 94, 95, 96, 97, 98, 99, 100, 101, 102, 103, 104, 105] (by decide +kernel) (by decide +kernel)
set_option maxRecDepth 20000 in
theorem gX9_of_X9_isLate : GoodIn wsX9_of (wsV RX9 205 RX9 yX9_isLate wsX9_isLate) := goodIn_app (goodIn_of _ (by decide +kernel)) ggX9_of_X9_isLate
theorem dX9_of_0 : decode cX9_of 0 = .ok (.aload_n 0, 1) := by decide +kernel
theorem dX9_of_1 : decode cX9_of 1 = .ok (.iload_n 1, 1) := by decide +kernel
theorem dX9_of_2 : decode cX9_of 2 = .ok (.invokevirtual 202, 3) := by decide +kernel
theorem dX9_of_5 : decode cX9_of 5 = .ok (.ifCond .ne 5, 3) := by decide +kernel
theorem dX9_of_8 : decode cX9_of 8 = .ok (.iconst (-1), 1) := by decide +kernel
theorem dX9_of_9 : decode cX9_of 9 = .ok (.ireturn, 1) := by decide +kernel
theorem dX9_of_10 : decode cX9_of 10 = .ok (.iload_n 2, 1) := by decide +kernel
theorem dX9_of_11 : decode cX9_of 11 = .ok (.tableswitch 103 0 6 #[41, 48, 55, 65, 72, 79, 89], 41) := by decide +kernel
theorem dX9_of_52 : decode cX9_of 52 = .ok (.aload_n 0, 1) := by decide +kernel
theorem dX9_of_53 : decode cX9_of 53 = .ok (.getfield 13, 3) := by decide +kernel
theorem dX9_of_56 : decode cX9_of 56 = .ok (.iload_n 1, 1) := by decide +kernel
theorem dX9_of_57 : decode cX9_of 57 = .ok (.iaload, 1) := by decide +kernel
theorem dX9_of_58 : decode cX9_of 58 = .ok (.ireturn, 1) := by decide +kernel
theorem dX9_of_59 : decode cX9_of 59 = .ok (.aload_n 0, 1) := by decide +kernel
theorem dX9_of_60 : decode cX9_of 60 = .ok (.getfield 16, 3) := by decide +kernel
theorem dX9_of_63 : decode cX9_of 63 = .ok (.iload_n 1, 1) := by decide +kernel
theorem dX9_of_64 : decode cX9_of 64 = .ok (.iaload, 1) := by decide +kernel
theorem dX9_of_65 : decode cX9_of 65 = .ok (.ireturn, 1) := by decide +kernel
theorem dX9_of_66 : decode cX9_of 66 = .ok (.aload_n 0, 1) := by decide +kernel
theorem dX9_of_67 : decode cX9_of 67 = .ok (.getfield 9, 3) := by decide +kernel
theorem dX9_of_70 : decode cX9_of 70 = .ok (.bipush 64, 2) := by decide +kernel
theorem dX9_of_72 : decode cX9_of 72 = .ok (.iload_n 1, 1) := by decide +kernel
theorem dX9_of_73 : decode cX9_of 73 = .ok (.iadd, 1) := by decide +kernel
theorem dX9_of_74 : decode cX9_of 74 = .ok (.iaload, 1) := by decide +kernel
theorem dX9_of_75 : decode cX9_of 75 = .ok (.ireturn, 1) := by decide +kernel
theorem dX9_of_76 : decode cX9_of 76 = .ok (.aload_n 0, 1) := by decide +kernel
theorem dX9_of_77 : decode cX9_of 77 = .ok (.getfield 19, 3) := by decide +kernel
theorem dX9_of_80 : decode cX9_of 80 = .ok (.iload_n 1, 1) := by decide +kernel
theorem dX9_of_81 : decode cX9_of 81 = .ok (.iaload, 1) := by decide +kernel
theorem dX9_of_82 : decode cX9_of 82 = .ok (.ireturn, 1) := by decide +kernel
theorem dX9_of_83 : decode cX9_of 83 = .ok (.aload_n 0, 1) := by decide +kernel
theorem dX9_of_84 : decode cX9_of 84 = .ok (.getfield 22, 3) := by decide +kernel
theorem dX9_of_87 : decode cX9_of 87 = .ok (.iload_n 1, 1) := by decide +kernel
theorem dX9_of_88 : decode cX9_of 88 = .ok (.iaload, 1) := by decide +kernel
theorem dX9_of_89 : decode cX9_of 89 = .ok (.ireturn, 1) := by decide +kernel
theorem dX9_of_90 : decode cX9_of 90 = .ok (.aload_n 0, 1) := by decide +kernel
theorem dX9_of_91 : decode cX9_of 91 = .ok (.getfield 9, 3) := by decide +kernel
theorem dX9_of_94 : decode cX9_of 94 = .ok (.bipush 40, 2) := by decide +kernel
theorem dX9_of_96 : decode cX9_of 96 = .ok (.iload_n 1, 1) := by decide +kernel
theorem dX9_of_97 : decode cX9_of 97 = .ok (.iadd, 1) := by decide +kernel
theorem dX9_of_98 : decode cX9_of 98 = .ok (.iaload, 1) := by decide +kernel
theorem dX9_of_99 : decode cX9_of 99 = .ok (.ireturn, 1) := by decide +kernel
theorem dX9_of_100 : decode cX9_of 100 = .ok (.aload_n 0, 1) := by decide +kernel
theorem dX9_of_101 : decode cX9_of 101 = .ok (.iload_n 1, 1) := by decide +kernel
theorem dX9_of_102 : decode cX9_of 102 = .ok (.invokevirtual 205, 3) := by decide +kernel
theorem dX9_of_105 : decode cX9_of 105 = .ok (.ifCond .eq 7, 3) := by decide +kernel
theorem dX9_of_108 : decode cX9_of 108 = .ok (.iconst 1, 1) := by decide +kernel
theorem dX9_of_109 : decode cX9_of 109 = .ok (.goto 4, 3) := by decide +kernel
theorem dX9_of_112 : decode cX9_of 112 = .ok (.iconst 0, 1) := by decide +kernel
theorem dX9_of_113 : decode cX9_of 113 = .ok (.ireturn, 1) := by decide +kernel
theorem dX9_of_114 : decode cX9_of 114 = .ok (.iconst (-1), 1) := by decide +kernel
theorem dX9_of_115 : decode cX9_of 115 = .ok (.ireturn, 1) := by decide +kernel
set_option maxRecDepth 20000 in
theorem ggX9_becomes_X9_begins : GoodIn wsX9_becomes wsX9_begins := goodIn_r _ [6, 1, 7, 8, 9, 5, 10, 32, 33, 34, 35, 36, 37, 38, 39, 40, 41, 42, 43, 44, 45, 46, 47, 48, 49, 50, 51, 52, 53, 54, 55, 56, 57, 58, 59, 60, 61, 62, 63, 64, 65, 66] (by decide +kernel) (by decide +kernel)
set_option maxRecDepth 20000 in
theorem gX9_becomes_X9_begins : GoodIn wsX9_becomes (wsV RX9 115 RX9 yX9_begins wsX9_begins) := goodIn_app (goodIn_of _ (by decide +kernel)) ggX9_becomes_X9_begins
set_option maxRecDepth 20000 in
theorem ggX9_becomes_X9_changed : GoodIn wsX9_becomes wsX9_changed := goodIn_r _ [14, 15, 16, 17, 18, 7, 1, 19, 20, 8, 9, 5, 10, 32, 33, 34, 35, 36, 37, 38, 39, 40, 41, 42, 43, 44, 45, 46, 47, 48, 49, 50, 51, 52, 53, 54, 55, 56, 57, 58, 59, 60, 61, 62, 63, 64, 65, 66] (by decide +kernel) (by decide +kernel)
set_option maxRecDepth 20000 in
theorem gX9_becomes_X9_changed : GoodIn wsX9_becomes (wsV RX9 122 RX9 yX9_changed wsX9_changed) := goodIn_app (goodIn_of _ (by decide +kernel)) ggX9_becomes_X9_changed
set_option maxRecDepth 20000 in
theorem ggX9_becomes_X9_those : GoodIn wsX9_becomes wsX9_those := goodIn_r _ [24, 19, 25, 26, 27, 5, 28, 1, 32, 33, 34, 35, 36, 37, 38, 39, 40, 41, 42, 43, 44, 45, 46, 47, 48, 49, 50, 51, 52, 53, 54, 55, 56, 57, 58, 59, 60, 61, 62, 63, 64, 65, 66] (by decide +kernel) (by decide +kernel)
set_option maxRecDepth 20000 in
theorem gX9_becomes_X9_those : GoodIn wsX9_becomes (wsV RX9 105 RX9 yX9_those wsX9_those) := goodIn_app (goodIn_of _ (by decide +kernel)) ggX9_becomes_X9_those
set_option maxRecDepth 20000 in
theorem ggX9_becomes_X9_size : GoodIn wsX9_becomes wsX9_size := goodIn_r _ [31] (by decide +kernel) (by decide +kernel)
set_option maxRecDepth 20000 in
theorem gX9_becomes_X9_size : GoodIn wsX9_becomes (va_wsS RX9 109 yX9_size wsX9_size) := goodIn_app (goodIn_of _ (by decide +kernel)) ggX9_becomes_X9_size
theorem dX9_becomes_0 : decode cX9_becomes 0 = .ok (.aload_n 0, 1) := by decide +kernel
theorem dX9_becomes_1 : decode cX9_becomes 1 = .ok (.invokevirtual 115, 3) := by decide +kernel
theorem dX9_becomes_4 : decode cX9_becomes 4 = .ok (.aload_n 0, 1) := by decide +kernel
theorem dX9_becomes_5 : decode cX9_becomes 5 = .ok (.getfield 9, 3) := by decide +kernel
theorem dX9_becomes_8 : decode cX9_becomes 8 = .ok (.bipush 40, 2) := by decide +kernel
theorem dX9_becomes_10 : decode cX9_becomes 10 = .ok (.iload_n 1, 1) := by decide +kernel
theorem dX9_becomes_11 : decode cX9_becomes 11 = .ok (.iadd, 1) := by decide +kernel
theorem dX9_becomes_12 : decode cX9_becomes 12 = .ok (.iload_n 2, 1) := by decide +kernel
theorem dX9_becomes_13 : decode cX9_becomes 13 = .ok (.iastore, 1) := by decide +kernel
theorem dX9_becomes_14 : decode cX9_becomes 14 = .ok (.aload_n 0, 1) := by decide +kernel
theorem dX9_becomes_15 : decode cX9_becomes 15 = .ok (.invokevirtual 122, 3) := by decide +kernel
theorem dX9_becomes_18 : decode cX9_becomes 18 = .ok (.aload_n 0, 1) := by decide +kernel
theorem dX9_becomes_19 : decode cX9_becomes 19 = .ok (.iconst 1, 1) := by decide +kernel
theorem dX9_becomes_20 : decode cX9_becomes 20 = .ok (.invokevirtual 105, 3) := by decide +kernel
theorem dX9_becomes_23 : decode cX9_becomes 23 = .ok (.invokestatic 109, 3) := by decide +kernel
theorem dX9_becomes_26 : decode cX9_becomes 26 = .ok (.ireturn, 1) := by decide +kernel
set_option maxRecDepth 20000 in
theorem ggX9_promise_X9_isOrder : GoodIn wsX9_promise wsX9_isOrder := goodIn_r _ [5, 6, 7, 8, 4, 9, 95, 96, 97, 98, 99, 100, 101, 102, 103, 104, 105, 106, 107, 108, 109, 110, 111, 112, 113, 114, 115, 116, 117, 118, 119, 120, 121, 122, 123, 124, 125, 126, 127, 128, 129] (by decide +kernel) (by decide +kernel)
set_option maxRecDepth 20000 in
theorem gX9_promise_X9_isOrder : GoodIn wsX9_promise (wsV RX9 202 RX9 yX9_isOrder wsX9_isOrder) := goodIn_app (goodIn_of _ (by decide +kernel)) ggX9_promise_X9_isOrder
set_option maxRecDepth 20000 in
theorem ggX9_promise_X9_isWhat : GoodIn wsX9_promise wsX9_isWhat := goodIn_r _ [13, 14, 95, 96, 97, 98, 99, 100, 101, 102, 103, 104, 105, 106, 107, 108, 109, 110, 111, 112, 113, 114, 115, 116, 117, 118, 119, 120, 121, 122, 123, 124, 125, 126, 127, 128, 129] (by decide +kernel) (by decide +kernel)
set_option maxRecDepth 20000 in
theorem gX9_promise_X9_isWhat : GoodIn wsX9_promise (wsV RX9 87 RX9 yX9_isWhat wsX9_isWhat) := goodIn_app (goodIn_of _ (by decide +kernel)) ggX9_promise_X9_isWhat
set_option maxRecDepth 20000 in
theorem ggX9_promise_X9_those : GoodIn wsX9_promise wsX9_those := goodIn_r _ [18, 6, 10, 11, 12, 4, 13, 14, 95, 96, 97, 98, 99, 100, 101, 102, 103, 104, 105, 106, 107, 108, 109, 110, 111, 112, 113, 114, 115, 116, 117, 118, 119, 120, 121, 122, 123, 124, 125, 126, 127, 128, 129] (by decide +kernel) (by decide +kernel)
set_option maxRecDepth 20000 in
theorem gX9_promise_X9_those : GoodIn wsX9_promise (wsV RX9 105 RX9 yX9_those wsX9_those) := goodIn_app (goodIn_of _ (by decide +kernel)) ggX9_promise_X9_those
set_option maxRecDepth 20000 in
theorem ggX9_promise_X9_canBe : GoodIn wsX9_promise wsX9_canBe := goodIn_r _ [22, 23, 24, 25, 26, 4, 27, 6, 28, 29, 30, 31, 32, 14, 33, 34, 35, 36, 37, 38, 39, 40, 41, 42, 43, 44, 45, 46, 47, 48, 49, 50, 51, 52, 53, 54, 55, 56, 57, 58, 59, 60, 61, 62, 63, 64, 65, 66, 67, 68, 69, 70, 95, 96, 97, 98, 99, 100, 101, 102, 103, 104, 105, 106, 107, 108, 109, 110, 111, 112, 113, 114, 115, 116, 117, 118, 119, 120, 121, 122, 123, 124, 125, 126, 127, 128, 129] (by decide +kernel) (by decide +kernel)
set_option maxRecDepth 20000 in
theorem gX9_promise_X9_canBe : GoodIn wsX9_promise (wsV RX9 208 RX9 yX9_canBe wsX9_canBe) := goodIn_app (goodIn_of _ (by decide +kernel)) ggX9_promise_X9_canBe
set_option maxRecDepth 20000 in
theorem ggX9_promise_X9_becomes : GoodIn wsX9_promise wsX9_becomes := goodIn_r _ [74, 14, 75, 76, 77, 4, 78, 79, 80, 81, 82, 83, 84, 85, 86, 87, 88, 89, 90, 6, 91, 15, 16, 17, 18, 10, 11, 12, 13, 92, 93, 94, 95, 96, 97, 98, 99, 100, 101, 102, 103, 104, 105, 106, 107, 108, 109, 110, 111, 112, 113, 114, 115, 116, 117, 118, 119, 120, 121, 122, 123, 124, 125, 126, 127, 128, 129] (by decide +kernel) (by decide +kernel)
set_option maxRecDepth 20000 in
theorem gX9_promise_X9_becomes : GoodIn wsX9_promise (wsV RX9 211 RX9 yX9_becomes wsX9_becomes) := goodIn_app (goodIn_of _ (by decide +kernel)) ggX9_promise_X9_becomes
theorem dX9_promise_0 : decode cX9_promise 0 = .ok (.aload_n 0, 1) := by decide +kernel
theorem dX9_promise_1 : decode cX9_promise 1 = .ok (.iload_n 1, 1) := by decide +kernel
theorem dX9_promise_2 : decode cX9_promise 2 = .ok (.invokevirtual 202, 3) := by decide +kernel
theorem dX9_promise_5 : decode cX9_promise 5 = .ok (.ifCond .ne 5, 3) := by decide +kernel
theorem dX9_promise_8 : decode cX9_promise 8 = .ok (.iconst (-1), 1) := by decide +kernel
theorem dX9_promise_9 : decode cX9_promise 9 = .ok (.ireturn, 1) := by decide +kernel
theorem dX9_promise_10 : decode cX9_promise 10 = .ok (.aload_n 0, 1) := by decide +kernel
theorem dX9_promise_11 : decode cX9_promise 11 = .ok (.iload_n 1, 1) := by decide +kernel
theorem dX9_promise_12 : decode cX9_promise 12 = .ok (.iconst 0, 1) := by decide +kernel
theorem dX9_promise_13 : decode cX9_promise 13 = .ok (.invokevirtual 87, 3) := by decide +kernel
theorem dX9_promise_16 : decode cX9_promise 16 = .ok (.ifCond .ne 6, 3) := by decide +kernel
theorem dX9_promise_19 : decode cX9_promise 19 = .ok (.bipush (-5), 2) := by decide +kernel
theorem dX9_promise_21 : decode cX9_promise 21 = .ok (.ireturn, 1) := by decide +kernel
theorem dX9_promise_22 : decode cX9_promise 22 = .ok (.aload_n 0, 1) := by decide +kernel
theorem dX9_promise_23 : decode cX9_promise 23 = .ok (.iload_n 1, 1) := by decide +kernel
theorem dX9_promise_24 : decode cX9_promise 24 = .ok (.aload_n 0, 1) := by decide +kernel
theorem dX9_promise_25 : decode cX9_promise 25 = .ok (.iconst 1, 1) := by decide +kernel
theorem dX9_promise_26 : decode cX9_promise 26 = .ok (.invokevirtual 105, 3) := by decide +kernel
theorem dX9_promise_29 : decode cX9_promise 29 = .ok (.invokevirtual 208, 3) := by decide +kernel
theorem dX9_promise_32 : decode cX9_promise 32 = .ok (.ifCond .eq 12, 3) := by decide +kernel
theorem dX9_promise_35 : decode cX9_promise 35 = .ok (.aload_n 0, 1) := by decide +kernel
theorem dX9_promise_36 : decode cX9_promise 36 = .ok (.iload_n 1, 1) := by decide +kernel
theorem dX9_promise_37 : decode cX9_promise 37 = .ok (.iconst 1, 1) := by decide +kernel
theorem dX9_promise_38 : decode cX9_promise 38 = .ok (.invokevirtual 211, 3) := by decide +kernel
theorem dX9_promise_41 : decode cX9_promise 41 = .ok (.goto 5, 3) := by decide +kernel
theorem dX9_promise_44 : decode cX9_promise 44 = .ok (.bipush (-2), 2) := by decide +kernel
theorem dX9_promise_46 : decode cX9_promise 46 = .ok (.ireturn, 1) := by decide +kernel
theorem dX9_nextOf_0 : decode cX9_nextOf 0 = .ok (.iconst (-1), 1) := by decide +kernel
theorem dX9_nextOf_1 : decode cX9_nextOf 1 = .ok (.istore_n 2, 1) := by decide +kernel
theorem dX9_nextOf_2 : decode cX9_nextOf 2 = .ok (.iconst 0, 1) := by decide +kernel
theorem dX9_nextOf_3 : decode cX9_nextOf 3 = .ok (.istore_n 3, 1) := by decide +kernel
theorem dX9_nextOf_4 : decode cX9_nextOf 4 = .ok (.iload_n 3, 1) := by decide +kernel
theorem dX9_nextOf_5 : decode cX9_nextOf 5 = .ok (.aload_n 0, 1) := by decide +kernel
theorem dX9_nextOf_6 : decode cX9_nextOf 6 = .ok (.getfield 80, 3) := by decide +kernel
theorem dX9_nextOf_9 : decode cX9_nextOf 9 = .ok (.if_icmp .ge 39, 3) := by decide +kernel
theorem dX9_nextOf_12 : decode cX9_nextOf 12 = .ok (.iload_n 1, 1) := by decide +kernel
theorem dX9_nextOf_13 : decode cX9_nextOf 13 = .ok (.iload_n 3, 1) := by decide +kernel
theorem dX9_nextOf_14 : decode cX9_nextOf 14 = .ok (.ishr, 1) := by decide +kernel
theorem dX9_nextOf_15 : decode cX9_nextOf 15 = .ok (.iconst 1, 1) := by decide +kernel
theorem dX9_nextOf_16 : decode cX9_nextOf 16 = .ok (.iand, 1) := by decide +kernel
theorem dX9_nextOf_17 : decode cX9_nextOf 17 = .ok (.iconst 1, 1) := by decide +kernel
theorem dX9_nextOf_18 : decode cX9_nextOf 18 = .ok (.if_icmp .ne 24, 3) := by decide +kernel
theorem dX9_nextOf_21 : decode cX9_nextOf 21 = .ok (.iload_n 2, 1) := by decide +kernel
theorem dX9_nextOf_22 : decode cX9_nextOf 22 = .ok (.ifCond .lt 18, 3) := by decide +kernel
theorem dX9_nextOf_25 : decode cX9_nextOf 25 = .ok (.aload_n 0, 1) := by decide +kernel
theorem dX9_nextOf_26 : decode cX9_nextOf 26 = .ok (.getfield 22, 3) := by decide +kernel
theorem dX9_nextOf_29 : decode cX9_nextOf 29 = .ok (.iload_n 3, 1) := by decide +kernel
theorem dX9_nextOf_30 : decode cX9_nextOf 30 = .ok (.iaload, 1) := by decide +kernel
theorem dX9_nextOf_31 : decode cX9_nextOf 31 = .ok (.aload_n 0, 1) := by decide +kernel
theorem dX9_nextOf_32 : decode cX9_nextOf 32 = .ok (.getfield 22, 3) := by decide +kernel
theorem dX9_nextOf_35 : decode cX9_nextOf 35 = .ok (.iload_n 2, 1) := by decide +kernel
theorem dX9_nextOf_36 : decode cX9_nextOf 36 = .ok (.iaload, 1) := by decide +kernel
theorem dX9_nextOf_37 : decode cX9_nextOf 37 = .ok (.if_icmp .le 5, 3) := by decide +kernel
theorem dX9_nextOf_40 : decode cX9_nextOf 40 = .ok (.iload_n 3, 1) := by decide +kernel
theorem dX9_nextOf_41 : decode cX9_nextOf 41 = .ok (.istore_n 2, 1) := by decide +kernel
theorem dX9_nextOf_42 : decode cX9_nextOf 42 = .ok (.iinc 3 1, 3) := by decide +kernel
theorem dX9_nextOf_45 : decode cX9_nextOf 45 = .ok (.goto (-41), 3) := by decide +kernel
theorem dX9_nextOf_48 : decode cX9_nextOf 48 = .ok (.iload_n 2, 1) := by decide +kernel
theorem dX9_nextOf_49 : decode cX9_nextOf 49 = .ok (.ireturn, 1) := by decide +kernel
set_option maxRecDepth 20000 in
theorem ggX9_promiseAll_X9_begins : GoodIn wsX9_promiseAll wsX9_begins := goodIn_r _ [6, 1, 7, 8, 9, 5, 10, 86, 87, 88, 89, 90, 91, 92, 93, 94, 95, 96, 97, 98, 99, 100, 101, 102, 103, 104, 105, 106, 107, 108, 109, 110, 111, 112, 113, 114, 115, 116, 117, 118, 119, 120] (by decide +kernel) (by decide +kernel)
set_option maxRecDepth 20000 in
theorem gX9_promiseAll_X9_begins : GoodIn wsX9_promiseAll (wsV RX9 115 RX9 yX9_begins wsX9_begins) := goodIn_app (goodIn_of _ (by decide +kernel)) ggX9_promiseAll_X9_begins
set_option maxRecDepth 20000 in
theorem ggX9_promiseAll_X9_those : GoodIn wsX9_promiseAll wsX9_those := goodIn_r _ [14, 15, 16, 17, 18, 5, 19, 1, 86, 87, 88, 89, 90, 91, 92, 93, 94, 95, 96, 97, 98, 99, 100, 101, 102, 103, 104, 105, 106, 107, 108, 109, 110, 111, 112, 113, 114, 115, 116, 117, 118, 119, 120] (by decide +kernel) (by decide +kernel)
set_option maxRecDepth 20000 in
theorem gX9_promiseAll_X9_those : GoodIn wsX9_promiseAll (wsV RX9 105 RX9 yX9_those wsX9_those) := goodIn_app (goodIn_of _ (by decide +kernel)) ggX9_promiseAll_X9_those
set_option maxRecDepth 20000 in
theorem ggX9_promiseAll_X9_nextOf : GoodIn wsX9_promiseAll wsX9_nextOf := goodIn_r _ [23, 15, 24, 86, 87, 88, 89, 90, 91, 92, 93, 94, 95, 96, 97, 98, 99, 100, 101, 102, 103, 104, 105, 106, 107, 108, 109, 110, 111, 112, 113, 114, 115, 116, 117, 118, 119, 120] (by decide +kernel) (by decide +kernel)
set_option maxRecDepth 20000 in
theorem gX9_promiseAll_X9_nextOf : GoodIn wsX9_promiseAll (wsV RX9 214 RX9 yX9_nextOf wsX9_nextOf) := goodIn_app (goodIn_of _ (by decide +kernel)) ggX9_promiseAll_X9_nextOf
set_option maxRecDepth 20000 in
theorem ggX9_promiseAll_X9_canBe : GoodIn wsX9_promiseAll wsX9_canBe := goodIn_r _ [28, 29, 30, 31, 32, 5, 33, 15, 34, 35, 36, 37, 38, 1, 39, 40, 41, 42, 43, 44, 45, 46, 47, 48, 49, 50, 51, 52, 53, 54, 55, 56, 57, 58, 59, 60, 61, 62, 63, 64, 65, 66, 67, 68, 69, 70, 71, 72, 73, 74, 75, 76, 86, 87, 88, 89, 90, 91, 92, 93, 94, 95, 96, 97, 98, 99, 100, 101, 102, 103, 104, 105, 106, 107, 108, 109, 110, 111, 112, 113, 114, 115, 116, 117, 118, 119, 120] (by decide +kernel) (by decide +kernel)
set_option maxRecDepth 20000 in
theorem gX9_promiseAll_X9_canBe : GoodIn wsX9_promiseAll (wsV RX9 208 RX9 yX9_canBe wsX9_canBe) := goodIn_app (goodIn_of _ (by decide +kernel)) ggX9_promiseAll_X9_canBe
set_option maxRecDepth 20000 in
theorem ggX9_promiseAll_X9_changed : GoodIn wsX9_promiseAll wsX9_changed := goodIn_r _ [80, 81, 82, 83, 84, 7, 1, 15, 85, 8, 9, 5, 10, 86, 87, 88, 89, 90, 91, 92, 93, 94, 95, 96, 97, 98, 99, 100, 101, 102, 103, 104, 105, 106, 107, 108, 109, 110, 111, 112, 113, 114, 115, 116, 117, 118, 119, 120] (by decide +kernel) (by decide +kernel)
set_option maxRecDepth 20000 in
theorem gX9_promiseAll_X9_changed : GoodIn wsX9_promiseAll (wsV RX9 122 RX9 yX9_changed wsX9_changed) := goodIn_app (goodIn_of _ (by decide +kernel)) ggX9_promiseAll_X9_changed
theorem dX9_promiseAll_0 : decode cX9_promiseAll 0 = .ok (.aload_n 0, 1) := by decide +kernel
theorem dX9_promiseAll_1 : decode cX9_promiseAll 1 = .ok (.invokevirtual 115, 3) := by decide +kernel
theorem dX9_promiseAll_4 : decode cX9_promiseAll 4 = .ok (.aload_n 0, 1) := by decide +kernel
theorem dX9_promiseAll_5 : decode cX9_promiseAll 5 = .ok (.iconst 0, 1) := by decide +kernel
theorem dX9_promiseAll_6 : decode cX9_promiseAll 6 = .ok (.invokevirtual 105, 3) := by decide +kernel
theorem dX9_promiseAll_9 : decode cX9_promiseAll 9 = .ok (.istore_n 1, 1) := by decide +kernel
theorem dX9_promiseAll_10 : decode cX9_promiseAll 10 = .ok (.iconst 0, 1) := by decide +kernel
theorem dX9_promiseAll_11 : decode cX9_promiseAll 11 = .ok (.istore_n 2, 1) := by decide +kernel
theorem dX9_promiseAll_12 : decode cX9_promiseAll 12 = .ok (.iload_n 1, 1) := by decide +kernel
theorem dX9_promiseAll_13 : decode cX9_promiseAll 13 = .ok (.ifCond .eq 49, 3) := by decide +kernel
theorem dX9_promiseAll_16 : decode cX9_promiseAll 16 = .ok (.aload_n 0, 1) := by decide +kernel
theorem dX9_promiseAll_17 : decode cX9_promiseAll 17 = .ok (.iload_n 1, 1) := by decide +kernel
theorem dX9_promiseAll_18 : decode cX9_promiseAll 18 = .ok (.invokevirtual 214, 3) := by decide +kernel
theorem dX9_promiseAll_21 : decode cX9_promiseAll 21 = .ok (.istore_n 3, 1) := by decide +kernel
theorem dX9_promiseAll_22 : decode cX9_promiseAll 22 = .ok (.iload_n 1, 1) := by decide +kernel
theorem dX9_promiseAll_23 : decode cX9_promiseAll 23 = .ok (.iconst 1, 1) := by decide +kernel
theorem dX9_promiseAll_24 : decode cX9_promiseAll 24 = .ok (.iload_n 3, 1) := by decide +kernel
theorem dX9_promiseAll_25 : decode cX9_promiseAll 25 = .ok (.ishl, 1) := by decide +kernel
theorem dX9_promiseAll_26 : decode cX9_promiseAll 26 = .ok (.iconst (-1), 1) := by decide +kernel
theorem dX9_promiseAll_27 : decode cX9_promiseAll 27 = .ok (.ixor, 1) := by decide +kernel
theorem dX9_promiseAll_28 : decode cX9_promiseAll 28 = .ok (.iand, 1) := by decide +kernel
theorem dX9_promiseAll_29 : decode cX9_promiseAll 29 = .ok (.istore_n 1, 1) := by decide +kernel
theorem dX9_promiseAll_30 : decode cX9_promiseAll 30 = .ok (.aload_n 0, 1) := by decide +kernel
theorem dX9_promiseAll_31 : decode cX9_promiseAll 31 = .ok (.iload_n 3, 1) := by decide +kernel
theorem dX9_promiseAll_32 : decode cX9_promiseAll 32 = .ok (.aload_n 0, 1) := by decide +kernel
theorem dX9_promiseAll_33 : decode cX9_promiseAll 33 = .ok (.iconst 1, 1) := by decide +kernel
theorem dX9_promiseAll_34 : decode cX9_promiseAll 34 = .ok (.invokevirtual 105, 3) := by decide +kernel
theorem dX9_promiseAll_37 : decode cX9_promiseAll 37 = .ok (.invokevirtual 208, 3) := by decide +kernel
theorem dX9_promiseAll_40 : decode cX9_promiseAll 40 = .ok (.ifCond .ne 6, 3) := by decide +kernel
theorem dX9_promiseAll_43 : decode cX9_promiseAll 43 = .ok (.goto (-31), 3) := by decide +kernel
theorem dX9_promiseAll_46 : decode cX9_promiseAll 46 = .ok (.aload_n 0, 1) := by decide +kernel
theorem dX9_promiseAll_47 : decode cX9_promiseAll 47 = .ok (.getfield 9, 3) := by decide +kernel
theorem dX9_promiseAll_50 : decode cX9_promiseAll 50 = .ok (.bipush 40, 2) := by decide +kernel
theorem dX9_promiseAll_52 : decode cX9_promiseAll 52 = .ok (.iload_n 3, 1) := by decide +kernel
theorem dX9_promiseAll_53 : decode cX9_promiseAll 53 = .ok (.iadd, 1) := by decide +kernel
theorem dX9_promiseAll_54 : decode cX9_promiseAll 54 = .ok (.iconst 1, 1) := by decide +kernel
theorem dX9_promiseAll_55 : decode cX9_promiseAll 55 = .ok (.iastore, 1) := by decide +kernel
theorem dX9_promiseAll_56 : decode cX9_promiseAll 56 = .ok (.iinc 2 1, 3) := by decide +kernel
theorem dX9_promiseAll_59 : decode cX9_promiseAll 59 = .ok (.goto (-47), 3) := by decide +kernel
theorem dX9_promiseAll_62 : decode cX9_promiseAll 62 = .ok (.aload_n 0, 1) := by decide +kernel
theorem dX9_promiseAll_63 : decode cX9_promiseAll 63 = .ok (.invokevirtual 122, 3) := by decide +kernel
theorem dX9_promiseAll_66 : decode cX9_promiseAll 66 = .ok (.iload_n 2, 1) := by decide +kernel
theorem dX9_promiseAll_67 : decode cX9_promiseAll 67 = .ok (.ireturn, 1) := by decide +kernel
set_option maxRecDepth 20000 in
theorem ggX9_giveUp_X9_isOrder : GoodIn wsX9_giveUp wsX9_isOrder := goodIn_r _ [5, 6, 7, 8, 4, 9, 43, 44, 45, 46, 47, 48, 49, 50, 51, 52, 53, 54, 55, 56, 57, 58, 59, 60, 61, 62, 63, 64, 65, 66, 67, 68, 69, 70, 71, 72, 73, 74, 75, 76, 77] (by decide +kernel) (by decide +kernel)
set_option maxRecDepth 20000 in
theorem gX9_giveUp_X9_isOrder : GoodIn wsX9_giveUp (wsV RX9 202 RX9 yX9_isOrder wsX9_isOrder) := goodIn_app (goodIn_of _ (by decide +kernel)) ggX9_giveUp_X9_isOrder
set_option maxRecDepth 20000 in
theorem ggX9_giveUp_X9_isWhat : GoodIn wsX9_giveUp wsX9_isWhat := goodIn_r _ [13, 14, 43, 44, 45, 46, 47, 48, 49, 50, 51, 52, 53, 54, 55, 56, 57, 58, 59, 60, 61, 62, 63, 64, 65, 66, 67, 68, 69, 70, 71, 72, 73, 74, 75, 76, 77] (by decide +kernel) (by decide +kernel)
set_option maxRecDepth 20000 in
theorem gX9_giveUp_X9_isWhat : GoodIn wsX9_giveUp (wsV RX9 87 RX9 yX9_isWhat wsX9_isWhat) := goodIn_app (goodIn_of _ (by decide +kernel)) ggX9_giveUp_X9_isWhat
set_option maxRecDepth 20000 in
theorem ggX9_giveUp_X9_becomes : GoodIn wsX9_giveUp wsX9_becomes := goodIn_r _ [18, 14, 19, 20, 21, 4, 22, 23, 24, 25, 26, 27, 28, 29, 30, 31, 32, 33, 34, 6, 35, 36, 37, 38, 39, 10, 11, 12, 13, 40, 41, 42, 43, 44, 45, 46, 47, 48, 49, 50, 51, 52, 53, 54, 55, 56, 57, 58, 59, 60, 61, 62, 63, 64, 65, 66, 67, 68, 69, 70, 71, 72, 73, 74, 75, 76, 77] (by decide +kernel) (by decide +kernel)
set_option maxRecDepth 20000 in
theorem gX9_giveUp_X9_becomes : GoodIn wsX9_giveUp (wsV RX9 211 RX9 yX9_becomes wsX9_becomes) := goodIn_app (goodIn_of _ (by decide +kernel)) ggX9_giveUp_X9_becomes
theorem dX9_giveUp_0 : decode cX9_giveUp 0 = .ok (.aload_n 0, 1) := by decide +kernel
theorem dX9_giveUp_1 : decode cX9_giveUp 1 = .ok (.iload_n 1, 1) := by decide +kernel
theorem dX9_giveUp_2 : decode cX9_giveUp 2 = .ok (.invokevirtual 202, 3) := by decide +kernel
theorem dX9_giveUp_5 : decode cX9_giveUp 5 = .ok (.ifCond .ne 5, 3) := by decide +kernel
theorem dX9_giveUp_8 : decode cX9_giveUp 8 = .ok (.iconst (-1), 1) := by decide +kernel
theorem dX9_giveUp_9 : decode cX9_giveUp 9 = .ok (.ireturn, 1) := by decide +kernel
theorem dX9_giveUp_10 : decode cX9_giveUp 10 = .ok (.aload_n 0, 1) := by decide +kernel
theorem dX9_giveUp_11 : decode cX9_giveUp 11 = .ok (.iload_n 1, 1) := by decide +kernel
theorem dX9_giveUp_12 : decode cX9_giveUp 12 = .ok (.iconst 1, 1) := by decide +kernel
theorem dX9_giveUp_13 : decode cX9_giveUp 13 = .ok (.invokevirtual 87, 3) := by decide +kernel
theorem dX9_giveUp_16 : decode cX9_giveUp 16 = .ok (.ifCond .eq 12, 3) := by decide +kernel
theorem dX9_giveUp_19 : decode cX9_giveUp 19 = .ok (.aload_n 0, 1) := by decide +kernel
theorem dX9_giveUp_20 : decode cX9_giveUp 20 = .ok (.iload_n 1, 1) := by decide +kernel
theorem dX9_giveUp_21 : decode cX9_giveUp 21 = .ok (.iconst 0, 1) := by decide +kernel
theorem dX9_giveUp_22 : decode cX9_giveUp 22 = .ok (.invokevirtual 211, 3) := by decide +kernel
theorem dX9_giveUp_25 : decode cX9_giveUp 25 = .ok (.goto 5, 3) := by decide +kernel
theorem dX9_giveUp_28 : decode cX9_giveUp 28 = .ok (.bipush (-5), 2) := by decide +kernel
theorem dX9_giveUp_30 : decode cX9_giveUp 30 = .ok (.ireturn, 1) := by decide +kernel
set_option maxRecDepth 20000 in
theorem ggX9_gone_X9_isOrder : GoodIn wsX9_gone wsX9_isOrder := goodIn_r _ [5, 6, 7, 8, 4, 9, 43, 44, 45, 46, 47, 48, 49, 50, 51, 52, 53, 54, 55, 56, 57, 58, 59, 60, 61, 62, 63, 64, 65, 66, 67, 68, 69, 70, 71, 72, 73, 74, 75, 76, 77] (by decide +kernel) (by decide +kernel)
set_option maxRecDepth 20000 in
theorem gX9_gone_X9_isOrder : GoodIn wsX9_gone (wsV RX9 202 RX9 yX9_isOrder wsX9_isOrder) := goodIn_app (goodIn_of _ (by decide +kernel)) ggX9_gone_X9_isOrder
set_option maxRecDepth 20000 in
theorem ggX9_gone_X9_isWhat : GoodIn wsX9_gone wsX9_isWhat := goodIn_r _ [13, 14, 43, 44, 45, 46, 47, 48, 49, 50, 51, 52, 53, 54, 55, 56, 57, 58, 59, 60, 61, 62, 63, 64, 65, 66, 67, 68, 69, 70, 71, 72, 73, 74, 75, 76, 77] (by decide +kernel) (by decide +kernel)
set_option maxRecDepth 20000 in
theorem gX9_gone_X9_isWhat : GoodIn wsX9_gone (wsV RX9 87 RX9 yX9_isWhat wsX9_isWhat) := goodIn_app (goodIn_of _ (by decide +kernel)) ggX9_gone_X9_isWhat
set_option maxRecDepth 20000 in
theorem ggX9_gone_X9_becomes : GoodIn wsX9_gone wsX9_becomes := goodIn_r _ [18, 14, 19, 20, 21, 4, 22, 23, 24, 25, 26, 27, 28, 29, 30, 31, 32, 33, 34, 6, 35, 36, 37, 38, 39, 10, 11, 12, 13, 40, 41, 42, 43, 44, 45, 46, 47, 48, 49, 50, 51, 52, 53, 54, 55, 56, 57, 58, 59, 60, 61, 62, 63, 64, 65, 66, 67, 68, 69, 70, 71, 72, 73, 74, 75, 76, 77] (by decide +kernel) (by decide +kernel)
set_option maxRecDepth 20000 in
theorem gX9_gone_X9_becomes : GoodIn wsX9_gone (wsV RX9 211 RX9 yX9_becomes wsX9_becomes) := goodIn_app (goodIn_of _ (by decide +kernel)) ggX9_gone_X9_becomes
theorem dX9_gone_0 : decode cX9_gone 0 = .ok (.aload_n 0, 1) := by decide +kernel
theorem dX9_gone_1 : decode cX9_gone 1 = .ok (.iload_n 1, 1) := by decide +kernel
theorem dX9_gone_2 : decode cX9_gone 2 = .ok (.invokevirtual 202, 3) := by decide +kernel
theorem dX9_gone_5 : decode cX9_gone 5 = .ok (.ifCond .ne 5, 3) := by decide +kernel
theorem dX9_gone_8 : decode cX9_gone 8 = .ok (.iconst (-1), 1) := by decide +kernel
theorem dX9_gone_9 : decode cX9_gone 9 = .ok (.ireturn, 1) := by decide +kernel
theorem dX9_gone_10 : decode cX9_gone 10 = .ok (.aload_n 0, 1) := by decide +kernel
theorem dX9_gone_11 : decode cX9_gone 11 = .ok (.iload_n 1, 1) := by decide +kernel
theorem dX9_gone_12 : decode cX9_gone 12 = .ok (.iconst 2, 1) := by decide +kernel
theorem dX9_gone_13 : decode cX9_gone 13 = .ok (.invokevirtual 87, 3) := by decide +kernel
theorem dX9_gone_16 : decode cX9_gone 16 = .ok (.ifCond .eq 8, 3) := by decide +kernel
theorem dX9_gone_19 : decode cX9_gone 19 = .ok (.bipush (-5), 2) := by decide +kernel
theorem dX9_gone_21 : decode cX9_gone 21 = .ok (.goto 9, 3) := by decide +kernel
theorem dX9_gone_24 : decode cX9_gone 24 = .ok (.aload_n 0, 1) := by decide +kernel
theorem dX9_gone_25 : decode cX9_gone 25 = .ok (.iload_n 1, 1) := by decide +kernel
theorem dX9_gone_26 : decode cX9_gone 26 = .ok (.iconst 2, 1) := by decide +kernel
theorem dX9_gone_27 : decode cX9_gone 27 = .ok (.invokevirtual 211, 3) := by decide +kernel
theorem dX9_gone_30 : decode cX9_gone 30 = .ok (.ireturn, 1) := by decide +kernel
set_option maxRecDepth 20000 in
theorem ggX9_move_X9_isOrder : GoodIn wsX9_move wsX9_isOrder := goodIn_r _ [7, 8, 9, 10, 6, 11, 71, 72, 73, 74, 75, 76, 77, 78, 79, 80, 81, 82, 83, 84, 85, 86, 87, 88, 89, 90, 91, 92, 93, 94, 95, 96, 97, 98, 99, 100, 101, 102, 103, 104, 105] (by decide +kernel) (by decide +kernel)
set_option maxRecDepth 20000 in
theorem gX9_move_X9_isOrder : GoodIn wsX9_move (wsV RX9 202 RX9 yX9_isOrder wsX9_isOrder) := goodIn_app (goodIn_of _ (by decide +kernel)) ggX9_move_X9_isOrder
set_option maxRecDepth 20000 in
theorem ggX9_move_X9_isIn : GoodIn wsX9_move wsX9_isIn := goodIn_r _ [11] (by decide +kernel) (by decide +kernel)
set_option maxRecDepth 20000 in
theorem gX9_move_X9_isIn : GoodIn wsX9_move (va_wsS RX9 83 yX9_isIn wsX9_isIn) := goodIn_app (goodIn_of _ (by decide +kernel)) ggX9_move_X9_isIn
set_option maxRecDepth 20000 in
theorem ggX9_move_X9_isWhat : GoodIn wsX9_move wsX9_isWhat := goodIn_r _ [15, 1, 71, 72, 73, 74, 75, 76, 77, 78, 79, 80, 81, 82, 83, 84, 85, 86, 87, 88, 89, 90, 91, 92, 93, 94, 95, 96, 97, 98, 99, 100, 101, 102, 103, 104, 105] (by decide +kernel) (by decide +kernel)
set_option maxRecDepth 20000 in
theorem gX9_move_X9_isWhat : GoodIn wsX9_move (wsV RX9 87 RX9 yX9_isWhat wsX9_isWhat) := goodIn_app (goodIn_of _ (by decide +kernel)) ggX9_move_X9_isWhat
set_option maxRecDepth 20000 in
theorem ggX9_move_X9_begins : GoodIn wsX9_move wsX9_begins := goodIn_r _ [19, 1, 2, 20, 21, 6, 22, 71, 72, 73, 74, 75, 76, 77, 78, 79, 80, 81, 82, 83, 84, 85, 86, 87, 88, 89, 90, 91, 92, 93, 94, 95, 96, 97, 98, 99, 100, 101, 102, 103, 104, 105] (by decide +kernel) (by decide +kernel)
set_option maxRecDepth 20000 in
theorem gX9_move_X9_begins : GoodIn wsX9_move (wsV RX9 115 RX9 yX9_begins wsX9_begins) := goodIn_app (goodIn_of _ (by decide +kernel)) ggX9_move_X9_begins
set_option maxRecDepth 20000 in
theorem ggX9_move_X9_those : GoodIn wsX9_move wsX9_those := goodIn_r _ [26, 8, 12, 13, 14, 6, 15, 1, 71, 72, 73, 74, 75, 76, 77, 78, 79, 80, 81, 82, 83, 84, 85, 86, 87, 88, 89, 90, 91, 92, 93, 94, 95, 96, 97, 98, 99, 100, 101, 102, 103, 104, 105] (by decide +kernel) (by decide +kernel)
set_option maxRecDepth 20000 in
theorem gX9_move_X9_those : GoodIn wsX9_move (wsV RX9 105 RX9 yX9_those wsX9_those) := goodIn_app (goodIn_of _ (by decide +kernel)) ggX9_move_X9_those
set_option maxRecDepth 20000 in
theorem ggX9_move_X9_isMet : GoodIn wsX9_move wsX9_isMet := goodIn_r _ [30, 31, 32, 33, 34, 6, 35, 36, 37, 38, 39, 40, 41, 42, 1, 43, 44, 45, 46, 47, 48, 49, 50, 51, 52, 8, 53, 54, 55, 56, 57, 58, 59, 60, 61, 71, 72, 73, 74, 75, 76, 77, 78, 79, 80, 81, 82, 83, 84, 85, 86, 87, 88, 89, 90, 91, 92, 93, 94, 95, 96, 97, 98, 99, 100, 101, 102, 103, 104, 105] (by decide +kernel) (by decide +kernel)
set_option maxRecDepth 20000 in
theorem gX9_move_X9_isMet : GoodIn wsX9_move (wsV RX9 163 RX9 yX9_isMet wsX9_isMet) := goodIn_app (goodIn_of _ (by decide +kernel)) ggX9_move_X9_isMet
set_option maxRecDepth 20000 in
theorem ggX9_move_X9_copies : GoodIn wsX9_move wsX9_copies := goodIn_r _ [22] (by decide +kernel) (by decide +kernel)
set_option maxRecDepth 20000 in
theorem gX9_move_X9_copies : GoodIn wsX9_move (va_wsS RX9 91 yX9_copies wsX9_copies) := goodIn_app (goodIn_of _ (by decide +kernel)) ggX9_move_X9_copies
set_option maxRecDepth 20000 in
theorem ggX9_move_X9_changed : GoodIn wsX9_move wsX9_changed := goodIn_r _ [65, 66, 67, 68, 69, 2, 1, 8, 70, 20, 21, 6, 22, 71, 72, 73, 74, 75, 76, 77, 78, 79, 80, 81, 82, 83, 84, 85, 86, 87, 88, 89, 90, 91, 92, 93, 94, 95, 96, 97, 98, 99, 100, 101, 102, 103, 104, 105] (by decide +kernel) (by decide +kernel)
set_option maxRecDepth 20000 in
theorem gX9_move_X9_changed : GoodIn wsX9_move (wsV RX9 122 RX9 yX9_changed wsX9_changed) := goodIn_app (goodIn_of _ (by decide +kernel)) ggX9_move_X9_changed
theorem dX9_move_0 : decode cX9_move 0 = .ok (.aload_n 0, 1) := by decide +kernel
theorem dX9_move_1 : decode cX9_move 1 = .ok (.iload_n 1, 1) := by decide +kernel
theorem dX9_move_2 : decode cX9_move 2 = .ok (.invokevirtual 202, 3) := by decide +kernel
theorem dX9_move_5 : decode cX9_move 5 = .ok (.ifCond .eq 13, 3) := by decide +kernel
theorem dX9_move_8 : decode cX9_move 8 = .ok (.iload_n 2, 1) := by decide +kernel
theorem dX9_move_9 : decode cX9_move 9 = .ok (.iconst 0, 1) := by decide +kernel
theorem dX9_move_10 : decode cX9_move 10 = .ok (.bipush 11, 2) := by decide +kernel
theorem dX9_move_12 : decode cX9_move 12 = .ok (.invokestatic 83, 3) := by decide +kernel
theorem dX9_move_15 : decode cX9_move 15 = .ok (.ifCond .ne 5, 3) := by decide +kernel
theorem dX9_move_18 : decode cX9_move 18 = .ok (.iconst (-1), 1) := by decide +kernel
theorem dX9_move_19 : decode cX9_move 19 = .ok (.ireturn, 1) := by decide +kernel
theorem dX9_move_20 : decode cX9_move 20 = .ok (.aload_n 0, 1) := by decide +kernel
theorem dX9_move_21 : decode cX9_move 21 = .ok (.iload_n 1, 1) := by decide +kernel
theorem dX9_move_22 : decode cX9_move 22 = .ok (.iconst 2, 1) := by decide +kernel
theorem dX9_move_23 : decode cX9_move 23 = .ok (.invokevirtual 87, 3) := by decide +kernel
theorem dX9_move_26 : decode cX9_move 26 = .ok (.ifCond .eq 6, 3) := by decide +kernel
theorem dX9_move_29 : decode cX9_move 29 = .ok (.bipush (-5), 2) := by decide +kernel
theorem dX9_move_31 : decode cX9_move 31 = .ok (.ireturn, 1) := by decide +kernel
theorem dX9_move_32 : decode cX9_move 32 = .ok (.aload_n 0, 1) := by decide +kernel
theorem dX9_move_33 : decode cX9_move 33 = .ok (.invokevirtual 115, 3) := by decide +kernel
theorem dX9_move_36 : decode cX9_move 36 = .ok (.aload_n 0, 1) := by decide +kernel
theorem dX9_move_37 : decode cX9_move 37 = .ok (.getfield 9, 3) := by decide +kernel
theorem dX9_move_40 : decode cX9_move 40 = .ok (.bipush 64, 2) := by decide +kernel
theorem dX9_move_42 : decode cX9_move 42 = .ok (.iload_n 1, 1) := by decide +kernel
theorem dX9_move_43 : decode cX9_move 43 = .ok (.iadd, 1) := by decide +kernel
theorem dX9_move_44 : decode cX9_move 44 = .ok (.iload_n 2, 1) := by decide +kernel
theorem dX9_move_45 : decode cX9_move 45 = .ok (.iastore, 1) := by decide +kernel
theorem dX9_move_46 : decode cX9_move 46 = .ok (.aload_n 0, 1) := by decide +kernel
theorem dX9_move_47 : decode cX9_move 47 = .ok (.iload_n 1, 1) := by decide +kernel
theorem dX9_move_48 : decode cX9_move 48 = .ok (.iconst 1, 1) := by decide +kernel
theorem dX9_move_49 : decode cX9_move 49 = .ok (.invokevirtual 87, 3) := by decide +kernel
theorem dX9_move_52 : decode cX9_move 52 = .ok (.ifCond .eq 29, 3) := by decide +kernel
theorem dX9_move_55 : decode cX9_move 55 = .ok (.aload_n 0, 1) := by decide +kernel
theorem dX9_move_56 : decode cX9_move 56 = .ok (.aload_n 0, 1) := by decide +kernel
theorem dX9_move_57 : decode cX9_move 57 = .ok (.iconst 1, 1) := by decide +kernel
theorem dX9_move_58 : decode cX9_move 58 = .ok (.invokevirtual 105, 3) := by decide +kernel
theorem dX9_move_61 : decode cX9_move 61 = .ok (.invokevirtual 163, 3) := by decide +kernel
theorem dX9_move_64 : decode cX9_move 64 = .ok (.ifCond .ne 17, 3) := by decide +kernel
theorem dX9_move_67 : decode cX9_move 67 = .ok (.aload_n 0, 1) := by decide +kernel
theorem dX9_move_68 : decode cX9_move 68 = .ok (.getfield 36, 3) := by decide +kernel
theorem dX9_move_71 : decode cX9_move 71 = .ok (.aload_n 0, 1) := by decide +kernel
theorem dX9_move_72 : decode cX9_move 72 = .ok (.getfield 9, 3) := by decide +kernel
theorem dX9_move_75 : decode cX9_move 75 = .ok (.invokestatic 91, 3) := by decide +kernel
theorem dX9_move_78 : decode cX9_move 78 = .ok (.bipush (-2), 2) := by decide +kernel
theorem dX9_move_80 : decode cX9_move 80 = .ok (.ireturn, 1) := by decide +kernel
theorem dX9_move_81 : decode cX9_move 81 = .ok (.aload_n 0, 1) := by decide +kernel
theorem dX9_move_82 : decode cX9_move 82 = .ok (.invokevirtual 122, 3) := by decide +kernel
theorem dX9_move_85 : decode cX9_move 85 = .ok (.aload_n 0, 1) := by decide +kernel
theorem dX9_move_86 : decode cX9_move 86 = .ok (.getfield 36, 3) := by decide +kernel
theorem dX9_move_89 : decode cX9_move 89 = .ok (.bipush 64, 2) := by decide +kernel
theorem dX9_move_91 : decode cX9_move 91 = .ok (.iload_n 1, 1) := by decide +kernel
theorem dX9_move_92 : decode cX9_move 92 = .ok (.iadd, 1) := by decide +kernel
theorem dX9_move_93 : decode cX9_move 93 = .ok (.iaload, 1) := by decide +kernel
theorem dX9_move_94 : decode cX9_move 94 = .ok (.ireturn, 1) := by decide +kernel
set_option maxRecDepth 20000 in
theorem ggX9_swap_X9_isOrder : GoodIn wsX9_swap wsX9_isOrder := goodIn_r _ [7, 8, 9, 10, 6, 11, 71, 72, 73, 74, 75, 76, 77, 78, 79, 80, 81, 82, 83, 84, 85, 86, 87, 88, 89, 90, 91, 92, 93, 94, 95, 96, 97, 98, 99, 100, 101, 102, 103, 104, 105] (by decide +kernel) (by decide +kernel)
set_option maxRecDepth 20000 in
theorem gX9_swap_X9_isOrder : GoodIn wsX9_swap (wsV RX9 202 RX9 yX9_isOrder wsX9_isOrder) := goodIn_app (goodIn_of _ (by decide +kernel)) ggX9_swap_X9_isOrder
set_option maxRecDepth 20000 in
theorem ggX9_swap_X9_isWhat : GoodIn wsX9_swap wsX9_isWhat := goodIn_r _ [15, 1, 71, 72, 73, 74, 75, 76, 77, 78, 79, 80, 81, 82, 83, 84, 85, 86, 87, 88, 89, 90, 91, 92, 93, 94, 95, 96, 97, 98, 99, 100, 101, 102, 103, 104, 105] (by decide +kernel) (by decide +kernel)
set_option maxRecDepth 20000 in
theorem gX9_swap_X9_isWhat : GoodIn wsX9_swap (wsV RX9 87 RX9 yX9_isWhat wsX9_isWhat) := goodIn_app (goodIn_of _ (by decide +kernel)) ggX9_swap_X9_isWhat
set_option maxRecDepth 20000 in
theorem ggX9_swap_X9_begins : GoodIn wsX9_swap wsX9_begins := goodIn_r _ [19, 1, 2, 20, 21, 6, 22, 71, 72, 73, 74, 75, 76, 77, 78, 79, 80, 81, 82, 83, 84, 85, 86, 87, 88, 89, 90, 91, 92, 93, 94, 95, 96, 97, 98, 99, 100, 101, 102, 103, 104, 105] (by decide +kernel) (by decide +kernel)
set_option maxRecDepth 20000 in
theorem gX9_swap_X9_begins : GoodIn wsX9_swap (wsV RX9 115 RX9 yX9_begins wsX9_begins) := goodIn_app (goodIn_of _ (by decide +kernel)) ggX9_swap_X9_begins
set_option maxRecDepth 20000 in
theorem ggX9_swap_X9_those : GoodIn wsX9_swap wsX9_those := goodIn_r _ [26, 8, 12, 13, 14, 6, 15, 1, 71, 72, 73, 74, 75, 76, 77, 78, 79, 80, 81, 82, 83, 84, 85, 86, 87, 88, 89, 90, 91, 92, 93, 94, 95, 96, 97, 98, 99, 100, 101, 102, 103, 104, 105] (by decide +kernel) (by decide +kernel)
set_option maxRecDepth 20000 in
theorem gX9_swap_X9_those : GoodIn wsX9_swap (wsV RX9 105 RX9 yX9_those wsX9_those) := goodIn_app (goodIn_of _ (by decide +kernel)) ggX9_swap_X9_those
set_option maxRecDepth 20000 in
theorem ggX9_swap_X9_isMet : GoodIn wsX9_swap wsX9_isMet := goodIn_r _ [30, 31, 32, 33, 34, 6, 35, 36, 37, 38, 39, 40, 41, 42, 1, 43, 44, 45, 46, 47, 48, 49, 50, 51, 52, 8, 53, 54, 55, 56, 57, 58, 59, 60, 61, 71, 72, 73, 74, 75, 76, 77, 78, 79, 80, 81, 82, 83, 84, 85, 86, 87, 88, 89, 90, 91, 92, 93, 94, 95, 96, 97, 98, 99, 100, 101, 102, 103, 104, 105] (by decide +kernel) (by decide +kernel)
set_option maxRecDepth 20000 in
theorem gX9_swap_X9_isMet : GoodIn wsX9_swap (wsV RX9 163 RX9 yX9_isMet wsX9_isMet) := goodIn_app (goodIn_of _ (by decide +kernel)) ggX9_swap_X9_isMet
set_option maxRecDepth 20000 in
theorem ggX9_swap_X9_copies : GoodIn wsX9_swap wsX9_copies := goodIn_r _ [22] (by decide +kernel) (by decide +kernel)
set_option maxRecDepth 20000 in
theorem gX9_swap_X9_copies : GoodIn wsX9_swap (va_wsS RX9 91 yX9_copies wsX9_copies) := goodIn_app (goodIn_of _ (by decide +kernel)) ggX9_swap_X9_copies
set_option maxRecDepth 20000 in
theorem ggX9_swap_X9_changed : GoodIn wsX9_swap wsX9_changed := goodIn_r _ [65, 66, 67, 68, 69, 2, 1, 8, 70, 20, 21, 6, 22, 71, 72, 73, 74, 75, 76, 77, 78, 79, 80, 81, 82, 83, 84, 85, 86, 87, 88, 89, 90, 91, 92, 93, 94, 95, 96, 97, 98, 99, 100, 101, 102, 103, 104, 105] (by decide +kernel) (by decide +kernel)
set_option maxRecDepth 20000 in
theorem gX9_swap_X9_changed : GoodIn wsX9_swap (wsV RX9 122 RX9 yX9_changed wsX9_changed) := goodIn_app (goodIn_of _ (by decide +kernel)) ggX9_swap_X9_changed
theorem dX9_swap_0 : decode cX9_swap 0 = .ok (.aload_n 0, 1) := by decide +kernel
theorem dX9_swap_1 : decode cX9_swap 1 = .ok (.iload_n 1, 1) := by decide +kernel
theorem dX9_swap_2 : decode cX9_swap 2 = .ok (.invokevirtual 202, 3) := by decide +kernel
theorem dX9_swap_5 : decode cX9_swap 5 = .ok (.ifCond .eq 16, 3) := by decide +kernel
theorem dX9_swap_8 : decode cX9_swap 8 = .ok (.aload_n 0, 1) := by decide +kernel
theorem dX9_swap_9 : decode cX9_swap 9 = .ok (.iload_n 2, 1) := by decide +kernel
theorem dX9_swap_10 : decode cX9_swap 10 = .ok (.invokevirtual 202, 3) := by decide +kernel
theorem dX9_swap_13 : decode cX9_swap 13 = .ok (.ifCond .eq 8, 3) := by decide +kernel
theorem dX9_swap_16 : decode cX9_swap 16 = .ok (.iload_n 1, 1) := by decide +kernel
theorem dX9_swap_17 : decode cX9_swap 17 = .ok (.iload_n 2, 1) := by decide +kernel
theorem dX9_swap_18 : decode cX9_swap 18 = .ok (.if_icmp .ne 5, 3) := by decide +kernel
theorem dX9_swap_21 : decode cX9_swap 21 = .ok (.iconst (-1), 1) := by decide +kernel
theorem dX9_swap_22 : decode cX9_swap 22 = .ok (.ireturn, 1) := by decide +kernel
theorem dX9_swap_23 : decode cX9_swap 23 = .ok (.aload_n 0, 1) := by decide +kernel
theorem dX9_swap_24 : decode cX9_swap 24 = .ok (.iload_n 1, 1) := by decide +kernel
theorem dX9_swap_25 : decode cX9_swap 25 = .ok (.iconst 1, 1) := by decide +kernel
theorem dX9_swap_26 : decode cX9_swap 26 = .ok (.invokevirtual 87, 3) := by decide +kernel
theorem dX9_swap_29 : decode cX9_swap 29 = .ok (.ifCond .eq 12, 3) := by decide +kernel
theorem dX9_swap_32 : decode cX9_swap 32 = .ok (.aload_n 0, 1) := by decide +kernel
theorem dX9_swap_33 : decode cX9_swap 33 = .ok (.iload_n 2, 1) := by decide +kernel
theorem dX9_swap_34 : decode cX9_swap 34 = .ok (.iconst 1, 1) := by decide +kernel
theorem dX9_swap_35 : decode cX9_swap 35 = .ok (.invokevirtual 87, 3) := by decide +kernel
theorem dX9_swap_38 : decode cX9_swap 38 = .ok (.ifCond .ne 6, 3) := by decide +kernel
theorem dX9_swap_41 : decode cX9_swap 41 = .ok (.bipush (-5), 2) := by decide +kernel
theorem dX9_swap_43 : decode cX9_swap 43 = .ok (.ireturn, 1) := by decide +kernel
theorem dX9_swap_44 : decode cX9_swap 44 = .ok (.aload_n 0, 1) := by decide +kernel
theorem dX9_swap_45 : decode cX9_swap 45 = .ok (.invokevirtual 115, 3) := by decide +kernel
theorem dX9_swap_48 : decode cX9_swap 48 = .ok (.aload_n 0, 1) := by decide +kernel
theorem dX9_swap_49 : decode cX9_swap 49 = .ok (.getfield 9, 3) := by decide +kernel
theorem dX9_swap_52 : decode cX9_swap 52 = .ok (.bipush 64, 2) := by decide +kernel
theorem dX9_swap_54 : decode cX9_swap 54 = .ok (.iload_n 1, 1) := by decide +kernel
theorem dX9_swap_55 : decode cX9_swap 55 = .ok (.iadd, 1) := by decide +kernel
theorem dX9_swap_56 : decode cX9_swap 56 = .ok (.aload_n 0, 1) := by decide +kernel
theorem dX9_swap_57 : decode cX9_swap 57 = .ok (.getfield 36, 3) := by decide +kernel
theorem dX9_swap_60 : decode cX9_swap 60 = .ok (.bipush 64, 2) := by decide +kernel
theorem dX9_swap_62 : decode cX9_swap 62 = .ok (.iload_n 2, 1) := by decide +kernel
theorem dX9_swap_63 : decode cX9_swap 63 = .ok (.iadd, 1) := by decide +kernel
theorem dX9_swap_64 : decode cX9_swap 64 = .ok (.iaload, 1) := by decide +kernel
theorem dX9_swap_65 : decode cX9_swap 65 = .ok (.iastore, 1) := by decide +kernel
theorem dX9_swap_66 : decode cX9_swap 66 = .ok (.aload_n 0, 1) := by decide +kernel
theorem dX9_swap_67 : decode cX9_swap 67 = .ok (.getfield 9, 3) := by decide +kernel
theorem dX9_swap_70 : decode cX9_swap 70 = .ok (.bipush 64, 2) := by decide +kernel
theorem dX9_swap_72 : decode cX9_swap 72 = .ok (.iload_n 2, 1) := by decide +kernel
theorem dX9_swap_73 : decode cX9_swap 73 = .ok (.iadd, 1) := by decide +kernel
theorem dX9_swap_74 : decode cX9_swap 74 = .ok (.aload_n 0, 1) := by decide +kernel
theorem dX9_swap_75 : decode cX9_swap 75 = .ok (.getfield 36, 3) := by decide +kernel
theorem dX9_swap_78 : decode cX9_swap 78 = .ok (.bipush 64, 2) := by decide +kernel
theorem dX9_swap_80 : decode cX9_swap 80 = .ok (.iload_n 1, 1) := by decide +kernel
theorem dX9_swap_81 : decode cX9_swap 81 = .ok (.iadd, 1) := by decide +kernel
theorem dX9_swap_82 : decode cX9_swap 82 = .ok (.iaload, 1) := by decide +kernel
theorem dX9_swap_83 : decode cX9_swap 83 = .ok (.iastore, 1) := by decide +kernel
theorem dX9_swap_84 : decode cX9_swap 84 = .ok (.aload_n 0, 1) := by decide +kernel
theorem dX9_swap_85 : decode cX9_swap 85 = .ok (.aload_n 0, 1) := by decide +kernel
theorem dX9_swap_86 : decode cX9_swap 86 = .ok (.iconst 1, 1) := by decide +kernel
theorem dX9_swap_87 : decode cX9_swap 87 = .ok (.invokevirtual 105, 3) := by decide +kernel
theorem dX9_swap_90 : decode cX9_swap 90 = .ok (.invokevirtual 163, 3) := by decide +kernel
theorem dX9_swap_93 : decode cX9_swap 93 = .ok (.ifCond .ne 17, 3) := by decide +kernel
theorem dX9_swap_96 : decode cX9_swap 96 = .ok (.aload_n 0, 1) := by decide +kernel
theorem dX9_swap_97 : decode cX9_swap 97 = .ok (.getfield 36, 3) := by decide +kernel
theorem dX9_swap_100 : decode cX9_swap 100 = .ok (.aload_n 0, 1) := by decide +kernel
theorem dX9_swap_101 : decode cX9_swap 101 = .ok (.getfield 9, 3) := by decide +kernel
theorem dX9_swap_104 : decode cX9_swap 104 = .ok (.invokestatic 91, 3) := by decide +kernel
theorem dX9_swap_107 : decode cX9_swap 107 = .ok (.bipush (-2), 2) := by decide +kernel
theorem dX9_swap_109 : decode cX9_swap 109 = .ok (.ireturn, 1) := by decide +kernel
theorem dX9_swap_110 : decode cX9_swap 110 = .ok (.aload_n 0, 1) := by decide +kernel
theorem dX9_swap_111 : decode cX9_swap 111 = .ok (.invokevirtual 122, 3) := by decide +kernel
theorem dX9_swap_114 : decode cX9_swap 114 = .ok (.iconst 1, 1) := by decide +kernel
theorem dX9_swap_115 : decode cX9_swap 115 = .ok (.ireturn, 1) := by decide +kernel
set_option maxRecDepth 20000 in
theorem ggX9_hinders_X9_isOrder : GoodIn wsX9_hinders wsX9_isOrder := goodIn_r _ [8, 9, 10, 11, 7, 12, 51, 52, 53, 54, 55, 56, 57, 58, 59, 60, 61, 62, 63, 64, 65, 66, 67, 68, 69, 70, 71, 72, 73, 74, 75, 76, 77, 78, 79, 80, 81, 82, 83, 84, 85] (by decide +kernel) (by decide +kernel)
set_option maxRecDepth 20000 in
theorem gX9_hinders_X9_isOrder : GoodIn wsX9_hinders (wsV RX9 202 RX9 yX9_isOrder wsX9_isOrder) := goodIn_app (goodIn_of _ (by decide +kernel)) ggX9_hinders_X9_isOrder
set_option maxRecDepth 20000 in
theorem ggX9_hinders_X9_isIn : GoodIn wsX9_hinders wsX9_isIn := goodIn_r _ [12] (by decide +kernel) (by decide +kernel)
set_option maxRecDepth 20000 in
theorem gX9_hinders_X9_isIn : GoodIn wsX9_hinders (va_wsS RX9 83 yX9_isIn wsX9_isIn) := goodIn_app (goodIn_of _ (by decide +kernel)) ggX9_hinders_X9_isIn
set_option maxRecDepth 20000 in
theorem ggX9_hinders_X9_isWhat : GoodIn wsX9_hinders wsX9_isWhat := goodIn_r _ [16, 17, 51, 52, 53, 54, 55, 56, 57, 58, 59, 60, 61, 62, 63, 64, 65, 66, 67, 68, 69, 70, 71, 72, 73, 74, 75, 76, 77, 78, 79, 80, 81, 82, 83, 84, 85] (by decide +kernel) (by decide +kernel)
set_option maxRecDepth 20000 in
theorem gX9_hinders_X9_isWhat : GoodIn wsX9_hinders (wsV RX9 87 RX9 yX9_isWhat wsX9_isWhat) := goodIn_app (goodIn_of _ (by decide +kernel)) ggX9_hinders_X9_isWhat
set_option maxRecDepth 20000 in
theorem ggX9_hinders_X9_those : GoodIn wsX9_hinders wsX9_those := goodIn_r _ [21, 9, 13, 14, 15, 7, 16, 17, 51, 52, 53, 54, 55, 56, 57, 58, 59, 60, 61, 62, 63, 64, 65, 66, 67, 68, 69, 70, 71, 72, 73, 74, 75, 76, 77, 78, 79, 80, 81, 82, 83, 84, 85] (by decide +kernel) (by decide +kernel)
set_option maxRecDepth 20000 in
theorem gX9_hinders_X9_those : GoodIn wsX9_hinders (wsV RX9 105 RX9 yX9_those wsX9_those) := goodIn_app (goodIn_of _ (by decide +kernel)) ggX9_hinders_X9_those
set_option maxRecDepth 20000 in
theorem ggX9_hinders_X9_findLeast : GoodIn wsX9_hinders wsX9_findLeast := goodIn_r _ [25, 26, 1, 2, 27, 28, 29, 7, 30, 31, 17, 32, 33, 34, 35, 36, 37, 38, 39, 40, 41, 9, 42, 43, 44, 45, 46, 47, 48, 49, 50, 51, 52, 53, 54, 55, 56, 57, 58, 59, 60, 61, 62, 63, 64, 65, 66, 67, 68, 69, 70, 71, 72, 73, 74, 75, 76, 77, 78, 79, 80, 81, 82, 83, 84, 85] (by decide +kernel) (by decide +kernel)
set_option maxRecDepth 20000 in
theorem gX9_hinders_X9_findLeast : GoodIn wsX9_hinders (wsV RX9 159 RX9 yX9_findLeast wsX9_findLeast) := goodIn_app (goodIn_of _ (by decide +kernel)) ggX9_hinders_X9_findLeast
theorem dX9_hinders_0 : decode cX9_hinders 0 = .ok (.aload_n 0, 1) := by decide +kernel
theorem dX9_hinders_1 : decode cX9_hinders 1 = .ok (.iload_n 1, 1) := by decide +kernel
theorem dX9_hinders_2 : decode cX9_hinders 2 = .ok (.invokevirtual 202, 3) := by decide +kernel
theorem dX9_hinders_5 : decode cX9_hinders 5 = .ok (.ifCond .eq 12, 3) := by decide +kernel
theorem dX9_hinders_8 : decode cX9_hinders 8 = .ok (.iload_n 2, 1) := by decide +kernel
theorem dX9_hinders_9 : decode cX9_hinders 9 = .ok (.iconst (-1), 1) := by decide +kernel
theorem dX9_hinders_10 : decode cX9_hinders 10 = .ok (.iconst 0, 1) := by decide +kernel
theorem dX9_hinders_11 : decode cX9_hinders 11 = .ok (.invokestatic 83, 3) := by decide +kernel
theorem dX9_hinders_14 : decode cX9_hinders 14 = .ok (.ifCond .ne 5, 3) := by decide +kernel
theorem dX9_hinders_17 : decode cX9_hinders 17 = .ok (.iconst (-1), 1) := by decide +kernel
theorem dX9_hinders_18 : decode cX9_hinders 18 = .ok (.ireturn, 1) := by decide +kernel
theorem dX9_hinders_19 : decode cX9_hinders 19 = .ok (.aload_n 0, 1) := by decide +kernel
theorem dX9_hinders_20 : decode cX9_hinders 20 = .ok (.iload_n 1, 1) := by decide +kernel
theorem dX9_hinders_21 : decode cX9_hinders 21 = .ok (.iconst 0, 1) := by decide +kernel
theorem dX9_hinders_22 : decode cX9_hinders 22 = .ok (.invokevirtual 87, 3) := by decide +kernel
theorem dX9_hinders_25 : decode cX9_hinders 25 = .ok (.ifCond .ne 6, 3) := by decide +kernel
theorem dX9_hinders_28 : decode cX9_hinders 28 = .ok (.bipush (-5), 2) := by decide +kernel
theorem dX9_hinders_30 : decode cX9_hinders 30 = .ok (.ireturn, 1) := by decide +kernel
theorem dX9_hinders_31 : decode cX9_hinders 31 = .ok (.aload_n 0, 1) := by decide +kernel
theorem dX9_hinders_32 : decode cX9_hinders 32 = .ok (.aload_n 0, 1) := by decide +kernel
theorem dX9_hinders_33 : decode cX9_hinders 33 = .ok (.iconst 1, 1) := by decide +kernel
theorem dX9_hinders_34 : decode cX9_hinders 34 = .ok (.invokevirtual 105, 3) := by decide +kernel
theorem dX9_hinders_37 : decode cX9_hinders 37 = .ok (.iconst 1, 1) := by decide +kernel
theorem dX9_hinders_38 : decode cX9_hinders 38 = .ok (.iload_n 1, 1) := by decide +kernel
theorem dX9_hinders_39 : decode cX9_hinders 39 = .ok (.ishl, 1) := by decide +kernel
theorem dX9_hinders_40 : decode cX9_hinders 40 = .ok (.ior, 1) := by decide +kernel
theorem dX9_hinders_41 : decode cX9_hinders 41 = .ok (.invokevirtual 159, 3) := by decide +kernel
theorem dX9_hinders_44 : decode cX9_hinders 44 = .ok (.aload_n 0, 1) := by decide +kernel
theorem dX9_hinders_45 : decode cX9_hinders 45 = .ok (.getfield 147, 3) := by decide +kernel
theorem dX9_hinders_48 : decode cX9_hinders 48 = .ok (.ifCond .lt 6, 3) := by decide +kernel
theorem dX9_hinders_51 : decode cX9_hinders 51 = .ok (.bipush (-2), 2) := by decide +kernel
theorem dX9_hinders_53 : decode cX9_hinders 53 = .ok (.ireturn, 1) := by decide +kernel
theorem dX9_hinders_54 : decode cX9_hinders 54 = .ok (.iload_n 2, 1) := by decide +kernel
theorem dX9_hinders_55 : decode cX9_hinders 55 = .ok (.ifCond .ge 10, 3) := by decide +kernel
theorem dX9_hinders_58 : decode cX9_hinders 58 = .ok (.aload_n 0, 1) := by decide +kernel
theorem dX9_hinders_59 : decode cX9_hinders 59 = .ok (.getfield 156, 3) := by decide +kernel
theorem dX9_hinders_62 : decode cX9_hinders 62 = .ok (.goto 10, 3) := by decide +kernel
theorem dX9_hinders_65 : decode cX9_hinders 65 = .ok (.ldc 217, 2) := by decide +kernel
theorem dX9_hinders_67 : decode cX9_hinders 67 = .ok (.aload_n 0, 1) := by decide +kernel
theorem dX9_hinders_68 : decode cX9_hinders 68 = .ok (.getfield 147, 3) := by decide +kernel
theorem dX9_hinders_71 : decode cX9_hinders 71 = .ok (.iadd, 1) := by decide +kernel
theorem dX9_hinders_72 : decode cX9_hinders 72 = .ok (.ireturn, 1) := by decide +kernel
set_option maxRecDepth 20000 in
theorem ggX9_earliest_X9_canBe : GoodIn wsX9_earliest wsX9_canBe := goodIn_r _ [6, 7, 8, 9, 10, 5, 11, 12, 13, 14, 15, 16, 17, 1, 18, 19, 20, 21, 22, 23, 24, 25, 26, 27, 28, 29, 30, 31, 32, 33, 34, 35, 36, 37, 38, 39, 40, 41, 42, 43, 44, 45, 46, 47, 48, 49, 50, 51, 52, 53, 54, 55, 56, 57, 58, 59, 60, 61, 62, 63, 64, 65, 66, 67, 68, 69, 70, 71, 72, 73, 74, 75, 76, 77, 78, 79, 80, 81, 82, 83, 84, 85, 86, 87, 88, 89, 90] (by decide +kernel) (by decide +kernel)
set_option maxRecDepth 20000 in
theorem gX9_earliest_X9_canBe : GoodIn wsX9_earliest (wsV RX9 208 RX9 yX9_canBe wsX9_canBe) := goodIn_app (goodIn_of _ (by decide +kernel)) ggX9_earliest_X9_canBe
theorem dX9_earliest_0 : decode cX9_earliest 0 = .ok (.aload_n 0, 1) := by decide +kernel
theorem dX9_earliest_1 : decode cX9_earliest 1 = .ok (.getfield 9, 3) := by decide +kernel
theorem dX9_earliest_4 : decode cX9_earliest 4 = .ok (.bipush 64, 2) := by decide +kernel
theorem dX9_earliest_6 : decode cX9_earliest 6 = .ok (.iload_n 1, 1) := by decide +kernel
theorem dX9_earliest_7 : decode cX9_earliest 7 = .ok (.iadd, 1) := by decide +kernel
theorem dX9_earliest_8 : decode cX9_earliest 8 = .ok (.iaload, 1) := by decide +kernel
theorem dX9_earliest_9 : decode cX9_earliest 9 = .ok (.istore_n 3, 1) := by decide +kernel
theorem dX9_earliest_10 : decode cX9_earliest 10 = .ok (.bipush (-2), 2) := by decide +kernel
theorem dX9_earliest_12 : decode cX9_earliest 12 = .ok (.istore 4, 2) := by decide +kernel
theorem dX9_earliest_14 : decode cX9_earliest 14 = .ok (.iconst 0, 1) := by decide +kernel
theorem dX9_earliest_15 : decode cX9_earliest 15 = .ok (.istore 5, 2) := by decide +kernel
theorem dX9_earliest_17 : decode cX9_earliest 17 = .ok (.iload 5, 2) := by decide +kernel
theorem dX9_earliest_19 : decode cX9_earliest 19 = .ok (.bipush 12, 2) := by decide +kernel
theorem dX9_earliest_21 : decode cX9_earliest 21 = .ok (.if_icmp .ge 43, 3) := by decide +kernel
theorem dX9_earliest_24 : decode cX9_earliest 24 = .ok (.iload 4, 2) := by decide +kernel
theorem dX9_earliest_26 : decode cX9_earliest 26 = .ok (.ifCond .ge 38, 3) := by decide +kernel
theorem dX9_earliest_29 : decode cX9_earliest 29 = .ok (.aload_n 0, 1) := by decide +kernel
theorem dX9_earliest_30 : decode cX9_earliest 30 = .ok (.getfield 9, 3) := by decide +kernel
theorem dX9_earliest_33 : decode cX9_earliest 33 = .ok (.bipush 64, 2) := by decide +kernel
theorem dX9_earliest_35 : decode cX9_earliest 35 = .ok (.iload_n 1, 1) := by decide +kernel
theorem dX9_earliest_36 : decode cX9_earliest 36 = .ok (.iadd, 1) := by decide +kernel
theorem dX9_earliest_37 : decode cX9_earliest 37 = .ok (.iload 5, 2) := by decide +kernel
theorem dX9_earliest_39 : decode cX9_earliest 39 = .ok (.iastore, 1) := by decide +kernel
theorem dX9_earliest_40 : decode cX9_earliest 40 = .ok (.aload_n 0, 1) := by decide +kernel
theorem dX9_earliest_41 : decode cX9_earliest 41 = .ok (.iload_n 1, 1) := by decide +kernel
theorem dX9_earliest_42 : decode cX9_earliest 42 = .ok (.iload_n 2, 1) := by decide +kernel
theorem dX9_earliest_43 : decode cX9_earliest 43 = .ok (.invokevirtual 208, 3) := by decide +kernel
theorem dX9_earliest_46 : decode cX9_earliest 46 = .ok (.ifCond .eq 8, 3) := by decide +kernel
theorem dX9_earliest_49 : decode cX9_earliest 49 = .ok (.iload 5, 2) := by decide +kernel
theorem dX9_earliest_51 : decode cX9_earliest 51 = .ok (.goto 5, 3) := by decide +kernel
theorem dX9_earliest_54 : decode cX9_earliest 54 = .ok (.bipush (-2), 2) := by decide +kernel
theorem dX9_earliest_56 : decode cX9_earliest 56 = .ok (.istore 4, 2) := by decide +kernel
theorem dX9_earliest_58 : decode cX9_earliest 58 = .ok (.iinc 5 1, 3) := by decide +kernel
theorem dX9_earliest_61 : decode cX9_earliest 61 = .ok (.goto (-44), 3) := by decide +kernel
theorem dX9_earliest_64 : decode cX9_earliest 64 = .ok (.aload_n 0, 1) := by decide +kernel
theorem dX9_earliest_65 : decode cX9_earliest 65 = .ok (.getfield 9, 3) := by decide +kernel
theorem dX9_earliest_68 : decode cX9_earliest 68 = .ok (.bipush 64, 2) := by decide +kernel
theorem dX9_earliest_70 : decode cX9_earliest 70 = .ok (.iload_n 1, 1) := by decide +kernel
theorem dX9_earliest_71 : decode cX9_earliest 71 = .ok (.iadd, 1) := by decide +kernel
theorem dX9_earliest_72 : decode cX9_earliest 72 = .ok (.iload_n 3, 1) := by decide +kernel
theorem dX9_earliest_73 : decode cX9_earliest 73 = .ok (.iastore, 1) := by decide +kernel
theorem dX9_earliest_74 : decode cX9_earliest 74 = .ok (.iload 4, 2) := by decide +kernel
theorem dX9_earliest_76 : decode cX9_earliest 76 = .ok (.ireturn, 1) := by decide +kernel
set_option maxRecDepth 20000 in
theorem ggX9_asMuch_X9_canBe : GoodIn wsX9_asMuch wsX9_canBe := goodIn_r _ [6, 7, 8, 9, 10, 5, 11, 12, 1, 13, 14, 15, 16, 17, 18, 19, 20, 21, 22, 23, 24, 25, 26, 27, 28, 29, 30, 31, 32, 33, 34, 35, 36, 37, 38, 39, 40, 41, 42, 43, 44, 45, 46, 47, 48, 49, 50, 51, 52, 53, 54, 55, 56, 57, 58, 59, 60, 61, 62, 63, 64, 65, 66, 67, 68, 69, 70, 71, 72, 73, 74, 75, 76, 77, 78, 79, 80, 81, 82, 83, 84, 85, 86, 87, 88, 89, 90] (by decide +kernel) (by decide +kernel)
set_option maxRecDepth 20000 in
theorem gX9_asMuch_X9_canBe : GoodIn wsX9_asMuch (wsV RX9 208 RX9 yX9_canBe wsX9_canBe) := goodIn_app (goodIn_of _ (by decide +kernel)) ggX9_asMuch_X9_canBe
theorem dX9_asMuch_0 : decode cX9_asMuch 0 = .ok (.aload_n 0, 1) := by decide +kernel
theorem dX9_asMuch_1 : decode cX9_asMuch 1 = .ok (.getfield 13, 3) := by decide +kernel
theorem dX9_asMuch_4 : decode cX9_asMuch 4 = .ok (.iload_n 1, 1) := by decide +kernel
theorem dX9_asMuch_5 : decode cX9_asMuch 5 = .ok (.iaload, 1) := by decide +kernel
theorem dX9_asMuch_6 : decode cX9_asMuch 6 = .ok (.istore_n 3, 1) := by decide +kernel
theorem dX9_asMuch_7 : decode cX9_asMuch 7 = .ok (.bipush (-2), 2) := by decide +kernel
theorem dX9_asMuch_9 : decode cX9_asMuch 9 = .ok (.istore 4, 2) := by decide +kernel
theorem dX9_asMuch_11 : decode cX9_asMuch 11 = .ok (.bipush 60, 2) := by decide +kernel
theorem dX9_asMuch_13 : decode cX9_asMuch 13 = .ok (.istore 5, 2) := by decide +kernel
theorem dX9_asMuch_15 : decode cX9_asMuch 15 = .ok (.iload 5, 2) := by decide +kernel
theorem dX9_asMuch_17 : decode cX9_asMuch 17 = .ok (.ifCond .le 40, 3) := by decide +kernel
theorem dX9_asMuch_20 : decode cX9_asMuch 20 = .ok (.iload 4, 2) := by decide +kernel
theorem dX9_asMuch_22 : decode cX9_asMuch 22 = .ok (.ifCond .ge 35, 3) := by decide +kernel
theorem dX9_asMuch_25 : decode cX9_asMuch 25 = .ok (.aload_n 0, 1) := by decide +kernel
theorem dX9_asMuch_26 : decode cX9_asMuch 26 = .ok (.getfield 13, 3) := by decide +kernel
theorem dX9_asMuch_29 : decode cX9_asMuch 29 = .ok (.iload_n 1, 1) := by decide +kernel
theorem dX9_asMuch_30 : decode cX9_asMuch 30 = .ok (.iload 5, 2) := by decide +kernel
theorem dX9_asMuch_32 : decode cX9_asMuch 32 = .ok (.iastore, 1) := by decide +kernel
theorem dX9_asMuch_33 : decode cX9_asMuch 33 = .ok (.aload_n 0, 1) := by decide +kernel
theorem dX9_asMuch_34 : decode cX9_asMuch 34 = .ok (.iload_n 1, 1) := by decide +kernel
theorem dX9_asMuch_35 : decode cX9_asMuch 35 = .ok (.iload_n 2, 1) := by decide +kernel
theorem dX9_asMuch_36 : decode cX9_asMuch 36 = .ok (.invokevirtual 208, 3) := by decide +kernel
theorem dX9_asMuch_39 : decode cX9_asMuch 39 = .ok (.ifCond .eq 8, 3) := by decide +kernel
theorem dX9_asMuch_42 : decode cX9_asMuch 42 = .ok (.iload 5, 2) := by decide +kernel
theorem dX9_asMuch_44 : decode cX9_asMuch 44 = .ok (.goto 5, 3) := by decide +kernel
theorem dX9_asMuch_47 : decode cX9_asMuch 47 = .ok (.bipush (-2), 2) := by decide +kernel
theorem dX9_asMuch_49 : decode cX9_asMuch 49 = .ok (.istore 4, 2) := by decide +kernel
theorem dX9_asMuch_51 : decode cX9_asMuch 51 = .ok (.iinc 5 (-1), 3) := by decide +kernel
theorem dX9_asMuch_54 : decode cX9_asMuch 54 = .ok (.goto (-39), 3) := by decide +kernel
theorem dX9_asMuch_57 : decode cX9_asMuch 57 = .ok (.aload_n 0, 1) := by decide +kernel
theorem dX9_asMuch_58 : decode cX9_asMuch 58 = .ok (.getfield 13, 3) := by decide +kernel
theorem dX9_asMuch_61 : decode cX9_asMuch 61 = .ok (.iload_n 1, 1) := by decide +kernel
theorem dX9_asMuch_62 : decode cX9_asMuch 62 = .ok (.iload_n 3, 1) := by decide +kernel
theorem dX9_asMuch_63 : decode cX9_asMuch 63 = .ok (.iastore, 1) := by decide +kernel
theorem dX9_asMuch_64 : decode cX9_asMuch 64 = .ok (.iload 4, 2) := by decide +kernel
theorem dX9_asMuch_66 : decode cX9_asMuch 66 = .ok (.ireturn, 1) := by decide +kernel
set_option maxRecDepth 20000 in
theorem ggX9_could_X9_isOrder : GoodIn wsX9_could wsX9_isOrder := goodIn_r _ [5, 6, 7, 8, 4, 9, 79, 80, 81, 82, 83, 84, 85, 86, 87, 88, 89, 90, 91, 92, 93, 94, 95, 96, 97, 98, 99, 100, 101, 102, 103, 104, 105, 106, 107, 108, 109, 110, 111, 112, 113] (by decide +kernel) (by decide +kernel)
set_option maxRecDepth 20000 in
theorem gX9_could_X9_isOrder : GoodIn wsX9_could (wsV RX9 202 RX9 yX9_isOrder wsX9_isOrder) := goodIn_app (goodIn_of _ (by decide +kernel)) ggX9_could_X9_isOrder
set_option maxRecDepth 20000 in
theorem ggX9_could_X9_isIn : GoodIn wsX9_could wsX9_isIn := goodIn_r _ [9] (by decide +kernel) (by decide +kernel)
set_option maxRecDepth 20000 in
theorem gX9_could_X9_isIn : GoodIn wsX9_could (va_wsS RX9 83 yX9_isIn wsX9_isIn) := goodIn_app (goodIn_of _ (by decide +kernel)) ggX9_could_X9_isIn
set_option maxRecDepth 20000 in
theorem ggX9_could_X9_isWhat : GoodIn wsX9_could wsX9_isWhat := goodIn_r _ [13, 14, 79, 80, 81, 82, 83, 84, 85, 86, 87, 88, 89, 90, 91, 92, 93, 94, 95, 96, 97, 98, 99, 100, 101, 102, 103, 104, 105, 106, 107, 108, 109, 110, 111, 112, 113] (by decide +kernel) (by decide +kernel)
set_option maxRecDepth 20000 in
theorem gX9_could_X9_isWhat : GoodIn wsX9_could (wsV RX9 87 RX9 yX9_isWhat wsX9_isWhat) := goodIn_app (goodIn_of _ (by decide +kernel)) ggX9_could_X9_isWhat
set_option maxRecDepth 20000 in
theorem ggX9_could_X9_those : GoodIn wsX9_could wsX9_those := goodIn_r _ [18, 6, 10, 11, 12, 4, 13, 14, 79, 80, 81, 82, 83, 84, 85, 86, 87, 88, 89, 90, 91, 92, 93, 94, 95, 96, 97, 98, 99, 100, 101, 102, 103, 104, 105, 106, 107, 108, 109, 110, 111, 112, 113] (by decide +kernel) (by decide +kernel)
set_option maxRecDepth 20000 in
theorem gX9_could_X9_those : GoodIn wsX9_could (wsV RX9 105 RX9 yX9_those wsX9_those) := goodIn_app (goodIn_of _ (by decide +kernel)) ggX9_could_X9_those
set_option maxRecDepth 20000 in
theorem ggX9_could_X9_earliest : GoodIn wsX9_could wsX9_earliest := goodIn_r _ [22, 14, 23, 24, 25, 4, 26, 27, 28, 29, 30, 31, 6, 32, 33, 34, 35, 36, 37, 38, 39, 40, 41, 42, 43, 44, 45, 46, 47, 48, 49, 50, 51, 52, 53, 54, 55, 56, 57, 58, 59, 60, 61, 62, 63, 64, 65, 66, 67, 68, 69, 70, 71, 72, 73, 74, 79, 80, 81, 82, 83, 84, 85, 86, 87, 88, 89, 90, 91, 92, 93, 94, 95, 96, 97, 98, 99, 100, 101, 102, 103, 104, 105, 106, 107, 108, 109, 110, 111, 112, 113] (by decide +kernel) (by decide +kernel)
set_option maxRecDepth 20000 in
theorem gX9_could_X9_earliest : GoodIn wsX9_could (wsV RX9 218 RX9 yX9_earliest wsX9_earliest) := goodIn_app (goodIn_of _ (by decide +kernel)) ggX9_could_X9_earliest
set_option maxRecDepth 20000 in
theorem ggX9_could_X9_asMuch : GoodIn wsX9_could wsX9_asMuch := goodIn_r _ [78, 32, 23, 24, 25, 4, 26, 27, 28, 29, 30, 31, 6, 33, 34, 35, 36, 14, 37, 38, 39, 40, 41, 42, 43, 44, 45, 46, 47, 48, 49, 50, 51, 52, 53, 54, 55, 56, 57, 58, 59, 60, 61, 62, 63, 64, 65, 66, 67, 68, 69, 70, 71, 72, 73, 74, 79, 80, 81, 82, 83, 84, 85, 86, 87, 88, 89, 90, 91, 92, 93, 94, 95, 96, 97, 98, 99, 100, 101, 102, 103, 104, 105, 106, 107, 108, 109, 110, 111, 112, 113] (by decide +kernel) (by decide +kernel)
set_option maxRecDepth 20000 in
theorem gX9_could_X9_asMuch : GoodIn wsX9_could (wsV RX9 221 RX9 yX9_asMuch wsX9_asMuch) := goodIn_app (goodIn_of _ (by decide +kernel)) ggX9_could_X9_asMuch
theorem dX9_could_0 : decode cX9_could 0 = .ok (.aload_n 0, 1) := by decide +kernel
theorem dX9_could_1 : decode cX9_could 1 = .ok (.iload_n 1, 1) := by decide +kernel
theorem dX9_could_2 : decode cX9_could 2 = .ok (.invokevirtual 202, 3) := by decide +kernel
theorem dX9_could_5 : decode cX9_could 5 = .ok (.ifCond .eq 12, 3) := by decide +kernel
theorem dX9_could_8 : decode cX9_could 8 = .ok (.iload_n 2, 1) := by decide +kernel
theorem dX9_could_9 : decode cX9_could 9 = .ok (.iconst 0, 1) := by decide +kernel
theorem dX9_could_10 : decode cX9_could 10 = .ok (.iconst 1, 1) := by decide +kernel
theorem dX9_could_11 : decode cX9_could 11 = .ok (.invokestatic 83, 3) := by decide +kernel
theorem dX9_could_14 : decode cX9_could 14 = .ok (.ifCond .ne 5, 3) := by decide +kernel
theorem dX9_could_17 : decode cX9_could 17 = .ok (.iconst (-1), 1) := by decide +kernel
theorem dX9_could_18 : decode cX9_could 18 = .ok (.ireturn, 1) := by decide +kernel
theorem dX9_could_19 : decode cX9_could 19 = .ok (.aload_n 0, 1) := by decide +kernel
theorem dX9_could_20 : decode cX9_could 20 = .ok (.iload_n 1, 1) := by decide +kernel
theorem dX9_could_21 : decode cX9_could 21 = .ok (.iconst 2, 1) := by decide +kernel
theorem dX9_could_22 : decode cX9_could 22 = .ok (.invokevirtual 87, 3) := by decide +kernel
theorem dX9_could_25 : decode cX9_could 25 = .ok (.ifCond .eq 6, 3) := by decide +kernel
theorem dX9_could_28 : decode cX9_could 28 = .ok (.bipush (-5), 2) := by decide +kernel
theorem dX9_could_30 : decode cX9_could 30 = .ok (.ireturn, 1) := by decide +kernel
theorem dX9_could_31 : decode cX9_could 31 = .ok (.aload_n 0, 1) := by decide +kernel
theorem dX9_could_32 : decode cX9_could 32 = .ok (.iconst 1, 1) := by decide +kernel
theorem dX9_could_33 : decode cX9_could 33 = .ok (.invokevirtual 105, 3) := by decide +kernel
theorem dX9_could_36 : decode cX9_could 36 = .ok (.iconst 1, 1) := by decide +kernel
theorem dX9_could_37 : decode cX9_could 37 = .ok (.iload_n 1, 1) := by decide +kernel
theorem dX9_could_38 : decode cX9_could 38 = .ok (.ishl, 1) := by decide +kernel
theorem dX9_could_39 : decode cX9_could 39 = .ok (.iconst (-1), 1) := by decide +kernel
theorem dX9_could_40 : decode cX9_could 40 = .ok (.ixor, 1) := by decide +kernel
theorem dX9_could_41 : decode cX9_could 41 = .ok (.iand, 1) := by decide +kernel
theorem dX9_could_42 : decode cX9_could 42 = .ok (.istore_n 3, 1) := by decide +kernel
theorem dX9_could_43 : decode cX9_could 43 = .ok (.iload_n 2, 1) := by decide +kernel
theorem dX9_could_44 : decode cX9_could 44 = .ok (.ifCond .ne 12, 3) := by decide +kernel
theorem dX9_could_47 : decode cX9_could 47 = .ok (.aload_n 0, 1) := by decide +kernel
theorem dX9_could_48 : decode cX9_could 48 = .ok (.iload_n 1, 1) := by decide +kernel
theorem dX9_could_49 : decode cX9_could 49 = .ok (.iload_n 3, 1) := by decide +kernel
theorem dX9_could_50 : decode cX9_could 50 = .ok (.invokevirtual 218, 3) := by decide +kernel
theorem dX9_could_53 : decode cX9_could 53 = .ok (.goto 9, 3) := by decide +kernel
theorem dX9_could_56 : decode cX9_could 56 = .ok (.aload_n 0, 1) := by decide +kernel
theorem dX9_could_57 : decode cX9_could 57 = .ok (.iload_n 1, 1) := by decide +kernel
theorem dX9_could_58 : decode cX9_could 58 = .ok (.iload_n 3, 1) := by decide +kernel
theorem dX9_could_59 : decode cX9_could 59 = .ok (.invokevirtual 221, 3) := by decide +kernel
theorem dX9_could_62 : decode cX9_could 62 = .ok (.ireturn, 1) := by decide +kernel
set_option maxRecDepth 20000 in
theorem ggX9_spare_X9_isIn : GoodIn wsX9_spare wsX9_isIn := goodIn_r _ [9] (by decide +kernel) (by decide +kernel)
set_option maxRecDepth 20000 in
theorem gX9_spare_X9_isIn : GoodIn wsX9_spare (va_wsS RX9 83 yX9_isIn wsX9_isIn) := goodIn_app (goodIn_of _ (by decide +kernel)) ggX9_spare_X9_isIn
set_option maxRecDepth 20000 in
theorem ggX9_spare_X9_those : GoodIn wsX9_spare wsX9_those := goodIn_r _ [13, 14, 15, 16, 17, 8, 18, 19, 54, 55, 56, 57, 58, 59, 60, 61, 62, 63, 64, 65, 66, 67, 68, 69, 70, 71, 72, 73, 74, 75, 76, 77, 78, 79, 80, 81, 82, 83, 84, 85, 86, 87, 88] (by decide +kernel) (by decide +kernel)
set_option maxRecDepth 20000 in
theorem gX9_spare_X9_those : GoodIn wsX9_spare (wsV RX9 105 RX9 yX9_those wsX9_those) := goodIn_app (goodIn_of _ (by decide +kernel)) ggX9_spare_X9_those
set_option maxRecDepth 20000 in
theorem ggX9_spare_X9_isMet : GoodIn wsX9_spare wsX9_isMet := goodIn_r _ [23, 24, 25, 26, 27, 8, 28, 1, 29, 30, 31, 32, 33, 34, 19, 35, 36, 37, 38, 39, 40, 41, 42, 43, 44, 14, 45, 46, 47, 48, 49, 50, 51, 52, 53, 54, 55, 56, 57, 58, 59, 60, 61, 62, 63, 64, 65, 66, 67, 68, 69, 70, 71, 72, 73, 74, 75, 76, 77, 78, 79, 80, 81, 82, 83, 84, 85, 86, 87, 88] (by decide +kernel) (by decide +kernel)
set_option maxRecDepth 20000 in
theorem gX9_spare_X9_isMet : GoodIn wsX9_spare (wsV RX9 163 RX9 yX9_isMet wsX9_isMet) := goodIn_app (goodIn_of _ (by decide +kernel)) ggX9_spare_X9_isMet
set_option maxRecDepth 20000 in
theorem ggX9_spare_X9_step : GoodIn wsX9_spare wsX9_step := goodIn_r _ [40] (by decide +kernel) (by decide +kernel)
set_option maxRecDepth 20000 in
theorem gX9_spare_X9_step : GoodIn wsX9_spare (va_wsS RX9 150 yX9_step wsX9_step) := goodIn_app (goodIn_of _ (by decide +kernel)) ggX9_spare_X9_step
set_option maxRecDepth 20000 in
theorem ggX9_spare_X9_holds : GoodIn wsX9_spare wsX9_holds := goodIn_r _ [53, 47, 48, 8, 49] (by decide +kernel) (by decide +kernel)
set_option maxRecDepth 20000 in
theorem gX9_spare_X9_holds : GoodIn wsX9_spare (wsV RX9 138 RX9 yX9_holds wsX9_holds) := goodIn_app (goodIn_of _ (by decide +kernel)) ggX9_spare_X9_holds
set_option maxRecDepth 20000 in
theorem ggX9_spare_X9_leftAt : GoodIn wsX9_spare wsX9_leftAt := goodIn_r _ [44, 34, 14, 45, 19, 46, 47, 48, 8, 49, 50, 51, 52, 53, 54, 55, 56, 57, 58, 59, 60, 61, 62, 63, 64, 65, 66, 67, 68, 69, 70, 71, 72, 73, 74, 75, 76, 77, 78, 79, 80, 81, 82, 83, 84, 85, 86, 87, 88] (by decide +kernel) (by decide +kernel)
set_option maxRecDepth 20000 in
theorem gX9_spare_X9_leftAt : GoodIn wsX9_spare (wsV RX9 153 RX9 yX9_leftAt wsX9_leftAt) := goodIn_app (goodIn_of _ (by decide +kernel)) ggX9_spare_X9_leftAt
theorem dX9_spare_0 : decode cX9_spare 0 = .ok (.iload_n 1, 1) := by decide +kernel
theorem dX9_spare_1 : decode cX9_spare 1 = .ok (.iconst 1, 1) := by decide +kernel
theorem dX9_spare_2 : decode cX9_spare 2 = .ok (.bipush 7, 2) := by decide +kernel
theorem dX9_spare_4 : decode cX9_spare 4 = .ok (.invokestatic 83, 3) := by decide +kernel
theorem dX9_spare_7 : decode cX9_spare 7 = .ok (.ifCond .eq 13, 3) := by decide +kernel
theorem dX9_spare_10 : decode cX9_spare 10 = .ok (.iload_n 2, 1) := by decide +kernel
theorem dX9_spare_11 : decode cX9_spare 11 = .ok (.iconst 0, 1) := by decide +kernel
theorem dX9_spare_12 : decode cX9_spare 12 = .ok (.bipush 11, 2) := by decide +kernel
theorem dX9_spare_14 : decode cX9_spare 14 = .ok (.invokestatic 83, 3) := by decide +kernel
theorem dX9_spare_17 : decode cX9_spare 17 = .ok (.ifCond .ne 5, 3) := by decide +kernel
theorem dX9_spare_20 : decode cX9_spare 20 = .ok (.iconst (-1), 1) := by decide +kernel
theorem dX9_spare_21 : decode cX9_spare 21 = .ok (.ireturn, 1) := by decide +kernel
theorem dX9_spare_22 : decode cX9_spare 22 = .ok (.aload_n 0, 1) := by decide +kernel
theorem dX9_spare_23 : decode cX9_spare 23 = .ok (.iconst 1, 1) := by decide +kernel
theorem dX9_spare_24 : decode cX9_spare 24 = .ok (.invokevirtual 105, 3) := by decide +kernel
theorem dX9_spare_27 : decode cX9_spare 27 = .ok (.istore_n 3, 1) := by decide +kernel
theorem dX9_spare_28 : decode cX9_spare 28 = .ok (.aload_n 0, 1) := by decide +kernel
theorem dX9_spare_29 : decode cX9_spare 29 = .ok (.iload_n 3, 1) := by decide +kernel
theorem dX9_spare_30 : decode cX9_spare 30 = .ok (.invokevirtual 163, 3) := by decide +kernel
theorem dX9_spare_33 : decode cX9_spare 33 = .ok (.ifCond .ne 5, 3) := by decide +kernel
theorem dX9_spare_36 : decode cX9_spare 36 = .ok (.iconst 0, 1) := by decide +kernel
theorem dX9_spare_37 : decode cX9_spare 37 = .ok (.ireturn, 1) := by decide +kernel
theorem dX9_spare_38 : decode cX9_spare 38 = .ok (.ldc 146, 2) := by decide +kernel
theorem dX9_spare_40 : decode cX9_spare 40 = .ok (.istore 4, 2) := by decide +kernel
theorem dX9_spare_42 : decode cX9_spare 42 = .ok (.iconst 0, 1) := by decide +kernel
theorem dX9_spare_43 : decode cX9_spare 43 = .ok (.istore 5, 2) := by decide +kernel
theorem dX9_spare_45 : decode cX9_spare 45 = .ok (.iload 5, 2) := by decide +kernel
theorem dX9_spare_47 : decode cX9_spare 47 = .ok (.sipush 2197, 3) := by decide +kernel
theorem dX9_spare_50 : decode cX9_spare 50 = .ok (.if_icmp .ge 40, 3) := by decide +kernel
theorem dX9_spare_53 : decode cX9_spare 53 = .ok (.aload_n 0, 1) := by decide +kernel
theorem dX9_spare_54 : decode cX9_spare 54 = .ok (.iload 5, 2) := by decide +kernel
theorem dX9_spare_56 : decode cX9_spare 56 = .ok (.invokestatic 150, 3) := by decide +kernel
theorem dX9_spare_59 : decode cX9_spare 59 = .ok (.iload_n 1, 1) := by decide +kernel
theorem dX9_spare_60 : decode cX9_spare 60 = .ok (.iload_n 2, 1) := by decide +kernel
theorem dX9_spare_61 : decode cX9_spare 61 = .ok (.invokevirtual 138, 3) := by decide +kernel
theorem dX9_spare_64 : decode cX9_spare 64 = .ok (.ifCond .eq 20, 3) := by decide +kernel
theorem dX9_spare_67 : decode cX9_spare 67 = .ok (.iload 4, 2) := by decide +kernel
theorem dX9_spare_69 : decode cX9_spare 69 = .ok (.aload_n 0, 1) := by decide +kernel
theorem dX9_spare_70 : decode cX9_spare 70 = .ok (.iload 5, 2) := by decide +kernel
theorem dX9_spare_72 : decode cX9_spare 72 = .ok (.invokestatic 150, 3) := by decide +kernel
theorem dX9_spare_75 : decode cX9_spare 75 = .ok (.iload_n 3, 1) := by decide +kernel
theorem dX9_spare_76 : decode cX9_spare 76 = .ok (.invokevirtual 153, 3) := by decide +kernel
theorem dX9_spare_79 : decode cX9_spare 79 = .ok (.invokestatic 224, 3) := by decide +kernel
theorem dX9_spare_82 : decode cX9_spare 82 = .ok (.istore 4, 2) := by decide +kernel
theorem dX9_spare_84 : decode cX9_spare 84 = .ok (.iinc 5 1, 3) := by decide +kernel
theorem dX9_spare_87 : decode cX9_spare 87 = .ok (.goto (-42), 3) := by decide +kernel
theorem dX9_spare_90 : decode cX9_spare 90 = .ok (.iload 4, 2) := by decide +kernel
theorem dX9_spare_92 : decode cX9_spare 92 = .ok (.ireturn, 1) := by decide +kernel
set_option maxRecDepth 20000 in
theorem ggX9_areShares_X9_amountsOf : GoodIn wsX9_areShares wsX9_amountsOf := goodIn_r _ [7, 1, 2, 8, 18, 19, 20, 21, 22, 23, 24, 25, 26, 27, 28, 29, 30, 31, 32, 33, 34, 35, 36, 37, 38, 39, 40, 41, 42, 43, 44, 45, 46, 47, 48, 49, 50, 51, 52] (by decide +kernel) (by decide +kernel)
set_option maxRecDepth 20000 in
theorem gX9_areShares_X9_amountsOf : GoodIn wsX9_areShares (wsV RX9 132 RX9 yX9_amountsOf wsX9_amountsOf) := goodIn_app (goodIn_of _ (by decide +kernel)) ggX9_areShares_X9_amountsOf
set_option maxRecDepth 20000 in
theorem ggX9_areShares_X9_shareOf : GoodIn wsX9_areShares wsX9_shareOf := goodIn_r _ [12, 13, 14, 15, 16, 6, 17, 18, 19, 20, 21, 22, 23, 24, 25, 26, 27, 28, 29, 30, 31, 32, 33, 34, 35, 36, 37, 38, 39, 40, 41, 42, 43, 44, 45, 46, 47, 48, 49, 50, 51, 52] (by decide +kernel) (by decide +kernel)
set_option maxRecDepth 20000 in
theorem gX9_areShares_X9_shareOf : GoodIn wsX9_areShares (wsV RX9 129 RX9 yX9_shareOf wsX9_shareOf) := goodIn_app (goodIn_of _ (by decide +kernel)) ggX9_areShares_X9_shareOf
theorem dX9_areShares_0 : decode cX9_areShares 0 = .ok (.iconst 0, 1) := by decide +kernel
theorem dX9_areShares_1 : decode cX9_areShares 1 = .ok (.istore_n 3, 1) := by decide +kernel
theorem dX9_areShares_2 : decode cX9_areShares 2 = .ok (.iload_n 3, 1) := by decide +kernel
theorem dX9_areShares_3 : decode cX9_areShares 3 = .ok (.aload_n 0, 1) := by decide +kernel
theorem dX9_areShares_4 : decode cX9_areShares 4 = .ok (.getfield 80, 3) := by decide +kernel
theorem dX9_areShares_7 : decode cX9_areShares 7 = .ok (.if_icmp .ge 44, 3) := by decide +kernel
theorem dX9_areShares_10 : decode cX9_areShares 10 = .ok (.iload_n 2, 1) := by decide +kernel
theorem dX9_areShares_11 : decode cX9_areShares 11 = .ok (.iload_n 3, 1) := by decide +kernel
theorem dX9_areShares_12 : decode cX9_areShares 12 = .ok (.ishr, 1) := by decide +kernel
theorem dX9_areShares_13 : decode cX9_areShares 13 = .ok (.iconst 1, 1) := by decide +kernel
theorem dX9_areShares_14 : decode cX9_areShares 14 = .ok (.iand, 1) := by decide +kernel
theorem dX9_areShares_15 : decode cX9_areShares 15 = .ok (.iconst 1, 1) := by decide +kernel
theorem dX9_areShares_16 : decode cX9_areShares 16 = .ok (.if_icmp .ne 29, 3) := by decide +kernel
theorem dX9_areShares_19 : decode cX9_areShares 19 = .ok (.aload_n 0, 1) := by decide +kernel
theorem dX9_areShares_20 : decode cX9_areShares 20 = .ok (.iload_n 1, 1) := by decide +kernel
theorem dX9_areShares_21 : decode cX9_areShares 21 = .ok (.aload_n 0, 1) := by decide +kernel
theorem dX9_areShares_22 : decode cX9_areShares 22 = .ok (.getfield 19, 3) := by decide +kernel
theorem dX9_areShares_25 : decode cX9_areShares 25 = .ok (.iload_n 3, 1) := by decide +kernel
theorem dX9_areShares_26 : decode cX9_areShares 26 = .ok (.iaload, 1) := by decide +kernel
theorem dX9_areShares_27 : decode cX9_areShares 27 = .ok (.invokevirtual 132, 3) := by decide +kernel
theorem dX9_areShares_30 : decode cX9_areShares 30 = .ok (.aload_n 0, 1) := by decide +kernel
theorem dX9_areShares_31 : decode cX9_areShares 31 = .ok (.aload_n 0, 1) := by decide +kernel
theorem dX9_areShares_32 : decode cX9_areShares 32 = .ok (.getfield 19, 3) := by decide +kernel
theorem dX9_areShares_35 : decode cX9_areShares 35 = .ok (.iload_n 3, 1) := by decide +kernel
theorem dX9_areShares_36 : decode cX9_areShares 36 = .ok (.iaload, 1) := by decide +kernel
theorem dX9_areShares_37 : decode cX9_areShares 37 = .ok (.invokevirtual 129, 3) := by decide +kernel
theorem dX9_areShares_40 : decode cX9_areShares 40 = .ok (.if_icmp .le 5, 3) := by decide +kernel
theorem dX9_areShares_43 : decode cX9_areShares 43 = .ok (.iconst 0, 1) := by decide +kernel
theorem dX9_areShares_44 : decode cX9_areShares 44 = .ok (.ireturn, 1) := by decide +kernel
theorem dX9_areShares_45 : decode cX9_areShares 45 = .ok (.iinc 3 1, 3) := by decide +kernel
theorem dX9_areShares_48 : decode cX9_areShares 48 = .ok (.goto (-46), 3) := by decide +kernel
theorem dX9_areShares_51 : decode cX9_areShares 51 = .ok (.iconst 1, 1) := by decide +kernel
theorem dX9_areShares_52 : decode cX9_areShares 52 = .ok (.ireturn, 1) := by decide +kernel
set_option maxRecDepth 20000 in
theorem ggX9_askedBy_X9_isWhat : GoodIn wsX9_askedBy wsX9_isWhat := goodIn_r _ [6, 7, 8, 9, 10, 11, 12, 13, 14, 15, 16, 17, 18, 19, 20, 21, 22, 23, 24, 25, 26, 27, 28, 29, 30, 31, 32, 33, 34, 35, 36, 37, 38, 39, 40, 41, 42] (by decide +kernel) (by decide +kernel)
set_option maxRecDepth 20000 in
theorem gX9_askedBy_X9_isWhat : GoodIn wsX9_askedBy (wsV RX9 87 RX9 yX9_isWhat wsX9_isWhat) := goodIn_app (goodIn_of _ (by decide +kernel)) ggX9_askedBy_X9_isWhat
theorem dX9_askedBy_0 : decode cX9_askedBy 0 = .ok (.iconst 0, 1) := by decide +kernel
theorem dX9_askedBy_1 : decode cX9_askedBy 1 = .ok (.istore_n 2, 1) := by decide +kernel
theorem dX9_askedBy_2 : decode cX9_askedBy 2 = .ok (.iconst 0, 1) := by decide +kernel
theorem dX9_askedBy_3 : decode cX9_askedBy 3 = .ok (.istore_n 3, 1) := by decide +kernel
theorem dX9_askedBy_4 : decode cX9_askedBy 4 = .ok (.iconst 0, 1) := by decide +kernel
theorem dX9_askedBy_5 : decode cX9_askedBy 5 = .ok (.istore 4, 2) := by decide +kernel
theorem dX9_askedBy_7 : decode cX9_askedBy 7 = .ok (.iload 4, 2) := by decide +kernel
theorem dX9_askedBy_9 : decode cX9_askedBy 9 = .ok (.aload_n 0, 1) := by decide +kernel
theorem dX9_askedBy_10 : decode cX9_askedBy 10 = .ok (.getfield 80, 3) := by decide +kernel
theorem dX9_askedBy_13 : decode cX9_askedBy 13 = .ok (.if_icmp .ge 45, 3) := by decide +kernel
theorem dX9_askedBy_16 : decode cX9_askedBy 16 = .ok (.aload_n 0, 1) := by decide +kernel
theorem dX9_askedBy_17 : decode cX9_askedBy 17 = .ok (.iload 4, 2) := by decide +kernel
theorem dX9_askedBy_19 : decode cX9_askedBy 19 = .ok (.iconst 0, 1) := by decide +kernel
theorem dX9_askedBy_20 : decode cX9_askedBy 20 = .ok (.invokevirtual 87, 3) := by decide +kernel
theorem dX9_askedBy_23 : decode cX9_askedBy 23 = .ok (.ifCond .ne 6, 3) := by decide +kernel
theorem dX9_askedBy_26 : decode cX9_askedBy 26 = .ok (.goto 26, 3) := by decide +kernel
theorem dX9_askedBy_29 : decode cX9_askedBy 29 = .ok (.iload_n 2, 1) := by decide +kernel
theorem dX9_askedBy_30 : decode cX9_askedBy 30 = .ok (.iload_n 1, 1) := by decide +kernel
theorem dX9_askedBy_31 : decode cX9_askedBy 31 = .ok (.iload_n 3, 1) := by decide +kernel
theorem dX9_askedBy_32 : decode cX9_askedBy 32 = .ok (.ishr, 1) := by decide +kernel
theorem dX9_askedBy_33 : decode cX9_askedBy 33 = .ok (.iconst 1, 1) := by decide +kernel
theorem dX9_askedBy_34 : decode cX9_askedBy 34 = .ok (.iand, 1) := by decide +kernel
theorem dX9_askedBy_35 : decode cX9_askedBy 35 = .ok (.iconst 1, 1) := by decide +kernel
theorem dX9_askedBy_36 : decode cX9_askedBy 36 = .ok (.if_icmp .ne 10, 3) := by decide +kernel
theorem dX9_askedBy_39 : decode cX9_askedBy 39 = .ok (.iconst 1, 1) := by decide +kernel
theorem dX9_askedBy_40 : decode cX9_askedBy 40 = .ok (.iload 4, 2) := by decide +kernel
theorem dX9_askedBy_42 : decode cX9_askedBy 42 = .ok (.ishl, 1) := by decide +kernel
theorem dX9_askedBy_43 : decode cX9_askedBy 43 = .ok (.goto 4, 3) := by decide +kernel
theorem dX9_askedBy_46 : decode cX9_askedBy 46 = .ok (.iconst 0, 1) := by decide +kernel
theorem dX9_askedBy_47 : decode cX9_askedBy 47 = .ok (.ior, 1) := by decide +kernel
theorem dX9_askedBy_48 : decode cX9_askedBy 48 = .ok (.istore_n 2, 1) := by decide +kernel
theorem dX9_askedBy_49 : decode cX9_askedBy 49 = .ok (.iinc 3 1, 3) := by decide +kernel
theorem dX9_askedBy_52 : decode cX9_askedBy 52 = .ok (.iinc 4 1, 3) := by decide +kernel
theorem dX9_askedBy_55 : decode cX9_askedBy 55 = .ok (.goto (-48), 3) := by decide +kernel
theorem dX9_askedBy_58 : decode cX9_askedBy 58 = .ok (.iload_n 2, 1) := by decide +kernel
theorem dX9_askedBy_59 : decode cX9_askedBy 59 = .ok (.ireturn, 1) := by decide +kernel
set_option maxRecDepth 20000 in
theorem ggX9_filled_X9_isIn : GoodIn wsX9_filled wsX9_isIn := goodIn_r _ [4] (by decide +kernel) (by decide +kernel)
set_option maxRecDepth 20000 in
theorem gX9_filled_X9_isIn : GoodIn wsX9_filled (va_wsS RX9 83 yX9_isIn wsX9_isIn) := goodIn_app (goodIn_of _ (by decide +kernel)) ggX9_filled_X9_isIn
set_option maxRecDepth 20000 in
theorem ggX9_filled_X9_those : GoodIn wsX9_filled wsX9_those := goodIn_r _ [8, 9, 10, 11, 12, 3, 13, 14, 74, 75, 76, 77, 78, 79, 80, 81, 82, 83, 84, 85, 86, 87, 88, 89, 90, 91, 92, 93, 94, 95, 96, 97, 98, 99, 100, 101, 102, 103, 104, 105, 106, 107, 108] (by decide +kernel) (by decide +kernel)
set_option maxRecDepth 20000 in
theorem gX9_filled_X9_those : GoodIn wsX9_filled (wsV RX9 105 RX9 yX9_those wsX9_those) := goodIn_app (goodIn_of _ (by decide +kernel)) ggX9_filled_X9_those
set_option maxRecDepth 20000 in
theorem ggX9_filled_X9_size : GoodIn wsX9_filled wsX9_size := goodIn_r _ [17] (by decide +kernel) (by decide +kernel)
set_option maxRecDepth 20000 in
theorem gX9_filled_X9_size : GoodIn wsX9_filled (va_wsS RX9 109 yX9_size wsX9_size) := goodIn_app (goodIn_of _ (by decide +kernel)) ggX9_filled_X9_size
set_option maxRecDepth 20000 in
theorem ggX9_filled_X9_askedBy : GoodIn wsX9_filled wsX9_askedBy := goodIn_r _ [21, 9, 10, 11, 12, 3, 13, 14, 74, 75, 76, 77, 78, 79, 80, 81, 82, 83, 84, 85, 86, 87, 88, 89, 90, 91, 92, 93, 94, 95, 96, 97, 98, 99, 100, 101, 102, 103, 104, 105, 106, 107, 108] (by decide +kernel) (by decide +kernel)
set_option maxRecDepth 20000 in
theorem gX9_filled_X9_askedBy : GoodIn wsX9_filled (wsV RX9 229 RX9 yX9_askedBy wsX9_askedBy) := goodIn_app (goodIn_of _ (by decide +kernel)) ggX9_filled_X9_askedBy
set_option maxRecDepth 20000 in
theorem ggX9_filled_X9_amountsOf : GoodIn wsX9_filled wsX9_amountsOf := goodIn_r _ [25, 9, 26, 27, 74, 75, 76, 77, 78, 79, 80, 81, 82, 83, 84, 85, 86, 87, 88, 89, 90, 91, 92, 93, 94, 95, 96, 97, 98, 99, 100, 101, 102, 103, 104, 105, 106, 107, 108] (by decide +kernel) (by decide +kernel)
set_option maxRecDepth 20000 in
theorem gX9_filled_X9_amountsOf : GoodIn wsX9_filled (wsV RX9 132 RX9 yX9_amountsOf wsX9_amountsOf) := goodIn_app (goodIn_of _ (by decide +kernel)) ggX9_filled_X9_amountsOf
set_option maxRecDepth 20000 in
theorem ggX9_filled_X9_areShares : GoodIn wsX9_filled wsX9_areShares := goodIn_r _ [31, 9, 26, 22, 23, 24, 3, 25, 27, 32, 33, 34, 35, 14, 36, 37, 38, 39, 74, 75, 76, 77, 78, 79, 80, 81, 82, 83, 84, 85, 86, 87, 88, 89, 90, 91, 92, 93, 94, 95, 96, 97, 98, 99, 100, 101, 102, 103, 104, 105, 106, 107, 108] (by decide +kernel) (by decide +kernel)
set_option maxRecDepth 20000 in
theorem gX9_filled_X9_areShares : GoodIn wsX9_filled (wsV RX9 232 RX9 yX9_areShares wsX9_areShares) := goodIn_app (goodIn_of _ (by decide +kernel)) ggX9_filled_X9_areShares
set_option maxRecDepth 20000 in
theorem ggX9_filled_X9_isMet : GoodIn wsX9_filled wsX9_isMet := goodIn_r _ [43, 44, 45, 46, 47, 3, 48, 49, 50, 51, 52, 53, 54, 55, 14, 56, 57, 58, 59, 60, 61, 62, 63, 64, 65, 9, 66, 27, 67, 68, 69, 70, 71, 72, 73, 74, 75, 76, 77, 78, 79, 80, 81, 82, 83, 84, 85, 86, 87, 88, 89, 90, 91, 92, 93, 94, 95, 96, 97, 98, 99, 100, 101, 102, 103, 104, 105, 106, 107, 108] (by decide +kernel) (by decide +kernel)
set_option maxRecDepth 20000 in
theorem gX9_filled_X9_isMet : GoodIn wsX9_filled (wsV RX9 163 RX9 yX9_isMet wsX9_isMet) := goodIn_app (goodIn_of _ (by decide +kernel)) ggX9_filled_X9_isMet
theorem dX9_filled_0 : decode cX9_filled 0 = .ok (.iload_n 1, 1) := by decide +kernel
theorem dX9_filled_1 : decode cX9_filled 1 = .ok (.iconst 0, 1) := by decide +kernel
theorem dX9_filled_2 : decode cX9_filled 2 = .ok (.iconst 1, 1) := by decide +kernel
theorem dX9_filled_3 : decode cX9_filled 3 = .ok (.invokestatic 83, 3) := by decide +kernel
theorem dX9_filled_6 : decode cX9_filled 6 = .ok (.ifCond .ne 5, 3) := by decide +kernel
theorem dX9_filled_9 : decode cX9_filled 9 = .ok (.iconst (-1), 1) := by decide +kernel
theorem dX9_filled_10 : decode cX9_filled 10 = .ok (.ireturn, 1) := by decide +kernel
theorem dX9_filled_11 : decode cX9_filled 11 = .ok (.aload_n 0, 1) := by decide +kernel
theorem dX9_filled_12 : decode cX9_filled 12 = .ok (.iconst 0, 1) := by decide +kernel
theorem dX9_filled_13 : decode cX9_filled 13 = .ok (.invokevirtual 105, 3) := by decide +kernel
theorem dX9_filled_16 : decode cX9_filled 16 = .ok (.invokestatic 109, 3) := by decide +kernel
theorem dX9_filled_19 : decode cX9_filled 19 = .ok (.istore_n 2, 1) := by decide +kernel
theorem dX9_filled_20 : decode cX9_filled 20 = .ok (.iload_n 2, 1) := by decide +kernel
theorem dX9_filled_21 : decode cX9_filled 21 = .ok (.bipush 8, 2) := by decide +kernel
theorem dX9_filled_23 : decode cX9_filled 23 = .ok (.if_icmp .le 6, 3) := by decide +kernel
theorem dX9_filled_26 : decode cX9_filled 26 = .ok (.bipush (-7), 2) := by decide +kernel
theorem dX9_filled_28 : decode cX9_filled 28 = .ok (.ireturn, 1) := by decide +kernel
theorem dX9_filled_29 : decode cX9_filled 29 = .ok (.iconst 0, 1) := by decide +kernel
theorem dX9_filled_30 : decode cX9_filled 30 = .ok (.istore_n 3, 1) := by decide +kernel
theorem dX9_filled_31 : decode cX9_filled 31 = .ok (.iconst 0, 1) := by decide +kernel
theorem dX9_filled_32 : decode cX9_filled 32 = .ok (.istore 4, 2) := by decide +kernel
theorem dX9_filled_34 : decode cX9_filled 34 = .ok (.iconst 1, 1) := by decide +kernel
theorem dX9_filled_35 : decode cX9_filled 35 = .ok (.istore 5, 2) := by decide +kernel
theorem dX9_filled_37 : decode cX9_filled 37 = .ok (.iload 5, 2) := by decide +kernel
theorem dX9_filled_39 : decode cX9_filled 39 = .ok (.iconst 1, 1) := by decide +kernel
theorem dX9_filled_40 : decode cX9_filled 40 = .ok (.iload_n 2, 1) := by decide +kernel
theorem dX9_filled_41 : decode cX9_filled 41 = .ok (.ishl, 1) := by decide +kernel
theorem dX9_filled_42 : decode cX9_filled 42 = .ok (.if_icmp .ge 73, 3) := by decide +kernel
theorem dX9_filled_45 : decode cX9_filled 45 = .ok (.aload_n 0, 1) := by decide +kernel
theorem dX9_filled_46 : decode cX9_filled 46 = .ok (.iload 5, 2) := by decide +kernel
theorem dX9_filled_48 : decode cX9_filled 48 = .ok (.invokevirtual 229, 3) := by decide +kernel
theorem dX9_filled_51 : decode cX9_filled 51 = .ok (.istore 6, 2) := by decide +kernel
theorem dX9_filled_53 : decode cX9_filled 53 = .ok (.aload_n 0, 1) := by decide +kernel
theorem dX9_filled_54 : decode cX9_filled 54 = .ok (.iload 6, 2) := by decide +kernel
theorem dX9_filled_56 : decode cX9_filled 56 = .ok (.iconst (-1), 1) := by decide +kernel
theorem dX9_filled_57 : decode cX9_filled 57 = .ok (.invokevirtual 132, 3) := by decide +kernel
theorem dX9_filled_60 : decode cX9_filled 60 = .ok (.istore 7, 2) := by decide +kernel
theorem dX9_filled_62 : decode cX9_filled 62 = .ok (.iload 6, 2) := by decide +kernel
theorem dX9_filled_64 : decode cX9_filled 64 = .ok (.aload_n 0, 1) := by decide +kernel
theorem dX9_filled_65 : decode cX9_filled 65 = .ok (.iconst 1, 1) := by decide +kernel
theorem dX9_filled_66 : decode cX9_filled 66 = .ok (.invokevirtual 105, 3) := by decide +kernel
theorem dX9_filled_69 : decode cX9_filled 69 = .ok (.ior, 1) := by decide +kernel
theorem dX9_filled_70 : decode cX9_filled 70 = .ok (.istore 8, 2) := by decide +kernel
theorem dX9_filled_72 : decode cX9_filled 72 = .ok (.iload 7, 2) := by decide +kernel
theorem dX9_filled_74 : decode cX9_filled 74 = .ok (.iload 4, 2) := by decide +kernel
theorem dX9_filled_76 : decode cX9_filled 76 = .ok (.if_icmp .le 33, 3) := by decide +kernel
theorem dX9_filled_79 : decode cX9_filled 79 = .ok (.aload_n 0, 1) := by decide +kernel
theorem dX9_filled_80 : decode cX9_filled 80 = .ok (.iload 8, 2) := by decide +kernel
theorem dX9_filled_82 : decode cX9_filled 82 = .ok (.iload 6, 2) := by decide +kernel
theorem dX9_filled_84 : decode cX9_filled 84 = .ok (.invokevirtual 232, 3) := by decide +kernel
theorem dX9_filled_87 : decode cX9_filled 87 = .ok (.ifCond .eq 22, 3) := by decide +kernel
theorem dX9_filled_90 : decode cX9_filled 90 = .ok (.aload_n 0, 1) := by decide +kernel
theorem dX9_filled_91 : decode cX9_filled 91 = .ok (.iload 8, 2) := by decide +kernel
theorem dX9_filled_93 : decode cX9_filled 93 = .ok (.invokevirtual 163, 3) := by decide +kernel
theorem dX9_filled_96 : decode cX9_filled 96 = .ok (.ifCond .ne 6, 3) := by decide +kernel
theorem dX9_filled_99 : decode cX9_filled 99 = .ok (.goto 10, 3) := by decide +kernel
theorem dX9_filled_102 : decode cX9_filled 102 = .ok (.iload 7, 2) := by decide +kernel
theorem dX9_filled_104 : decode cX9_filled 104 = .ok (.istore 4, 2) := by decide +kernel
theorem dX9_filled_106 : decode cX9_filled 106 = .ok (.iload 5, 2) := by decide +kernel
theorem dX9_filled_108 : decode cX9_filled 108 = .ok (.istore_n 3, 1) := by decide +kernel
theorem dX9_filled_109 : decode cX9_filled 109 = .ok (.iinc 5 1, 3) := by decide +kernel
theorem dX9_filled_112 : decode cX9_filled 112 = .ok (.goto (-75), 3) := by decide +kernel
theorem dX9_filled_115 : decode cX9_filled 115 = .ok (.iload_n 1, 1) := by decide +kernel
theorem dX9_filled_116 : decode cX9_filled 116 = .ok (.ifCond .ne 7, 3) := by decide +kernel
theorem dX9_filled_119 : decode cX9_filled 119 = .ok (.iload_n 3, 1) := by decide +kernel
theorem dX9_filled_120 : decode cX9_filled 120 = .ok (.goto 5, 3) := by decide +kernel
theorem dX9_filled_123 : decode cX9_filled 123 = .ok (.iload 4, 2) := by decide +kernel
theorem dX9_filled_125 : decode cX9_filled 125 = .ok (.ireturn, 1) := by decide +kernel
theorem dX9_room_0 : decode cX9_room 0 = .ok (.aload_n 0, 1) := by decide +kernel
theorem dX9_room_1 : decode cX9_room 1 = .ok (.getfield 16, 3) := by decide +kernel
theorem dX9_room_4 : decode cX9_room 4 = .ok (.iload_n 2, 1) := by decide +kernel
theorem dX9_room_5 : decode cX9_room 5 = .ok (.iaload, 1) := by decide +kernel
theorem dX9_room_6 : decode cX9_room 6 = .ok (.iload_n 1, 1) := by decide +kernel
theorem dX9_room_7 : decode cX9_room 7 = .ok (.bipush 12, 2) := by decide +kernel
theorem dX9_room_9 : decode cX9_room 9 = .ok (.idiv, 1) := by decide +kernel
theorem dX9_room_10 : decode cX9_room 10 = .ok (.ishr, 1) := by decide +kernel
theorem dX9_room_11 : decode cX9_room 11 = .ok (.iconst 1, 1) := by decide +kernel
theorem dX9_room_12 : decode cX9_room 12 = .ok (.iand, 1) := by decide +kernel
theorem dX9_room_13 : decode cX9_room 13 = .ok (.iconst 1, 1) := by decide +kernel
theorem dX9_room_14 : decode cX9_room 14 = .ok (.if_icmp .ne 23, 3) := by decide +kernel
theorem dX9_room_17 : decode cX9_room 17 = .ok (.iload_n 1, 1) := by decide +kernel
theorem dX9_room_18 : decode cX9_room 18 = .ok (.bipush 12, 2) := by decide +kernel
theorem dX9_room_20 : decode cX9_room 20 = .ok (.irem, 1) := by decide +kernel
theorem dX9_room_21 : decode cX9_room 21 = .ok (.aload_n 0, 1) := by decide +kernel
theorem dX9_room_22 : decode cX9_room 22 = .ok (.getfield 9, 3) := by decide +kernel
theorem dX9_room_25 : decode cX9_room 25 = .ok (.bipush 64, 2) := by decide +kernel
theorem dX9_room_27 : decode cX9_room 27 = .ok (.iload_n 2, 1) := by decide +kernel
theorem dX9_room_28 : decode cX9_room 28 = .ok (.iadd, 1) := by decide +kernel
theorem dX9_room_29 : decode cX9_room 29 = .ok (.iaload, 1) := by decide +kernel
theorem dX9_room_30 : decode cX9_room 30 = .ok (.if_icmp .gt 7, 3) := by decide +kernel
theorem dX9_room_33 : decode cX9_room 33 = .ok (.iconst 1, 1) := by decide +kernel
theorem dX9_room_34 : decode cX9_room 34 = .ok (.goto 4, 3) := by decide +kernel
theorem dX9_room_37 : decode cX9_room 37 = .ok (.iconst 0, 1) := by decide +kernel
theorem dX9_room_38 : decode cX9_room 38 = .ok (.istore_n 3, 1) := by decide +kernel
theorem dX9_room_39 : decode cX9_room 39 = .ok (.iload_n 3, 1) := by decide +kernel
theorem dX9_room_40 : decode cX9_room 40 = .ok (.ifCond .ne 5, 3) := by decide +kernel
theorem dX9_room_43 : decode cX9_room 43 = .ok (.iconst 0, 1) := by decide +kernel
theorem dX9_room_44 : decode cX9_room 44 = .ok (.ireturn, 1) := by decide +kernel
theorem dX9_room_45 : decode cX9_room 45 = .ok (.iload_n 1, 1) := by decide +kernel
theorem dX9_room_46 : decode cX9_room 46 = .ok (.aload_n 0, 1) := by decide +kernel
theorem dX9_room_47 : decode cX9_room 47 = .ok (.getfield 235, 3) := by decide +kernel
theorem dX9_room_50 : decode cX9_room 50 = .ok (.if_icmp .ne 27, 3) := by decide +kernel
theorem dX9_room_53 : decode cX9_room 53 = .ok (.iload_n 2, 1) := by decide +kernel
theorem dX9_room_54 : decode cX9_room 54 = .ok (.aload_n 0, 1) := by decide +kernel
theorem dX9_room_55 : decode cX9_room 55 = .ok (.getfield 238, 3) := by decide +kernel
theorem dX9_room_58 : decode cX9_room 58 = .ok (.if_icmp .ne 19, 3) := by decide +kernel
theorem dX9_room_61 : decode cX9_room 61 = .ok (.aload_n 0, 1) := by decide +kernel
theorem dX9_room_62 : decode cX9_room 62 = .ok (.getfield 241, 3) := by decide +kernel
theorem dX9_room_65 : decode cX9_room 65 = .ok (.aload_n 0, 1) := by decide +kernel
theorem dX9_room_66 : decode cX9_room 66 = .ok (.getfield 55, 3) := by decide +kernel
theorem dX9_room_69 : decode cX9_room 69 = .ok (.iload_n 1, 1) := by decide +kernel
theorem dX9_room_70 : decode cX9_room 70 = .ok (.aaload, 1) := by decide +kernel
theorem dX9_room_71 : decode cX9_room 71 = .ok (.iload_n 2, 1) := by decide +kernel
theorem dX9_room_72 : decode cX9_room 72 = .ok (.iaload, 1) := by decide +kernel
theorem dX9_room_73 : decode cX9_room 73 = .ok (.isub, 1) := by decide +kernel
theorem dX9_room_74 : decode cX9_room 74 = .ok (.goto 5, 3) := by decide +kernel
theorem dX9_room_77 : decode cX9_room 77 = .ok (.bipush 99, 2) := by decide +kernel
theorem dX9_room_79 : decode cX9_room 79 = .ok (.ireturn, 1) := by decide +kernel
set_option maxRecDepth 20000 in
theorem ggX9_finds_X9_room : GoodIn wsX9_finds wsX9_room := goodIn_r _ [10, 11, 12, 13, 14, 15, 5, 16, 17, 18, 19, 20, 21, 22, 23, 24, 25, 26, 27, 28, 29, 30, 31, 32, 33, 34, 35, 36, 37, 38, 39, 40, 41, 42, 43, 44, 45, 46, 47, 48, 49, 50] (by decide +kernel) (by decide +kernel)
set_option maxRecDepth 20000 in
theorem gX9_finds_X9_room : GoodIn wsX9_finds (wsV RX9 244 RX9 yX9_room wsX9_room) := goodIn_app (goodIn_of _ (by decide +kernel)) ggX9_finds_X9_room
theorem dX9_finds_0 : decode cX9_finds 0 = .ok (.iconst 0, 1) := by decide +kernel
theorem dX9_finds_1 : decode cX9_finds 1 = .ok (.istore_n 2, 1) := by decide +kernel
theorem dX9_finds_2 : decode cX9_finds 2 = .ok (.iconst 0, 1) := by decide +kernel
theorem dX9_finds_3 : decode cX9_finds 3 = .ok (.istore_n 3, 1) := by decide +kernel
theorem dX9_finds_4 : decode cX9_finds 4 = .ok (.iload_n 3, 1) := by decide +kernel
theorem dX9_finds_5 : decode cX9_finds 5 = .ok (.bipush 60, 2) := by decide +kernel
theorem dX9_finds_7 : decode cX9_finds 7 = .ok (.if_icmp .ge 16, 3) := by decide +kernel
theorem dX9_finds_10 : decode cX9_finds 10 = .ok (.aload_n 0, 1) := by decide +kernel
theorem dX9_finds_11 : decode cX9_finds 11 = .ok (.getfield 64, 3) := by decide +kernel
theorem dX9_finds_14 : decode cX9_finds 14 = .ok (.iload_n 3, 1) := by decide +kernel
theorem dX9_finds_15 : decode cX9_finds 15 = .ok (.iconst (-1), 1) := by decide +kernel
theorem dX9_finds_16 : decode cX9_finds 16 = .ok (.iastore, 1) := by decide +kernel
theorem dX9_finds_17 : decode cX9_finds 17 = .ok (.iinc 3 1, 3) := by decide +kernel
theorem dX9_finds_20 : decode cX9_finds 20 = .ok (.goto (-16), 3) := by decide +kernel
theorem dX9_finds_23 : decode cX9_finds 23 = .ok (.iconst 0, 1) := by decide +kernel
theorem dX9_finds_24 : decode cX9_finds 24 = .ok (.istore_n 3, 1) := by decide +kernel
theorem dX9_finds_25 : decode cX9_finds 25 = .ok (.iload_n 3, 1) := by decide +kernel
theorem dX9_finds_26 : decode cX9_finds 26 = .ok (.bipush 36, 2) := by decide +kernel
theorem dX9_finds_28 : decode cX9_finds 28 = .ok (.if_icmp .ge 38, 3) := by decide +kernel
theorem dX9_finds_31 : decode cX9_finds 31 = .ok (.aload_n 0, 1) := by decide +kernel
theorem dX9_finds_32 : decode cX9_finds 32 = .ok (.getfield 58, 3) := by decide +kernel
theorem dX9_finds_35 : decode cX9_finds 35 = .ok (.iload_n 3, 1) := by decide +kernel
theorem dX9_finds_36 : decode cX9_finds 36 = .ok (.iaload, 1) := by decide +kernel
theorem dX9_finds_37 : decode cX9_finds 37 = .ok (.ifCond .ne 6, 3) := by decide +kernel
theorem dX9_finds_40 : decode cX9_finds 40 = .ok (.goto 20, 3) := by decide +kernel
theorem dX9_finds_43 : decode cX9_finds 43 = .ok (.aload_n 0, 1) := by decide +kernel
theorem dX9_finds_44 : decode cX9_finds 44 = .ok (.getfield 64, 3) := by decide +kernel
theorem dX9_finds_47 : decode cX9_finds 47 = .ok (.iload_n 3, 1) := by decide +kernel
theorem dX9_finds_48 : decode cX9_finds 48 = .ok (.iload_n 3, 1) := by decide +kernel
theorem dX9_finds_49 : decode cX9_finds 49 = .ok (.iastore, 1) := by decide +kernel
theorem dX9_finds_50 : decode cX9_finds 50 = .ok (.aload_n 0, 1) := by decide +kernel
theorem dX9_finds_51 : decode cX9_finds 51 = .ok (.getfield 67, 3) := by decide +kernel
theorem dX9_finds_54 : decode cX9_finds 54 = .ok (.iload_n 2, 1) := by decide +kernel
theorem dX9_finds_55 : decode cX9_finds 55 = .ok (.iload_n 3, 1) := by decide +kernel
theorem dX9_finds_56 : decode cX9_finds 56 = .ok (.iastore, 1) := by decide +kernel
theorem dX9_finds_57 : decode cX9_finds 57 = .ok (.iinc 2 1, 3) := by decide +kernel
theorem dX9_finds_60 : decode cX9_finds 60 = .ok (.iinc 3 1, 3) := by decide +kernel
theorem dX9_finds_63 : decode cX9_finds 63 = .ok (.goto (-38), 3) := by decide +kernel
theorem dX9_finds_66 : decode cX9_finds 66 = .ok (.iconst 0, 1) := by decide +kernel
theorem dX9_finds_67 : decode cX9_finds 67 = .ok (.istore_n 3, 1) := by decide +kernel
theorem dX9_finds_68 : decode cX9_finds 68 = .ok (.iload_n 3, 1) := by decide +kernel
theorem dX9_finds_69 : decode cX9_finds 69 = .ok (.iload_n 2, 1) := by decide +kernel
theorem dX9_finds_70 : decode cX9_finds 70 = .ok (.if_icmp .ge 182, 3) := by decide +kernel
theorem dX9_finds_73 : decode cX9_finds 73 = .ok (.aload_n 0, 1) := by decide +kernel
theorem dX9_finds_74 : decode cX9_finds 74 = .ok (.getfield 64, 3) := by decide +kernel
theorem dX9_finds_77 : decode cX9_finds 77 = .ok (.bipush 36, 2) := by decide +kernel
theorem dX9_finds_79 : decode cX9_finds 79 = .ok (.iload_n 1, 1) := by decide +kernel
theorem dX9_finds_80 : decode cX9_finds 80 = .ok (.iadd, 1) := by decide +kernel
theorem dX9_finds_81 : decode cX9_finds 81 = .ok (.iaload, 1) := by decide +kernel
theorem dX9_finds_82 : decode cX9_finds 82 = .ok (.ifCond .ge 170, 3) := by decide +kernel
theorem dX9_finds_85 : decode cX9_finds 85 = .ok (.aload_n 0, 1) := by decide +kernel
theorem dX9_finds_86 : decode cX9_finds 86 = .ok (.getfield 67, 3) := by decide +kernel
theorem dX9_finds_89 : decode cX9_finds 89 = .ok (.iload_n 3, 1) := by decide +kernel
theorem dX9_finds_90 : decode cX9_finds 90 = .ok (.iaload, 1) := by decide +kernel
theorem dX9_finds_91 : decode cX9_finds 91 = .ok (.istore 4, 2) := by decide +kernel
theorem dX9_finds_93 : decode cX9_finds 93 = .ok (.iconst 0, 1) := by decide +kernel
theorem dX9_finds_94 : decode cX9_finds 94 = .ok (.istore 5, 2) := by decide +kernel
theorem dX9_finds_96 : decode cX9_finds 96 = .ok (.iload 5, 2) := by decide +kernel
theorem dX9_finds_98 : decode cX9_finds 98 = .ok (.bipush 36, 2) := by decide +kernel
theorem dX9_finds_100 : decode cX9_finds 100 = .ok (.aload_n 0, 1) := by decide +kernel
theorem dX9_finds_101 : decode cX9_finds 101 = .ok (.getfield 80, 3) := by decide +kernel
theorem dX9_finds_104 : decode cX9_finds 104 = .ok (.iadd, 1) := by decide +kernel
theorem dX9_finds_105 : decode cX9_finds 105 = .ok (.if_icmp .ge 141, 3) := by decide +kernel
theorem dX9_finds_108 : decode cX9_finds 108 = .ok (.aload_n 0, 1) := by decide +kernel
theorem dX9_finds_109 : decode cX9_finds 109 = .ok (.getfield 64, 3) := by decide +kernel
theorem dX9_finds_112 : decode cX9_finds 112 = .ok (.iload 5, 2) := by decide +kernel
theorem dX9_finds_114 : decode cX9_finds 114 = .ok (.iaload, 1) := by decide +kernel
theorem dX9_finds_115 : decode cX9_finds 115 = .ok (.ifCond .ge 125, 3) := by decide +kernel
theorem dX9_finds_118 : decode cX9_finds 118 = .ok (.iload 4, 2) := by decide +kernel
theorem dX9_finds_120 : decode cX9_finds 120 = .ok (.bipush 36, 2) := by decide +kernel
theorem dX9_finds_122 : decode cX9_finds 122 = .ok (.if_icmp .ge 7, 3) := by decide +kernel
theorem dX9_finds_125 : decode cX9_finds 125 = .ok (.iconst 1, 1) := by decide +kernel
theorem dX9_finds_126 : decode cX9_finds 126 = .ok (.goto 4, 3) := by decide +kernel
theorem dX9_finds_129 : decode cX9_finds 129 = .ok (.iconst 0, 1) := by decide +kernel
theorem dX9_finds_130 : decode cX9_finds 130 = .ok (.iload 5, 2) := by decide +kernel
theorem dX9_finds_132 : decode cX9_finds 132 = .ok (.bipush 36, 2) := by decide +kernel
theorem dX9_finds_134 : decode cX9_finds 134 = .ok (.if_icmp .ge 7, 3) := by decide +kernel
theorem dX9_finds_137 : decode cX9_finds 137 = .ok (.iconst 1, 1) := by decide +kernel
theorem dX9_finds_138 : decode cX9_finds 138 = .ok (.goto 4, 3) := by decide +kernel
theorem dX9_finds_141 : decode cX9_finds 141 = .ok (.iconst 0, 1) := by decide +kernel
theorem dX9_finds_142 : decode cX9_finds 142 = .ok (.if_icmp .ne 6, 3) := by decide +kernel
theorem dX9_finds_145 : decode cX9_finds 145 = .ok (.goto 95, 3) := by decide +kernel
theorem dX9_finds_148 : decode cX9_finds 148 = .ok (.iload 4, 2) := by decide +kernel
theorem dX9_finds_150 : decode cX9_finds 150 = .ok (.bipush 36, 2) := by decide +kernel
theorem dX9_finds_152 : decode cX9_finds 152 = .ok (.if_icmp .ge 37, 3) := by decide +kernel
theorem dX9_finds_155 : decode cX9_finds 155 = .ok (.iload 5, 2) := by decide +kernel
theorem dX9_finds_157 : decode cX9_finds 157 = .ok (.bipush 36, 2) := by decide +kernel
theorem dX9_finds_159 : decode cX9_finds 159 = .ok (.isub, 1) := by decide +kernel
theorem dX9_finds_160 : decode cX9_finds 160 = .ok (.aload_n 0, 1) := by decide +kernel
theorem dX9_finds_161 : decode cX9_finds 161 = .ok (.getfield 80, 3) := by decide +kernel
theorem dX9_finds_164 : decode cX9_finds 164 = .ok (.if_icmp .ge 21, 3) := by decide +kernel
theorem dX9_finds_167 : decode cX9_finds 167 = .ok (.aload_n 0, 1) := by decide +kernel
theorem dX9_finds_168 : decode cX9_finds 168 = .ok (.iload 4, 2) := by decide +kernel
theorem dX9_finds_170 : decode cX9_finds 170 = .ok (.iload 5, 2) := by decide +kernel
theorem dX9_finds_172 : decode cX9_finds 172 = .ok (.bipush 36, 2) := by decide +kernel
theorem dX9_finds_174 : decode cX9_finds 174 = .ok (.isub, 1) := by decide +kernel
theorem dX9_finds_175 : decode cX9_finds 175 = .ok (.invokevirtual 244, 3) := by decide +kernel
theorem dX9_finds_178 : decode cX9_finds 178 = .ok (.ifCond .le 7, 3) := by decide +kernel
theorem dX9_finds_181 : decode cX9_finds 181 = .ok (.iconst 1, 1) := by decide +kernel
theorem dX9_finds_182 : decode cX9_finds 182 = .ok (.goto 28, 3) := by decide +kernel
theorem dX9_finds_185 : decode cX9_finds 185 = .ok (.iconst 0, 1) := by decide +kernel
theorem dX9_finds_186 : decode cX9_finds 186 = .ok (.goto 24, 3) := by decide +kernel
theorem dX9_finds_189 : decode cX9_finds 189 = .ok (.aload_n 0, 1) := by decide +kernel
theorem dX9_finds_190 : decode cX9_finds 190 = .ok (.getfield 55, 3) := by decide +kernel
theorem dX9_finds_193 : decode cX9_finds 193 = .ok (.iload 5, 2) := by decide +kernel
theorem dX9_finds_195 : decode cX9_finds 195 = .ok (.aaload, 1) := by decide +kernel
theorem dX9_finds_196 : decode cX9_finds 196 = .ok (.iload 4, 2) := by decide +kernel
theorem dX9_finds_198 : decode cX9_finds 198 = .ok (.bipush 36, 2) := by decide +kernel
theorem dX9_finds_200 : decode cX9_finds 200 = .ok (.isub, 1) := by decide +kernel
theorem dX9_finds_201 : decode cX9_finds 201 = .ok (.iaload, 1) := by decide +kernel
theorem dX9_finds_202 : decode cX9_finds 202 = .ok (.ifCond .le 7, 3) := by decide +kernel
theorem dX9_finds_205 : decode cX9_finds 205 = .ok (.iconst 1, 1) := by decide +kernel
theorem dX9_finds_206 : decode cX9_finds 206 = .ok (.goto 4, 3) := by decide +kernel
theorem dX9_finds_209 : decode cX9_finds 209 = .ok (.iconst 0, 1) := by decide +kernel
theorem dX9_finds_210 : decode cX9_finds 210 = .ok (.istore 6, 2) := by decide +kernel
theorem dX9_finds_212 : decode cX9_finds 212 = .ok (.iload 6, 2) := by decide +kernel
theorem dX9_finds_214 : decode cX9_finds 214 = .ok (.ifCond .ne 6, 3) := by decide +kernel
theorem dX9_finds_217 : decode cX9_finds 217 = .ok (.goto 23, 3) := by decide +kernel
theorem dX9_finds_220 : decode cX9_finds 220 = .ok (.aload_n 0, 1) := by decide +kernel
theorem dX9_finds_221 : decode cX9_finds 221 = .ok (.getfield 64, 3) := by decide +kernel
theorem dX9_finds_224 : decode cX9_finds 224 = .ok (.iload 5, 2) := by decide +kernel
theorem dX9_finds_226 : decode cX9_finds 226 = .ok (.iload 4, 2) := by decide +kernel
theorem dX9_finds_228 : decode cX9_finds 228 = .ok (.iastore, 1) := by decide +kernel
theorem dX9_finds_229 : decode cX9_finds 229 = .ok (.aload_n 0, 1) := by decide +kernel
theorem dX9_finds_230 : decode cX9_finds 230 = .ok (.getfield 67, 3) := by decide +kernel
theorem dX9_finds_233 : decode cX9_finds 233 = .ok (.iload_n 2, 1) := by decide +kernel
theorem dX9_finds_234 : decode cX9_finds 234 = .ok (.iload 5, 2) := by decide +kernel
theorem dX9_finds_236 : decode cX9_finds 236 = .ok (.iastore, 1) := by decide +kernel
theorem dX9_finds_237 : decode cX9_finds 237 = .ok (.iinc 2 1, 3) := by decide +kernel
theorem dX9_finds_240 : decode cX9_finds 240 = .ok (.iinc 5 1, 3) := by decide +kernel
theorem dX9_finds_243 : decode cX9_finds 243 = .ok (.goto (-147), 3) := by decide +kernel
theorem dX9_finds_246 : decode cX9_finds 246 = .ok (.iinc 3 1, 3) := by decide +kernel
theorem dX9_finds_249 : decode cX9_finds 249 = .ok (.goto (-181), 3) := by decide +kernel
theorem dX9_finds_252 : decode cX9_finds 252 = .ok (.aload_n 0, 1) := by decide +kernel
theorem dX9_finds_253 : decode cX9_finds 253 = .ok (.getfield 64, 3) := by decide +kernel
theorem dX9_finds_256 : decode cX9_finds 256 = .ok (.bipush 36, 2) := by decide +kernel
theorem dX9_finds_258 : decode cX9_finds 258 = .ok (.iload_n 1, 1) := by decide +kernel
theorem dX9_finds_259 : decode cX9_finds 259 = .ok (.iadd, 1) := by decide +kernel
theorem dX9_finds_260 : decode cX9_finds 260 = .ok (.iaload, 1) := by decide +kernel
theorem dX9_finds_261 : decode cX9_finds 261 = .ok (.ifCond .lt 7, 3) := by decide +kernel
theorem dX9_finds_264 : decode cX9_finds 264 = .ok (.iconst 1, 1) := by decide +kernel
theorem dX9_finds_265 : decode cX9_finds 265 = .ok (.goto 4, 3) := by decide +kernel
theorem dX9_finds_268 : decode cX9_finds 268 = .ok (.iconst 0, 1) := by decide +kernel
theorem dX9_finds_269 : decode cX9_finds 269 = .ok (.ireturn, 1) := by decide +kernel
theorem dX9_goesOne_0 : decode cX9_goesOne 0 = .ok (.bipush 36, 2) := by decide +kernel
theorem dX9_goesOne_2 : decode cX9_goesOne 2 = .ok (.iload_n 1, 1) := by decide +kernel
theorem dX9_goesOne_3 : decode cX9_goesOne 3 = .ok (.iadd, 1) := by decide +kernel
theorem dX9_goesOne_4 : decode cX9_goesOne 4 = .ok (.istore_n 2, 1) := by decide +kernel
theorem dX9_goesOne_5 : decode cX9_goesOne 5 = .ok (.aload_n 0, 1) := by decide +kernel
theorem dX9_goesOne_6 : decode cX9_goesOne 6 = .ok (.getfield 64, 3) := by decide +kernel
theorem dX9_goesOne_9 : decode cX9_goesOne 9 = .ok (.iload_n 2, 1) := by decide +kernel
theorem dX9_goesOne_10 : decode cX9_goesOne 10 = .ok (.iaload, 1) := by decide +kernel
theorem dX9_goesOne_11 : decode cX9_goesOne 11 = .ok (.iload_n 2, 1) := by decide +kernel
theorem dX9_goesOne_12 : decode cX9_goesOne 12 = .ok (.if_icmp .eq 54, 3) := by decide +kernel
theorem dX9_goesOne_15 : decode cX9_goesOne 15 = .ok (.aload_n 0, 1) := by decide +kernel
theorem dX9_goesOne_16 : decode cX9_goesOne 16 = .ok (.getfield 64, 3) := by decide +kernel
theorem dX9_goesOne_19 : decode cX9_goesOne 19 = .ok (.iload_n 2, 1) := by decide +kernel
theorem dX9_goesOne_20 : decode cX9_goesOne 20 = .ok (.iaload, 1) := by decide +kernel
theorem dX9_goesOne_21 : decode cX9_goesOne 21 = .ok (.istore_n 3, 1) := by decide +kernel
theorem dX9_goesOne_22 : decode cX9_goesOne 22 = .ok (.iload_n 3, 1) := by decide +kernel
theorem dX9_goesOne_23 : decode cX9_goesOne 23 = .ok (.bipush 36, 2) := by decide +kernel
theorem dX9_goesOne_25 : decode cX9_goesOne 25 = .ok (.if_icmp .ge 21, 3) := by decide +kernel
theorem dX9_goesOne_28 : decode cX9_goesOne 28 = .ok (.aload_n 0, 1) := by decide +kernel
theorem dX9_goesOne_29 : decode cX9_goesOne 29 = .ok (.getfield 55, 3) := by decide +kernel
theorem dX9_goesOne_32 : decode cX9_goesOne 32 = .ok (.iload_n 3, 1) := by decide +kernel
theorem dX9_goesOne_33 : decode cX9_goesOne 33 = .ok (.aaload, 1) := by decide +kernel
theorem dX9_goesOne_34 : decode cX9_goesOne 34 = .ok (.iload_n 2, 1) := by decide +kernel
theorem dX9_goesOne_35 : decode cX9_goesOne 35 = .ok (.bipush 36, 2) := by decide +kernel
theorem dX9_goesOne_37 : decode cX9_goesOne 37 = .ok (.isub, 1) := by decide +kernel
theorem dX9_goesOne_38 : decode cX9_goesOne 38 = .ok (.dup2, 1) := by decide +kernel
theorem dX9_goesOne_39 : decode cX9_goesOne 39 = .ok (.iaload, 1) := by decide +kernel
theorem dX9_goesOne_40 : decode cX9_goesOne 40 = .ok (.iconst 1, 1) := by decide +kernel
theorem dX9_goesOne_41 : decode cX9_goesOne 41 = .ok (.iadd, 1) := by decide +kernel
theorem dX9_goesOne_42 : decode cX9_goesOne 42 = .ok (.iastore, 1) := by decide +kernel
theorem dX9_goesOne_43 : decode cX9_goesOne 43 = .ok (.goto 18, 3) := by decide +kernel
theorem dX9_goesOne_46 : decode cX9_goesOne 46 = .ok (.aload_n 0, 1) := by decide +kernel
theorem dX9_goesOne_47 : decode cX9_goesOne 47 = .ok (.getfield 55, 3) := by decide +kernel
theorem dX9_goesOne_50 : decode cX9_goesOne 50 = .ok (.iload_n 2, 1) := by decide +kernel
theorem dX9_goesOne_51 : decode cX9_goesOne 51 = .ok (.aaload, 1) := by decide +kernel
theorem dX9_goesOne_52 : decode cX9_goesOne 52 = .ok (.iload_n 3, 1) := by decide +kernel
theorem dX9_goesOne_53 : decode cX9_goesOne 53 = .ok (.bipush 36, 2) := by decide +kernel
theorem dX9_goesOne_55 : decode cX9_goesOne 55 = .ok (.isub, 1) := by decide +kernel
theorem dX9_goesOne_56 : decode cX9_goesOne 56 = .ok (.dup2, 1) := by decide +kernel
theorem dX9_goesOne_57 : decode cX9_goesOne 57 = .ok (.iaload, 1) := by decide +kernel
theorem dX9_goesOne_58 : decode cX9_goesOne 58 = .ok (.iconst 1, 1) := by decide +kernel
theorem dX9_goesOne_59 : decode cX9_goesOne 59 = .ok (.isub, 1) := by decide +kernel
theorem dX9_goesOne_60 : decode cX9_goesOne 60 = .ok (.iastore, 1) := by decide +kernel
theorem dX9_goesOne_61 : decode cX9_goesOne 61 = .ok (.iload_n 3, 1) := by decide +kernel
theorem dX9_goesOne_62 : decode cX9_goesOne 62 = .ok (.istore_n 2, 1) := by decide +kernel
theorem dX9_goesOne_63 : decode cX9_goesOne 63 = .ok (.goto (-58), 3) := by decide +kernel
theorem dX9_goesOne_66 : decode cX9_goesOne 66 = .ok (.aload_n 0, 1) := by decide +kernel
theorem dX9_goesOne_67 : decode cX9_goesOne 67 = .ok (.getfield 58, 3) := by decide +kernel
theorem dX9_goesOne_70 : decode cX9_goesOne 70 = .ok (.iload_n 2, 1) := by decide +kernel
theorem dX9_goesOne_71 : decode cX9_goesOne 71 = .ok (.dup2, 1) := by decide +kernel
theorem dX9_goesOne_72 : decode cX9_goesOne 72 = .ok (.iaload, 1) := by decide +kernel
theorem dX9_goesOne_73 : decode cX9_goesOne 73 = .ok (.iconst 1, 1) := by decide +kernel
theorem dX9_goesOne_74 : decode cX9_goesOne 74 = .ok (.isub, 1) := by decide +kernel
theorem dX9_goesOne_75 : decode cX9_goesOne 75 = .ok (.iastore, 1) := by decide +kernel
theorem dX9_goesOne_76 : decode cX9_goesOne 76 = .ok (.aload_n 0, 1) := by decide +kernel
theorem dX9_goesOne_77 : decode cX9_goesOne 77 = .ok (.getfield 61, 3) := by decide +kernel
theorem dX9_goesOne_80 : decode cX9_goesOne 80 = .ok (.iload_n 1, 1) := by decide +kernel
theorem dX9_goesOne_81 : decode cX9_goesOne 81 = .ok (.dup2, 1) := by decide +kernel
theorem dX9_goesOne_82 : decode cX9_goesOne 82 = .ok (.iaload, 1) := by decide +kernel
theorem dX9_goesOne_83 : decode cX9_goesOne 83 = .ok (.iconst 1, 1) := by decide +kernel
theorem dX9_goesOne_84 : decode cX9_goesOne 84 = .ok (.isub, 1) := by decide +kernel
theorem dX9_goesOne_85 : decode cX9_goesOne 85 = .ok (.iastore, 1) := by decide +kernel
theorem dX9_goesOne_86 : decode cX9_goesOne 86 = .ok (.return_, 1) := by decide +kernel
set_option maxRecDepth 20000 in
theorem ggX9_parts_X9_isWhat : GoodIn wsX9_parts wsX9_isWhat := goodIn_r _ [14, 5, 30, 31, 32, 33, 34, 35, 36, 37, 38, 39, 40, 41, 42, 43, 44, 45, 46, 47, 48, 49, 50, 51, 52, 53, 54, 55, 56, 57, 58, 59, 60, 61, 62, 63, 64] (by decide +kernel) (by decide +kernel)
set_option maxRecDepth 20000 in
theorem gX9_parts_X9_isWhat : GoodIn wsX9_parts (wsV RX9 87 RX9 yX9_isWhat wsX9_isWhat) := goodIn_app (goodIn_of _ (by decide +kernel)) ggX9_parts_X9_isWhat
set_option maxRecDepth 20000 in
theorem ggX9_parts_X9_finds : GoodIn wsX9_parts wsX9_finds := goodIn_r _ [18, 19, 4, 20, 7, 6, 21, 22, 23, 13, 24, 25, 5, 2, 1, 3, 30, 31, 32, 33, 34, 35, 36, 37, 38, 39, 40, 41, 42, 43, 44, 45, 46, 47, 48, 49, 50, 51, 52, 53, 54, 55, 56, 57, 58, 59, 60, 61, 62, 63, 64] (by decide +kernel) (by decide +kernel)
set_option maxRecDepth 20000 in
theorem gX9_parts_X9_finds : GoodIn wsX9_parts (wsV RX9 247 RX9 yX9_finds wsX9_finds) := goodIn_app (goodIn_of _ (by decide +kernel)) ggX9_parts_X9_finds
set_option maxRecDepth 20000 in
theorem ggX9_parts_X9_goesOne : GoodIn wsX9_parts wsX9_goesOne := goodIn_r _ [29, 19, 6, 4, 8, 30, 31, 32, 33, 34, 35, 36, 37, 38, 39, 40, 41, 42, 43, 44, 45, 46, 47, 48, 49, 50, 51, 52, 53, 54, 55, 56, 57, 58, 59, 60, 61, 62, 63, 64] (by decide +kernel) (by decide +kernel)
set_option maxRecDepth 20000 in
theorem gX9_parts_X9_goesOne : GoodIn wsX9_parts (wsV RX9 250 RX9 yX9_goesOne wsX9_goesOne) := goodIn_app (goodIn_of _ (by decide +kernel)) ggX9_parts_X9_goesOne
theorem dX9_parts_0 : decode cX9_parts 0 = .ok (.aload_n 0, 1) := by decide +kernel
theorem dX9_parts_1 : decode cX9_parts 1 = .ok (.iload_n 1, 1) := by decide +kernel
theorem dX9_parts_2 : decode cX9_parts 2 = .ok (.putfield 238, 3) := by decide +kernel
theorem dX9_parts_5 : decode cX9_parts 5 = .ok (.aload_n 0, 1) := by decide +kernel
theorem dX9_parts_6 : decode cX9_parts 6 = .ok (.iload_n 2, 1) := by decide +kernel
theorem dX9_parts_7 : decode cX9_parts 7 = .ok (.putfield 235, 3) := by decide +kernel
theorem dX9_parts_10 : decode cX9_parts 10 = .ok (.aload_n 0, 1) := by decide +kernel
theorem dX9_parts_11 : decode cX9_parts 11 = .ok (.iload_n 3, 1) := by decide +kernel
theorem dX9_parts_12 : decode cX9_parts 12 = .ok (.putfield 241, 3) := by decide +kernel
theorem dX9_parts_15 : decode cX9_parts 15 = .ok (.iconst 0, 1) := by decide +kernel
theorem dX9_parts_16 : decode cX9_parts 16 = .ok (.istore 4, 2) := by decide +kernel
theorem dX9_parts_18 : decode cX9_parts 18 = .ok (.iload 4, 2) := by decide +kernel
theorem dX9_parts_20 : decode cX9_parts 20 = .ok (.bipush 36, 2) := by decide +kernel
theorem dX9_parts_22 : decode cX9_parts 22 = .ok (.if_icmp .ge 52, 3) := by decide +kernel
theorem dX9_parts_25 : decode cX9_parts 25 = .ok (.aload_n 0, 1) := by decide +kernel
theorem dX9_parts_26 : decode cX9_parts 26 = .ok (.getfield 58, 3) := by decide +kernel
theorem dX9_parts_29 : decode cX9_parts 29 = .ok (.iload 4, 2) := by decide +kernel
theorem dX9_parts_31 : decode cX9_parts 31 = .ok (.aload_n 0, 1) := by decide +kernel
theorem dX9_parts_32 : decode cX9_parts 32 = .ok (.getfield 9, 3) := by decide +kernel
theorem dX9_parts_35 : decode cX9_parts 35 = .ok (.iconst 0, 1) := by decide +kernel
theorem dX9_parts_36 : decode cX9_parts 36 = .ok (.iload 4, 2) := by decide +kernel
theorem dX9_parts_38 : decode cX9_parts 38 = .ok (.iadd, 1) := by decide +kernel
theorem dX9_parts_39 : decode cX9_parts 39 = .ok (.iaload, 1) := by decide +kernel
theorem dX9_parts_40 : decode cX9_parts 40 = .ok (.iastore, 1) := by decide +kernel
theorem dX9_parts_41 : decode cX9_parts 41 = .ok (.iconst 0, 1) := by decide +kernel
theorem dX9_parts_42 : decode cX9_parts 42 = .ok (.istore 5, 2) := by decide +kernel
theorem dX9_parts_44 : decode cX9_parts 44 = .ok (.iload 5, 2) := by decide +kernel
theorem dX9_parts_46 : decode cX9_parts 46 = .ok (.bipush 24, 2) := by decide +kernel
theorem dX9_parts_48 : decode cX9_parts 48 = .ok (.if_icmp .ge 20, 3) := by decide +kernel
theorem dX9_parts_51 : decode cX9_parts 51 = .ok (.aload_n 0, 1) := by decide +kernel
theorem dX9_parts_52 : decode cX9_parts 52 = .ok (.getfield 55, 3) := by decide +kernel
theorem dX9_parts_55 : decode cX9_parts 55 = .ok (.iload 4, 2) := by decide +kernel
theorem dX9_parts_57 : decode cX9_parts 57 = .ok (.aaload, 1) := by decide +kernel
theorem dX9_parts_58 : decode cX9_parts 58 = .ok (.iload 5, 2) := by decide +kernel
theorem dX9_parts_60 : decode cX9_parts 60 = .ok (.iconst 0, 1) := by decide +kernel
theorem dX9_parts_61 : decode cX9_parts 61 = .ok (.iastore, 1) := by decide +kernel
theorem dX9_parts_62 : decode cX9_parts 62 = .ok (.iinc 5 1, 3) := by decide +kernel
theorem dX9_parts_65 : decode cX9_parts 65 = .ok (.goto (-21), 3) := by decide +kernel
theorem dX9_parts_68 : decode cX9_parts 68 = .ok (.iinc 4 1, 3) := by decide +kernel
theorem dX9_parts_71 : decode cX9_parts 71 = .ok (.goto (-53), 3) := by decide +kernel
theorem dX9_parts_74 : decode cX9_parts 74 = .ok (.iconst 0, 1) := by decide +kernel
theorem dX9_parts_75 : decode cX9_parts 75 = .ok (.istore 4, 2) := by decide +kernel
theorem dX9_parts_77 : decode cX9_parts 77 = .ok (.iload 4, 2) := by decide +kernel
theorem dX9_parts_79 : decode cX9_parts 79 = .ok (.aload_n 0, 1) := by decide +kernel
theorem dX9_parts_80 : decode cX9_parts 80 = .ok (.getfield 80, 3) := by decide +kernel
theorem dX9_parts_83 : decode cX9_parts 83 = .ok (.if_icmp .ge 67, 3) := by decide +kernel
theorem dX9_parts_86 : decode cX9_parts 86 = .ok (.aload_n 0, 1) := by decide +kernel
theorem dX9_parts_87 : decode cX9_parts 87 = .ok (.getfield 61, 3) := by decide +kernel
theorem dX9_parts_90 : decode cX9_parts 90 = .ok (.iload 4, 2) := by decide +kernel
theorem dX9_parts_92 : decode cX9_parts 92 = .ok (.aload_n 0, 1) := by decide +kernel
theorem dX9_parts_93 : decode cX9_parts 93 = .ok (.iload 4, 2) := by decide +kernel
theorem dX9_parts_95 : decode cX9_parts 95 = .ok (.iconst 1, 1) := by decide +kernel
theorem dX9_parts_96 : decode cX9_parts 96 = .ok (.invokevirtual 87, 3) := by decide +kernel
theorem dX9_parts_99 : decode cX9_parts 99 = .ok (.ifCond .eq 13, 3) := by decide +kernel
theorem dX9_parts_102 : decode cX9_parts 102 = .ok (.aload_n 0, 1) := by decide +kernel
theorem dX9_parts_103 : decode cX9_parts 103 = .ok (.getfield 13, 3) := by decide +kernel
theorem dX9_parts_106 : decode cX9_parts 106 = .ok (.iload 4, 2) := by decide +kernel
theorem dX9_parts_108 : decode cX9_parts 108 = .ok (.iaload, 1) := by decide +kernel
theorem dX9_parts_109 : decode cX9_parts 109 = .ok (.goto 4, 3) := by decide +kernel
theorem dX9_parts_112 : decode cX9_parts 112 = .ok (.iconst 0, 1) := by decide +kernel
theorem dX9_parts_113 : decode cX9_parts 113 = .ok (.iastore, 1) := by decide +kernel
theorem dX9_parts_114 : decode cX9_parts 114 = .ok (.aload_n 0, 1) := by decide +kernel
theorem dX9_parts_115 : decode cX9_parts 115 = .ok (.getfield 61, 3) := by decide +kernel
theorem dX9_parts_118 : decode cX9_parts 118 = .ok (.iload 4, 2) := by decide +kernel
theorem dX9_parts_120 : decode cX9_parts 120 = .ok (.iaload, 1) := by decide +kernel
theorem dX9_parts_121 : decode cX9_parts 121 = .ok (.ifCond .le 23, 3) := by decide +kernel
theorem dX9_parts_124 : decode cX9_parts 124 = .ok (.aload_n 0, 1) := by decide +kernel
theorem dX9_parts_125 : decode cX9_parts 125 = .ok (.iload 4, 2) := by decide +kernel
theorem dX9_parts_127 : decode cX9_parts 127 = .ok (.invokevirtual 247, 3) := by decide +kernel
theorem dX9_parts_130 : decode cX9_parts 130 = .ok (.ifCond .ne 5, 3) := by decide +kernel
theorem dX9_parts_133 : decode cX9_parts 133 = .ok (.iconst 0, 1) := by decide +kernel
theorem dX9_parts_134 : decode cX9_parts 134 = .ok (.ireturn, 1) := by decide +kernel
theorem dX9_parts_135 : decode cX9_parts 135 = .ok (.aload_n 0, 1) := by decide +kernel
theorem dX9_parts_136 : decode cX9_parts 136 = .ok (.iload 4, 2) := by decide +kernel
theorem dX9_parts_138 : decode cX9_parts 138 = .ok (.invokevirtual 250, 3) := by decide +kernel
theorem dX9_parts_141 : decode cX9_parts 141 = .ok (.goto (-27), 3) := by decide +kernel
theorem dX9_parts_144 : decode cX9_parts 144 = .ok (.iinc 4 1, 3) := by decide +kernel
theorem dX9_parts_147 : decode cX9_parts 147 = .ok (.goto (-70), 3) := by decide +kernel
theorem dX9_parts_150 : decode cX9_parts 150 = .ok (.iconst 1, 1) := by decide +kernel
theorem dX9_parts_151 : decode cX9_parts 151 = .ok (.ireturn, 1) := by decide +kernel
set_option maxRecDepth 20000 in
theorem ggX9_mostOf_X9_those : GoodIn wsX9_mostOf wsX9_those := goodIn_r _ [12, 13, 14, 15, 16, 11, 17, 2, 51, 52, 53, 54, 55, 56, 57, 58, 59, 60, 61, 62, 63, 64, 65, 66, 67, 68, 69, 70, 71, 72, 73, 74, 75, 76, 77, 78, 79, 80, 81, 82, 83, 84, 85] (by decide +kernel) (by decide +kernel)
set_option maxRecDepth 20000 in
theorem gX9_mostOf_X9_those : GoodIn wsX9_mostOf (wsV RX9 105 RX9 yX9_those wsX9_those) := goodIn_app (goodIn_of _ (by decide +kernel)) ggX9_mostOf_X9_those
set_option maxRecDepth 20000 in
theorem ggX9_mostOf_X9_isMet : GoodIn wsX9_mostOf wsX9_isMet := goodIn_r _ [21, 22, 23, 24, 25, 11, 26, 27, 28, 29, 30, 31, 32, 33, 2, 34, 35, 36, 37, 38, 39, 40, 41, 42, 43, 13, 1, 3, 44, 45, 46, 47, 48, 49, 50, 51, 52, 53, 54, 55, 56, 57, 58, 59, 60, 61, 62, 63, 64, 65, 66, 67, 68, 69, 70, 71, 72, 73, 74, 75, 76, 77, 78, 79, 80, 81, 82, 83, 84, 85] (by decide +kernel) (by decide +kernel)
set_option maxRecDepth 20000 in
theorem gX9_mostOf_X9_isMet : GoodIn wsX9_mostOf (wsV RX9 163 RX9 yX9_isMet wsX9_isMet) := goodIn_app (goodIn_of _ (by decide +kernel)) ggX9_mostOf_X9_isMet
theorem dX9_mostOf_0 : decode cX9_mostOf 0 = .ok (.aload_n 0, 1) := by decide +kernel
theorem dX9_mostOf_1 : decode cX9_mostOf 1 = .ok (.getfield 16, 3) := by decide +kernel
theorem dX9_mostOf_4 : decode cX9_mostOf 4 = .ok (.iload_n 1, 1) := by decide +kernel
theorem dX9_mostOf_5 : decode cX9_mostOf 5 = .ok (.iaload, 1) := by decide +kernel
theorem dX9_mostOf_6 : decode cX9_mostOf 6 = .ok (.iload_n 2, 1) := by decide +kernel
theorem dX9_mostOf_7 : decode cX9_mostOf 7 = .ok (.bipush 12, 2) := by decide +kernel
theorem dX9_mostOf_9 : decode cX9_mostOf 9 = .ok (.idiv, 1) := by decide +kernel
theorem dX9_mostOf_10 : decode cX9_mostOf 10 = .ok (.ishr, 1) := by decide +kernel
theorem dX9_mostOf_11 : decode cX9_mostOf 11 = .ok (.iconst 1, 1) := by decide +kernel
theorem dX9_mostOf_12 : decode cX9_mostOf 12 = .ok (.iand, 1) := by decide +kernel
theorem dX9_mostOf_13 : decode cX9_mostOf 13 = .ok (.iconst 1, 1) := by decide +kernel
theorem dX9_mostOf_14 : decode cX9_mostOf 14 = .ok (.if_icmp .ne 23, 3) := by decide +kernel
theorem dX9_mostOf_17 : decode cX9_mostOf 17 = .ok (.iload_n 2, 1) := by decide +kernel
theorem dX9_mostOf_18 : decode cX9_mostOf 18 = .ok (.bipush 12, 2) := by decide +kernel
theorem dX9_mostOf_20 : decode cX9_mostOf 20 = .ok (.irem, 1) := by decide +kernel
theorem dX9_mostOf_21 : decode cX9_mostOf 21 = .ok (.aload_n 0, 1) := by decide +kernel
theorem dX9_mostOf_22 : decode cX9_mostOf 22 = .ok (.getfield 9, 3) := by decide +kernel
theorem dX9_mostOf_25 : decode cX9_mostOf 25 = .ok (.bipush 64, 2) := by decide +kernel
theorem dX9_mostOf_27 : decode cX9_mostOf 27 = .ok (.iload_n 1, 1) := by decide +kernel
theorem dX9_mostOf_28 : decode cX9_mostOf 28 = .ok (.iadd, 1) := by decide +kernel
theorem dX9_mostOf_29 : decode cX9_mostOf 29 = .ok (.iaload, 1) := by decide +kernel
theorem dX9_mostOf_30 : decode cX9_mostOf 30 = .ok (.if_icmp .gt 7, 3) := by decide +kernel
theorem dX9_mostOf_33 : decode cX9_mostOf 33 = .ok (.iconst 1, 1) := by decide +kernel
theorem dX9_mostOf_34 : decode cX9_mostOf 34 = .ok (.goto 4, 3) := by decide +kernel
theorem dX9_mostOf_37 : decode cX9_mostOf 37 = .ok (.iconst 0, 1) := by decide +kernel
theorem dX9_mostOf_38 : decode cX9_mostOf 38 = .ok (.istore_n 3, 1) := by decide +kernel
theorem dX9_mostOf_39 : decode cX9_mostOf 39 = .ok (.iload_n 3, 1) := by decide +kernel
theorem dX9_mostOf_40 : decode cX9_mostOf 40 = .ok (.ifCond .eq 23, 3) := by decide +kernel
theorem dX9_mostOf_43 : decode cX9_mostOf 43 = .ok (.aload_n 0, 1) := by decide +kernel
theorem dX9_mostOf_44 : decode cX9_mostOf 44 = .ok (.getfield 13, 3) := by decide +kernel
theorem dX9_mostOf_47 : decode cX9_mostOf 47 = .ok (.iload_n 1, 1) := by decide +kernel
theorem dX9_mostOf_48 : decode cX9_mostOf 48 = .ok (.iaload, 1) := by decide +kernel
theorem dX9_mostOf_49 : decode cX9_mostOf 49 = .ok (.aload_n 0, 1) := by decide +kernel
theorem dX9_mostOf_50 : decode cX9_mostOf 50 = .ok (.getfield 9, 3) := by decide +kernel
theorem dX9_mostOf_53 : decode cX9_mostOf 53 = .ok (.iconst 0, 1) := by decide +kernel
theorem dX9_mostOf_54 : decode cX9_mostOf 54 = .ok (.iload_n 2, 1) := by decide +kernel
theorem dX9_mostOf_55 : decode cX9_mostOf 55 = .ok (.iadd, 1) := by decide +kernel
theorem dX9_mostOf_56 : decode cX9_mostOf 56 = .ok (.iaload, 1) := by decide +kernel
theorem dX9_mostOf_57 : decode cX9_mostOf 57 = .ok (.invokestatic 224, 3) := by decide +kernel
theorem dX9_mostOf_60 : decode cX9_mostOf 60 = .ok (.goto 4, 3) := by decide +kernel
theorem dX9_mostOf_63 : decode cX9_mostOf 63 = .ok (.iconst 0, 1) := by decide +kernel
theorem dX9_mostOf_64 : decode cX9_mostOf 64 = .ok (.istore 4, 2) := by decide +kernel
theorem dX9_mostOf_66 : decode cX9_mostOf 66 = .ok (.iload 4, 2) := by decide +kernel
theorem dX9_mostOf_68 : decode cX9_mostOf 68 = .ok (.ifCond .le 76, 3) := by decide +kernel
theorem dX9_mostOf_71 : decode cX9_mostOf 71 = .ok (.aload_n 0, 1) := by decide +kernel
theorem dX9_mostOf_72 : decode cX9_mostOf 72 = .ok (.getfield 9, 3) := by decide +kernel
theorem dX9_mostOf_75 : decode cX9_mostOf 75 = .ok (.iconst 0, 1) := by decide +kernel
theorem dX9_mostOf_76 : decode cX9_mostOf 76 = .ok (.iload_n 2, 1) := by decide +kernel
theorem dX9_mostOf_77 : decode cX9_mostOf 77 = .ok (.iadd, 1) := by decide +kernel
theorem dX9_mostOf_78 : decode cX9_mostOf 78 = .ok (.dup2, 1) := by decide +kernel
theorem dX9_mostOf_79 : decode cX9_mostOf 79 = .ok (.iaload, 1) := by decide +kernel
theorem dX9_mostOf_80 : decode cX9_mostOf 80 = .ok (.iload 4, 2) := by decide +kernel
theorem dX9_mostOf_82 : decode cX9_mostOf 82 = .ok (.isub, 1) := by decide +kernel
theorem dX9_mostOf_83 : decode cX9_mostOf 83 = .ok (.iastore, 1) := by decide +kernel
theorem dX9_mostOf_84 : decode cX9_mostOf 84 = .ok (.aload_n 0, 1) := by decide +kernel
theorem dX9_mostOf_85 : decode cX9_mostOf 85 = .ok (.getfield 13, 3) := by decide +kernel
theorem dX9_mostOf_88 : decode cX9_mostOf 88 = .ok (.iload_n 1, 1) := by decide +kernel
theorem dX9_mostOf_89 : decode cX9_mostOf 89 = .ok (.dup2, 1) := by decide +kernel
theorem dX9_mostOf_90 : decode cX9_mostOf 90 = .ok (.iaload, 1) := by decide +kernel
theorem dX9_mostOf_91 : decode cX9_mostOf 91 = .ok (.iload 4, 2) := by decide +kernel
theorem dX9_mostOf_93 : decode cX9_mostOf 93 = .ok (.isub, 1) := by decide +kernel
theorem dX9_mostOf_94 : decode cX9_mostOf 94 = .ok (.iastore, 1) := by decide +kernel
theorem dX9_mostOf_95 : decode cX9_mostOf 95 = .ok (.aload_n 0, 1) := by decide +kernel
theorem dX9_mostOf_96 : decode cX9_mostOf 96 = .ok (.aload_n 0, 1) := by decide +kernel
theorem dX9_mostOf_97 : decode cX9_mostOf 97 = .ok (.iconst 1, 1) := by decide +kernel
theorem dX9_mostOf_98 : decode cX9_mostOf 98 = .ok (.invokevirtual 105, 3) := by decide +kernel
theorem dX9_mostOf_101 : decode cX9_mostOf 101 = .ok (.invokevirtual 163, 3) := by decide +kernel
theorem dX9_mostOf_104 : decode cX9_mostOf 104 = .ok (.istore 5, 2) := by decide +kernel
theorem dX9_mostOf_106 : decode cX9_mostOf 106 = .ok (.aload_n 0, 1) := by decide +kernel
theorem dX9_mostOf_107 : decode cX9_mostOf 107 = .ok (.getfield 9, 3) := by decide +kernel
theorem dX9_mostOf_110 : decode cX9_mostOf 110 = .ok (.iconst 0, 1) := by decide +kernel
theorem dX9_mostOf_111 : decode cX9_mostOf 111 = .ok (.iload_n 2, 1) := by decide +kernel
theorem dX9_mostOf_112 : decode cX9_mostOf 112 = .ok (.iadd, 1) := by decide +kernel
theorem dX9_mostOf_113 : decode cX9_mostOf 113 = .ok (.dup2, 1) := by decide +kernel
theorem dX9_mostOf_114 : decode cX9_mostOf 114 = .ok (.iaload, 1) := by decide +kernel
theorem dX9_mostOf_115 : decode cX9_mostOf 115 = .ok (.iload 4, 2) := by decide +kernel
theorem dX9_mostOf_117 : decode cX9_mostOf 117 = .ok (.iadd, 1) := by decide +kernel
theorem dX9_mostOf_118 : decode cX9_mostOf 118 = .ok (.iastore, 1) := by decide +kernel
theorem dX9_mostOf_119 : decode cX9_mostOf 119 = .ok (.aload_n 0, 1) := by decide +kernel
theorem dX9_mostOf_120 : decode cX9_mostOf 120 = .ok (.getfield 13, 3) := by decide +kernel
theorem dX9_mostOf_123 : decode cX9_mostOf 123 = .ok (.iload_n 1, 1) := by decide +kernel
theorem dX9_mostOf_124 : decode cX9_mostOf 124 = .ok (.dup2, 1) := by decide +kernel
theorem dX9_mostOf_125 : decode cX9_mostOf 125 = .ok (.iaload, 1) := by decide +kernel
theorem dX9_mostOf_126 : decode cX9_mostOf 126 = .ok (.iload 4, 2) := by decide +kernel
theorem dX9_mostOf_128 : decode cX9_mostOf 128 = .ok (.iadd, 1) := by decide +kernel
theorem dX9_mostOf_129 : decode cX9_mostOf 129 = .ok (.iastore, 1) := by decide +kernel
theorem dX9_mostOf_130 : decode cX9_mostOf 130 = .ok (.iload 5, 2) := by decide +kernel
theorem dX9_mostOf_132 : decode cX9_mostOf 132 = .ok (.ifCond .eq 6, 3) := by decide +kernel
theorem dX9_mostOf_135 : decode cX9_mostOf 135 = .ok (.iload 4, 2) := by decide +kernel
theorem dX9_mostOf_137 : decode cX9_mostOf 137 = .ok (.ireturn, 1) := by decide +kernel
theorem dX9_mostOf_138 : decode cX9_mostOf 138 = .ok (.iinc 4 (-1), 3) := by decide +kernel
theorem dX9_mostOf_141 : decode cX9_mostOf 141 = .ok (.goto (-75), 3) := by decide +kernel
theorem dX9_mostOf_144 : decode cX9_mostOf 144 = .ok (.iconst 0, 1) := by decide +kernel
theorem dX9_mostOf_145 : decode cX9_mostOf 145 = .ok (.ireturn, 1) := by decide +kernel
set_option maxRecDepth 20000 in
theorem ggX9_range_X9_isOrder : GoodIn wsX9_range wsX9_isOrder := goodIn_r _ [5, 6, 7, 8, 4, 9, 89, 90, 91, 92, 93, 94, 95, 96, 97, 98, 99, 100, 101, 102, 103, 104, 105, 106, 107, 108, 109, 110, 111, 112, 113, 114, 115, 116, 117, 118, 119, 120, 121, 122, 123] (by decide +kernel) (by decide +kernel)
set_option maxRecDepth 20000 in
theorem gX9_range_X9_isOrder : GoodIn wsX9_range (wsV RX9 202 RX9 yX9_isOrder wsX9_isOrder) := goodIn_app (goodIn_of _ (by decide +kernel)) ggX9_range_X9_isOrder
set_option maxRecDepth 20000 in
theorem ggX9_range_X9_isSupply : GoodIn wsX9_range wsX9_isSupply := goodIn_r _ [12, 7, 8, 4, 9] (by decide +kernel) (by decide +kernel)
set_option maxRecDepth 20000 in
theorem gX9_range_X9_isSupply : GoodIn wsX9_range (va_wsS RX9 112 yX9_isSupply wsX9_isSupply) := goodIn_app (goodIn_of _ (by decide +kernel)) ggX9_range_X9_isSupply
set_option maxRecDepth 20000 in
theorem ggX9_range_X9_isIn : GoodIn wsX9_range wsX9_isIn := goodIn_r _ [9] (by decide +kernel) (by decide +kernel)
set_option maxRecDepth 20000 in
theorem gX9_range_X9_isIn : GoodIn wsX9_range (va_wsS RX9 83 yX9_isIn wsX9_isIn) := goodIn_app (goodIn_of _ (by decide +kernel)) ggX9_range_X9_isIn
set_option maxRecDepth 20000 in
theorem ggX9_range_X9_isWhat : GoodIn wsX9_range wsX9_isWhat := goodIn_r _ [16, 17, 89, 90, 91, 92, 93, 94, 95, 96, 97, 98, 99, 100, 101, 102, 103, 104, 105, 106, 107, 108, 109, 110, 111, 112, 113, 114, 115, 116, 117, 118, 119, 120, 121, 122, 123] (by decide +kernel) (by decide +kernel)
set_option maxRecDepth 20000 in
theorem gX9_range_X9_isWhat : GoodIn wsX9_range (wsV RX9 87 RX9 yX9_isWhat wsX9_isWhat) := goodIn_app (goodIn_of _ (by decide +kernel)) ggX9_range_X9_isWhat
set_option maxRecDepth 20000 in
theorem ggX9_range_X9_those : GoodIn wsX9_range wsX9_those := goodIn_r _ [21, 6, 13, 14, 15, 4, 16, 17, 89, 90, 91, 92, 93, 94, 95, 96, 97, 98, 99, 100, 101, 102, 103, 104, 105, 106, 107, 108, 109, 110, 111, 112, 113, 114, 115, 116, 117, 118, 119, 120, 121, 122, 123] (by decide +kernel) (by decide +kernel)
set_option maxRecDepth 20000 in
theorem gX9_range_X9_those : GoodIn wsX9_range (wsV RX9 105 RX9 yX9_those wsX9_those) := goodIn_app (goodIn_of _ (by decide +kernel)) ggX9_range_X9_those
set_option maxRecDepth 20000 in
theorem ggX9_range_X9_isMet : GoodIn wsX9_range wsX9_isMet := goodIn_r _ [25, 26, 27, 28, 29, 4, 30, 31, 32, 33, 34, 35, 36, 37, 17, 38, 39, 40, 41, 42, 43, 44, 45, 46, 47, 6, 48, 49, 50, 51, 52, 53, 54, 55, 56, 89, 90, 91, 92, 93, 94, 95, 96, 97, 98, 99, 100, 101, 102, 103, 104, 105, 106, 107, 108, 109, 110, 111, 112, 113, 114, 115, 116, 117, 118, 119, 120, 121, 122, 123] (by decide +kernel) (by decide +kernel)
set_option maxRecDepth 20000 in
theorem gX9_range_X9_isMet : GoodIn wsX9_range (wsV RX9 163 RX9 yX9_isMet wsX9_isMet) := goodIn_app (goodIn_of _ (by decide +kernel)) ggX9_range_X9_isMet
set_option maxRecDepth 20000 in
theorem ggX9_range_X9_mostOf : GoodIn wsX9_range wsX9_mostOf := goodIn_r _ [60, 48, 17, 49, 61, 62, 63, 64, 18, 19, 20, 4, 21, 6, 13, 14, 15, 16, 22, 23, 24, 25, 26, 27, 28, 29, 30, 31, 32, 33, 34, 35, 36, 37, 38, 39, 40, 41, 42, 43, 44, 45, 46, 47, 50, 51, 52, 53, 54, 55, 56, 89, 90, 91, 92, 93, 94, 95, 96, 97, 98, 99, 100, 101, 102, 103, 104, 105, 106, 107, 108, 109, 110, 111, 112, 113, 114, 115, 116, 117, 118, 119, 120, 121, 122, 123] (by decide +kernel) (by decide +kernel)
set_option maxRecDepth 20000 in
theorem gX9_range_X9_mostOf : GoodIn wsX9_range (wsV RX9 253 RX9 yX9_mostOf wsX9_mostOf) := goodIn_app (goodIn_of _ (by decide +kernel)) ggX9_range_X9_mostOf
set_option maxRecDepth 20000 in
theorem ggX9_range_X9_parts : GoodIn wsX9_range wsX9_parts := goodIn_r _ [68, 69, 70, 71, 72, 17, 73, 6, 74, 49, 13, 14, 15, 4, 16, 75, 76, 77, 78, 79, 80, 81, 82, 83, 84, 48, 85, 86, 87, 88, 89, 90, 91, 92, 93, 94, 95, 96, 97, 98, 99, 100, 101, 102, 103, 104, 105, 106, 107, 108, 109, 110, 111, 112, 113, 114, 115, 116, 117, 118, 119, 120, 121, 122, 123] (by decide +kernel) (by decide +kernel)
set_option maxRecDepth 20000 in
theorem gX9_range_X9_parts : GoodIn wsX9_range (wsV RX9 256 RX9 yX9_parts wsX9_parts) := goodIn_app (goodIn_of _ (by decide +kernel)) ggX9_range_X9_parts
theorem dX9_range_0 : decode cX9_range 0 = .ok (.aload_n 0, 1) := by decide +kernel
theorem dX9_range_1 : decode cX9_range 1 = .ok (.iload_n 1, 1) := by decide +kernel
theorem dX9_range_2 : decode cX9_range 2 = .ok (.invokevirtual 202, 3) := by decide +kernel
theorem dX9_range_5 : decode cX9_range 5 = .ok (.ifCond .eq 21, 3) := by decide +kernel
theorem dX9_range_8 : decode cX9_range 8 = .ok (.iload_n 2, 1) := by decide +kernel
theorem dX9_range_9 : decode cX9_range 9 = .ok (.iload_n 3, 1) := by decide +kernel
theorem dX9_range_10 : decode cX9_range 10 = .ok (.invokestatic 112, 3) := by decide +kernel
theorem dX9_range_13 : decode cX9_range 13 = .ok (.ifCond .eq 13, 3) := by decide +kernel
theorem dX9_range_16 : decode cX9_range 16 = .ok (.iload 4, 2) := by decide +kernel
theorem dX9_range_18 : decode cX9_range 18 = .ok (.iconst 0, 1) := by decide +kernel
theorem dX9_range_19 : decode cX9_range 19 = .ok (.iconst 1, 1) := by decide +kernel
theorem dX9_range_20 : decode cX9_range 20 = .ok (.invokestatic 83, 3) := by decide +kernel
theorem dX9_range_23 : decode cX9_range 23 = .ok (.ifCond .ne 5, 3) := by decide +kernel
theorem dX9_range_26 : decode cX9_range 26 = .ok (.iconst (-1), 1) := by decide +kernel
theorem dX9_range_27 : decode cX9_range 27 = .ok (.ireturn, 1) := by decide +kernel
theorem dX9_range_28 : decode cX9_range 28 = .ok (.aload_n 0, 1) := by decide +kernel
theorem dX9_range_29 : decode cX9_range 29 = .ok (.iload_n 1, 1) := by decide +kernel
theorem dX9_range_30 : decode cX9_range 30 = .ok (.iconst 1, 1) := by decide +kernel
theorem dX9_range_31 : decode cX9_range 31 = .ok (.invokevirtual 87, 3) := by decide +kernel
theorem dX9_range_34 : decode cX9_range 34 = .ok (.ifCond .ne 6, 3) := by decide +kernel
theorem dX9_range_37 : decode cX9_range 37 = .ok (.bipush (-5), 2) := by decide +kernel
theorem dX9_range_39 : decode cX9_range 39 = .ok (.ireturn, 1) := by decide +kernel
theorem dX9_range_40 : decode cX9_range 40 = .ok (.aload_n 0, 1) := by decide +kernel
theorem dX9_range_41 : decode cX9_range 41 = .ok (.aload_n 0, 1) := by decide +kernel
theorem dX9_range_42 : decode cX9_range 42 = .ok (.iconst 1, 1) := by decide +kernel
theorem dX9_range_43 : decode cX9_range 43 = .ok (.invokevirtual 105, 3) := by decide +kernel
theorem dX9_range_46 : decode cX9_range 46 = .ok (.invokevirtual 163, 3) := by decide +kernel
theorem dX9_range_49 : decode cX9_range 49 = .ok (.ifCond .ne 6, 3) := by decide +kernel
theorem dX9_range_52 : decode cX9_range 52 = .ok (.bipush (-2), 2) := by decide +kernel
theorem dX9_range_54 : decode cX9_range 54 = .ok (.ireturn, 1) := by decide +kernel
theorem dX9_range_55 : decode cX9_range 55 = .ok (.bipush 12, 2) := by decide +kernel
theorem dX9_range_57 : decode cX9_range 57 = .ok (.iload_n 2, 1) := by decide +kernel
theorem dX9_range_58 : decode cX9_range 58 = .ok (.imul, 1) := by decide +kernel
theorem dX9_range_59 : decode cX9_range 59 = .ok (.iload_n 3, 1) := by decide +kernel
theorem dX9_range_60 : decode cX9_range 60 = .ok (.iadd, 1) := by decide +kernel
theorem dX9_range_61 : decode cX9_range 61 = .ok (.istore 5, 2) := by decide +kernel
theorem dX9_range_63 : decode cX9_range 63 = .ok (.iload 4, 2) := by decide +kernel
theorem dX9_range_65 : decode cX9_range 65 = .ok (.iconst 1, 1) := by decide +kernel
theorem dX9_range_66 : decode cX9_range 66 = .ok (.if_icmp .ne 11, 3) := by decide +kernel
theorem dX9_range_69 : decode cX9_range 69 = .ok (.aload_n 0, 1) := by decide +kernel
theorem dX9_range_70 : decode cX9_range 70 = .ok (.iload_n 1, 1) := by decide +kernel
theorem dX9_range_71 : decode cX9_range 71 = .ok (.iload 5, 2) := by decide +kernel
theorem dX9_range_73 : decode cX9_range 73 = .ok (.invokevirtual 253, 3) := by decide +kernel
theorem dX9_range_76 : decode cX9_range 76 = .ok (.ireturn, 1) := by decide +kernel
theorem dX9_range_77 : decode cX9_range 77 = .ok (.iconst 0, 1) := by decide +kernel
theorem dX9_range_78 : decode cX9_range 78 = .ok (.istore 6, 2) := by decide +kernel
theorem dX9_range_80 : decode cX9_range 80 = .ok (.aload_n 0, 1) := by decide +kernel
theorem dX9_range_81 : decode cX9_range 81 = .ok (.iload_n 1, 1) := by decide +kernel
theorem dX9_range_82 : decode cX9_range 82 = .ok (.iload 5, 2) := by decide +kernel
theorem dX9_range_84 : decode cX9_range 84 = .ok (.iload 6, 2) := by decide +kernel
theorem dX9_range_86 : decode cX9_range 86 = .ok (.invokevirtual 256, 3) := by decide +kernel
theorem dX9_range_89 : decode cX9_range 89 = .ok (.ifCond .ne 9, 3) := by decide +kernel
theorem dX9_range_92 : decode cX9_range 92 = .ok (.iinc 6 1, 3) := by decide +kernel
theorem dX9_range_95 : decode cX9_range 95 = .ok (.goto (-15), 3) := by decide +kernel
theorem dX9_range_98 : decode cX9_range 98 = .ok (.iload 6, 2) := by decide +kernel
theorem dX9_range_100 : decode cX9_range 100 = .ok (.ireturn, 1) := by decide +kernel
set_option maxRecDepth 20000 in
theorem ggX9_findKept_X9_those : GoodIn wsX9_findKept wsX9_those := goodIn_r _ [8, 9, 10, 11, 12, 7, 13, 14, 55, 56, 57, 58, 59, 60, 61, 62, 63, 64, 65, 66, 67, 68, 69, 70, 71, 72, 73, 74, 75, 76, 77, 78, 79, 80, 81, 82, 83, 84, 85, 86, 87, 88, 89] (by decide +kernel) (by decide +kernel)
set_option maxRecDepth 20000 in
theorem gX9_findKept_X9_those : GoodIn wsX9_findKept (wsV RX9 105 RX9 yX9_those wsX9_those) := goodIn_app (goodIn_of _ (by decide +kernel)) ggX9_findKept_X9_those
set_option maxRecDepth 20000 in
theorem ggX9_findKept_X9_nextOf : GoodIn wsX9_findKept wsX9_nextOf := goodIn_r _ [18, 9, 19, 55, 56, 57, 58, 59, 60, 61, 62, 63, 64, 65, 66, 67, 68, 69, 70, 71, 72, 73, 74, 75, 76, 77, 78, 79, 80, 81, 82, 83, 84, 85, 86, 87, 88, 89] (by decide +kernel) (by decide +kernel)
set_option maxRecDepth 20000 in
theorem gX9_findKept_X9_nextOf : GoodIn wsX9_findKept (wsV RX9 214 RX9 yX9_nextOf wsX9_nextOf) := goodIn_app (goodIn_of _ (by decide +kernel)) ggX9_findKept_X9_nextOf
set_option maxRecDepth 20000 in
theorem ggX9_findKept_X9_isMet : GoodIn wsX9_findKept wsX9_isMet := goodIn_r _ [23, 24, 25, 26, 27, 7, 28, 29, 30, 31, 32, 33, 34, 35, 14, 36, 37, 38, 39, 40, 41, 42, 43, 44, 45, 9, 46, 47, 48, 49, 50, 51, 52, 53, 54, 55, 56, 57, 58, 59, 60, 61, 62, 63, 64, 65, 66, 67, 68, 69, 70, 71, 72, 73, 74, 75, 76, 77, 78, 79, 80, 81, 82, 83, 84, 85, 86, 87, 88, 89] (by decide +kernel) (by decide +kernel)
set_option maxRecDepth 20000 in
theorem gX9_findKept_X9_isMet : GoodIn wsX9_findKept (wsV RX9 163 RX9 yX9_isMet wsX9_isMet) := goodIn_app (goodIn_of _ (by decide +kernel)) ggX9_findKept_X9_isMet
theorem dX9_findKept_0 : decode cX9_findKept 0 = .ok (.aload_n 0, 1) := by decide +kernel
theorem dX9_findKept_1 : decode cX9_findKept 1 = .ok (.iconst 1, 1) := by decide +kernel
theorem dX9_findKept_2 : decode cX9_findKept 2 = .ok (.invokevirtual 105, 3) := by decide +kernel
theorem dX9_findKept_5 : decode cX9_findKept 5 = .ok (.istore_n 2, 1) := by decide +kernel
theorem dX9_findKept_6 : decode cX9_findKept 6 = .ok (.aload_n 0, 1) := by decide +kernel
theorem dX9_findKept_7 : decode cX9_findKept 7 = .ok (.iconst 0, 1) := by decide +kernel
theorem dX9_findKept_8 : decode cX9_findKept 8 = .ok (.putfield 259, 3) := by decide +kernel
theorem dX9_findKept_11 : decode cX9_findKept 11 = .ok (.aload_n 0, 1) := by decide +kernel
theorem dX9_findKept_12 : decode cX9_findKept 12 = .ok (.iconst 0, 1) := by decide +kernel
theorem dX9_findKept_13 : decode cX9_findKept 13 = .ok (.putfield 262, 3) := by decide +kernel
theorem dX9_findKept_16 : decode cX9_findKept 16 = .ok (.iload_n 2, 1) := by decide +kernel
theorem dX9_findKept_17 : decode cX9_findKept 17 = .ok (.ifCond .eq 76, 3) := by decide +kernel
theorem dX9_findKept_20 : decode cX9_findKept 20 = .ok (.aload_n 0, 1) := by decide +kernel
theorem dX9_findKept_21 : decode cX9_findKept 21 = .ok (.iload_n 2, 1) := by decide +kernel
theorem dX9_findKept_22 : decode cX9_findKept 22 = .ok (.invokevirtual 214, 3) := by decide +kernel
theorem dX9_findKept_25 : decode cX9_findKept 25 = .ok (.istore_n 3, 1) := by decide +kernel
theorem dX9_findKept_26 : decode cX9_findKept 26 = .ok (.iload_n 3, 1) := by decide +kernel
theorem dX9_findKept_27 : decode cX9_findKept 27 = .ok (.iload_n 1, 1) := by decide +kernel
theorem dX9_findKept_28 : decode cX9_findKept 28 = .ok (.if_icmp .ne 4, 3) := by decide +kernel
theorem dX9_findKept_31 : decode cX9_findKept 31 = .ok (.return_, 1) := by decide +kernel
theorem dX9_findKept_32 : decode cX9_findKept 32 = .ok (.iload_n 2, 1) := by decide +kernel
theorem dX9_findKept_33 : decode cX9_findKept 33 = .ok (.iconst 1, 1) := by decide +kernel
theorem dX9_findKept_34 : decode cX9_findKept 34 = .ok (.iload_n 3, 1) := by decide +kernel
theorem dX9_findKept_35 : decode cX9_findKept 35 = .ok (.ishl, 1) := by decide +kernel
theorem dX9_findKept_36 : decode cX9_findKept 36 = .ok (.iconst (-1), 1) := by decide +kernel
theorem dX9_findKept_37 : decode cX9_findKept 37 = .ok (.ixor, 1) := by decide +kernel
theorem dX9_findKept_38 : decode cX9_findKept 38 = .ok (.iand, 1) := by decide +kernel
theorem dX9_findKept_39 : decode cX9_findKept 39 = .ok (.istore_n 2, 1) := by decide +kernel
theorem dX9_findKept_40 : decode cX9_findKept 40 = .ok (.aload_n 0, 1) := by decide +kernel
theorem dX9_findKept_41 : decode cX9_findKept 41 = .ok (.aload_n 0, 1) := by decide +kernel
theorem dX9_findKept_42 : decode cX9_findKept 42 = .ok (.getfield 262, 3) := by decide +kernel
theorem dX9_findKept_45 : decode cX9_findKept 45 = .ok (.iconst 1, 1) := by decide +kernel
theorem dX9_findKept_46 : decode cX9_findKept 46 = .ok (.iload_n 3, 1) := by decide +kernel
theorem dX9_findKept_47 : decode cX9_findKept 47 = .ok (.ishl, 1) := by decide +kernel
theorem dX9_findKept_48 : decode cX9_findKept 48 = .ok (.ior, 1) := by decide +kernel
theorem dX9_findKept_49 : decode cX9_findKept 49 = .ok (.invokevirtual 163, 3) := by decide +kernel
theorem dX9_findKept_52 : decode cX9_findKept 52 = .ok (.ifCond .ne 6, 3) := by decide +kernel
theorem dX9_findKept_55 : decode cX9_findKept 55 = .ok (.goto (-39), 3) := by decide +kernel
theorem dX9_findKept_58 : decode cX9_findKept 58 = .ok (.aload_n 0, 1) := by decide +kernel
theorem dX9_findKept_59 : decode cX9_findKept 59 = .ok (.getfield 70, 3) := by decide +kernel
theorem dX9_findKept_62 : decode cX9_findKept 62 = .ok (.aload_n 0, 1) := by decide +kernel
theorem dX9_findKept_63 : decode cX9_findKept 63 = .ok (.getfield 259, 3) := by decide +kernel
theorem dX9_findKept_66 : decode cX9_findKept 66 = .ok (.iload_n 3, 1) := by decide +kernel
theorem dX9_findKept_67 : decode cX9_findKept 67 = .ok (.iastore, 1) := by decide +kernel
theorem dX9_findKept_68 : decode cX9_findKept 68 = .ok (.aload_n 0, 1) := by decide +kernel
theorem dX9_findKept_69 : decode cX9_findKept 69 = .ok (.dup, 1) := by decide +kernel
theorem dX9_findKept_70 : decode cX9_findKept 70 = .ok (.getfield 259, 3) := by decide +kernel
theorem dX9_findKept_73 : decode cX9_findKept 73 = .ok (.iconst 1, 1) := by decide +kernel
theorem dX9_findKept_74 : decode cX9_findKept 74 = .ok (.iadd, 1) := by decide +kernel
theorem dX9_findKept_75 : decode cX9_findKept 75 = .ok (.putfield 259, 3) := by decide +kernel
theorem dX9_findKept_78 : decode cX9_findKept 78 = .ok (.aload_n 0, 1) := by decide +kernel
theorem dX9_findKept_79 : decode cX9_findKept 79 = .ok (.dup, 1) := by decide +kernel
theorem dX9_findKept_80 : decode cX9_findKept 80 = .ok (.getfield 262, 3) := by decide +kernel
theorem dX9_findKept_83 : decode cX9_findKept 83 = .ok (.iconst 1, 1) := by decide +kernel
theorem dX9_findKept_84 : decode cX9_findKept 84 = .ok (.iload_n 3, 1) := by decide +kernel
theorem dX9_findKept_85 : decode cX9_findKept 85 = .ok (.ishl, 1) := by decide +kernel
theorem dX9_findKept_86 : decode cX9_findKept 86 = .ok (.ior, 1) := by decide +kernel
theorem dX9_findKept_87 : decode cX9_findKept 87 = .ok (.putfield 262, 3) := by decide +kernel
theorem dX9_findKept_90 : decode cX9_findKept 90 = .ok (.goto (-74), 3) := by decide +kernel
theorem dX9_findKept_93 : decode cX9_findKept 93 = .ok (.return_, 1) := by decide +kernel
set_option maxRecDepth 20000 in
theorem ggX9_isLate_X9_isWhat : GoodIn wsX9_isLate wsX9_isWhat := goodIn_r _ [6, 7, 59, 60, 61, 62, 63, 64, 65, 66, 67, 68, 69, 70, 71, 72, 73, 74, 75, 76, 77, 78, 79, 80, 81, 82, 83, 84, 85, 86, 87, 88, 89, 90, 91, 92, 93] (by decide +kernel) (by decide +kernel)
set_option maxRecDepth 20000 in
theorem gX9_isLate_X9_isWhat : GoodIn wsX9_isLate (wsV RX9 87 RX9 yX9_isWhat wsX9_isWhat) := goodIn_app (goodIn_of _ (by decide +kernel)) ggX9_isLate_X9_isWhat
set_option maxRecDepth 20000 in
theorem ggX9_isLate_X9_findKept : GoodIn wsX9_isLate wsX9_findKept := goodIn_r _ [11, 12, 1, 13, 14, 15, 16, 5, 17, 18, 2, 3, 4, 6, 7, 19, 20, 21, 22, 23, 24, 25, 26, 27, 28, 29, 30, 31, 32, 33, 34, 35, 36, 37, 38, 39, 40, 41, 42, 43, 44, 45, 46, 47, 48, 49, 50, 51, 52, 53, 54, 55, 56, 57, 58, 59, 60, 61, 62, 63, 64, 65, 66, 67, 68, 69, 70, 71, 72, 73, 74, 75, 76, 77, 78, 79, 80, 81, 82, 83, 84, 85, 86, 87, 88, 89, 90, 91, 92, 93] (by decide +kernel) (by decide +kernel)
set_option maxRecDepth 20000 in
theorem gX9_isLate_X9_findKept : GoodIn wsX9_isLate (wsV RX9 265 RX9 yX9_findKept wsX9_findKept) := goodIn_app (goodIn_of _ (by decide +kernel)) ggX9_isLate_X9_findKept
set_option maxRecDepth 20000 in
theorem ggX9_isLate_X9_isMet : GoodIn wsX9_isLate wsX9_isMet := goodIn_r _ [27, 28, 29, 30, 31, 5, 32, 33, 34, 35, 36, 37, 38, 39, 7, 40, 41, 42, 43, 44, 45, 46, 47, 48, 49, 18, 50, 51, 52, 53, 54, 55, 56, 57, 58, 59, 60, 61, 62, 63, 64, 65, 66, 67, 68, 69, 70, 71, 72, 73, 74, 75, 76, 77, 78, 79, 80, 81, 82, 83, 84, 85, 86, 87, 88, 89, 90, 91, 92, 93] (by decide +kernel) (by decide +kernel)
set_option maxRecDepth 20000 in
theorem gX9_isLate_X9_isMet : GoodIn wsX9_isLate (wsV RX9 163 RX9 yX9_isMet wsX9_isMet) := goodIn_app (goodIn_of _ (by decide +kernel)) ggX9_isLate_X9_isMet
theorem dX9_isLate_0 : decode cX9_isLate 0 = .ok (.aload_n 0, 1) := by decide +kernel
theorem dX9_isLate_1 : decode cX9_isLate 1 = .ok (.iload_n 1, 1) := by decide +kernel
theorem dX9_isLate_2 : decode cX9_isLate 2 = .ok (.iconst 1, 1) := by decide +kernel
theorem dX9_isLate_3 : decode cX9_isLate 3 = .ok (.invokevirtual 87, 3) := by decide +kernel
theorem dX9_isLate_6 : decode cX9_isLate 6 = .ok (.ifCond .ne 5, 3) := by decide +kernel
theorem dX9_isLate_9 : decode cX9_isLate 9 = .ok (.iconst 0, 1) := by decide +kernel
theorem dX9_isLate_10 : decode cX9_isLate 10 = .ok (.ireturn, 1) := by decide +kernel
theorem dX9_isLate_11 : decode cX9_isLate 11 = .ok (.aload_n 0, 1) := by decide +kernel
theorem dX9_isLate_12 : decode cX9_isLate 12 = .ok (.iload_n 1, 1) := by decide +kernel
theorem dX9_isLate_13 : decode cX9_isLate 13 = .ok (.invokevirtual 265, 3) := by decide +kernel
theorem dX9_isLate_16 : decode cX9_isLate 16 = .ok (.aload_n 0, 1) := by decide +kernel
theorem dX9_isLate_17 : decode cX9_isLate 17 = .ok (.aload_n 0, 1) := by decide +kernel
theorem dX9_isLate_18 : decode cX9_isLate 18 = .ok (.getfield 262, 3) := by decide +kernel
theorem dX9_isLate_21 : decode cX9_isLate 21 = .ok (.iconst 1, 1) := by decide +kernel
theorem dX9_isLate_22 : decode cX9_isLate 22 = .ok (.iload_n 1, 1) := by decide +kernel
theorem dX9_isLate_23 : decode cX9_isLate 23 = .ok (.ishl, 1) := by decide +kernel
theorem dX9_isLate_24 : decode cX9_isLate 24 = .ok (.ior, 1) := by decide +kernel
theorem dX9_isLate_25 : decode cX9_isLate 25 = .ok (.invokevirtual 163, 3) := by decide +kernel
theorem dX9_isLate_28 : decode cX9_isLate 28 = .ok (.ifCond .ne 7, 3) := by decide +kernel
theorem dX9_isLate_31 : decode cX9_isLate 31 = .ok (.iconst 1, 1) := by decide +kernel
theorem dX9_isLate_32 : decode cX9_isLate 32 = .ok (.goto 4, 3) := by decide +kernel
theorem dX9_isLate_35 : decode cX9_isLate 35 = .ok (.iconst 0, 1) := by decide +kernel
theorem dX9_isLate_36 : decode cX9_isLate 36 = .ok (.ireturn, 1) := by decide +kernel
set_option maxRecDepth 20000 in
theorem ggX9_late_X9_findKept : GoodIn wsX9_late wsX9_findKept := goodIn_r _ [6, 1, 7, 8, 9, 10, 11, 5, 12, 13, 14, 15, 16, 17, 18, 19, 20, 21, 22, 23, 24, 25, 26, 27, 28, 29, 30, 31, 32, 33, 34, 35, 36, 37, 38, 39, 40, 41, 42, 43, 44, 45, 46, 47, 48, 49, 50, 51, 52, 53, 54, 55, 56, 57, 58, 62, 63, 64, 65, 66, 67, 68, 69, 70, 71, 72, 73, 74, 75, 76, 77, 78, 79, 80, 81, 82, 83, 84, 85, 86, 87, 88, 89, 90, 91, 92, 93, 94, 95, 96] (by decide +kernel) (by decide +kernel)
set_option maxRecDepth 20000 in
theorem gX9_late_X9_findKept : GoodIn wsX9_late (wsV RX9 265 RX9 yX9_findKept wsX9_findKept) := goodIn_app (goodIn_of _ (by decide +kernel)) ggX9_late_X9_findKept
set_option maxRecDepth 20000 in
theorem ggX9_late_X9_those : GoodIn wsX9_late wsX9_those := goodIn_r _ [12, 13, 14, 15, 16, 5, 17, 18, 62, 63, 64, 65, 66, 67, 68, 69, 70, 71, 72, 73, 74, 75, 76, 77, 78, 79, 80, 81, 82, 83, 84, 85, 86, 87, 88, 89, 90, 91, 92, 93, 94, 95, 96] (by decide +kernel) (by decide +kernel)
set_option maxRecDepth 20000 in
theorem gX9_late_X9_those : GoodIn wsX9_late (wsV RX9 105 RX9 yX9_those wsX9_those) := goodIn_app (goodIn_of _ (by decide +kernel)) ggX9_late_X9_those
set_option maxRecDepth 20000 in
theorem ggX9_late_X9_size : GoodIn wsX9_late wsX9_size := goodIn_r _ [61] (by decide +kernel) (by decide +kernel)
set_option maxRecDepth 20000 in
theorem gX9_late_X9_size : GoodIn wsX9_late (va_wsS RX9 109 yX9_size wsX9_size) := goodIn_app (goodIn_of _ (by decide +kernel)) ggX9_late_X9_size
theorem dX9_late_0 : decode cX9_late 0 = .ok (.aload_n 0, 1) := by decide +kernel
theorem dX9_late_1 : decode cX9_late 1 = .ok (.iconst (-1), 1) := by decide +kernel
theorem dX9_late_2 : decode cX9_late 2 = .ok (.invokevirtual 265, 3) := by decide +kernel
theorem dX9_late_5 : decode cX9_late 5 = .ok (.aload_n 0, 1) := by decide +kernel
theorem dX9_late_6 : decode cX9_late 6 = .ok (.iconst 1, 1) := by decide +kernel
theorem dX9_late_7 : decode cX9_late 7 = .ok (.invokevirtual 105, 3) := by decide +kernel
theorem dX9_late_10 : decode cX9_late 10 = .ok (.invokestatic 109, 3) := by decide +kernel
theorem dX9_late_13 : decode cX9_late 13 = .ok (.aload_n 0, 1) := by decide +kernel
theorem dX9_late_14 : decode cX9_late 14 = .ok (.getfield 259, 3) := by decide +kernel
theorem dX9_late_17 : decode cX9_late 17 = .ok (.isub, 1) := by decide +kernel
theorem dX9_late_18 : decode cX9_late 18 = .ok (.ireturn, 1) := by decide +kernel
set_option maxRecDepth 20000 in
theorem ggX9_kept_X9_findKept : GoodIn wsX9_kept wsX9_findKept := goodIn_r _ [7, 1, 8, 2, 9, 10, 11, 6, 12, 13, 14, 15, 16, 17, 18, 19, 20, 21, 22, 23, 24, 25, 26, 27, 28, 29, 30, 31, 32, 33, 34, 35, 36, 37, 38, 39, 40, 41, 42, 43, 44, 45, 46, 47, 48, 49, 50, 51, 52, 53, 54, 55, 56, 57, 58, 59, 60, 61, 62, 63, 64, 65, 66, 67, 68, 69, 70, 71, 72, 73, 74, 75, 76, 77, 78, 79, 80, 81, 82, 83, 84, 85, 86, 87, 88, 89, 90, 91, 92, 93] (by decide +kernel) (by decide +kernel)
set_option maxRecDepth 20000 in
theorem gX9_kept_X9_findKept : GoodIn wsX9_kept (wsV RX9 265 RX9 yX9_findKept wsX9_findKept) := goodIn_app (goodIn_of _ (by decide +kernel)) ggX9_kept_X9_findKept
theorem dX9_kept_0 : decode cX9_kept 0 = .ok (.iload_n 1, 1) := by decide +kernel
theorem dX9_kept_1 : decode cX9_kept 1 = .ok (.iconst (-1), 1) := by decide +kernel
theorem dX9_kept_2 : decode cX9_kept 2 = .ok (.if_icmp .ge 5, 3) := by decide +kernel
theorem dX9_kept_5 : decode cX9_kept 5 = .ok (.iconst (-1), 1) := by decide +kernel
theorem dX9_kept_6 : decode cX9_kept 6 = .ok (.ireturn, 1) := by decide +kernel
theorem dX9_kept_7 : decode cX9_kept 7 = .ok (.aload_n 0, 1) := by decide +kernel
theorem dX9_kept_8 : decode cX9_kept 8 = .ok (.iconst (-1), 1) := by decide +kernel
theorem dX9_kept_9 : decode cX9_kept 9 = .ok (.invokevirtual 265, 3) := by decide +kernel
theorem dX9_kept_12 : decode cX9_kept 12 = .ok (.iload_n 1, 1) := by decide +kernel
theorem dX9_kept_13 : decode cX9_kept 13 = .ok (.ifCond .ge 10, 3) := by decide +kernel
theorem dX9_kept_16 : decode cX9_kept 16 = .ok (.aload_n 0, 1) := by decide +kernel
theorem dX9_kept_17 : decode cX9_kept 17 = .ok (.getfield 259, 3) := by decide +kernel
theorem dX9_kept_20 : decode cX9_kept 20 = .ok (.goto 22, 3) := by decide +kernel
theorem dX9_kept_23 : decode cX9_kept 23 = .ok (.iload_n 1, 1) := by decide +kernel
theorem dX9_kept_24 : decode cX9_kept 24 = .ok (.aload_n 0, 1) := by decide +kernel
theorem dX9_kept_25 : decode cX9_kept 25 = .ok (.getfield 259, 3) := by decide +kernel
theorem dX9_kept_28 : decode cX9_kept 28 = .ok (.if_icmp .ge 12, 3) := by decide +kernel
theorem dX9_kept_31 : decode cX9_kept 31 = .ok (.aload_n 0, 1) := by decide +kernel
theorem dX9_kept_32 : decode cX9_kept 32 = .ok (.getfield 70, 3) := by decide +kernel
theorem dX9_kept_35 : decode cX9_kept 35 = .ok (.iload_n 1, 1) := by decide +kernel
theorem dX9_kept_36 : decode cX9_kept 36 = .ok (.iaload, 1) := by decide +kernel
theorem dX9_kept_37 : decode cX9_kept 37 = .ok (.goto 5, 3) := by decide +kernel
theorem dX9_kept_40 : decode cX9_kept 40 = .ok (.bipush (-2), 2) := by decide +kernel
theorem dX9_kept_42 : decode cX9_kept 42 = .ok (.ireturn, 1) := by decide +kernel
set_option maxRecDepth 20000 in
theorem ggX9_why_X9_isOrder : GoodIn wsX9_why wsX9_isOrder := goodIn_r _ [6, 7, 8, 9, 5, 10, 70, 71, 72, 73, 74, 75, 76, 77, 78, 79, 80, 81, 82, 83, 84, 85, 86, 87, 88, 89, 90, 91, 92, 93, 94, 95, 96, 97, 98, 99, 100, 101, 102, 103, 104] (by decide +kernel) (by decide +kernel)
set_option maxRecDepth 20000 in
theorem gX9_why_X9_isOrder : GoodIn wsX9_why (wsV RX9 202 RX9 yX9_isOrder wsX9_isOrder) := goodIn_app (goodIn_of _ (by decide +kernel)) ggX9_why_X9_isOrder
set_option maxRecDepth 20000 in
theorem ggX9_why_X9_isLate : GoodIn wsX9_why wsX9_isLate := goodIn_r _ [14, 15, 16, 17, 18, 5, 19, 20, 21, 22, 23, 24, 25, 26, 27, 28, 29, 30, 7, 31, 32, 33, 34, 35, 36, 37, 38, 39, 40, 41, 42, 43, 44, 45, 1, 46, 47, 48, 49, 50, 51, 52, 53, 54, 55, 56, 57, 58, 59, 60, 61, 62, 63, 64, 65, 66, 67, 68, 69, 70, 71, 72, 73, 74, 75, 76, 77, 78, 79, 80, 81, 82, 83, 84, 85, 86, 87, 88, 89, 90, 91, 92, 93, 94, 95, 96, 97, 98, 99, 100, 101, 102, 103, 104] (by decide +kernel) (by decide +kernel)
set_option maxRecDepth 20000 in
theorem gX9_why_X9_isLate : GoodIn wsX9_why (wsV RX9 205 RX9 yX9_isLate wsX9_isLate) := goodIn_app (goodIn_of _ (by decide +kernel)) ggX9_why_X9_isLate
theorem dX9_why_0 : decode cX9_why 0 = .ok (.aload_n 0, 1) := by decide +kernel
theorem dX9_why_1 : decode cX9_why 1 = .ok (.iload_n 1, 1) := by decide +kernel
theorem dX9_why_2 : decode cX9_why 2 = .ok (.invokevirtual 202, 3) := by decide +kernel
theorem dX9_why_5 : decode cX9_why 5 = .ok (.ifCond .ne 5, 3) := by decide +kernel
theorem dX9_why_8 : decode cX9_why 8 = .ok (.iconst (-1), 1) := by decide +kernel
theorem dX9_why_9 : decode cX9_why 9 = .ok (.ireturn, 1) := by decide +kernel
theorem dX9_why_10 : decode cX9_why 10 = .ok (.aload_n 0, 1) := by decide +kernel
theorem dX9_why_11 : decode cX9_why 11 = .ok (.iload_n 1, 1) := by decide +kernel
theorem dX9_why_12 : decode cX9_why 12 = .ok (.invokevirtual 205, 3) := by decide +kernel
theorem dX9_why_15 : decode cX9_why 15 = .ok (.ifCond .eq 10, 3) := by decide +kernel
theorem dX9_why_18 : decode cX9_why 18 = .ok (.aload_n 0, 1) := by decide +kernel
theorem dX9_why_19 : decode cX9_why 19 = .ok (.getfield 156, 3) := by decide +kernel
theorem dX9_why_22 : decode cX9_why 22 = .ok (.goto 5, 3) := by decide +kernel
theorem dX9_why_25 : decode cX9_why 25 = .ok (.bipush (-5), 2) := by decide +kernel
theorem dX9_why_27 : decode cX9_why 27 = .ok (.ireturn, 1) := by decide +kernel
set_option maxRecDepth 20000 in
theorem ggX9_ledger_X9_isOrder : GoodIn wsX9_ledger wsX9_isOrder := goodIn_r _ [13, 14, 15, 16, 12, 17, 302, 303, 304, 305, 306, 307, 308, 309, 310, 311, 312, 313, 314, 315, 316, 317, 318, 319, 320, 321, 322, 323, 324, 325, 326, 327, 328, 329, 330, 331, 332, 333, 334, 335, 336] (by decide +kernel) (by decide +kernel)
set_option maxRecDepth 20000 in
theorem gX9_ledger_X9_isOrder : GoodIn wsX9_ledger (wsV RX9 202 RX9 yX9_isOrder wsX9_isOrder) := goodIn_app (goodIn_of _ (by decide +kernel)) ggX9_ledger_X9_isOrder
set_option maxRecDepth 20000 in
theorem ggX9_ledger_J4_init_da8c8 : GoodIn wsX9_ledger wsJ4_init_da8c8 := goodIn_r _ [20, 21, 22, 23, 24, 25, 26, 27, 28, 29, 30, 31, 32, 33, 34, 35, 36, 37, 38, 39, 298, 299, 300, 301] (by decide +kernel) (by decide +kernel)
set_option maxRecDepth 20000 in
theorem gX9_ledger_J4_init_da8c8 : GoodIn wsX9_ledger (wsJ4_init_da8c8) := ggX9_ledger_J4_init_da8c8
set_option maxRecDepth 20000 in
theorem ggX9_ledger_J4_append_bf812 : GoodIn wsX9_ledger wsJ4_append_bf812 := goodIn_r _ [43, 44, 45, 46, 47, 23, 48, 49, 30, 50, 51, 52, 53, 54, 55, 56, 57, 58, 31, 59, 60, 61, 62, 63, 64, 65, 66, 67, 68, 69, 70, 71, 72, 73, 74, 75, 76, 77, 78, 79, 80, 81, 82, 83, 84, 85, 86, 29, 87, 88, 89, 90, 91, 92, 93, 94, 95, 96, 97, 98, 28, 99, 100, 101, 102, 103, 104, 105, 34, 106, 107, 108, 109, 110, 111, 112, 113, 114, 115, 116, 117, 118, 119, 120, 121, 122, 123, 124, 125, 126, 127, 128, 129, 130, 131, 132, 298, 299, 300, 301] (by decide +kernel) (by decide +kernel)
set_option maxRecDepth 20000 in
theorem gX9_ledger_J4_append_bf812 : GoodIn wsX9_ledger (wsV RX9 271 RJ4 yJ4_append_bf812 wsJ4_append_bf812) := goodIn_app (goodIn_of _ (by decide +kernel)) ggX9_ledger_J4_append_bf812
set_option maxRecDepth 20000 in
theorem ggX9_ledger_J4_append_cf468 : GoodIn wsX9_ledger wsJ4_append_cf468 := goodIn_r _ [136, 137, 138, 46, 139, 23, 140, 49, 30, 54, 55, 56, 57, 58, 31, 59, 60, 61, 62, 63, 64, 65, 66, 67, 68, 69, 70, 71, 72, 73, 74, 75, 76, 77, 78, 79, 80, 81, 82, 83, 84, 85, 86, 29, 87, 88, 89, 90, 91, 92, 93, 94, 95, 96, 97, 98, 28, 141, 142, 143, 144, 145, 146, 147, 148, 149, 32, 33, 34, 35, 36, 37, 38, 39, 150, 151, 152, 153, 154, 155, 156, 157, 158, 111, 112, 113, 159, 160, 116, 161, 118, 162, 163, 121, 164, 128, 129, 130, 107, 131, 132, 165, 166, 167, 168, 169, 170, 171, 172, 173, 174, 175, 176, 298, 299, 300, 301] (by decide +kernel) (by decide +kernel)
set_option maxRecDepth 20000 in
theorem gX9_ledger_J4_append_cf468 : GoodIn wsX9_ledger (wsV RX9 275 RJ4 yJ4_append_cf468 wsJ4_append_cf468) := goodIn_app (goodIn_of _ (by decide +kernel)) ggX9_ledger_J4_append_cf468
set_option maxRecDepth 20000 in
theorem ggX9_ledger_X9_isWhat : GoodIn wsX9_ledger wsX9_isWhat := goodIn_r _ [180, 6, 302, 303, 304, 305, 306, 307, 308, 309, 310, 311, 312, 313, 314, 315, 316, 317, 318, 319, 320, 321, 322, 323, 324, 325, 326, 327, 328, 329, 330, 331, 332, 333, 334, 335, 336] (by decide +kernel) (by decide +kernel)
set_option maxRecDepth 20000 in
theorem gX9_ledger_X9_isWhat : GoodIn wsX9_ledger (wsV RX9 87 RX9 yX9_isWhat wsX9_isWhat) := goodIn_app (goodIn_of _ (by decide +kernel)) ggX9_ledger_X9_isWhat
set_option maxRecDepth 20000 in
theorem ggX9_ledger_X9_isLate : GoodIn wsX9_ledger wsX9_isLate := goodIn_r _ [184, 185, 177, 178, 179, 12, 180, 6, 186, 187, 188, 189, 190, 191, 192, 193, 194, 195, 14, 196, 197, 198, 199, 8, 200, 201, 202, 203, 204, 205, 206, 207, 208, 209, 210, 211, 212, 213, 214, 215, 216, 217, 218, 219, 220, 221, 222, 223, 224, 225, 5, 4, 226, 227, 228, 229, 230, 231, 232, 302, 303, 304, 305, 306, 307, 308, 309, 310, 311, 312, 313, 314, 315, 316, 317, 318, 319, 320, 321, 322, 323, 324, 325, 326, 327, 328, 329, 330, 331, 332, 333, 334, 335, 336] (by decide +kernel) (by decide +kernel)
set_option maxRecDepth 20000 in
theorem gX9_ledger_X9_isLate : GoodIn wsX9_ledger (wsV RX9 205 RX9 yX9_isLate wsX9_isLate) := goodIn_app (goodIn_of _ (by decide +kernel)) ggX9_ledger_X9_isLate
set_option maxRecDepth 20000 in
theorem ggX9_ledger_J4_append_15ec4 : GoodIn wsX9_ledger wsJ4_append_15ec4 := goodIn_r _ [236, 237, 238, 46, 239, 23, 240, 49, 241, 242, 243, 244, 245, 30, 54, 55, 56, 57, 58, 31, 59, 60, 61, 62, 63, 64, 65, 66, 67, 68, 69, 70, 71, 72, 73, 74, 75, 76, 77, 78, 79, 80, 81, 82, 83, 84, 85, 86, 29, 87, 88, 89, 90, 91, 92, 93, 94, 95, 96, 97, 98, 28, 246, 247, 34, 248, 107, 108, 109, 110, 111, 112, 113, 114, 115, 116, 117, 118, 119, 120, 121, 122, 128, 129, 130, 131, 132, 249, 250, 251, 252, 253, 254, 255, 256, 257, 258, 259, 260, 261, 262, 263, 264, 265, 266, 267, 268, 269, 270, 145, 146, 147, 148, 149, 32, 33, 35, 36, 37, 38, 39, 150, 151, 143, 152, 153, 154, 155, 156, 157, 158, 159, 160, 161, 162, 163, 164, 271, 272, 273, 274, 275, 276, 298, 299, 300, 301] (by decide +kernel) (by decide +kernel)
set_option maxRecDepth 20000 in
theorem gX9_ledger_J4_append_15ec4 : GoodIn wsX9_ledger (wsV RX9 286 RJ4 yJ4_append_15ec4 wsJ4_append_15ec4) := goodIn_app (goodIn_of _ (by decide +kernel)) ggX9_ledger_J4_append_15ec4
set_option maxRecDepth 20000 in
theorem ggX9_ledger_J4_length_8abf5 : GoodIn wsX9_ledger wsJ4_length_8abf5 := goodIn_r _ [280, 281, 282, 46, 283, 23, 284, 49, 298, 299, 300, 301] (by decide +kernel) (by decide +kernel)
set_option maxRecDepth 20000 in
theorem gX9_ledger_J4_length_8abf5 : GoodIn wsX9_ledger (wsV RX9 289 RJ4 yJ4_length_8abf5 wsJ4_length_8abf5) := goodIn_app (goodIn_of _ (by decide +kernel)) ggX9_ledger_J4_length_8abf5
set_option maxRecDepth 20000 in
theorem ggX9_ledger_J4_charAt_5068e : GoodIn wsX9_ledger wsJ4_charAt_5068e := goodIn_r _ [288, 289, 290, 46, 291, 23, 292, 31, 30, 49, 293, 88, 71, 89, 294, 172, 116, 173, 118, 174, 175, 121, 176, 295, 296, 34, 297, 107, 131, 132, 111, 112, 113, 298, 299, 300, 301] (by decide +kernel) (by decide +kernel)
set_option maxRecDepth 20000 in
theorem gX9_ledger_J4_charAt_5068e : GoodIn wsX9_ledger (wsV RX9 292 RJ4 yJ4_charAt_5068e wsJ4_charAt_5068e) := goodIn_app (goodIn_of _ (by decide +kernel)) ggX9_ledger_J4_charAt_5068e
theorem dX9_ledger_0 : decode cX9_ledger 0 = .ok (.aload_n 0, 1) := by decide +kernel
theorem dX9_ledger_1 : decode cX9_ledger 1 = .ok (.iload_n 1, 1) := by decide +kernel
theorem dX9_ledger_2 : decode cX9_ledger 2 = .ok (.invokevirtual 202, 3) := by decide +kernel
theorem dX9_ledger_5 : decode cX9_ledger 5 = .ok (.ifCond .eq 8, 3) := by decide +kernel
theorem dX9_ledger_8 : decode cX9_ledger 8 = .ok (.iload_n 2, 1) := by decide +kernel
theorem dX9_ledger_9 : decode cX9_ledger 9 = .ok (.iconst (-1), 1) := by decide +kernel
theorem dX9_ledger_10 : decode cX9_ledger 10 = .ok (.if_icmp .ge 5, 3) := by decide +kernel
theorem dX9_ledger_13 : decode cX9_ledger 13 = .ok (.iconst (-1), 1) := by decide +kernel
theorem dX9_ledger_14 : decode cX9_ledger 14 = .ok (.ireturn, 1) := by decide +kernel
theorem dX9_ledger_15 : decode cX9_ledger 15 = .ok (.new 268, 3) := by decide +kernel
theorem dX9_ledger_18 : decode cX9_ledger 18 = .ok (.dup, 1) := by decide +kernel
theorem dX9_ledger_19 : decode cX9_ledger 19 = .ok (.invokespecial 270, 3) := by decide +kernel
theorem dX9_ledger_22 : decode cX9_ledger 22 = .ok (.astore_n 3, 1) := by decide +kernel
theorem dX9_ledger_23 : decode cX9_ledger 23 = .ok (.aload_n 3, 1) := by decide +kernel
theorem dX9_ledger_24 : decode cX9_ledger 24 = .ok (.iload_n 1, 1) := by decide +kernel
theorem dX9_ledger_25 : decode cX9_ledger 25 = .ok (.invokevirtual 271, 3) := by decide +kernel
theorem dX9_ledger_28 : decode cX9_ledger 28 = .ok (.bipush 58, 2) := by decide +kernel
theorem dX9_ledger_30 : decode cX9_ledger 30 = .ok (.invokevirtual 275, 3) := by decide +kernel
theorem dX9_ledger_33 : decode cX9_ledger 33 = .ok (.aload_n 0, 1) := by decide +kernel
theorem dX9_ledger_34 : decode cX9_ledger 34 = .ok (.getfield 13, 3) := by decide +kernel
theorem dX9_ledger_37 : decode cX9_ledger 37 = .ok (.iload_n 1, 1) := by decide +kernel
theorem dX9_ledger_38 : decode cX9_ledger 38 = .ok (.iaload, 1) := by decide +kernel
theorem dX9_ledger_39 : decode cX9_ledger 39 = .ok (.invokevirtual 271, 3) := by decide +kernel
theorem dX9_ledger_42 : decode cX9_ledger 42 = .ok (.pop, 1) := by decide +kernel
theorem dX9_ledger_43 : decode cX9_ledger 43 = .ok (.iconst 0, 1) := by decide +kernel
theorem dX9_ledger_44 : decode cX9_ledger 44 = .ok (.istore 4, 2) := by decide +kernel
theorem dX9_ledger_46 : decode cX9_ledger 46 = .ok (.iload 4, 2) := by decide +kernel
theorem dX9_ledger_48 : decode cX9_ledger 48 = .ok (.iconst 3, 1) := by decide +kernel
theorem dX9_ledger_49 : decode cX9_ledger 49 = .ok (.if_icmp .ge 35, 3) := by decide +kernel
theorem dX9_ledger_52 : decode cX9_ledger 52 = .ok (.aload_n 0, 1) := by decide +kernel
theorem dX9_ledger_53 : decode cX9_ledger 53 = .ok (.getfield 16, 3) := by decide +kernel
theorem dX9_ledger_56 : decode cX9_ledger 56 = .ok (.iload_n 1, 1) := by decide +kernel
theorem dX9_ledger_57 : decode cX9_ledger 57 = .ok (.iaload, 1) := by decide +kernel
theorem dX9_ledger_58 : decode cX9_ledger 58 = .ok (.iload 4, 2) := by decide +kernel
theorem dX9_ledger_60 : decode cX9_ledger 60 = .ok (.ishr, 1) := by decide +kernel
theorem dX9_ledger_61 : decode cX9_ledger 61 = .ok (.iconst 1, 1) := by decide +kernel
theorem dX9_ledger_62 : decode cX9_ledger 62 = .ok (.iand, 1) := by decide +kernel
theorem dX9_ledger_63 : decode cX9_ledger 63 = .ok (.iconst 1, 1) := by decide +kernel
theorem dX9_ledger_64 : decode cX9_ledger 64 = .ok (.if_icmp .ne 14, 3) := by decide +kernel
theorem dX9_ledger_67 : decode cX9_ledger 67 = .ok (.aload_n 3, 1) := by decide +kernel
theorem dX9_ledger_68 : decode cX9_ledger 68 = .ok (.bipush 97, 2) := by decide +kernel
theorem dX9_ledger_70 : decode cX9_ledger 70 = .ok (.iload 4, 2) := by decide +kernel
theorem dX9_ledger_72 : decode cX9_ledger 72 = .ok (.iadd, 1) := by decide +kernel
theorem dX9_ledger_73 : decode cX9_ledger 73 = .ok (.i2c, 1) := by decide +kernel
theorem dX9_ledger_74 : decode cX9_ledger 74 = .ok (.invokevirtual 275, 3) := by decide +kernel
theorem dX9_ledger_77 : decode cX9_ledger 77 = .ok (.pop, 1) := by decide +kernel
theorem dX9_ledger_78 : decode cX9_ledger 78 = .ok (.iinc 4 1, 3) := by decide +kernel
theorem dX9_ledger_81 : decode cX9_ledger 81 = .ok (.goto (-35), 3) := by decide +kernel
theorem dX9_ledger_84 : decode cX9_ledger 84 = .ok (.aload_n 3, 1) := by decide +kernel
theorem dX9_ledger_85 : decode cX9_ledger 85 = .ok (.bipush 64, 2) := by decide +kernel
theorem dX9_ledger_87 : decode cX9_ledger 87 = .ok (.invokevirtual 275, 3) := by decide +kernel
theorem dX9_ledger_90 : decode cX9_ledger 90 = .ok (.aload_n 0, 1) := by decide +kernel
theorem dX9_ledger_91 : decode cX9_ledger 91 = .ok (.getfield 9, 3) := by decide +kernel
theorem dX9_ledger_94 : decode cX9_ledger 94 = .ok (.bipush 64, 2) := by decide +kernel
theorem dX9_ledger_96 : decode cX9_ledger 96 = .ok (.iload_n 1, 1) := by decide +kernel
theorem dX9_ledger_97 : decode cX9_ledger 97 = .ok (.iadd, 1) := by decide +kernel
theorem dX9_ledger_98 : decode cX9_ledger 98 = .ok (.iaload, 1) := by decide +kernel
theorem dX9_ledger_99 : decode cX9_ledger 99 = .ok (.invokevirtual 271, 3) := by decide +kernel
theorem dX9_ledger_102 : decode cX9_ledger 102 = .ok (.bipush 103, 2) := by decide +kernel
theorem dX9_ledger_104 : decode cX9_ledger 104 = .ok (.invokevirtual 275, 3) := by decide +kernel
theorem dX9_ledger_107 : decode cX9_ledger 107 = .ok (.aload_n 0, 1) := by decide +kernel
theorem dX9_ledger_108 : decode cX9_ledger 108 = .ok (.getfield 19, 3) := by decide +kernel
theorem dX9_ledger_111 : decode cX9_ledger 111 = .ok (.iload_n 1, 1) := by decide +kernel
theorem dX9_ledger_112 : decode cX9_ledger 112 = .ok (.iaload, 1) := by decide +kernel
theorem dX9_ledger_113 : decode cX9_ledger 113 = .ok (.invokevirtual 271, 3) := by decide +kernel
theorem dX9_ledger_116 : decode cX9_ledger 116 = .ok (.bipush 114, 2) := by decide +kernel
theorem dX9_ledger_118 : decode cX9_ledger 118 = .ok (.invokevirtual 275, 3) := by decide +kernel
theorem dX9_ledger_121 : decode cX9_ledger 121 = .ok (.aload_n 0, 1) := by decide +kernel
theorem dX9_ledger_122 : decode cX9_ledger 122 = .ok (.getfield 22, 3) := by decide +kernel
theorem dX9_ledger_125 : decode cX9_ledger 125 = .ok (.iload_n 1, 1) := by decide +kernel
theorem dX9_ledger_126 : decode cX9_ledger 126 = .ok (.iaload, 1) := by decide +kernel
theorem dX9_ledger_127 : decode cX9_ledger 127 = .ok (.invokevirtual 271, 3) := by decide +kernel
theorem dX9_ledger_130 : decode cX9_ledger 130 = .ok (.bipush 32, 2) := by decide +kernel
theorem dX9_ledger_132 : decode cX9_ledger 132 = .ok (.invokevirtual 275, 3) := by decide +kernel
theorem dX9_ledger_135 : decode cX9_ledger 135 = .ok (.pop, 1) := by decide +kernel
theorem dX9_ledger_136 : decode cX9_ledger 136 = .ok (.aload_n 3, 1) := by decide +kernel
theorem dX9_ledger_137 : decode cX9_ledger 137 = .ok (.aload_n 0, 1) := by decide +kernel
theorem dX9_ledger_138 : decode cX9_ledger 138 = .ok (.iload_n 1, 1) := by decide +kernel
theorem dX9_ledger_139 : decode cX9_ledger 139 = .ok (.iconst 0, 1) := by decide +kernel
theorem dX9_ledger_140 : decode cX9_ledger 140 = .ok (.invokevirtual 87, 3) := by decide +kernel
theorem dX9_ledger_143 : decode cX9_ledger 143 = .ok (.ifCond .eq 9, 3) := by decide +kernel
theorem dX9_ledger_146 : decode cX9_ledger 146 = .ok (.ldc_w 278, 3) := by decide +kernel
theorem dX9_ledger_149 : decode cX9_ledger 149 = .ok (.goto 35, 3) := by decide +kernel
theorem dX9_ledger_152 : decode cX9_ledger 152 = .ok (.aload_n 0, 1) := by decide +kernel
theorem dX9_ledger_153 : decode cX9_ledger 153 = .ok (.iload_n 1, 1) := by decide +kernel
theorem dX9_ledger_154 : decode cX9_ledger 154 = .ok (.iconst 2, 1) := by decide +kernel
theorem dX9_ledger_155 : decode cX9_ledger 155 = .ok (.invokevirtual 87, 3) := by decide +kernel
theorem dX9_ledger_158 : decode cX9_ledger 158 = .ok (.ifCond .eq 9, 3) := by decide +kernel
theorem dX9_ledger_161 : decode cX9_ledger 161 = .ok (.ldc_w 280, 3) := by decide +kernel
theorem dX9_ledger_164 : decode cX9_ledger 164 = .ok (.goto 20, 3) := by decide +kernel
theorem dX9_ledger_167 : decode cX9_ledger 167 = .ok (.aload_n 0, 1) := by decide +kernel
theorem dX9_ledger_168 : decode cX9_ledger 168 = .ok (.iload_n 1, 1) := by decide +kernel
theorem dX9_ledger_169 : decode cX9_ledger 169 = .ok (.invokevirtual 205, 3) := by decide +kernel
theorem dX9_ledger_172 : decode cX9_ledger 172 = .ok (.ifCond .eq 9, 3) := by decide +kernel
theorem dX9_ledger_175 : decode cX9_ledger 175 = .ok (.ldc_w 282, 3) := by decide +kernel
theorem dX9_ledger_178 : decode cX9_ledger 178 = .ok (.goto 6, 3) := by decide +kernel
theorem dX9_ledger_181 : decode cX9_ledger 181 = .ok (.ldc_w 284, 3) := by decide +kernel
theorem dX9_ledger_184 : decode cX9_ledger 184 = .ok (.invokevirtual 286, 3) := by decide +kernel
theorem dX9_ledger_187 : decode cX9_ledger 187 = .ok (.pop, 1) := by decide +kernel
theorem dX9_ledger_188 : decode cX9_ledger 188 = .ok (.iload_n 2, 1) := by decide +kernel
theorem dX9_ledger_189 : decode cX9_ledger 189 = .ok (.ifCond .ge 10, 3) := by decide +kernel
theorem dX9_ledger_192 : decode cX9_ledger 192 = .ok (.aload_n 3, 1) := by decide +kernel
theorem dX9_ledger_193 : decode cX9_ledger 193 = .ok (.invokevirtual 289, 3) := by decide +kernel
theorem dX9_ledger_196 : decode cX9_ledger 196 = .ok (.goto 21, 3) := by decide +kernel
theorem dX9_ledger_199 : decode cX9_ledger 199 = .ok (.iload_n 2, 1) := by decide +kernel
theorem dX9_ledger_200 : decode cX9_ledger 200 = .ok (.aload_n 3, 1) := by decide +kernel
theorem dX9_ledger_201 : decode cX9_ledger 201 = .ok (.invokevirtual 289, 3) := by decide +kernel
theorem dX9_ledger_204 : decode cX9_ledger 204 = .ok (.if_icmp .ge 11, 3) := by decide +kernel
theorem dX9_ledger_207 : decode cX9_ledger 207 = .ok (.aload_n 3, 1) := by decide +kernel
theorem dX9_ledger_208 : decode cX9_ledger 208 = .ok (.iload_n 2, 1) := by decide +kernel
theorem dX9_ledger_209 : decode cX9_ledger 209 = .ok (.invokevirtual 292, 3) := by decide +kernel
theorem dX9_ledger_212 : decode cX9_ledger 212 = .ok (.goto 5, 3) := by decide +kernel
theorem dX9_ledger_215 : decode cX9_ledger 215 = .ok (.bipush (-2), 2) := by decide +kernel
theorem dX9_ledger_217 : decode cX9_ledger 217 = .ok (.ireturn, 1) := by decide +kernel
set_option maxRecDepth 20000 in
theorem ggX9_isShelf_X9_isIn : GoodIn wsX9_isShelf wsX9_isIn := goodIn_r _ [4] (by decide +kernel) (by decide +kernel)
set_option maxRecDepth 20000 in
theorem gX9_isShelf_X9_isIn : GoodIn wsX9_isShelf (va_wsS RX9 83 yX9_isIn wsX9_isIn) := goodIn_app (goodIn_of _ (by decide +kernel)) ggX9_isShelf_X9_isIn
theorem dX9_isShelf_0 : decode cX9_isShelf 0 = .ok (.iload_n 0, 1) := by decide +kernel
theorem dX9_isShelf_1 : decode cX9_isShelf 1 = .ok (.iconst 0, 1) := by decide +kernel
theorem dX9_isShelf_2 : decode cX9_isShelf 2 = .ok (.iconst 3, 1) := by decide +kernel
theorem dX9_isShelf_3 : decode cX9_isShelf 3 = .ok (.invokestatic 83, 3) := by decide +kernel
theorem dX9_isShelf_6 : decode cX9_isShelf 6 = .ok (.ireturn, 1) := by decide +kernel
set_option maxRecDepth 20000 in
theorem ggX9_row_X9_isShelf : GoodIn wsX9_row wsX9_isShelf := goodIn_r _ [6, 7, 8, 5, 9] (by decide +kernel) (by decide +kernel)
set_option maxRecDepth 20000 in
theorem gX9_row_X9_isShelf : GoodIn wsX9_row (va_wsS RX9 296 yX9_isShelf wsX9_isShelf) := goodIn_app (goodIn_of _ (by decide +kernel)) ggX9_row_X9_isShelf
theorem dX9_row_0 : decode cX9_row 0 = .ok (.iload_n 1, 1) := by decide +kernel
theorem dX9_row_1 : decode cX9_row 1 = .ok (.invokestatic 296, 3) := by decide +kernel
theorem dX9_row_4 : decode cX9_row 4 = .ok (.ifCond .eq 9, 3) := by decide +kernel
theorem dX9_row_7 : decode cX9_row 7 = .ok (.iload_n 2, 1) := by decide +kernel
theorem dX9_row_8 : decode cX9_row 8 = .ok (.bipush 24, 2) := by decide +kernel
theorem dX9_row_10 : decode cX9_row 10 = .ok (.if_icmp .le 5, 3) := by decide +kernel
theorem dX9_row_13 : decode cX9_row 13 = .ok (.iconst (-1), 1) := by decide +kernel
theorem dX9_row_14 : decode cX9_row 14 = .ok (.ireturn, 1) := by decide +kernel
theorem dX9_row_15 : decode cX9_row 15 = .ok (.iload_n 2, 1) := by decide +kernel
theorem dX9_row_16 : decode cX9_row 16 = .ok (.ifCond .ge 6, 3) := by decide +kernel
theorem dX9_row_19 : decode cX9_row 19 = .ok (.bipush (-14), 2) := by decide +kernel
theorem dX9_row_21 : decode cX9_row 21 = .ok (.ireturn, 1) := by decide +kernel
theorem dX9_row_22 : decode cX9_row 22 = .ok (.aload_n 0, 1) := by decide +kernel
theorem dX9_row_23 : decode cX9_row 23 = .ok (.getfield 77, 3) := by decide +kernel
theorem dX9_row_26 : decode cX9_row 26 = .ok (.iload_n 1, 1) := by decide +kernel
theorem dX9_row_27 : decode cX9_row 27 = .ok (.iload_n 2, 1) := by decide +kernel
theorem dX9_row_28 : decode cX9_row 28 = .ok (.iastore, 1) := by decide +kernel
theorem dX9_row_29 : decode cX9_row 29 = .ok (.iconst 0, 1) := by decide +kernel
theorem dX9_row_30 : decode cX9_row 30 = .ok (.istore_n 3, 1) := by decide +kernel
theorem dX9_row_31 : decode cX9_row 31 = .ok (.iload_n 3, 1) := by decide +kernel
theorem dX9_row_32 : decode cX9_row 32 = .ok (.bipush 24, 2) := by decide +kernel
theorem dX9_row_34 : decode cX9_row 34 = .ok (.if_icmp .ge 21, 3) := by decide +kernel
theorem dX9_row_37 : decode cX9_row 37 = .ok (.aload_n 0, 1) := by decide +kernel
theorem dX9_row_38 : decode cX9_row 38 = .ok (.getfield 73, 3) := by decide +kernel
theorem dX9_row_41 : decode cX9_row 41 = .ok (.bipush 24, 2) := by decide +kernel
theorem dX9_row_43 : decode cX9_row 43 = .ok (.iload_n 1, 1) := by decide +kernel
theorem dX9_row_44 : decode cX9_row 44 = .ok (.imul, 1) := by decide +kernel
theorem dX9_row_45 : decode cX9_row 45 = .ok (.iload_n 3, 1) := by decide +kernel
theorem dX9_row_46 : decode cX9_row 46 = .ok (.iadd, 1) := by decide +kernel
theorem dX9_row_47 : decode cX9_row 47 = .ok (.lconst 0, 1) := by decide +kernel
theorem dX9_row_48 : decode cX9_row 48 = .ok (.lastore, 1) := by decide +kernel
theorem dX9_row_49 : decode cX9_row 49 = .ok (.iinc 3 1, 3) := by decide +kernel
theorem dX9_row_52 : decode cX9_row 52 = .ok (.goto (-21), 3) := by decide +kernel
theorem dX9_row_55 : decode cX9_row 55 = .ok (.iconst 1, 1) := by decide +kernel
theorem dX9_row_56 : decode cX9_row 56 = .ok (.ireturn, 1) := by decide +kernel
set_option maxRecDepth 20000 in
theorem ggX9_put_X9_isShelf : GoodIn wsX9_put wsX9_isShelf := goodIn_r _ [6, 7, 8, 5, 9] (by decide +kernel) (by decide +kernel)
set_option maxRecDepth 20000 in
theorem gX9_put_X9_isShelf : GoodIn wsX9_put (va_wsS RX9 296 yX9_isShelf wsX9_isShelf) := goodIn_app (goodIn_of _ (by decide +kernel)) ggX9_put_X9_isShelf
set_option maxRecDepth 20000 in
theorem ggX9_put_X9_isIn : GoodIn wsX9_put wsX9_isIn := goodIn_r _ [9] (by decide +kernel) (by decide +kernel)
set_option maxRecDepth 20000 in
theorem gX9_put_X9_isIn : GoodIn wsX9_put (va_wsS RX9 83 yX9_isIn wsX9_isIn) := goodIn_app (goodIn_of _ (by decide +kernel)) ggX9_put_X9_isIn
theorem dX9_put_0 : decode cX9_put 0 = .ok (.iload_n 1, 1) := by decide +kernel
theorem dX9_put_1 : decode cX9_put 1 = .ok (.invokestatic 296, 3) := by decide +kernel
theorem dX9_put_4 : decode cX9_put 4 = .ok (.ifCond .ne 5, 3) := by decide +kernel
theorem dX9_put_7 : decode cX9_put 7 = .ok (.iconst (-1), 1) := by decide +kernel
theorem dX9_put_8 : decode cX9_put 8 = .ok (.ireturn, 1) := by decide +kernel
theorem dX9_put_9 : decode cX9_put 9 = .ok (.aload_n 0, 1) := by decide +kernel
theorem dX9_put_10 : decode cX9_put 10 = .ok (.getfield 77, 3) := by decide +kernel
theorem dX9_put_13 : decode cX9_put 13 = .ok (.iload_n 1, 1) := by decide +kernel
theorem dX9_put_14 : decode cX9_put 14 = .ok (.iaload, 1) := by decide +kernel
theorem dX9_put_15 : decode cX9_put 15 = .ok (.ifCond .ge 6, 3) := by decide +kernel
theorem dX9_put_18 : decode cX9_put 18 = .ok (.bipush (-11), 2) := by decide +kernel
theorem dX9_put_20 : decode cX9_put 20 = .ok (.ireturn, 1) := by decide +kernel
theorem dX9_put_21 : decode cX9_put 21 = .ok (.iload_n 2, 1) := by decide +kernel
theorem dX9_put_22 : decode cX9_put 22 = .ok (.iconst 0, 1) := by decide +kernel
theorem dX9_put_23 : decode cX9_put 23 = .ok (.aload_n 0, 1) := by decide +kernel
theorem dX9_put_24 : decode cX9_put 24 = .ok (.getfield 77, 3) := by decide +kernel
theorem dX9_put_27 : decode cX9_put 27 = .ok (.iload_n 1, 1) := by decide +kernel
theorem dX9_put_28 : decode cX9_put 28 = .ok (.iaload, 1) := by decide +kernel
theorem dX9_put_29 : decode cX9_put 29 = .ok (.iconst 1, 1) := by decide +kernel
theorem dX9_put_30 : decode cX9_put 30 = .ok (.isub, 1) := by decide +kernel
theorem dX9_put_31 : decode cX9_put 31 = .ok (.invokestatic 83, 3) := by decide +kernel
theorem dX9_put_34 : decode cX9_put 34 = .ok (.ifCond .ne 6, 3) := by decide +kernel
theorem dX9_put_37 : decode cX9_put 37 = .ok (.bipush (-13), 2) := by decide +kernel
theorem dX9_put_39 : decode cX9_put 39 = .ok (.ireturn, 1) := by decide +kernel
theorem dX9_put_40 : decode cX9_put 40 = .ok (.aload_n 0, 1) := by decide +kernel
theorem dX9_put_41 : decode cX9_put 41 = .ok (.getfield 73, 3) := by decide +kernel
theorem dX9_put_44 : decode cX9_put 44 = .ok (.bipush 24, 2) := by decide +kernel
theorem dX9_put_46 : decode cX9_put 46 = .ok (.iload_n 1, 1) := by decide +kernel
theorem dX9_put_47 : decode cX9_put 47 = .ok (.imul, 1) := by decide +kernel
theorem dX9_put_48 : decode cX9_put 48 = .ok (.iload_n 2, 1) := by decide +kernel
theorem dX9_put_49 : decode cX9_put 49 = .ok (.iadd, 1) := by decide +kernel
theorem dX9_put_50 : decode cX9_put 50 = .ok (.lload_n 3, 1) := by decide +kernel
theorem dX9_put_51 : decode cX9_put 51 = .ok (.lastore, 1) := by decide +kernel
theorem dX9_put_52 : decode cX9_put 52 = .ok (.iconst 1, 1) := by decide +kernel
theorem dX9_put_53 : decode cX9_put 53 = .ok (.ireturn, 1) := by decide +kernel
set_option maxRecDepth 20000 in
theorem ggX9_get_X9_isShelf : GoodIn wsX9_get wsX9_isShelf := goodIn_r _ [7, 8, 9, 6, 10] (by decide +kernel) (by decide +kernel)
set_option maxRecDepth 20000 in
theorem gX9_get_X9_isShelf : GoodIn wsX9_get (va_wsS RX9 296 yX9_isShelf wsX9_isShelf) := goodIn_app (goodIn_of _ (by decide +kernel)) ggX9_get_X9_isShelf
set_option maxRecDepth 20000 in
theorem ggX9_get_X9_isIn : GoodIn wsX9_get wsX9_isIn := goodIn_r _ [10] (by decide +kernel) (by decide +kernel)
set_option maxRecDepth 20000 in
theorem gX9_get_X9_isIn : GoodIn wsX9_get (va_wsS RX9 83 yX9_isIn wsX9_isIn) := goodIn_app (goodIn_of _ (by decide +kernel)) ggX9_get_X9_isIn
theorem dX9_get_0 : decode cX9_get 0 = .ok (.iload_n 1, 1) := by decide +kernel
theorem dX9_get_1 : decode cX9_get 1 = .ok (.invokestatic 296, 3) := by decide +kernel
theorem dX9_get_4 : decode cX9_get 4 = .ok (.ifCond .eq 33, 3) := by decide +kernel
theorem dX9_get_7 : decode cX9_get 7 = .ok (.iload_n 2, 1) := by decide +kernel
theorem dX9_get_8 : decode cX9_get 8 = .ok (.iconst 0, 1) := by decide +kernel
theorem dX9_get_9 : decode cX9_get 9 = .ok (.aload_n 0, 1) := by decide +kernel
theorem dX9_get_10 : decode cX9_get 10 = .ok (.getfield 77, 3) := by decide +kernel
theorem dX9_get_13 : decode cX9_get 13 = .ok (.iload_n 1, 1) := by decide +kernel
theorem dX9_get_14 : decode cX9_get 14 = .ok (.iaload, 1) := by decide +kernel
theorem dX9_get_15 : decode cX9_get 15 = .ok (.iconst 1, 1) := by decide +kernel
theorem dX9_get_16 : decode cX9_get 16 = .ok (.isub, 1) := by decide +kernel
theorem dX9_get_17 : decode cX9_get 17 = .ok (.invokestatic 83, 3) := by decide +kernel
theorem dX9_get_20 : decode cX9_get 20 = .ok (.ifCond .eq 17, 3) := by decide +kernel
theorem dX9_get_23 : decode cX9_get 23 = .ok (.aload_n 0, 1) := by decide +kernel
theorem dX9_get_24 : decode cX9_get 24 = .ok (.getfield 73, 3) := by decide +kernel
theorem dX9_get_27 : decode cX9_get 27 = .ok (.bipush 24, 2) := by decide +kernel
theorem dX9_get_29 : decode cX9_get 29 = .ok (.iload_n 1, 1) := by decide +kernel
theorem dX9_get_30 : decode cX9_get 30 = .ok (.imul, 1) := by decide +kernel
theorem dX9_get_31 : decode cX9_get 31 = .ok (.iload_n 2, 1) := by decide +kernel
theorem dX9_get_32 : decode cX9_get 32 = .ok (.iadd, 1) := by decide +kernel
theorem dX9_get_33 : decode cX9_get 33 = .ok (.laload, 1) := by decide +kernel
theorem dX9_get_34 : decode cX9_get 34 = .ok (.goto 6, 3) := by decide +kernel
theorem dX9_get_37 : decode cX9_get 37 = .ok (.ldc2_w 301, 3) := by decide +kernel
theorem dX9_get_40 : decode cX9_get 40 = .ok (.lreturn, 1) := by decide +kernel
set_option maxRecDepth 20000 in
theorem ggX9_from_X9_isShelf : GoodIn wsX9_from wsX9_isShelf := goodIn_r _ [8, 9, 10, 7, 11] (by decide +kernel) (by decide +kernel)
set_option maxRecDepth 20000 in
theorem gX9_from_X9_isShelf : GoodIn wsX9_from (va_wsS RX9 296 yX9_isShelf wsX9_isShelf) := goodIn_app (goodIn_of _ (by decide +kernel)) ggX9_from_X9_isShelf
set_option maxRecDepth 20000 in
theorem ggX9_from_X9_isSupply : GoodIn wsX9_from wsX9_isSupply := goodIn_r _ [14, 9, 10, 7, 11] (by decide +kernel) (by decide +kernel)
set_option maxRecDepth 20000 in
theorem gX9_from_X9_isSupply : GoodIn wsX9_from (va_wsS RX9 112 yX9_isSupply wsX9_isSupply) := goodIn_app (goodIn_of _ (by decide +kernel)) ggX9_from_X9_isSupply
set_option maxRecDepth 20000 in
theorem ggX9_from_X9_begins : GoodIn wsX9_from wsX9_begins := goodIn_r _ [18, 4, 19, 20, 21, 7, 22, 36, 37, 38, 39, 40, 41, 42, 43, 44, 45, 46, 47, 48, 49, 50, 51, 52, 53, 54, 55, 56, 57, 58, 59, 60, 61, 62, 63, 64, 65, 66, 67, 68, 69, 70] (by decide +kernel) (by decide +kernel)
set_option maxRecDepth 20000 in
theorem gX9_from_X9_begins : GoodIn wsX9_from (wsV RX9 115 RX9 yX9_begins wsX9_begins) := goodIn_app (goodIn_of _ (by decide +kernel)) ggX9_from_X9_begins
set_option maxRecDepth 20000 in
theorem ggX9_from_X9_at : GoodIn wsX9_from wsX9_at := goodIn_r _ [25] (by decide +kernel) (by decide +kernel)
set_option maxRecDepth 20000 in
theorem gX9_from_X9_at : GoodIn wsX9_from (va_wsS RX9 118 yX9_at wsX9_at) := goodIn_app (goodIn_of _ (by decide +kernel)) ggX9_from_X9_at
set_option maxRecDepth 20000 in
theorem ggX9_from_X9_changed : GoodIn wsX9_from wsX9_changed := goodIn_r _ [29, 30, 31, 32, 33, 19, 4, 34, 35, 20, 21, 7, 22, 36, 37, 38, 39, 40, 41, 42, 43, 44, 45, 46, 47, 48, 49, 50, 51, 52, 53, 54, 55, 56, 57, 58, 59, 60, 61, 62, 63, 64, 65, 66, 67, 68, 69, 70] (by decide +kernel) (by decide +kernel)
set_option maxRecDepth 20000 in
theorem gX9_from_X9_changed : GoodIn wsX9_from (wsV RX9 122 RX9 yX9_changed wsX9_changed) := goodIn_app (goodIn_of _ (by decide +kernel)) ggX9_from_X9_changed
theorem dX9_from_0 : decode cX9_from 0 = .ok (.iload_n 1, 1) := by decide +kernel
theorem dX9_from_1 : decode cX9_from 1 = .ok (.invokestatic 296, 3) := by decide +kernel
theorem dX9_from_4 : decode cX9_from 4 = .ok (.ifCond .eq 12, 3) := by decide +kernel
theorem dX9_from_7 : decode cX9_from 7 = .ok (.iload_n 3, 1) := by decide +kernel
theorem dX9_from_8 : decode cX9_from 8 = .ok (.iload 4, 2) := by decide +kernel
theorem dX9_from_10 : decode cX9_from 10 = .ok (.invokestatic 112, 3) := by decide +kernel
theorem dX9_from_13 : decode cX9_from 13 = .ok (.ifCond .ne 5, 3) := by decide +kernel
theorem dX9_from_16 : decode cX9_from 16 = .ok (.iconst (-1), 1) := by decide +kernel
theorem dX9_from_17 : decode cX9_from 17 = .ok (.ireturn, 1) := by decide +kernel
theorem dX9_from_18 : decode cX9_from 18 = .ok (.aload_n 0, 1) := by decide +kernel
theorem dX9_from_19 : decode cX9_from 19 = .ok (.getfield 77, 3) := by decide +kernel
theorem dX9_from_22 : decode cX9_from 22 = .ok (.iload_n 1, 1) := by decide +kernel
theorem dX9_from_23 : decode cX9_from 23 = .ok (.iaload, 1) := by decide +kernel
theorem dX9_from_24 : decode cX9_from 24 = .ok (.ifCond .ge 6, 3) := by decide +kernel
theorem dX9_from_27 : decode cX9_from 27 = .ok (.bipush (-11), 2) := by decide +kernel
theorem dX9_from_29 : decode cX9_from 29 = .ok (.ireturn, 1) := by decide +kernel
theorem dX9_from_30 : decode cX9_from 30 = .ok (.iload_n 2, 1) := by decide +kernel
theorem dX9_from_31 : decode cX9_from 31 = .ok (.ifCond .ge 6, 3) := by decide +kernel
theorem dX9_from_34 : decode cX9_from 34 = .ok (.bipush (-13), 2) := by decide +kernel
theorem dX9_from_36 : decode cX9_from 36 = .ok (.ireturn, 1) := by decide +kernel
theorem dX9_from_37 : decode cX9_from 37 = .ok (.aload_n 0, 1) := by decide +kernel
theorem dX9_from_38 : decode cX9_from 38 = .ok (.invokevirtual 115, 3) := by decide +kernel
theorem dX9_from_41 : decode cX9_from 41 = .ok (.iconst 0, 1) := by decide +kernel
theorem dX9_from_42 : decode cX9_from 42 = .ok (.istore 5, 2) := by decide +kernel
theorem dX9_from_44 : decode cX9_from 44 = .ok (.iload 4, 2) := by decide +kernel
theorem dX9_from_46 : decode cX9_from 46 = .ok (.iload 5, 2) := by decide +kernel
theorem dX9_from_48 : decode cX9_from 48 = .ok (.iadd, 1) := by decide +kernel
theorem dX9_from_49 : decode cX9_from 49 = .ok (.bipush 12, 2) := by decide +kernel
theorem dX9_from_51 : decode cX9_from 51 = .ok (.if_icmp .ge 74, 3) := by decide +kernel
theorem dX9_from_54 : decode cX9_from 54 = .ok (.iload_n 2, 1) := by decide +kernel
theorem dX9_from_55 : decode cX9_from 55 = .ok (.aload_n 0, 1) := by decide +kernel
theorem dX9_from_56 : decode cX9_from 56 = .ok (.getfield 77, 3) := by decide +kernel
theorem dX9_from_59 : decode cX9_from 59 = .ok (.iload_n 1, 1) := by decide +kernel
theorem dX9_from_60 : decode cX9_from 60 = .ok (.iaload, 1) := by decide +kernel
theorem dX9_from_61 : decode cX9_from 61 = .ok (.iload 5, 2) := by decide +kernel
theorem dX9_from_63 : decode cX9_from 63 = .ok (.isub, 1) := by decide +kernel
theorem dX9_from_64 : decode cX9_from 64 = .ok (.if_icmp .ge 61, 3) := by decide +kernel
theorem dX9_from_67 : decode cX9_from 67 = .ok (.aload_n 0, 1) := by decide +kernel
theorem dX9_from_68 : decode cX9_from 68 = .ok (.getfield 73, 3) := by decide +kernel
theorem dX9_from_71 : decode cX9_from 71 = .ok (.bipush 24, 2) := by decide +kernel
theorem dX9_from_73 : decode cX9_from 73 = .ok (.iload_n 1, 1) := by decide +kernel
theorem dX9_from_74 : decode cX9_from 74 = .ok (.imul, 1) := by decide +kernel
theorem dX9_from_75 : decode cX9_from 75 = .ok (.iload_n 2, 1) := by decide +kernel
theorem dX9_from_76 : decode cX9_from 76 = .ok (.iadd, 1) := by decide +kernel
theorem dX9_from_77 : decode cX9_from 77 = .ok (.iload 5, 2) := by decide +kernel
theorem dX9_from_79 : decode cX9_from 79 = .ok (.iadd, 1) := by decide +kernel
theorem dX9_from_80 : decode cX9_from 80 = .ok (.laload, 1) := by decide +kernel
theorem dX9_from_81 : decode cX9_from 81 = .ok (.lstore 6, 2) := by decide +kernel
theorem dX9_from_83 : decode cX9_from 83 = .ok (.lload 6, 2) := by decide +kernel
theorem dX9_from_85 : decode cX9_from 85 = .ok (.lconst 0, 1) := by decide +kernel
theorem dX9_from_86 : decode cX9_from 86 = .ok (.lcmp, 1) := by decide +kernel
theorem dX9_from_87 : decode cX9_from 87 = .ok (.ifCond .lt 38, 3) := by decide +kernel
theorem dX9_from_90 : decode cX9_from 90 = .ok (.lload 6, 2) := by decide +kernel
theorem dX9_from_92 : decode cX9_from 92 = .ok (.ldc2_w 303, 3) := by decide +kernel
theorem dX9_from_95 : decode cX9_from 95 = .ok (.lcmp, 1) := by decide +kernel
theorem dX9_from_96 : decode cX9_from 96 = .ok (.ifCond .le 6, 3) := by decide +kernel
theorem dX9_from_99 : decode cX9_from 99 = .ok (.goto 26, 3) := by decide +kernel
theorem dX9_from_102 : decode cX9_from 102 = .ok (.aload_n 0, 1) := by decide +kernel
theorem dX9_from_103 : decode cX9_from 103 = .ok (.getfield 9, 3) := by decide +kernel
theorem dX9_from_106 : decode cX9_from 106 = .ok (.iload_n 3, 1) := by decide +kernel
theorem dX9_from_107 : decode cX9_from 107 = .ok (.iload 4, 2) := by decide +kernel
theorem dX9_from_109 : decode cX9_from 109 = .ok (.iload 5, 2) := by decide +kernel
theorem dX9_from_111 : decode cX9_from 111 = .ok (.iadd, 1) := by decide +kernel
theorem dX9_from_112 : decode cX9_from 112 = .ok (.invokestatic 118, 3) := by decide +kernel
theorem dX9_from_115 : decode cX9_from 115 = .ok (.lload 6, 2) := by decide +kernel
theorem dX9_from_117 : decode cX9_from 117 = .ok (.l2i, 1) := by decide +kernel
theorem dX9_from_118 : decode cX9_from 118 = .ok (.iastore, 1) := by decide +kernel
theorem dX9_from_119 : decode cX9_from 119 = .ok (.iinc 5 1, 3) := by decide +kernel
theorem dX9_from_122 : decode cX9_from 122 = .ok (.goto (-78), 3) := by decide +kernel
theorem dX9_from_125 : decode cX9_from 125 = .ok (.aload_n 0, 1) := by decide +kernel
theorem dX9_from_126 : decode cX9_from 126 = .ok (.invokevirtual 122, 3) := by decide +kernel
theorem dX9_from_129 : decode cX9_from 129 = .ok (.iload 5, 2) := by decide +kernel
theorem dX9_from_131 : decode cX9_from 131 = .ok (.ireturn, 1) := by decide +kernel
set_option maxRecDepth 20000 in
theorem ggX9_lefts_X9_isShelf : GoodIn wsX9_lefts wsX9_isShelf := goodIn_r _ [6, 7, 8, 5, 9] (by decide +kernel) (by decide +kernel)
set_option maxRecDepth 20000 in
theorem gX9_lefts_X9_isShelf : GoodIn wsX9_lefts (va_wsS RX9 296 yX9_isShelf wsX9_isShelf) := goodIn_app (goodIn_of _ (by decide +kernel)) ggX9_lefts_X9_isShelf
set_option maxRecDepth 20000 in
theorem ggX9_lefts_X9_findSums : GoodIn wsX9_lefts wsX9_findSums := goodIn_r _ [13, 14, 15, 16, 17, 5, 18, 41, 42, 43, 44, 45, 46, 47, 48, 49, 50, 51, 52, 53, 54, 55, 56, 57, 58, 59, 60, 61, 62, 63, 64, 65, 66, 67, 68, 69, 70, 71, 72, 73, 74, 75] (by decide +kernel) (by decide +kernel)
set_option maxRecDepth 20000 in
theorem gX9_lefts_X9_findSums : GoodIn wsX9_lefts (wsV RX9 141 RX9 yX9_findSums wsX9_findSums) := goodIn_app (goodIn_of _ (by decide +kernel)) ggX9_lefts_X9_findSums
set_option maxRecDepth 20000 in
theorem ggX9_lefts_X9_those : GoodIn wsX9_lefts wsX9_those := goodIn_r _ [22, 23, 24, 25, 26, 5, 27, 15, 41, 42, 43, 44, 45, 46, 47, 48, 49, 50, 51, 52, 53, 54, 55, 56, 57, 58, 59, 60, 61, 62, 63, 64, 65, 66, 67, 68, 69, 70, 71, 72, 73, 74, 75] (by decide +kernel) (by decide +kernel)
set_option maxRecDepth 20000 in
theorem gX9_lefts_X9_those : GoodIn wsX9_lefts (wsV RX9 105 RX9 yX9_those wsX9_those) := goodIn_app (goodIn_of _ (by decide +kernel)) ggX9_lefts_X9_those
set_option maxRecDepth 20000 in
theorem ggX9_lefts_X9_leftAt : GoodIn wsX9_lefts wsX9_leftAt := goodIn_r _ [31, 14, 23, 32, 15, 33, 34, 35, 5, 36, 37, 38, 39, 40, 41, 42, 43, 44, 45, 46, 47, 48, 49, 50, 51, 52, 53, 54, 55, 56, 57, 58, 59, 60, 61, 62, 63, 64, 65, 66, 67, 68, 69, 70, 71, 72, 73, 74, 75] (by decide +kernel) (by decide +kernel)
set_option maxRecDepth 20000 in
theorem gX9_lefts_X9_leftAt : GoodIn wsX9_lefts (wsV RX9 153 RX9 yX9_leftAt wsX9_leftAt) := goodIn_app (goodIn_of _ (by decide +kernel)) ggX9_lefts_X9_leftAt
theorem dX9_lefts_0 : decode cX9_lefts 0 = .ok (.iload_n 1, 1) := by decide +kernel
theorem dX9_lefts_1 : decode cX9_lefts 1 = .ok (.invokestatic 296, 3) := by decide +kernel
theorem dX9_lefts_4 : decode cX9_lefts 4 = .ok (.ifCond .ne 5, 3) := by decide +kernel
theorem dX9_lefts_7 : decode cX9_lefts 7 = .ok (.iconst (-1), 1) := by decide +kernel
theorem dX9_lefts_8 : decode cX9_lefts 8 = .ok (.ireturn, 1) := by decide +kernel
theorem dX9_lefts_9 : decode cX9_lefts 9 = .ok (.aload_n 0, 1) := by decide +kernel
theorem dX9_lefts_10 : decode cX9_lefts 10 = .ok (.getfield 77, 3) := by decide +kernel
theorem dX9_lefts_13 : decode cX9_lefts 13 = .ok (.iload_n 1, 1) := by decide +kernel
theorem dX9_lefts_14 : decode cX9_lefts 14 = .ok (.iaload, 1) := by decide +kernel
theorem dX9_lefts_15 : decode cX9_lefts 15 = .ok (.ifCond .ge 6, 3) := by decide +kernel
theorem dX9_lefts_18 : decode cX9_lefts 18 = .ok (.bipush (-11), 2) := by decide +kernel
theorem dX9_lefts_20 : decode cX9_lefts 20 = .ok (.ireturn, 1) := by decide +kernel
theorem dX9_lefts_21 : decode cX9_lefts 21 = .ok (.iload_n 2, 1) := by decide +kernel
theorem dX9_lefts_22 : decode cX9_lefts 22 = .ok (.ifCond .ge 6, 3) := by decide +kernel
theorem dX9_lefts_25 : decode cX9_lefts 25 = .ok (.bipush (-13), 2) := by decide +kernel
theorem dX9_lefts_27 : decode cX9_lefts 27 = .ok (.ireturn, 1) := by decide +kernel
theorem dX9_lefts_28 : decode cX9_lefts 28 = .ok (.aload_n 0, 1) := by decide +kernel
theorem dX9_lefts_29 : decode cX9_lefts 29 = .ok (.invokevirtual 141, 3) := by decide +kernel
theorem dX9_lefts_32 : decode cX9_lefts 32 = .ok (.iconst 0, 1) := by decide +kernel
theorem dX9_lefts_33 : decode cX9_lefts 33 = .ok (.istore_n 3, 1) := by decide +kernel
theorem dX9_lefts_34 : decode cX9_lefts 34 = .ok (.iload_n 3, 1) := by decide +kernel
theorem dX9_lefts_35 : decode cX9_lefts 35 = .ok (.bipush 12, 2) := by decide +kernel
theorem dX9_lefts_37 : decode cX9_lefts 37 = .ok (.if_icmp .ge 51, 3) := by decide +kernel
theorem dX9_lefts_40 : decode cX9_lefts 40 = .ok (.iload_n 2, 1) := by decide +kernel
theorem dX9_lefts_41 : decode cX9_lefts 41 = .ok (.aload_n 0, 1) := by decide +kernel
theorem dX9_lefts_42 : decode cX9_lefts 42 = .ok (.getfield 77, 3) := by decide +kernel
theorem dX9_lefts_45 : decode cX9_lefts 45 = .ok (.iload_n 1, 1) := by decide +kernel
theorem dX9_lefts_46 : decode cX9_lefts 46 = .ok (.iaload, 1) := by decide +kernel
theorem dX9_lefts_47 : decode cX9_lefts 47 = .ok (.iload_n 3, 1) := by decide +kernel
theorem dX9_lefts_48 : decode cX9_lefts 48 = .ok (.isub, 1) := by decide +kernel
theorem dX9_lefts_49 : decode cX9_lefts 49 = .ok (.if_icmp .ge 39, 3) := by decide +kernel
theorem dX9_lefts_52 : decode cX9_lefts 52 = .ok (.aload_n 0, 1) := by decide +kernel
theorem dX9_lefts_53 : decode cX9_lefts 53 = .ok (.getfield 73, 3) := by decide +kernel
theorem dX9_lefts_56 : decode cX9_lefts 56 = .ok (.bipush 24, 2) := by decide +kernel
theorem dX9_lefts_58 : decode cX9_lefts 58 = .ok (.iload_n 1, 1) := by decide +kernel
theorem dX9_lefts_59 : decode cX9_lefts 59 = .ok (.imul, 1) := by decide +kernel
theorem dX9_lefts_60 : decode cX9_lefts 60 = .ok (.iload_n 2, 1) := by decide +kernel
theorem dX9_lefts_61 : decode cX9_lefts 61 = .ok (.iadd, 1) := by decide +kernel
theorem dX9_lefts_62 : decode cX9_lefts 62 = .ok (.iload_n 3, 1) := by decide +kernel
theorem dX9_lefts_63 : decode cX9_lefts 63 = .ok (.iadd, 1) := by decide +kernel
theorem dX9_lefts_64 : decode cX9_lefts 64 = .ok (.aload_n 0, 1) := by decide +kernel
theorem dX9_lefts_65 : decode cX9_lefts 65 = .ok (.sipush 10101, 3) := by decide +kernel
theorem dX9_lefts_68 : decode cX9_lefts 68 = .ok (.iload_n 3, 1) := by decide +kernel
theorem dX9_lefts_69 : decode cX9_lefts 69 = .ok (.iconst 1, 1) := by decide +kernel
theorem dX9_lefts_70 : decode cX9_lefts 70 = .ok (.iadd, 1) := by decide +kernel
theorem dX9_lefts_71 : decode cX9_lefts 71 = .ok (.imul, 1) := by decide +kernel
theorem dX9_lefts_72 : decode cX9_lefts 72 = .ok (.aload_n 0, 1) := by decide +kernel
theorem dX9_lefts_73 : decode cX9_lefts 73 = .ok (.iconst 1, 1) := by decide +kernel
theorem dX9_lefts_74 : decode cX9_lefts 74 = .ok (.invokevirtual 105, 3) := by decide +kernel
theorem dX9_lefts_77 : decode cX9_lefts 77 = .ok (.invokevirtual 153, 3) := by decide +kernel
theorem dX9_lefts_80 : decode cX9_lefts 80 = .ok (.i2l, 1) := by decide +kernel
theorem dX9_lefts_81 : decode cX9_lefts 81 = .ok (.lastore, 1) := by decide +kernel
theorem dX9_lefts_82 : decode cX9_lefts 82 = .ok (.iinc 3 1, 3) := by decide +kernel
theorem dX9_lefts_85 : decode cX9_lefts 85 = .ok (.goto (-51), 3) := by decide +kernel
theorem dX9_lefts_88 : decode cX9_lefts 88 = .ok (.iload_n 3, 1) := by decide +kernel
theorem dX9_lefts_89 : decode cX9_lefts 89 = .ok (.ireturn, 1) := by decide +kernel
set_option maxRecDepth 20000 in
theorem ggX9_count_X9_those : GoodIn wsX9_count wsX9_those := goodIn_r _ [9, 1, 10, 11, 12, 8, 13, 14, 28, 29, 30, 31, 32, 33, 34, 35, 36, 37, 38, 39, 40, 41, 42, 43, 44, 45, 46, 47, 48, 49, 50, 51, 52, 53, 54, 55, 56, 57, 58, 59, 60, 61, 62] (by decide +kernel) (by decide +kernel)
set_option maxRecDepth 20000 in
theorem gX9_count_X9_those : GoodIn wsX9_count (wsV RX9 105 RX9 yX9_those wsX9_those) := goodIn_app (goodIn_of _ (by decide +kernel)) ggX9_count_X9_those
set_option maxRecDepth 20000 in
theorem ggX9_count_X9_size : GoodIn wsX9_count wsX9_size := goodIn_r _ [17] (by decide +kernel) (by decide +kernel)
set_option maxRecDepth 20000 in
theorem gX9_count_X9_size : GoodIn wsX9_count (va_wsS RX9 109 yX9_size wsX9_size) := goodIn_app (goodIn_of _ (by decide +kernel)) ggX9_count_X9_size
set_option maxRecDepth 20000 in
theorem ggX9_count_X9_allSupplies : GoodIn wsX9_count wsX9_allSupplies := goodIn_r _ [21, 14, 28, 29, 30, 31, 32, 33, 34, 35, 36, 37, 38, 39, 40, 41, 42, 43, 44, 45, 46, 47, 48, 49, 50, 51, 52, 53, 54, 55, 56, 57, 58, 59, 60, 61, 62] (by decide +kernel) (by decide +kernel)
set_option maxRecDepth 20000 in
theorem gX9_count_X9_allSupplies : GoodIn wsX9_count (wsV RX9 125 RX9 yX9_allSupplies wsX9_allSupplies) := goodIn_app (goodIn_of _ (by decide +kernel)) ggX9_count_X9_allSupplies
set_option maxRecDepth 20000 in
theorem ggX9_count_X9_amountsOf : GoodIn wsX9_count wsX9_amountsOf := goodIn_r _ [25, 1, 26, 27, 28, 29, 30, 31, 32, 33, 34, 35, 36, 37, 38, 39, 40, 41, 42, 43, 44, 45, 46, 47, 48, 49, 50, 51, 52, 53, 54, 55, 56, 57, 58, 59, 60, 61, 62] (by decide +kernel) (by decide +kernel)
set_option maxRecDepth 20000 in
theorem gX9_count_X9_amountsOf : GoodIn wsX9_count (wsV RX9 132 RX9 yX9_amountsOf wsX9_amountsOf) := goodIn_app (goodIn_of _ (by decide +kernel)) ggX9_count_X9_amountsOf
theorem dX9_count_0 : decode cX9_count 0 = .ok (.iload_n 1, 1) := by decide +kernel
theorem dX9_count_1 : decode cX9_count 1 = .ok (.tableswitch 119 0 8 #[51, 56, 65, 74, 83, 88, 93, 103, 108], 51) := by decide +kernel
theorem dX9_count_52 : decode cX9_count 52 = .ok (.aload_n 0, 1) := by decide +kernel
theorem dX9_count_53 : decode cX9_count 53 = .ok (.getfield 80, 3) := by decide +kernel
theorem dX9_count_56 : decode cX9_count 56 = .ok (.ireturn, 1) := by decide +kernel
theorem dX9_count_57 : decode cX9_count 57 = .ok (.aload_n 0, 1) := by decide +kernel
theorem dX9_count_58 : decode cX9_count 58 = .ok (.iconst 0, 1) := by decide +kernel
theorem dX9_count_59 : decode cX9_count 59 = .ok (.invokevirtual 105, 3) := by decide +kernel
theorem dX9_count_62 : decode cX9_count 62 = .ok (.invokestatic 109, 3) := by decide +kernel
theorem dX9_count_65 : decode cX9_count 65 = .ok (.ireturn, 1) := by decide +kernel
theorem dX9_count_66 : decode cX9_count 66 = .ok (.aload_n 0, 1) := by decide +kernel
theorem dX9_count_67 : decode cX9_count 67 = .ok (.iconst 1, 1) := by decide +kernel
theorem dX9_count_68 : decode cX9_count 68 = .ok (.invokevirtual 105, 3) := by decide +kernel
theorem dX9_count_71 : decode cX9_count 71 = .ok (.invokestatic 109, 3) := by decide +kernel
theorem dX9_count_74 : decode cX9_count 74 = .ok (.ireturn, 1) := by decide +kernel
theorem dX9_count_75 : decode cX9_count 75 = .ok (.aload_n 0, 1) := by decide +kernel
theorem dX9_count_76 : decode cX9_count 76 = .ok (.iconst 2, 1) := by decide +kernel
theorem dX9_count_77 : decode cX9_count 77 = .ok (.invokevirtual 105, 3) := by decide +kernel
theorem dX9_count_80 : decode cX9_count 80 = .ok (.invokestatic 109, 3) := by decide +kernel
theorem dX9_count_83 : decode cX9_count 83 = .ok (.ireturn, 1) := by decide +kernel
theorem dX9_count_84 : decode cX9_count 84 = .ok (.aload_n 0, 1) := by decide +kernel
theorem dX9_count_85 : decode cX9_count 85 = .ok (.getfield 167, 3) := by decide +kernel
theorem dX9_count_88 : decode cX9_count 88 = .ok (.ireturn, 1) := by decide +kernel
theorem dX9_count_89 : decode cX9_count 89 = .ok (.aload_n 0, 1) := by decide +kernel
theorem dX9_count_90 : decode cX9_count 90 = .ok (.getfield 95, 3) := by decide +kernel
theorem dX9_count_93 : decode cX9_count 93 = .ok (.ireturn, 1) := by decide +kernel
theorem dX9_count_94 : decode cX9_count 94 = .ok (.aload_n 0, 1) := by decide +kernel
theorem dX9_count_95 : decode cX9_count 95 = .ok (.getfield 98, 3) := by decide +kernel
theorem dX9_count_98 : decode cX9_count 98 = .ok (.aload_n 0, 1) := by decide +kernel
theorem dX9_count_99 : decode cX9_count 99 = .ok (.getfield 95, 3) := by decide +kernel
theorem dX9_count_102 : decode cX9_count 102 = .ok (.isub, 1) := by decide +kernel
theorem dX9_count_103 : decode cX9_count 103 = .ok (.ireturn, 1) := by decide +kernel
theorem dX9_count_104 : decode cX9_count 104 = .ok (.aload_n 0, 1) := by decide +kernel
theorem dX9_count_105 : decode cX9_count 105 = .ok (.invokevirtual 125, 3) := by decide +kernel
theorem dX9_count_108 : decode cX9_count 108 = .ok (.ireturn, 1) := by decide +kernel
theorem dX9_count_109 : decode cX9_count 109 = .ok (.aload_n 0, 1) := by decide +kernel
theorem dX9_count_110 : decode cX9_count 110 = .ok (.aload_n 0, 1) := by decide +kernel
theorem dX9_count_111 : decode cX9_count 111 = .ok (.iconst 1, 1) := by decide +kernel
theorem dX9_count_112 : decode cX9_count 112 = .ok (.invokevirtual 105, 3) := by decide +kernel
theorem dX9_count_115 : decode cX9_count 115 = .ok (.iconst (-1), 1) := by decide +kernel
theorem dX9_count_116 : decode cX9_count 116 = .ok (.invokevirtual 132, 3) := by decide +kernel
theorem dX9_count_119 : decode cX9_count 119 = .ok (.ireturn, 1) := by decide +kernel
theorem dX9_count_120 : decode cX9_count 120 = .ok (.iconst (-1), 1) := by decide +kernel
theorem dX9_count_121 : decode cX9_count 121 = .ok (.ireturn, 1) := by decide +kernel
theorem dJ6_bitCount_0f7a4_0 : decode cJ6_bitCount_0f7a4 0 = .ok (.iload_n 0, 1) := by decide +kernel
theorem dJ6_bitCount_0f7a4_1 : decode cJ6_bitCount_0f7a4 1 = .ok (.iload_n 0, 1) := by decide +kernel
theorem dJ6_bitCount_0f7a4_2 : decode cJ6_bitCount_0f7a4 2 = .ok (.iconst 1, 1) := by decide +kernel
theorem dJ6_bitCount_0f7a4_3 : decode cJ6_bitCount_0f7a4 3 = .ok (.iushr, 1) := by decide +kernel
theorem dJ6_bitCount_0f7a4_4 : decode cJ6_bitCount_0f7a4 4 = .ok (.ldc_w 265, 3) := by decide +kernel
theorem dJ6_bitCount_0f7a4_7 : decode cJ6_bitCount_0f7a4 7 = .ok (.iand, 1) := by decide +kernel
theorem dJ6_bitCount_0f7a4_8 : decode cJ6_bitCount_0f7a4 8 = .ok (.isub, 1) := by decide +kernel
theorem dJ6_bitCount_0f7a4_9 : decode cJ6_bitCount_0f7a4 9 = .ok (.istore_n 0, 1) := by decide +kernel
theorem dJ6_bitCount_0f7a4_10 : decode cJ6_bitCount_0f7a4 10 = .ok (.iload_n 0, 1) := by decide +kernel
theorem dJ6_bitCount_0f7a4_11 : decode cJ6_bitCount_0f7a4 11 = .ok (.ldc_w 266, 3) := by decide +kernel
theorem dJ6_bitCount_0f7a4_14 : decode cJ6_bitCount_0f7a4 14 = .ok (.iand, 1) := by decide +kernel
theorem dJ6_bitCount_0f7a4_15 : decode cJ6_bitCount_0f7a4 15 = .ok (.iload_n 0, 1) := by decide +kernel
theorem dJ6_bitCount_0f7a4_16 : decode cJ6_bitCount_0f7a4 16 = .ok (.iconst 2, 1) := by decide +kernel
theorem dJ6_bitCount_0f7a4_17 : decode cJ6_bitCount_0f7a4 17 = .ok (.iushr, 1) := by decide +kernel
theorem dJ6_bitCount_0f7a4_18 : decode cJ6_bitCount_0f7a4 18 = .ok (.ldc_w 266, 3) := by decide +kernel
theorem dJ6_bitCount_0f7a4_21 : decode cJ6_bitCount_0f7a4 21 = .ok (.iand, 1) := by decide +kernel
theorem dJ6_bitCount_0f7a4_22 : decode cJ6_bitCount_0f7a4 22 = .ok (.iadd, 1) := by decide +kernel
theorem dJ6_bitCount_0f7a4_23 : decode cJ6_bitCount_0f7a4 23 = .ok (.istore_n 0, 1) := by decide +kernel
theorem dJ6_bitCount_0f7a4_24 : decode cJ6_bitCount_0f7a4 24 = .ok (.iload_n 0, 1) := by decide +kernel
theorem dJ6_bitCount_0f7a4_25 : decode cJ6_bitCount_0f7a4 25 = .ok (.iload_n 0, 1) := by decide +kernel
theorem dJ6_bitCount_0f7a4_26 : decode cJ6_bitCount_0f7a4 26 = .ok (.iconst 4, 1) := by decide +kernel
theorem dJ6_bitCount_0f7a4_27 : decode cJ6_bitCount_0f7a4 27 = .ok (.iushr, 1) := by decide +kernel
theorem dJ6_bitCount_0f7a4_28 : decode cJ6_bitCount_0f7a4 28 = .ok (.iadd, 1) := by decide +kernel
theorem dJ6_bitCount_0f7a4_29 : decode cJ6_bitCount_0f7a4 29 = .ok (.ldc_w 267, 3) := by decide +kernel
theorem dJ6_bitCount_0f7a4_32 : decode cJ6_bitCount_0f7a4 32 = .ok (.iand, 1) := by decide +kernel
theorem dJ6_bitCount_0f7a4_33 : decode cJ6_bitCount_0f7a4 33 = .ok (.istore_n 0, 1) := by decide +kernel
theorem dJ6_bitCount_0f7a4_34 : decode cJ6_bitCount_0f7a4 34 = .ok (.iload_n 0, 1) := by decide +kernel
theorem dJ6_bitCount_0f7a4_35 : decode cJ6_bitCount_0f7a4 35 = .ok (.iload_n 0, 1) := by decide +kernel
theorem dJ6_bitCount_0f7a4_36 : decode cJ6_bitCount_0f7a4 36 = .ok (.bipush 8, 2) := by decide +kernel
theorem dJ6_bitCount_0f7a4_38 : decode cJ6_bitCount_0f7a4 38 = .ok (.iushr, 1) := by decide +kernel
theorem dJ6_bitCount_0f7a4_39 : decode cJ6_bitCount_0f7a4 39 = .ok (.iadd, 1) := by decide +kernel
theorem dJ6_bitCount_0f7a4_40 : decode cJ6_bitCount_0f7a4 40 = .ok (.istore_n 0, 1) := by decide +kernel
theorem dJ6_bitCount_0f7a4_41 : decode cJ6_bitCount_0f7a4 41 = .ok (.iload_n 0, 1) := by decide +kernel
theorem dJ6_bitCount_0f7a4_42 : decode cJ6_bitCount_0f7a4 42 = .ok (.iload_n 0, 1) := by decide +kernel
theorem dJ6_bitCount_0f7a4_43 : decode cJ6_bitCount_0f7a4 43 = .ok (.bipush 16, 2) := by decide +kernel
theorem dJ6_bitCount_0f7a4_45 : decode cJ6_bitCount_0f7a4 45 = .ok (.iushr, 1) := by decide +kernel
theorem dJ6_bitCount_0f7a4_46 : decode cJ6_bitCount_0f7a4 46 = .ok (.iadd, 1) := by decide +kernel
theorem dJ6_bitCount_0f7a4_47 : decode cJ6_bitCount_0f7a4 47 = .ok (.istore_n 0, 1) := by decide +kernel
theorem dJ6_bitCount_0f7a4_48 : decode cJ6_bitCount_0f7a4 48 = .ok (.iload_n 0, 1) := by decide +kernel
theorem dJ6_bitCount_0f7a4_49 : decode cJ6_bitCount_0f7a4 49 = .ok (.bipush 63, 2) := by decide +kernel
theorem dJ6_bitCount_0f7a4_51 : decode cJ6_bitCount_0f7a4 51 = .ok (.iand, 1) := by decide +kernel
theorem dJ6_bitCount_0f7a4_52 : decode cJ6_bitCount_0f7a4 52 = .ok (.ireturn, 1) := by decide +kernel
theorem dJ7_fill_53178_0 : decode cJ7_fill_53178 0 = .ok (.iconst 0, 1) := by decide +kernel
theorem dJ7_fill_53178_1 : decode cJ7_fill_53178 1 = .ok (.istore_n 2, 1) := by decide +kernel
theorem dJ7_fill_53178_2 : decode cJ7_fill_53178 2 = .ok (.aload_n 0, 1) := by decide +kernel
theorem dJ7_fill_53178_3 : decode cJ7_fill_53178 3 = .ok (.arraylength, 1) := by decide +kernel
theorem dJ7_fill_53178_4 : decode cJ7_fill_53178 4 = .ok (.istore_n 3, 1) := by decide +kernel
theorem dJ7_fill_53178_5 : decode cJ7_fill_53178 5 = .ok (.iload_n 2, 1) := by decide +kernel
theorem dJ7_fill_53178_6 : decode cJ7_fill_53178 6 = .ok (.iload_n 3, 1) := by decide +kernel
theorem dJ7_fill_53178_7 : decode cJ7_fill_53178 7 = .ok (.if_icmp .ge 13, 3) := by decide +kernel
theorem dJ7_fill_53178_10 : decode cJ7_fill_53178 10 = .ok (.aload_n 0, 1) := by decide +kernel
theorem dJ7_fill_53178_11 : decode cJ7_fill_53178 11 = .ok (.iload_n 2, 1) := by decide +kernel
theorem dJ7_fill_53178_12 : decode cJ7_fill_53178 12 = .ok (.iload_n 1, 1) := by decide +kernel
theorem dJ7_fill_53178_13 : decode cJ7_fill_53178 13 = .ok (.iastore, 1) := by decide +kernel
theorem dJ7_fill_53178_14 : decode cJ7_fill_53178 14 = .ok (.iinc 2 1, 3) := by decide +kernel
theorem dJ7_fill_53178_17 : decode cJ7_fill_53178 17 = .ok (.goto (-12), 3) := by decide +kernel
theorem dJ7_fill_53178_20 : decode cJ7_fill_53178 20 = .ok (.return_, 1) := by decide +kernel
theorem dL_law_0 : decode cL_law 0 = .ok (.new 7, 3) := by decide +kernel
theorem dL_law_3 : decode cL_law 3 = .ok (.dup, 1) := by decide +kernel
theorem dL_law_4 : decode cL_law 4 = .ok (.invokespecial 9, 3) := by decide +kernel
theorem dL_law_7 : decode cL_law 7 = .ok (.astore_n 1, 1) := by decide +kernel
theorem dL_law_8 : decode cL_law 8 = .ok (.new 10, 3) := by decide +kernel
theorem dL_law_11 : decode cL_law 11 = .ok (.dup, 1) := by decide +kernel
theorem dL_law_12 : decode cL_law 12 = .ok (.invokespecial 12, 3) := by decide +kernel
theorem dL_law_15 : decode cL_law 15 = .ok (.astore_n 2, 1) := by decide +kernel
theorem dL_law_16 : decode cL_law 16 = .ok (.iconst 0, 1) := by decide +kernel
theorem dL_law_17 : decode cL_law 17 = .ok (.istore_n 3, 1) := by decide +kernel
theorem dL_law_18 : decode cL_law 18 = .ok (.iload_n 3, 1) := by decide +kernel
theorem dL_law_19 : decode cL_law 19 = .ok (.aload_n 0, 1) := by decide +kernel
theorem dL_law_20 : decode cL_law 20 = .ok (.arraylength, 1) := by decide +kernel
theorem dL_law_21 : decode cL_law 21 = .ok (.iconst 5, 1) := by decide +kernel
theorem dL_law_22 : decode cL_law 22 = .ok (.isub, 1) := by decide +kernel
theorem dL_law_23 : decode cL_law 23 = .ok (.if_icmp .gt 1113, 3) := by decide +kernel
theorem dL_law_26 : decode cL_law 26 = .ok (.aload_n 0, 1) := by decide +kernel
theorem dL_law_27 : decode cL_law 27 = .ok (.iload_n 3, 1) := by decide +kernel
theorem dL_law_28 : decode cL_law 28 = .ok (.iaload, 1) := by decide +kernel
theorem dL_law_29 : decode cL_law 29 = .ok (.bipush 63, 2) := by decide +kernel
theorem dL_law_31 : decode cL_law 31 = .ok (.iand, 1) := by decide +kernel
theorem dL_law_32 : decode cL_law 32 = .ok (.tableswitch 1098 0 32 #[148, 191, 224, 257, 290, 313, 326, 359, 382, 395, 418, 441, 474, 507, 530, 563, 596, 629, 652, 705, 718, 741, 764, 797, 830, 903, 937, 990, 1023, 1036, 1049, 1062, 1075], 148) := by decide +kernel
theorem dL_law_180 : decode cL_law 180 = .ok (.aload_n 1, 1) := by decide +kernel
theorem dL_law_181 : decode cL_law 181 = .ok (.aload_n 0, 1) := by decide +kernel
theorem dL_law_182 : decode cL_law 182 = .ok (.iload_n 3, 1) := by decide +kernel
theorem dL_law_183 : decode cL_law 183 = .ok (.iconst 1, 1) := by decide +kernel
theorem dL_law_184 : decode cL_law 184 = .ok (.iadd, 1) := by decide +kernel
theorem dL_law_185 : decode cL_law 185 = .ok (.iaload, 1) := by decide +kernel
theorem dL_law_186 : decode cL_law 186 = .ok (.aload_n 0, 1) := by decide +kernel
theorem dL_law_187 : decode cL_law 187 = .ok (.iload_n 3, 1) := by decide +kernel
theorem dL_law_188 : decode cL_law 188 = .ok (.iconst 2, 1) := by decide +kernel
theorem dL_law_189 : decode cL_law 189 = .ok (.iadd, 1) := by decide +kernel
theorem dL_law_190 : decode cL_law 190 = .ok (.iaload, 1) := by decide +kernel
theorem dL_law_191 : decode cL_law 191 = .ok (.aload_n 0, 1) := by decide +kernel
theorem dL_law_192 : decode cL_law 192 = .ok (.iload_n 3, 1) := by decide +kernel
theorem dL_law_193 : decode cL_law 193 = .ok (.iconst 3, 1) := by decide +kernel
theorem dL_law_194 : decode cL_law 194 = .ok (.iadd, 1) := by decide +kernel
theorem dL_law_195 : decode cL_law 195 = .ok (.iaload, 1) := by decide +kernel
theorem dL_law_196 : decode cL_law 196 = .ok (.invokevirtual 13, 3) := by decide +kernel
theorem dL_law_199 : decode cL_law 199 = .ok (.aload_n 2, 1) := by decide +kernel
theorem dL_law_200 : decode cL_law 200 = .ok (.aload_n 0, 1) := by decide +kernel
theorem dL_law_201 : decode cL_law 201 = .ok (.iload_n 3, 1) := by decide +kernel
theorem dL_law_202 : decode cL_law 202 = .ok (.iconst 1, 1) := by decide +kernel
theorem dL_law_203 : decode cL_law 203 = .ok (.iadd, 1) := by decide +kernel
theorem dL_law_204 : decode cL_law 204 = .ok (.iaload, 1) := by decide +kernel
theorem dL_law_205 : decode cL_law 205 = .ok (.aload_n 0, 1) := by decide +kernel
theorem dL_law_206 : decode cL_law 206 = .ok (.iload_n 3, 1) := by decide +kernel
theorem dL_law_207 : decode cL_law 207 = .ok (.iconst 2, 1) := by decide +kernel
theorem dL_law_208 : decode cL_law 208 = .ok (.iadd, 1) := by decide +kernel
theorem dL_law_209 : decode cL_law 209 = .ok (.iaload, 1) := by decide +kernel
theorem dL_law_210 : decode cL_law 210 = .ok (.aload_n 0, 1) := by decide +kernel
theorem dL_law_211 : decode cL_law 211 = .ok (.iload_n 3, 1) := by decide +kernel
theorem dL_law_212 : decode cL_law 212 = .ok (.iconst 3, 1) := by decide +kernel
theorem dL_law_213 : decode cL_law 213 = .ok (.iadd, 1) := by decide +kernel
theorem dL_law_214 : decode cL_law 214 = .ok (.iaload, 1) := by decide +kernel
theorem dL_law_215 : decode cL_law 215 = .ok (.invokevirtual 17, 3) := by decide +kernel
theorem dL_law_218 : decode cL_law 218 = .ok (.if_icmp .eq 912, 3) := by decide +kernel
theorem dL_law_221 : decode cL_law 221 = .ok (.iconst 0, 1) := by decide +kernel
theorem dL_law_222 : decode cL_law 222 = .ok (.ireturn, 1) := by decide +kernel
theorem dL_law_223 : decode cL_law 223 = .ok (.aload_n 1, 1) := by decide +kernel
theorem dL_law_224 : decode cL_law 224 = .ok (.aload_n 0, 1) := by decide +kernel
theorem dL_law_225 : decode cL_law 225 = .ok (.iload_n 3, 1) := by decide +kernel
theorem dL_law_226 : decode cL_law 226 = .ok (.iconst 1, 1) := by decide +kernel
theorem dL_law_227 : decode cL_law 227 = .ok (.iadd, 1) := by decide +kernel
theorem dL_law_228 : decode cL_law 228 = .ok (.iaload, 1) := by decide +kernel
theorem dL_law_229 : decode cL_law 229 = .ok (.aload_n 0, 1) := by decide +kernel
theorem dL_law_230 : decode cL_law 230 = .ok (.iload_n 3, 1) := by decide +kernel
theorem dL_law_231 : decode cL_law 231 = .ok (.iconst 2, 1) := by decide +kernel
theorem dL_law_232 : decode cL_law 232 = .ok (.iadd, 1) := by decide +kernel
theorem dL_law_233 : decode cL_law 233 = .ok (.iaload, 1) := by decide +kernel
theorem dL_law_234 : decode cL_law 234 = .ok (.invokevirtual 18, 3) := by decide +kernel
theorem dL_law_237 : decode cL_law 237 = .ok (.aload_n 2, 1) := by decide +kernel
theorem dL_law_238 : decode cL_law 238 = .ok (.aload_n 0, 1) := by decide +kernel
theorem dL_law_239 : decode cL_law 239 = .ok (.iload_n 3, 1) := by decide +kernel
theorem dL_law_240 : decode cL_law 240 = .ok (.iconst 1, 1) := by decide +kernel
theorem dL_law_241 : decode cL_law 241 = .ok (.iadd, 1) := by decide +kernel
theorem dL_law_242 : decode cL_law 242 = .ok (.iaload, 1) := by decide +kernel
theorem dL_law_243 : decode cL_law 243 = .ok (.aload_n 0, 1) := by decide +kernel
theorem dL_law_244 : decode cL_law 244 = .ok (.iload_n 3, 1) := by decide +kernel
theorem dL_law_245 : decode cL_law 245 = .ok (.iconst 2, 1) := by decide +kernel
theorem dL_law_246 : decode cL_law 246 = .ok (.iadd, 1) := by decide +kernel
theorem dL_law_247 : decode cL_law 247 = .ok (.iaload, 1) := by decide +kernel
theorem dL_law_248 : decode cL_law 248 = .ok (.invokevirtual 22, 3) := by decide +kernel
theorem dL_law_251 : decode cL_law 251 = .ok (.if_icmp .eq 879, 3) := by decide +kernel
theorem dL_law_254 : decode cL_law 254 = .ok (.iconst 0, 1) := by decide +kernel
theorem dL_law_255 : decode cL_law 255 = .ok (.ireturn, 1) := by decide +kernel
theorem dL_law_256 : decode cL_law 256 = .ok (.aload_n 1, 1) := by decide +kernel
theorem dL_law_257 : decode cL_law 257 = .ok (.aload_n 0, 1) := by decide +kernel
theorem dL_law_258 : decode cL_law 258 = .ok (.iload_n 3, 1) := by decide +kernel
theorem dL_law_259 : decode cL_law 259 = .ok (.iconst 1, 1) := by decide +kernel
theorem dL_law_260 : decode cL_law 260 = .ok (.iadd, 1) := by decide +kernel
theorem dL_law_261 : decode cL_law 261 = .ok (.iaload, 1) := by decide +kernel
theorem dL_law_262 : decode cL_law 262 = .ok (.aload_n 0, 1) := by decide +kernel
theorem dL_law_263 : decode cL_law 263 = .ok (.iload_n 3, 1) := by decide +kernel
theorem dL_law_264 : decode cL_law 264 = .ok (.iconst 2, 1) := by decide +kernel
theorem dL_law_265 : decode cL_law 265 = .ok (.iadd, 1) := by decide +kernel
theorem dL_law_266 : decode cL_law 266 = .ok (.iaload, 1) := by decide +kernel
theorem dL_law_267 : decode cL_law 267 = .ok (.invokevirtual 23, 3) := by decide +kernel
theorem dL_law_270 : decode cL_law 270 = .ok (.aload_n 2, 1) := by decide +kernel
theorem dL_law_271 : decode cL_law 271 = .ok (.aload_n 0, 1) := by decide +kernel
theorem dL_law_272 : decode cL_law 272 = .ok (.iload_n 3, 1) := by decide +kernel
theorem dL_law_273 : decode cL_law 273 = .ok (.iconst 1, 1) := by decide +kernel
theorem dL_law_274 : decode cL_law 274 = .ok (.iadd, 1) := by decide +kernel
theorem dL_law_275 : decode cL_law 275 = .ok (.iaload, 1) := by decide +kernel
theorem dL_law_276 : decode cL_law 276 = .ok (.aload_n 0, 1) := by decide +kernel
theorem dL_law_277 : decode cL_law 277 = .ok (.iload_n 3, 1) := by decide +kernel
theorem dL_law_278 : decode cL_law 278 = .ok (.iconst 2, 1) := by decide +kernel
theorem dL_law_279 : decode cL_law 279 = .ok (.iadd, 1) := by decide +kernel
theorem dL_law_280 : decode cL_law 280 = .ok (.iaload, 1) := by decide +kernel
theorem dL_law_281 : decode cL_law 281 = .ok (.invokevirtual 26, 3) := by decide +kernel
theorem dL_law_284 : decode cL_law 284 = .ok (.if_icmp .eq 846, 3) := by decide +kernel
theorem dL_law_287 : decode cL_law 287 = .ok (.iconst 0, 1) := by decide +kernel
theorem dL_law_288 : decode cL_law 288 = .ok (.ireturn, 1) := by decide +kernel
theorem dL_law_289 : decode cL_law 289 = .ok (.aload_n 1, 1) := by decide +kernel
theorem dL_law_290 : decode cL_law 290 = .ok (.aload_n 0, 1) := by decide +kernel
theorem dL_law_291 : decode cL_law 291 = .ok (.iload_n 3, 1) := by decide +kernel
theorem dL_law_292 : decode cL_law 292 = .ok (.iconst 1, 1) := by decide +kernel
theorem dL_law_293 : decode cL_law 293 = .ok (.iadd, 1) := by decide +kernel
theorem dL_law_294 : decode cL_law 294 = .ok (.iaload, 1) := by decide +kernel
theorem dL_law_295 : decode cL_law 295 = .ok (.aload_n 0, 1) := by decide +kernel
theorem dL_law_296 : decode cL_law 296 = .ok (.iload_n 3, 1) := by decide +kernel
theorem dL_law_297 : decode cL_law 297 = .ok (.iconst 2, 1) := by decide +kernel
theorem dL_law_298 : decode cL_law 298 = .ok (.iadd, 1) := by decide +kernel
theorem dL_law_299 : decode cL_law 299 = .ok (.iaload, 1) := by decide +kernel
theorem dL_law_300 : decode cL_law 300 = .ok (.invokevirtual 27, 3) := by decide +kernel
theorem dL_law_303 : decode cL_law 303 = .ok (.aload_n 2, 1) := by decide +kernel
theorem dL_law_304 : decode cL_law 304 = .ok (.aload_n 0, 1) := by decide +kernel
theorem dL_law_305 : decode cL_law 305 = .ok (.iload_n 3, 1) := by decide +kernel
theorem dL_law_306 : decode cL_law 306 = .ok (.iconst 1, 1) := by decide +kernel
theorem dL_law_307 : decode cL_law 307 = .ok (.iadd, 1) := by decide +kernel
theorem dL_law_308 : decode cL_law 308 = .ok (.iaload, 1) := by decide +kernel
theorem dL_law_309 : decode cL_law 309 = .ok (.aload_n 0, 1) := by decide +kernel
theorem dL_law_310 : decode cL_law 310 = .ok (.iload_n 3, 1) := by decide +kernel
theorem dL_law_311 : decode cL_law 311 = .ok (.iconst 2, 1) := by decide +kernel
theorem dL_law_312 : decode cL_law 312 = .ok (.iadd, 1) := by decide +kernel
theorem dL_law_313 : decode cL_law 313 = .ok (.iaload, 1) := by decide +kernel
theorem dL_law_314 : decode cL_law 314 = .ok (.invokevirtual 30, 3) := by decide +kernel
theorem dL_law_317 : decode cL_law 317 = .ok (.if_icmp .eq 813, 3) := by decide +kernel
theorem dL_law_320 : decode cL_law 320 = .ok (.iconst 0, 1) := by decide +kernel
theorem dL_law_321 : decode cL_law 321 = .ok (.ireturn, 1) := by decide +kernel
theorem dL_law_322 : decode cL_law 322 = .ok (.aload_n 1, 1) := by decide +kernel
theorem dL_law_323 : decode cL_law 323 = .ok (.aload_n 0, 1) := by decide +kernel
theorem dL_law_324 : decode cL_law 324 = .ok (.iload_n 3, 1) := by decide +kernel
theorem dL_law_325 : decode cL_law 325 = .ok (.iconst 1, 1) := by decide +kernel
theorem dL_law_326 : decode cL_law 326 = .ok (.iadd, 1) := by decide +kernel
theorem dL_law_327 : decode cL_law 327 = .ok (.iaload, 1) := by decide +kernel
theorem dL_law_328 : decode cL_law 328 = .ok (.invokevirtual 31, 3) := by decide +kernel
theorem dL_law_331 : decode cL_law 331 = .ok (.aload_n 2, 1) := by decide +kernel
theorem dL_law_332 : decode cL_law 332 = .ok (.aload_n 0, 1) := by decide +kernel
theorem dL_law_333 : decode cL_law 333 = .ok (.iload_n 3, 1) := by decide +kernel
theorem dL_law_334 : decode cL_law 334 = .ok (.iconst 1, 1) := by decide +kernel
theorem dL_law_335 : decode cL_law 335 = .ok (.iadd, 1) := by decide +kernel
theorem dL_law_336 : decode cL_law 336 = .ok (.iaload, 1) := by decide +kernel
theorem dL_law_337 : decode cL_law 337 = .ok (.invokevirtual 35, 3) := by decide +kernel
theorem dL_law_340 : decode cL_law 340 = .ok (.if_icmp .eq 790, 3) := by decide +kernel
theorem dL_law_343 : decode cL_law 343 = .ok (.iconst 0, 1) := by decide +kernel
theorem dL_law_344 : decode cL_law 344 = .ok (.ireturn, 1) := by decide +kernel
theorem dL_law_345 : decode cL_law 345 = .ok (.aload_n 1, 1) := by decide +kernel
theorem dL_law_346 : decode cL_law 346 = .ok (.invokevirtual 36, 3) := by decide +kernel
theorem dL_law_349 : decode cL_law 349 = .ok (.aload_n 2, 1) := by decide +kernel
theorem dL_law_350 : decode cL_law 350 = .ok (.invokevirtual 40, 3) := by decide +kernel
theorem dL_law_353 : decode cL_law 353 = .ok (.if_icmp .eq 777, 3) := by decide +kernel
theorem dL_law_356 : decode cL_law 356 = .ok (.iconst 0, 1) := by decide +kernel
theorem dL_law_357 : decode cL_law 357 = .ok (.ireturn, 1) := by decide +kernel
theorem dL_law_358 : decode cL_law 358 = .ok (.aload_n 1, 1) := by decide +kernel
theorem dL_law_359 : decode cL_law 359 = .ok (.aload_n 0, 1) := by decide +kernel
theorem dL_law_360 : decode cL_law 360 = .ok (.iload_n 3, 1) := by decide +kernel
theorem dL_law_361 : decode cL_law 361 = .ok (.iconst 1, 1) := by decide +kernel
theorem dL_law_362 : decode cL_law 362 = .ok (.iadd, 1) := by decide +kernel
theorem dL_law_363 : decode cL_law 363 = .ok (.iaload, 1) := by decide +kernel
theorem dL_law_364 : decode cL_law 364 = .ok (.aload_n 0, 1) := by decide +kernel
theorem dL_law_365 : decode cL_law 365 = .ok (.iload_n 3, 1) := by decide +kernel
theorem dL_law_366 : decode cL_law 366 = .ok (.iconst 2, 1) := by decide +kernel
theorem dL_law_367 : decode cL_law 367 = .ok (.iadd, 1) := by decide +kernel
theorem dL_law_368 : decode cL_law 368 = .ok (.iaload, 1) := by decide +kernel
theorem dL_law_369 : decode cL_law 369 = .ok (.invokevirtual 41, 3) := by decide +kernel
theorem dL_law_372 : decode cL_law 372 = .ok (.aload_n 2, 1) := by decide +kernel
theorem dL_law_373 : decode cL_law 373 = .ok (.aload_n 0, 1) := by decide +kernel
theorem dL_law_374 : decode cL_law 374 = .ok (.iload_n 3, 1) := by decide +kernel
theorem dL_law_375 : decode cL_law 375 = .ok (.iconst 1, 1) := by decide +kernel
theorem dL_law_376 : decode cL_law 376 = .ok (.iadd, 1) := by decide +kernel
theorem dL_law_377 : decode cL_law 377 = .ok (.iaload, 1) := by decide +kernel
theorem dL_law_378 : decode cL_law 378 = .ok (.aload_n 0, 1) := by decide +kernel
theorem dL_law_379 : decode cL_law 379 = .ok (.iload_n 3, 1) := by decide +kernel
theorem dL_law_380 : decode cL_law 380 = .ok (.iconst 2, 1) := by decide +kernel
theorem dL_law_381 : decode cL_law 381 = .ok (.iadd, 1) := by decide +kernel
theorem dL_law_382 : decode cL_law 382 = .ok (.iaload, 1) := by decide +kernel
theorem dL_law_383 : decode cL_law 383 = .ok (.invokevirtual 44, 3) := by decide +kernel
theorem dL_law_386 : decode cL_law 386 = .ok (.if_icmp .eq 744, 3) := by decide +kernel
theorem dL_law_389 : decode cL_law 389 = .ok (.iconst 0, 1) := by decide +kernel
theorem dL_law_390 : decode cL_law 390 = .ok (.ireturn, 1) := by decide +kernel
theorem dL_law_391 : decode cL_law 391 = .ok (.aload_n 1, 1) := by decide +kernel
theorem dL_law_392 : decode cL_law 392 = .ok (.aload_n 0, 1) := by decide +kernel
theorem dL_law_393 : decode cL_law 393 = .ok (.iload_n 3, 1) := by decide +kernel
theorem dL_law_394 : decode cL_law 394 = .ok (.iconst 1, 1) := by decide +kernel
theorem dL_law_395 : decode cL_law 395 = .ok (.iadd, 1) := by decide +kernel
theorem dL_law_396 : decode cL_law 396 = .ok (.iaload, 1) := by decide +kernel
theorem dL_law_397 : decode cL_law 397 = .ok (.invokevirtual 45, 3) := by decide +kernel
theorem dL_law_400 : decode cL_law 400 = .ok (.aload_n 2, 1) := by decide +kernel
theorem dL_law_401 : decode cL_law 401 = .ok (.aload_n 0, 1) := by decide +kernel
theorem dL_law_402 : decode cL_law 402 = .ok (.iload_n 3, 1) := by decide +kernel
theorem dL_law_403 : decode cL_law 403 = .ok (.iconst 1, 1) := by decide +kernel
theorem dL_law_404 : decode cL_law 404 = .ok (.iadd, 1) := by decide +kernel
theorem dL_law_405 : decode cL_law 405 = .ok (.iaload, 1) := by decide +kernel
theorem dL_law_406 : decode cL_law 406 = .ok (.invokevirtual 48, 3) := by decide +kernel
theorem dL_law_409 : decode cL_law 409 = .ok (.if_icmp .eq 721, 3) := by decide +kernel
theorem dL_law_412 : decode cL_law 412 = .ok (.iconst 0, 1) := by decide +kernel
theorem dL_law_413 : decode cL_law 413 = .ok (.ireturn, 1) := by decide +kernel
theorem dL_law_414 : decode cL_law 414 = .ok (.aload_n 1, 1) := by decide +kernel
theorem dL_law_415 : decode cL_law 415 = .ok (.invokevirtual 49, 3) := by decide +kernel
theorem dL_law_418 : decode cL_law 418 = .ok (.aload_n 2, 1) := by decide +kernel
theorem dL_law_419 : decode cL_law 419 = .ok (.invokevirtual 52, 3) := by decide +kernel
theorem dL_law_422 : decode cL_law 422 = .ok (.if_icmp .eq 708, 3) := by decide +kernel
theorem dL_law_425 : decode cL_law 425 = .ok (.iconst 0, 1) := by decide +kernel
theorem dL_law_426 : decode cL_law 426 = .ok (.ireturn, 1) := by decide +kernel
theorem dL_law_427 : decode cL_law 427 = .ok (.aload_n 1, 1) := by decide +kernel
theorem dL_law_428 : decode cL_law 428 = .ok (.aload_n 0, 1) := by decide +kernel
theorem dL_law_429 : decode cL_law 429 = .ok (.iload_n 3, 1) := by decide +kernel
theorem dL_law_430 : decode cL_law 430 = .ok (.iconst 1, 1) := by decide +kernel
theorem dL_law_431 : decode cL_law 431 = .ok (.iadd, 1) := by decide +kernel
theorem dL_law_432 : decode cL_law 432 = .ok (.iaload, 1) := by decide +kernel
theorem dL_law_433 : decode cL_law 433 = .ok (.invokevirtual 53, 3) := by decide +kernel
theorem dL_law_436 : decode cL_law 436 = .ok (.aload_n 2, 1) := by decide +kernel
theorem dL_law_437 : decode cL_law 437 = .ok (.aload_n 0, 1) := by decide +kernel
theorem dL_law_438 : decode cL_law 438 = .ok (.iload_n 3, 1) := by decide +kernel
theorem dL_law_439 : decode cL_law 439 = .ok (.iconst 1, 1) := by decide +kernel
theorem dL_law_440 : decode cL_law 440 = .ok (.iadd, 1) := by decide +kernel
theorem dL_law_441 : decode cL_law 441 = .ok (.iaload, 1) := by decide +kernel
theorem dL_law_442 : decode cL_law 442 = .ok (.invokevirtual 56, 3) := by decide +kernel
theorem dL_law_445 : decode cL_law 445 = .ok (.if_icmp .eq 685, 3) := by decide +kernel
theorem dL_law_448 : decode cL_law 448 = .ok (.iconst 0, 1) := by decide +kernel
theorem dL_law_449 : decode cL_law 449 = .ok (.ireturn, 1) := by decide +kernel
theorem dL_law_450 : decode cL_law 450 = .ok (.aload_n 1, 1) := by decide +kernel
theorem dL_law_451 : decode cL_law 451 = .ok (.aload_n 0, 1) := by decide +kernel
theorem dL_law_452 : decode cL_law 452 = .ok (.iload_n 3, 1) := by decide +kernel
theorem dL_law_453 : decode cL_law 453 = .ok (.iconst 1, 1) := by decide +kernel
theorem dL_law_454 : decode cL_law 454 = .ok (.iadd, 1) := by decide +kernel
theorem dL_law_455 : decode cL_law 455 = .ok (.iaload, 1) := by decide +kernel
theorem dL_law_456 : decode cL_law 456 = .ok (.invokevirtual 57, 3) := by decide +kernel
theorem dL_law_459 : decode cL_law 459 = .ok (.aload_n 2, 1) := by decide +kernel
theorem dL_law_460 : decode cL_law 460 = .ok (.aload_n 0, 1) := by decide +kernel
theorem dL_law_461 : decode cL_law 461 = .ok (.iload_n 3, 1) := by decide +kernel
theorem dL_law_462 : decode cL_law 462 = .ok (.iconst 1, 1) := by decide +kernel
theorem dL_law_463 : decode cL_law 463 = .ok (.iadd, 1) := by decide +kernel
theorem dL_law_464 : decode cL_law 464 = .ok (.iaload, 1) := by decide +kernel
theorem dL_law_465 : decode cL_law 465 = .ok (.invokevirtual 60, 3) := by decide +kernel
theorem dL_law_468 : decode cL_law 468 = .ok (.if_icmp .eq 662, 3) := by decide +kernel
theorem dL_law_471 : decode cL_law 471 = .ok (.iconst 0, 1) := by decide +kernel
theorem dL_law_472 : decode cL_law 472 = .ok (.ireturn, 1) := by decide +kernel
theorem dL_law_473 : decode cL_law 473 = .ok (.aload_n 1, 1) := by decide +kernel
theorem dL_law_474 : decode cL_law 474 = .ok (.aload_n 0, 1) := by decide +kernel
theorem dL_law_475 : decode cL_law 475 = .ok (.iload_n 3, 1) := by decide +kernel
theorem dL_law_476 : decode cL_law 476 = .ok (.iconst 1, 1) := by decide +kernel
theorem dL_law_477 : decode cL_law 477 = .ok (.iadd, 1) := by decide +kernel
theorem dL_law_478 : decode cL_law 478 = .ok (.iaload, 1) := by decide +kernel
theorem dL_law_479 : decode cL_law 479 = .ok (.aload_n 0, 1) := by decide +kernel
theorem dL_law_480 : decode cL_law 480 = .ok (.iload_n 3, 1) := by decide +kernel
theorem dL_law_481 : decode cL_law 481 = .ok (.iconst 2, 1) := by decide +kernel
theorem dL_law_482 : decode cL_law 482 = .ok (.iadd, 1) := by decide +kernel
theorem dL_law_483 : decode cL_law 483 = .ok (.iaload, 1) := by decide +kernel
theorem dL_law_484 : decode cL_law 484 = .ok (.invokevirtual 61, 3) := by decide +kernel
theorem dL_law_487 : decode cL_law 487 = .ok (.aload_n 2, 1) := by decide +kernel
theorem dL_law_488 : decode cL_law 488 = .ok (.aload_n 0, 1) := by decide +kernel
theorem dL_law_489 : decode cL_law 489 = .ok (.iload_n 3, 1) := by decide +kernel
theorem dL_law_490 : decode cL_law 490 = .ok (.iconst 1, 1) := by decide +kernel
theorem dL_law_491 : decode cL_law 491 = .ok (.iadd, 1) := by decide +kernel
theorem dL_law_492 : decode cL_law 492 = .ok (.iaload, 1) := by decide +kernel
theorem dL_law_493 : decode cL_law 493 = .ok (.aload_n 0, 1) := by decide +kernel
theorem dL_law_494 : decode cL_law 494 = .ok (.iload_n 3, 1) := by decide +kernel
theorem dL_law_495 : decode cL_law 495 = .ok (.iconst 2, 1) := by decide +kernel
theorem dL_law_496 : decode cL_law 496 = .ok (.iadd, 1) := by decide +kernel
theorem dL_law_497 : decode cL_law 497 = .ok (.iaload, 1) := by decide +kernel
theorem dL_law_498 : decode cL_law 498 = .ok (.invokevirtual 64, 3) := by decide +kernel
theorem dL_law_501 : decode cL_law 501 = .ok (.if_icmp .eq 629, 3) := by decide +kernel
theorem dL_law_504 : decode cL_law 504 = .ok (.iconst 0, 1) := by decide +kernel
theorem dL_law_505 : decode cL_law 505 = .ok (.ireturn, 1) := by decide +kernel
theorem dL_law_506 : decode cL_law 506 = .ok (.aload_n 1, 1) := by decide +kernel
theorem dL_law_507 : decode cL_law 507 = .ok (.aload_n 0, 1) := by decide +kernel
theorem dL_law_508 : decode cL_law 508 = .ok (.iload_n 3, 1) := by decide +kernel
theorem dL_law_509 : decode cL_law 509 = .ok (.iconst 1, 1) := by decide +kernel
theorem dL_law_510 : decode cL_law 510 = .ok (.iadd, 1) := by decide +kernel
theorem dL_law_511 : decode cL_law 511 = .ok (.iaload, 1) := by decide +kernel
theorem dL_law_512 : decode cL_law 512 = .ok (.aload_n 0, 1) := by decide +kernel
theorem dL_law_513 : decode cL_law 513 = .ok (.iload_n 3, 1) := by decide +kernel
theorem dL_law_514 : decode cL_law 514 = .ok (.iconst 2, 1) := by decide +kernel
theorem dL_law_515 : decode cL_law 515 = .ok (.iadd, 1) := by decide +kernel
theorem dL_law_516 : decode cL_law 516 = .ok (.iaload, 1) := by decide +kernel
theorem dL_law_517 : decode cL_law 517 = .ok (.invokevirtual 65, 3) := by decide +kernel
theorem dL_law_520 : decode cL_law 520 = .ok (.aload_n 2, 1) := by decide +kernel
theorem dL_law_521 : decode cL_law 521 = .ok (.aload_n 0, 1) := by decide +kernel
theorem dL_law_522 : decode cL_law 522 = .ok (.iload_n 3, 1) := by decide +kernel
theorem dL_law_523 : decode cL_law 523 = .ok (.iconst 1, 1) := by decide +kernel
theorem dL_law_524 : decode cL_law 524 = .ok (.iadd, 1) := by decide +kernel
theorem dL_law_525 : decode cL_law 525 = .ok (.iaload, 1) := by decide +kernel
theorem dL_law_526 : decode cL_law 526 = .ok (.aload_n 0, 1) := by decide +kernel
theorem dL_law_527 : decode cL_law 527 = .ok (.iload_n 3, 1) := by decide +kernel
theorem dL_law_528 : decode cL_law 528 = .ok (.iconst 2, 1) := by decide +kernel
theorem dL_law_529 : decode cL_law 529 = .ok (.iadd, 1) := by decide +kernel
theorem dL_law_530 : decode cL_law 530 = .ok (.iaload, 1) := by decide +kernel
theorem dL_law_531 : decode cL_law 531 = .ok (.invokevirtual 68, 3) := by decide +kernel
theorem dL_law_534 : decode cL_law 534 = .ok (.if_icmp .eq 596, 3) := by decide +kernel
theorem dL_law_537 : decode cL_law 537 = .ok (.iconst 0, 1) := by decide +kernel
theorem dL_law_538 : decode cL_law 538 = .ok (.ireturn, 1) := by decide +kernel
theorem dL_law_539 : decode cL_law 539 = .ok (.aload_n 1, 1) := by decide +kernel
theorem dL_law_540 : decode cL_law 540 = .ok (.aload_n 0, 1) := by decide +kernel
theorem dL_law_541 : decode cL_law 541 = .ok (.iload_n 3, 1) := by decide +kernel
theorem dL_law_542 : decode cL_law 542 = .ok (.iconst 1, 1) := by decide +kernel
theorem dL_law_543 : decode cL_law 543 = .ok (.iadd, 1) := by decide +kernel
theorem dL_law_544 : decode cL_law 544 = .ok (.iaload, 1) := by decide +kernel
theorem dL_law_545 : decode cL_law 545 = .ok (.invokevirtual 69, 3) := by decide +kernel
theorem dL_law_548 : decode cL_law 548 = .ok (.aload_n 2, 1) := by decide +kernel
theorem dL_law_549 : decode cL_law 549 = .ok (.aload_n 0, 1) := by decide +kernel
theorem dL_law_550 : decode cL_law 550 = .ok (.iload_n 3, 1) := by decide +kernel
theorem dL_law_551 : decode cL_law 551 = .ok (.iconst 1, 1) := by decide +kernel
theorem dL_law_552 : decode cL_law 552 = .ok (.iadd, 1) := by decide +kernel
theorem dL_law_553 : decode cL_law 553 = .ok (.iaload, 1) := by decide +kernel
theorem dL_law_554 : decode cL_law 554 = .ok (.invokevirtual 72, 3) := by decide +kernel
theorem dL_law_557 : decode cL_law 557 = .ok (.if_icmp .eq 573, 3) := by decide +kernel
theorem dL_law_560 : decode cL_law 560 = .ok (.iconst 0, 1) := by decide +kernel
theorem dL_law_561 : decode cL_law 561 = .ok (.ireturn, 1) := by decide +kernel
theorem dL_law_562 : decode cL_law 562 = .ok (.aload_n 1, 1) := by decide +kernel
theorem dL_law_563 : decode cL_law 563 = .ok (.aload_n 0, 1) := by decide +kernel
theorem dL_law_564 : decode cL_law 564 = .ok (.iload_n 3, 1) := by decide +kernel
theorem dL_law_565 : decode cL_law 565 = .ok (.iconst 1, 1) := by decide +kernel
theorem dL_law_566 : decode cL_law 566 = .ok (.iadd, 1) := by decide +kernel
theorem dL_law_567 : decode cL_law 567 = .ok (.iaload, 1) := by decide +kernel
theorem dL_law_568 : decode cL_law 568 = .ok (.aload_n 0, 1) := by decide +kernel
theorem dL_law_569 : decode cL_law 569 = .ok (.iload_n 3, 1) := by decide +kernel
theorem dL_law_570 : decode cL_law 570 = .ok (.iconst 2, 1) := by decide +kernel
theorem dL_law_571 : decode cL_law 571 = .ok (.iadd, 1) := by decide +kernel
theorem dL_law_572 : decode cL_law 572 = .ok (.iaload, 1) := by decide +kernel
theorem dL_law_573 : decode cL_law 573 = .ok (.invokevirtual 73, 3) := by decide +kernel
theorem dL_law_576 : decode cL_law 576 = .ok (.aload_n 2, 1) := by decide +kernel
theorem dL_law_577 : decode cL_law 577 = .ok (.aload_n 0, 1) := by decide +kernel
theorem dL_law_578 : decode cL_law 578 = .ok (.iload_n 3, 1) := by decide +kernel
theorem dL_law_579 : decode cL_law 579 = .ok (.iconst 1, 1) := by decide +kernel
theorem dL_law_580 : decode cL_law 580 = .ok (.iadd, 1) := by decide +kernel
theorem dL_law_581 : decode cL_law 581 = .ok (.iaload, 1) := by decide +kernel
theorem dL_law_582 : decode cL_law 582 = .ok (.aload_n 0, 1) := by decide +kernel
theorem dL_law_583 : decode cL_law 583 = .ok (.iload_n 3, 1) := by decide +kernel
theorem dL_law_584 : decode cL_law 584 = .ok (.iconst 2, 1) := by decide +kernel
theorem dL_law_585 : decode cL_law 585 = .ok (.iadd, 1) := by decide +kernel
theorem dL_law_586 : decode cL_law 586 = .ok (.iaload, 1) := by decide +kernel
theorem dL_law_587 : decode cL_law 587 = .ok (.invokevirtual 76, 3) := by decide +kernel
theorem dL_law_590 : decode cL_law 590 = .ok (.if_icmp .eq 540, 3) := by decide +kernel
theorem dL_law_593 : decode cL_law 593 = .ok (.iconst 0, 1) := by decide +kernel
theorem dL_law_594 : decode cL_law 594 = .ok (.ireturn, 1) := by decide +kernel
theorem dL_law_595 : decode cL_law 595 = .ok (.aload_n 1, 1) := by decide +kernel
theorem dL_law_596 : decode cL_law 596 = .ok (.aload_n 0, 1) := by decide +kernel
theorem dL_law_597 : decode cL_law 597 = .ok (.iload_n 3, 1) := by decide +kernel
theorem dL_law_598 : decode cL_law 598 = .ok (.iconst 1, 1) := by decide +kernel
theorem dL_law_599 : decode cL_law 599 = .ok (.iadd, 1) := by decide +kernel
theorem dL_law_600 : decode cL_law 600 = .ok (.iaload, 1) := by decide +kernel
theorem dL_law_601 : decode cL_law 601 = .ok (.aload_n 0, 1) := by decide +kernel
theorem dL_law_602 : decode cL_law 602 = .ok (.iload_n 3, 1) := by decide +kernel
theorem dL_law_603 : decode cL_law 603 = .ok (.iconst 2, 1) := by decide +kernel
theorem dL_law_604 : decode cL_law 604 = .ok (.iadd, 1) := by decide +kernel
theorem dL_law_605 : decode cL_law 605 = .ok (.iaload, 1) := by decide +kernel
theorem dL_law_606 : decode cL_law 606 = .ok (.invokevirtual 77, 3) := by decide +kernel
theorem dL_law_609 : decode cL_law 609 = .ok (.aload_n 2, 1) := by decide +kernel
theorem dL_law_610 : decode cL_law 610 = .ok (.aload_n 0, 1) := by decide +kernel
theorem dL_law_611 : decode cL_law 611 = .ok (.iload_n 3, 1) := by decide +kernel
theorem dL_law_612 : decode cL_law 612 = .ok (.iconst 1, 1) := by decide +kernel
theorem dL_law_613 : decode cL_law 613 = .ok (.iadd, 1) := by decide +kernel
theorem dL_law_614 : decode cL_law 614 = .ok (.iaload, 1) := by decide +kernel
theorem dL_law_615 : decode cL_law 615 = .ok (.aload_n 0, 1) := by decide +kernel
theorem dL_law_616 : decode cL_law 616 = .ok (.iload_n 3, 1) := by decide +kernel
theorem dL_law_617 : decode cL_law 617 = .ok (.iconst 2, 1) := by decide +kernel
theorem dL_law_618 : decode cL_law 618 = .ok (.iadd, 1) := by decide +kernel
theorem dL_law_619 : decode cL_law 619 = .ok (.iaload, 1) := by decide +kernel
theorem dL_law_620 : decode cL_law 620 = .ok (.invokevirtual 80, 3) := by decide +kernel
theorem dL_law_623 : decode cL_law 623 = .ok (.if_icmp .eq 507, 3) := by decide +kernel
theorem dL_law_626 : decode cL_law 626 = .ok (.iconst 0, 1) := by decide +kernel
theorem dL_law_627 : decode cL_law 627 = .ok (.ireturn, 1) := by decide +kernel
theorem dL_law_628 : decode cL_law 628 = .ok (.aload_n 1, 1) := by decide +kernel
theorem dL_law_629 : decode cL_law 629 = .ok (.aload_n 0, 1) := by decide +kernel
theorem dL_law_630 : decode cL_law 630 = .ok (.iload_n 3, 1) := by decide +kernel
theorem dL_law_631 : decode cL_law 631 = .ok (.iconst 1, 1) := by decide +kernel
theorem dL_law_632 : decode cL_law 632 = .ok (.iadd, 1) := by decide +kernel
theorem dL_law_633 : decode cL_law 633 = .ok (.iaload, 1) := by decide +kernel
theorem dL_law_634 : decode cL_law 634 = .ok (.aload_n 0, 1) := by decide +kernel
theorem dL_law_635 : decode cL_law 635 = .ok (.iload_n 3, 1) := by decide +kernel
theorem dL_law_636 : decode cL_law 636 = .ok (.iconst 2, 1) := by decide +kernel
theorem dL_law_637 : decode cL_law 637 = .ok (.iadd, 1) := by decide +kernel
theorem dL_law_638 : decode cL_law 638 = .ok (.iaload, 1) := by decide +kernel
theorem dL_law_639 : decode cL_law 639 = .ok (.invokevirtual 81, 3) := by decide +kernel
theorem dL_law_642 : decode cL_law 642 = .ok (.aload_n 2, 1) := by decide +kernel
theorem dL_law_643 : decode cL_law 643 = .ok (.aload_n 0, 1) := by decide +kernel
theorem dL_law_644 : decode cL_law 644 = .ok (.iload_n 3, 1) := by decide +kernel
theorem dL_law_645 : decode cL_law 645 = .ok (.iconst 1, 1) := by decide +kernel
theorem dL_law_646 : decode cL_law 646 = .ok (.iadd, 1) := by decide +kernel
theorem dL_law_647 : decode cL_law 647 = .ok (.iaload, 1) := by decide +kernel
theorem dL_law_648 : decode cL_law 648 = .ok (.aload_n 0, 1) := by decide +kernel
theorem dL_law_649 : decode cL_law 649 = .ok (.iload_n 3, 1) := by decide +kernel
theorem dL_law_650 : decode cL_law 650 = .ok (.iconst 2, 1) := by decide +kernel
theorem dL_law_651 : decode cL_law 651 = .ok (.iadd, 1) := by decide +kernel
theorem dL_law_652 : decode cL_law 652 = .ok (.iaload, 1) := by decide +kernel
theorem dL_law_653 : decode cL_law 653 = .ok (.invokevirtual 84, 3) := by decide +kernel
theorem dL_law_656 : decode cL_law 656 = .ok (.if_icmp .eq 474, 3) := by decide +kernel
theorem dL_law_659 : decode cL_law 659 = .ok (.iconst 0, 1) := by decide +kernel
theorem dL_law_660 : decode cL_law 660 = .ok (.ireturn, 1) := by decide +kernel
theorem dL_law_661 : decode cL_law 661 = .ok (.aload_n 1, 1) := by decide +kernel
theorem dL_law_662 : decode cL_law 662 = .ok (.aload_n 0, 1) := by decide +kernel
theorem dL_law_663 : decode cL_law 663 = .ok (.iload_n 3, 1) := by decide +kernel
