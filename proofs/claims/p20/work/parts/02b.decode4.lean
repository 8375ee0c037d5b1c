theorem dX12_goesThrough_53 : decode cX12_goesThrough 53 = .ok (.iconst 0, 1) := by decide +kernel
theorem dX12_goesThrough_54 : decode cX12_goesThrough 54 = .ok (.putfield 105, 3) := by decide +kernel
theorem dX12_goesThrough_57 : decode cX12_goesThrough 57 = .ok (.aload_n 0, 1) := by decide +kernel
theorem dX12_goesThrough_58 : decode cX12_goesThrough 58 = .ok (.getfield 105, 3) := by decide +kernel
theorem dX12_goesThrough_61 : decode cX12_goesThrough 61 = .ok (.ifCond .ne 11, 3) := by decide +kernel
theorem dX12_goesThrough_64 : decode cX12_goesThrough 64 = .ok (.aload_n 0, 1) := by decide +kernel
theorem dX12_goesThrough_65 : decode cX12_goesThrough 65 = .ok (.iload_n 2, 1) := by decide +kernel
theorem dX12_goesThrough_66 : decode cX12_goesThrough 66 = .ok (.invokevirtual 154, 3) := by decide +kernel
theorem dX12_goesThrough_69 : decode cX12_goesThrough 69 = .ok (.iinc 2 1, 3) := by decide +kernel
theorem dX12_goesThrough_72 : decode cX12_goesThrough 72 = .ok (.aload_n 0, 1) := by decide +kernel
theorem dX12_goesThrough_73 : decode cX12_goesThrough 73 = .ok (.getfield 105, 3) := by decide +kernel
theorem dX12_goesThrough_76 : decode cX12_goesThrough 76 = .ok (.ifCond .eq 7, 3) := by decide +kernel
theorem dX12_goesThrough_79 : decode cX12_goesThrough 79 = .ok (.iload_n 3, 1) := by decide +kernel
theorem dX12_goesThrough_80 : decode cX12_goesThrough 80 = .ok (.goto 7, 3) := by decide +kernel
theorem dX12_goesThrough_83 : decode cX12_goesThrough 83 = .ok (.aload_n 0, 1) := by decide +kernel
theorem dX12_goesThrough_84 : decode cX12_goesThrough 84 = .ok (.invokevirtual 109, 3) := by decide +kernel
theorem dX12_goesThrough_87 : decode cX12_goesThrough 87 = .ok (.istore_n 3, 1) := by decide +kernel
theorem dX12_goesThrough_88 : decode cX12_goesThrough 88 = .ok (.goto (-56), 3) := by decide +kernel
theorem dX12_goesThrough_91 : decode cX12_goesThrough 91 = .ok (.aload_n 0, 1) := by decide +kernel
theorem dX12_goesThrough_92 : decode cX12_goesThrough 92 = .ok (.aload_n 0, 1) := by decide +kernel
theorem dX12_goesThrough_93 : decode cX12_goesThrough 93 = .ok (.getfield 105, 3) := by decide +kernel
theorem dX12_goesThrough_96 : decode cX12_goesThrough 96 = .ok (.ifCond .ne 7, 3) := by decide +kernel
theorem dX12_goesThrough_99 : decode cX12_goesThrough 99 = .ok (.iload_n 2, 1) := by decide +kernel
theorem dX12_goesThrough_100 : decode cX12_goesThrough 100 = .ok (.ifCond .ne 7, 3) := by decide +kernel
theorem dX12_goesThrough_103 : decode cX12_goesThrough 103 = .ok (.iconst 1, 1) := by decide +kernel
theorem dX12_goesThrough_104 : decode cX12_goesThrough 104 = .ok (.goto 4, 3) := by decide +kernel
theorem dX12_goesThrough_107 : decode cX12_goesThrough 107 = .ok (.iconst 0, 1) := by decide +kernel
theorem dX12_goesThrough_108 : decode cX12_goesThrough 108 = .ok (.putfield 105, 3) := by decide +kernel
theorem dX12_goesThrough_111 : decode cX12_goesThrough 111 = .ok (.iload_n 2, 1) := by decide +kernel
theorem dX12_goesThrough_112 : decode cX12_goesThrough 112 = .ok (.ireturn, 1) := by decide +kernel
theorem dX12_read_0 : decode cX12_read 0 = .ok (.aload_n 0, 1) := by decide +kernel
theorem dX12_read_1 : decode cX12_read 1 = .ok (.iconst 0, 1) := by decide +kernel
theorem dX12_read_2 : decode cX12_read 2 = .ok (.invokevirtual 158, 3) := by decide +kernel
theorem dX12_read_5 : decode cX12_read 5 = .ok (.pop, 1) := by decide +kernel
theorem dX12_read_6 : decode cX12_read 6 = .ok (.aload_n 0, 1) := by decide +kernel
theorem dX12_read_7 : decode cX12_read 7 = .ok (.getfield 105, 3) := by decide +kernel
theorem dX12_read_10 : decode cX12_read 10 = .ok (.ifCond .eq 13, 3) := by decide +kernel
theorem dX12_read_13 : decode cX12_read 13 = .ok (.bipush (-10), 2) := by decide +kernel
theorem dX12_read_15 : decode cX12_read 15 = .ok (.aload_n 0, 1) := by decide +kernel
theorem dX12_read_16 : decode cX12_read 16 = .ok (.getfield 85, 3) := by decide +kernel
theorem dX12_read_19 : decode cX12_read 19 = .ok (.isub, 1) := by decide +kernel
theorem dX12_read_20 : decode cX12_read 20 = .ok (.goto 8, 3) := by decide +kernel
theorem dX12_read_23 : decode cX12_read 23 = .ok (.aload_n 0, 1) := by decide +kernel
theorem dX12_read_24 : decode cX12_read 24 = .ok (.iconst 1, 1) := by decide +kernel
theorem dX12_read_25 : decode cX12_read 25 = .ok (.invokevirtual 158, 3) := by decide +kernel
theorem dX12_read_28 : decode cX12_read 28 = .ok (.ireturn, 1) := by decide +kernel
theorem dX12_flash_0 : decode cX12_flash 0 = .ok (.aload_n 0, 1) := by decide +kernel
theorem dX12_flash_1 : decode cX12_flash 1 = .ok (.getfield 7, 3) := by decide +kernel
theorem dX12_flash_4 : decode cX12_flash 4 = .ok (.iload_n 1, 1) := by decide +kernel
theorem dX12_flash_5 : decode cX12_flash 5 = .ok (.iconst 1, 1) := by decide +kernel
theorem dX12_flash_6 : decode cX12_flash 6 = .ok (.iadd, 1) := by decide +kernel
theorem dX12_flash_7 : decode cX12_flash 7 = .ok (.dup2, 1) := by decide +kernel
theorem dX12_flash_8 : decode cX12_flash 8 = .ok (.iaload, 1) := by decide +kernel
theorem dX12_flash_9 : decode cX12_flash 9 = .ok (.iconst 1, 1) := by decide +kernel
theorem dX12_flash_10 : decode cX12_flash 10 = .ok (.iadd, 1) := by decide +kernel
theorem dX12_flash_11 : decode cX12_flash 11 = .ok (.iastore, 1) := by decide +kernel
theorem dX12_flash_12 : decode cX12_flash 12 = .ok (.aload_n 0, 1) := by decide +kernel
theorem dX12_flash_13 : decode cX12_flash 13 = .ok (.getfield 7, 3) := by decide +kernel
theorem dX12_flash_16 : decode cX12_flash 16 = .ok (.iload_n 1, 1) := by decide +kernel
theorem dX12_flash_17 : decode cX12_flash 17 = .ok (.iconst 0, 1) := by decide +kernel
theorem dX12_flash_18 : decode cX12_flash 18 = .ok (.iadd, 1) := by decide +kernel
theorem dX12_flash_19 : decode cX12_flash 19 = .ok (.aload_n 0, 1) := by decide +kernel
theorem dX12_flash_20 : decode cX12_flash 20 = .ok (.getfield 7, 3) := by decide +kernel
theorem dX12_flash_23 : decode cX12_flash 23 = .ok (.iload_n 1, 1) := by decide +kernel
theorem dX12_flash_24 : decode cX12_flash 24 = .ok (.iconst 0, 1) := by decide +kernel
theorem dX12_flash_25 : decode cX12_flash 25 = .ok (.iadd, 1) := by decide +kernel
theorem dX12_flash_26 : decode cX12_flash 26 = .ok (.iaload, 1) := by decide +kernel
theorem dX12_flash_27 : decode cX12_flash 27 = .ok (.aload_n 0, 1) := by decide +kernel
theorem dX12_flash_28 : decode cX12_flash 28 = .ok (.getfield 13, 3) := by decide +kernel
theorem dX12_flash_31 : decode cX12_flash 31 = .ok (.iconst 1, 1) := by decide +kernel
theorem dX12_flash_32 : decode cX12_flash 32 = .ok (.iaload, 1) := by decide +kernel
theorem dX12_flash_33 : decode cX12_flash 33 = .ok (.iload_n 2, 1) := by decide +kernel
theorem dX12_flash_34 : decode cX12_flash 34 = .ok (.aload_n 0, 1) := by decide +kernel
theorem dX12_flash_35 : decode cX12_flash 35 = .ok (.getfield 7, 3) := by decide +kernel
theorem dX12_flash_38 : decode cX12_flash 38 = .ok (.iload_n 1, 1) := by decide +kernel
theorem dX12_flash_39 : decode cX12_flash 39 = .ok (.iconst 1, 1) := by decide +kernel
theorem dX12_flash_40 : decode cX12_flash 40 = .ok (.iadd, 1) := by decide +kernel
theorem dX12_flash_41 : decode cX12_flash 41 = .ok (.iaload, 1) := by decide +kernel
theorem dX12_flash_42 : decode cX12_flash 42 = .ok (.invokestatic 162, 3) := by decide +kernel
theorem dX12_flash_45 : decode cX12_flash 45 = .ok (.iadd, 1) := by decide +kernel
theorem dX12_flash_46 : decode cX12_flash 46 = .ok (.aload_n 0, 1) := by decide +kernel
theorem dX12_flash_47 : decode cX12_flash 47 = .ok (.getfield 13, 3) := by decide +kernel
theorem dX12_flash_50 : decode cX12_flash 50 = .ok (.iconst 0, 1) := by decide +kernel
theorem dX12_flash_51 : decode cX12_flash 51 = .ok (.iaload, 1) := by decide +kernel
theorem dX12_flash_52 : decode cX12_flash 52 = .ok (.irem, 1) := by decide +kernel
theorem dX12_flash_53 : decode cX12_flash 53 = .ok (.iastore, 1) := by decide +kernel
theorem dX12_flash_54 : decode cX12_flash 54 = .ok (.iconst 0, 1) := by decide +kernel
theorem dX12_flash_55 : decode cX12_flash 55 = .ok (.istore 4, 2) := by decide +kernel
theorem dX12_flash_57 : decode cX12_flash 57 = .ok (.iload 4, 2) := by decide +kernel
theorem dX12_flash_59 : decode cX12_flash 59 = .ok (.aload_n 0, 1) := by decide +kernel
theorem dX12_flash_60 : decode cX12_flash 60 = .ok (.getfield 13, 3) := by decide +kernel
theorem dX12_flash_63 : decode cX12_flash 63 = .ok (.iconst 2, 1) := by decide +kernel
theorem dX12_flash_64 : decode cX12_flash 64 = .ok (.iaload, 1) := by decide +kernel
theorem dX12_flash_65 : decode cX12_flash 65 = .ok (.if_icmp .ge 144, 3) := by decide +kernel
theorem dX12_flash_68 : decode cX12_flash 68 = .ok (.iload_n 3, 1) := by decide +kernel
theorem dX12_flash_69 : decode cX12_flash 69 = .ok (.ifCond .eq 140, 3) := by decide +kernel
theorem dX12_flash_72 : decode cX12_flash 72 = .ok (.aload_n 0, 1) := by decide +kernel
theorem dX12_flash_73 : decode cX12_flash 73 = .ok (.getfield 13, 3) := by decide +kernel
theorem dX12_flash_76 : decode cX12_flash 76 = .ok (.iconst 3, 1) := by decide +kernel
theorem dX12_flash_77 : decode cX12_flash 77 = .ok (.iload 4, 2) := by decide +kernel
theorem dX12_flash_79 : decode cX12_flash 79 = .ok (.iadd, 1) := by decide +kernel
theorem dX12_flash_80 : decode cX12_flash 80 = .ok (.iaload, 1) := by decide +kernel
theorem dX12_flash_81 : decode cX12_flash 81 = .ok (.aload_n 0, 1) := by decide +kernel
theorem dX12_flash_82 : decode cX12_flash 82 = .ok (.getfield 7, 3) := by decide +kernel
theorem dX12_flash_85 : decode cX12_flash 85 = .ok (.iload_n 1, 1) := by decide +kernel
theorem dX12_flash_86 : decode cX12_flash 86 = .ok (.iconst 3, 1) := by decide +kernel
theorem dX12_flash_87 : decode cX12_flash 87 = .ok (.iadd, 1) := by decide +kernel
theorem dX12_flash_88 : decode cX12_flash 88 = .ok (.aload_n 0, 1) := by decide +kernel
theorem dX12_flash_89 : decode cX12_flash 89 = .ok (.getfield 7, 3) := by decide +kernel
theorem dX12_flash_92 : decode cX12_flash 92 = .ok (.iload_n 1, 1) := by decide +kernel
theorem dX12_flash_93 : decode cX12_flash 93 = .ok (.iconst 0, 1) := by decide +kernel
theorem dX12_flash_94 : decode cX12_flash 94 = .ok (.iadd, 1) := by decide +kernel
theorem dX12_flash_95 : decode cX12_flash 95 = .ok (.iaload, 1) := by decide +kernel
theorem dX12_flash_96 : decode cX12_flash 96 = .ok (.iadd, 1) := by decide +kernel
theorem dX12_flash_97 : decode cX12_flash 97 = .ok (.iaload, 1) := by decide +kernel
theorem dX12_flash_98 : decode cX12_flash 98 = .ok (.aload_n 0, 1) := by decide +kernel
theorem dX12_flash_99 : decode cX12_flash 99 = .ok (.getfield 7, 3) := by decide +kernel
theorem dX12_flash_102 : decode cX12_flash 102 = .ok (.iload_n 1, 1) := by decide +kernel
theorem dX12_flash_103 : decode cX12_flash 103 = .ok (.bipush 15, 2) := by decide +kernel
theorem dX12_flash_105 : decode cX12_flash 105 = .ok (.iadd, 1) := by decide +kernel
theorem dX12_flash_106 : decode cX12_flash 106 = .ok (.iload 4, 2) := by decide +kernel
theorem dX12_flash_108 : decode cX12_flash 108 = .ok (.iadd, 1) := by decide +kernel
theorem dX12_flash_109 : decode cX12_flash 109 = .ok (.iaload, 1) := by decide +kernel
theorem dX12_flash_110 : decode cX12_flash 110 = .ok (.invokestatic 166, 3) := by decide +kernel
theorem dX12_flash_113 : decode cX12_flash 113 = .ok (.istore 5, 2) := by decide +kernel
theorem dX12_flash_115 : decode cX12_flash 115 = .ok (.iload 5, 2) := by decide +kernel
theorem dX12_flash_117 : decode cX12_flash 117 = .ok (.aload_n 0, 1) := by decide +kernel
theorem dX12_flash_118 : decode cX12_flash 118 = .ok (.getfield 7, 3) := by decide +kernel
theorem dX12_flash_121 : decode cX12_flash 121 = .ok (.iload_n 1, 1) := by decide +kernel
theorem dX12_flash_122 : decode cX12_flash 122 = .ok (.bipush 15, 2) := by decide +kernel
theorem dX12_flash_124 : decode cX12_flash 124 = .ok (.iadd, 1) := by decide +kernel
theorem dX12_flash_125 : decode cX12_flash 125 = .ok (.iload 4, 2) := by decide +kernel
theorem dX12_flash_127 : decode cX12_flash 127 = .ok (.iadd, 1) := by decide +kernel
theorem dX12_flash_128 : decode cX12_flash 128 = .ok (.iaload, 1) := by decide +kernel
theorem dX12_flash_129 : decode cX12_flash 129 = .ok (.if_icmp .eq 32, 3) := by decide +kernel
theorem dX12_flash_132 : decode cX12_flash 132 = .ok (.iload_n 1, 1) := by decide +kernel
theorem dX12_flash_133 : decode cX12_flash 133 = .ok (.sipush 675, 3) := by decide +kernel
theorem dX12_flash_136 : decode cX12_flash 136 = .ok (.if_icmp .eq 21, 3) := by decide +kernel
theorem dX12_flash_139 : decode cX12_flash 139 = .ok (.aload_n 0, 1) := by decide +kernel
theorem dX12_flash_140 : decode cX12_flash 140 = .ok (.getfield 7, 3) := by decide +kernel
theorem dX12_flash_143 : decode cX12_flash 143 = .ok (.iload_n 1, 1) := by decide +kernel
theorem dX12_flash_144 : decode cX12_flash 144 = .ok (.bipush 20, 2) := by decide +kernel
theorem dX12_flash_146 : decode cX12_flash 146 = .ok (.iadd, 1) := by decide +kernel
theorem dX12_flash_147 : decode cX12_flash 147 = .ok (.iload 4, 2) := by decide +kernel
theorem dX12_flash_149 : decode cX12_flash 149 = .ok (.iadd, 1) := by decide +kernel
theorem dX12_flash_150 : decode cX12_flash 150 = .ok (.iaload, 1) := by decide +kernel
theorem dX12_flash_151 : decode cX12_flash 151 = .ok (.sipush 9999, 3) := by decide +kernel
theorem dX12_flash_154 : decode cX12_flash 154 = .ok (.if_icmp .ge 7, 3) := by decide +kernel
theorem dX12_flash_157 : decode cX12_flash 157 = .ok (.iconst 1, 1) := by decide +kernel
theorem dX12_flash_158 : decode cX12_flash 158 = .ok (.goto 4, 3) := by decide +kernel
theorem dX12_flash_161 : decode cX12_flash 161 = .ok (.iconst 0, 1) := by decide +kernel
theorem dX12_flash_162 : decode cX12_flash 162 = .ok (.istore 6, 2) := by decide +kernel
theorem dX12_flash_164 : decode cX12_flash 164 = .ok (.aload_n 0, 1) := by decide +kernel
theorem dX12_flash_165 : decode cX12_flash 165 = .ok (.getfield 7, 3) := by decide +kernel
theorem dX12_flash_168 : decode cX12_flash 168 = .ok (.iload_n 1, 1) := by decide +kernel
theorem dX12_flash_169 : decode cX12_flash 169 = .ok (.bipush 20, 2) := by decide +kernel
theorem dX12_flash_171 : decode cX12_flash 171 = .ok (.iadd, 1) := by decide +kernel
theorem dX12_flash_172 : decode cX12_flash 172 = .ok (.iload 4, 2) := by decide +kernel
theorem dX12_flash_174 : decode cX12_flash 174 = .ok (.iadd, 1) := by decide +kernel
theorem dX12_flash_175 : decode cX12_flash 175 = .ok (.dup2, 1) := by decide +kernel
theorem dX12_flash_176 : decode cX12_flash 176 = .ok (.iaload, 1) := by decide +kernel
theorem dX12_flash_177 : decode cX12_flash 177 = .ok (.iload 6, 2) := by decide +kernel
theorem dX12_flash_179 : decode cX12_flash 179 = .ok (.ifCond .eq 7, 3) := by decide +kernel
theorem dX12_flash_182 : decode cX12_flash 182 = .ok (.iconst 1, 1) := by decide +kernel
theorem dX12_flash_183 : decode cX12_flash 183 = .ok (.goto 4, 3) := by decide +kernel
theorem dX12_flash_186 : decode cX12_flash 186 = .ok (.iconst 0, 1) := by decide +kernel
theorem dX12_flash_187 : decode cX12_flash 187 = .ok (.iadd, 1) := by decide +kernel
theorem dX12_flash_188 : decode cX12_flash 188 = .ok (.iastore, 1) := by decide +kernel
theorem dX12_flash_189 : decode cX12_flash 189 = .ok (.aload_n 0, 1) := by decide +kernel
theorem dX12_flash_190 : decode cX12_flash 190 = .ok (.getfield 7, 3) := by decide +kernel
theorem dX12_flash_193 : decode cX12_flash 193 = .ok (.iload_n 1, 1) := by decide +kernel
theorem dX12_flash_194 : decode cX12_flash 194 = .ok (.bipush 15, 2) := by decide +kernel
theorem dX12_flash_196 : decode cX12_flash 196 = .ok (.iadd, 1) := by decide +kernel
theorem dX12_flash_197 : decode cX12_flash 197 = .ok (.iload 4, 2) := by decide +kernel
theorem dX12_flash_199 : decode cX12_flash 199 = .ok (.iadd, 1) := by decide +kernel
theorem dX12_flash_200 : decode cX12_flash 200 = .ok (.iload 5, 2) := by decide +kernel
theorem dX12_flash_202 : decode cX12_flash 202 = .ok (.iastore, 1) := by decide +kernel
theorem dX12_flash_203 : decode cX12_flash 203 = .ok (.iinc 4 1, 3) := by decide +kernel
theorem dX12_flash_206 : decode cX12_flash 206 = .ok (.goto (-149), 3) := by decide +kernel
theorem dX12_flash_209 : decode cX12_flash 209 = .ok (.return_, 1) := by decide +kernel
theorem dX12_copies_0 : decode cX12_copies 0 = .ok (.iconst 0, 1) := by decide +kernel
theorem dX12_copies_1 : decode cX12_copies 1 = .ok (.istore_n 3, 1) := by decide +kernel
theorem dX12_copies_2 : decode cX12_copies 2 = .ok (.iload_n 3, 1) := by decide +kernel
theorem dX12_copies_3 : decode cX12_copies 3 = .ok (.bipush 25, 2) := by decide +kernel
theorem dX12_copies_5 : decode cX12_copies 5 = .ok (.if_icmp .ge 25, 3) := by decide +kernel
theorem dX12_copies_8 : decode cX12_copies 8 = .ok (.aload_n 0, 1) := by decide +kernel
theorem dX12_copies_9 : decode cX12_copies 9 = .ok (.getfield 7, 3) := by decide +kernel
theorem dX12_copies_12 : decode cX12_copies 12 = .ok (.iload_n 2, 1) := by decide +kernel
theorem dX12_copies_13 : decode cX12_copies 13 = .ok (.iload_n 3, 1) := by decide +kernel
theorem dX12_copies_14 : decode cX12_copies 14 = .ok (.iadd, 1) := by decide +kernel
theorem dX12_copies_15 : decode cX12_copies 15 = .ok (.aload_n 0, 1) := by decide +kernel
theorem dX12_copies_16 : decode cX12_copies 16 = .ok (.getfield 7, 3) := by decide +kernel
theorem dX12_copies_19 : decode cX12_copies 19 = .ok (.iload_n 1, 1) := by decide +kernel
theorem dX12_copies_20 : decode cX12_copies 20 = .ok (.iload_n 3, 1) := by decide +kernel
theorem dX12_copies_21 : decode cX12_copies 21 = .ok (.iadd, 1) := by decide +kernel
theorem dX12_copies_22 : decode cX12_copies 22 = .ok (.iaload, 1) := by decide +kernel
theorem dX12_copies_23 : decode cX12_copies 23 = .ok (.iastore, 1) := by decide +kernel
theorem dX12_copies_24 : decode cX12_copies 24 = .ok (.iinc 3 1, 3) := by decide +kernel
theorem dX12_copies_27 : decode cX12_copies 27 = .ok (.goto (-25), 3) := by decide +kernel
theorem dX12_copies_30 : decode cX12_copies 30 = .ok (.return_, 1) := by decide +kernel
theorem dX12_known_0 : decode cX12_known 0 = .ok (.aload_n 0, 1) := by decide +kernel
theorem dX12_known_1 : decode cX12_known 1 = .ok (.getfield 13, 3) := by decide +kernel
theorem dX12_known_4 : decode cX12_known 4 = .ok (.bipush 65, 2) := by decide +kernel
theorem dX12_known_6 : decode cX12_known 6 = .ok (.iaload, 1) := by decide +kernel
theorem dX12_known_7 : decode cX12_known 7 = .ok (.bipush 8, 2) := by decide +kernel
theorem dX12_known_9 : decode cX12_known 9 = .ok (.if_icmp .ne 43, 3) := by decide +kernel
theorem dX12_known_12 : decode cX12_known 12 = .ok (.bipush 25, 2) := by decide +kernel
theorem dX12_known_14 : decode cX12_known 14 = .ok (.istore_n 1, 1) := by decide +kernel
theorem dX12_known_15 : decode cX12_known 15 = .ok (.iload_n 1, 1) := by decide +kernel
theorem dX12_known_16 : decode cX12_known 16 = .ok (.sipush 200, 3) := by decide +kernel
theorem dX12_known_19 : decode cX12_known 19 = .ok (.if_icmp .ge 24, 3) := by decide +kernel
theorem dX12_known_22 : decode cX12_known 22 = .ok (.aload_n 0, 1) := by decide +kernel
theorem dX12_known_23 : decode cX12_known 23 = .ok (.getfield 7, 3) := by decide +kernel
theorem dX12_known_26 : decode cX12_known 26 = .ok (.iload_n 1, 1) := by decide +kernel
theorem dX12_known_27 : decode cX12_known 27 = .ok (.aload_n 0, 1) := by decide +kernel
theorem dX12_known_28 : decode cX12_known 28 = .ok (.getfield 7, 3) := by decide +kernel
theorem dX12_known_31 : decode cX12_known 31 = .ok (.iload_n 1, 1) := by decide +kernel
theorem dX12_known_32 : decode cX12_known 32 = .ok (.bipush 25, 2) := by decide +kernel
theorem dX12_known_34 : decode cX12_known 34 = .ok (.iadd, 1) := by decide +kernel
theorem dX12_known_35 : decode cX12_known 35 = .ok (.iaload, 1) := by decide +kernel
theorem dX12_known_36 : decode cX12_known 36 = .ok (.iastore, 1) := by decide +kernel
theorem dX12_known_37 : decode cX12_known 37 = .ok (.iinc 1 1, 3) := by decide +kernel
theorem dX12_known_40 : decode cX12_known 40 = .ok (.goto (-25), 3) := by decide +kernel
theorem dX12_known_43 : decode cX12_known 43 = .ok (.aload_n 0, 1) := by decide +kernel
theorem dX12_known_44 : decode cX12_known 44 = .ok (.getfield 13, 3) := by decide +kernel
theorem dX12_known_47 : decode cX12_known 47 = .ok (.bipush 65, 2) := by decide +kernel
theorem dX12_known_49 : decode cX12_known 49 = .ok (.bipush 7, 2) := by decide +kernel
theorem dX12_known_51 : decode cX12_known 51 = .ok (.iastore, 1) := by decide +kernel
theorem dX12_known_52 : decode cX12_known 52 = .ok (.aload_n 0, 1) := by decide +kernel
theorem dX12_known_53 : decode cX12_known 53 = .ok (.getfield 13, 3) := by decide +kernel
theorem dX12_known_56 : decode cX12_known 56 = .ok (.bipush 65, 2) := by decide +kernel
theorem dX12_known_58 : decode cX12_known 58 = .ok (.dup2, 1) := by decide +kernel
theorem dX12_known_59 : decode cX12_known 59 = .ok (.iaload, 1) := by decide +kernel
theorem dX12_known_60 : decode cX12_known 60 = .ok (.iconst 1, 1) := by decide +kernel
theorem dX12_known_61 : decode cX12_known 61 = .ok (.iadd, 1) := by decide +kernel
theorem dX12_known_62 : decode cX12_known 62 = .ok (.iastore, 1) := by decide +kernel
theorem dX12_known_63 : decode cX12_known 63 = .ok (.aload_n 0, 1) := by decide +kernel
theorem dX12_known_64 : decode cX12_known 64 = .ok (.iconst 0, 1) := by decide +kernel
theorem dX12_known_65 : decode cX12_known 65 = .ok (.aload_n 0, 1) := by decide +kernel
theorem dX12_known_66 : decode cX12_known 66 = .ok (.getfield 13, 3) := by decide +kernel
theorem dX12_known_69 : decode cX12_known 69 = .ok (.bipush 65, 2) := by decide +kernel
theorem dX12_known_71 : decode cX12_known 71 = .ok (.iaload, 1) := by decide +kernel
theorem dX12_known_72 : decode cX12_known 72 = .ok (.bipush 25, 2) := by decide +kernel
theorem dX12_known_74 : decode cX12_known 74 = .ok (.imul, 1) := by decide +kernel
theorem dX12_known_75 : decode cX12_known 75 = .ok (.invokevirtual 169, 3) := by decide +kernel
theorem dX12_known_78 : decode cX12_known 78 = .ok (.return_, 1) := by decide +kernel
theorem dX12_spins_0 : decode cX12_spins 0 = .ok (.iload_n 1, 1) := by decide +kernel
theorem dX12_spins_1 : decode cX12_spins 1 = .ok (.i2l, 1) := by decide +kernel
theorem dX12_spins_2 : decode cX12_spins 2 = .ok (.lconst 1, 1) := by decide +kernel
theorem dX12_spins_3 : decode cX12_spins 3 = .ok (.ldc2_w 173, 3) := by decide +kernel
theorem dX12_spins_6 : decode cX12_spins 6 = .ok (.invokestatic 54, 3) := by decide +kernel
theorem dX12_spins_9 : decode cX12_spins 9 = .ok (.ifCond .ne 8, 3) := by decide +kernel
theorem dX12_spins_12 : decode cX12_spins 12 = .ok (.aload_n 0, 1) := by decide +kernel
theorem dX12_spins_13 : decode cX12_spins 13 = .ok (.invokevirtual 62, 3) := by decide +kernel
theorem dX12_spins_16 : decode cX12_spins 16 = .ok (.ireturn, 1) := by decide +kernel
theorem dX12_spins_17 : decode cX12_spins 17 = .ok (.aload_n 0, 1) := by decide +kernel
theorem dX12_spins_18 : decode cX12_spins 18 = .ok (.invokevirtual 175, 3) := by decide +kernel
theorem dX12_spins_21 : decode cX12_spins 21 = .ok (.iconst 0, 1) := by decide +kernel
theorem dX12_spins_22 : decode cX12_spins 22 = .ok (.istore_n 2, 1) := by decide +kernel
theorem dX12_spins_23 : decode cX12_spins 23 = .ok (.iload_n 2, 1) := by decide +kernel
theorem dX12_spins_24 : decode cX12_spins 24 = .ok (.iload_n 1, 1) := by decide +kernel
theorem dX12_spins_25 : decode cX12_spins 25 = .ok (.if_icmp .ge 33, 3) := by decide +kernel
theorem dX12_spins_28 : decode cX12_spins 28 = .ok (.aload_n 0, 1) := by decide +kernel
theorem dX12_spins_29 : decode cX12_spins 29 = .ok (.getfield 7, 3) := by decide +kernel
theorem dX12_spins_32 : decode cX12_spins 32 = .ok (.iconst 1, 1) := by decide +kernel
theorem dX12_spins_33 : decode cX12_spins 33 = .ok (.iaload, 1) := by decide +kernel
theorem dX12_spins_34 : decode cX12_spins 34 = .ok (.sipush 9999, 3) := by decide +kernel
theorem dX12_spins_37 : decode cX12_spins 37 = .ok (.if_icmp .ge 21, 3) := by decide +kernel
theorem dX12_spins_40 : decode cX12_spins 40 = .ok (.aload_n 0, 1) := by decide +kernel
theorem dX12_spins_41 : decode cX12_spins 41 = .ok (.iconst 0, 1) := by decide +kernel
theorem dX12_spins_42 : decode cX12_spins 42 = .ok (.aload_n 0, 1) := by decide +kernel
theorem dX12_spins_43 : decode cX12_spins 43 = .ok (.getfield 7, 3) := by decide +kernel
theorem dX12_spins_46 : decode cX12_spins 46 = .ok (.iconst 2, 1) := by decide +kernel
theorem dX12_spins_47 : decode cX12_spins 47 = .ok (.iaload, 1) := by decide +kernel
theorem dX12_spins_48 : decode cX12_spins 48 = .ok (.iconst 1, 1) := by decide +kernel
theorem dX12_spins_49 : decode cX12_spins 49 = .ok (.invokevirtual 132, 3) := by decide +kernel
theorem dX12_spins_52 : decode cX12_spins 52 = .ok (.iinc 2 1, 3) := by decide +kernel
theorem dX12_spins_55 : decode cX12_spins 55 = .ok (.goto (-32), 3) := by decide +kernel
theorem dX12_spins_58 : decode cX12_spins 58 = .ok (.aload_n 0, 1) := by decide +kernel
theorem dX12_spins_59 : decode cX12_spins 59 = .ok (.getfield 7, 3) := by decide +kernel
theorem dX12_spins_62 : decode cX12_spins 62 = .ok (.iconst 0, 1) := by decide +kernel
theorem dX12_spins_63 : decode cX12_spins 63 = .ok (.iaload, 1) := by decide +kernel
theorem dX12_spins_64 : decode cX12_spins 64 = .ok (.ireturn, 1) := by decide +kernel
theorem dX12_steps_0 : decode cX12_steps 0 = .ok (.iload_n 1, 1) := by decide +kernel
theorem dX12_steps_1 : decode cX12_steps 1 = .ok (.i2l, 1) := by decide +kernel
theorem dX12_steps_2 : decode cX12_steps 2 = .ok (.lconst 0, 1) := by decide +kernel
theorem dX12_steps_3 : decode cX12_steps 3 = .ok (.ldc2_w 60, 3) := by decide +kernel
theorem dX12_steps_6 : decode cX12_steps 6 = .ok (.invokestatic 54, 3) := by decide +kernel
theorem dX12_steps_9 : decode cX12_steps 9 = .ok (.ifCond .ne 8, 3) := by decide +kernel
theorem dX12_steps_12 : decode cX12_steps 12 = .ok (.aload_n 0, 1) := by decide +kernel
theorem dX12_steps_13 : decode cX12_steps 13 = .ok (.invokevirtual 62, 3) := by decide +kernel
theorem dX12_steps_16 : decode cX12_steps 16 = .ok (.ireturn, 1) := by decide +kernel
theorem dX12_steps_17 : decode cX12_steps 17 = .ok (.aload_n 0, 1) := by decide +kernel
theorem dX12_steps_18 : decode cX12_steps 18 = .ok (.getfield 7, 3) := by decide +kernel
theorem dX12_steps_21 : decode cX12_steps 21 = .ok (.iconst 2, 1) := by decide +kernel
theorem dX12_steps_22 : decode cX12_steps 22 = .ok (.iaload, 1) := by decide +kernel
theorem dX12_steps_23 : decode cX12_steps 23 = .ok (.iload_n 1, 1) := by decide +kernel
theorem dX12_steps_24 : decode cX12_steps 24 = .ok (.if_icmp .ne 8, 3) := by decide +kernel
theorem dX12_steps_27 : decode cX12_steps 27 = .ok (.aload_n 0, 1) := by decide +kernel
theorem dX12_steps_28 : decode cX12_steps 28 = .ok (.invokevirtual 178, 3) := by decide +kernel
theorem dX12_steps_31 : decode cX12_steps 31 = .ok (.ireturn, 1) := by decide +kernel
theorem dX12_steps_32 : decode cX12_steps 32 = .ok (.aload_n 0, 1) := by decide +kernel
theorem dX12_steps_33 : decode cX12_steps 33 = .ok (.invokevirtual 175, 3) := by decide +kernel
theorem dX12_steps_36 : decode cX12_steps 36 = .ok (.aload_n 0, 1) := by decide +kernel
theorem dX12_steps_37 : decode cX12_steps 37 = .ok (.getfield 7, 3) := by decide +kernel
theorem dX12_steps_40 : decode cX12_steps 40 = .ok (.iconst 2, 1) := by decide +kernel
theorem dX12_steps_41 : decode cX12_steps 41 = .ok (.iaload, 1) := by decide +kernel
theorem dX12_steps_42 : decode cX12_steps 42 = .ok (.istore_n 2, 1) := by decide +kernel
theorem dX12_steps_43 : decode cX12_steps 43 = .ok (.aload_n 0, 1) := by decide +kernel
theorem dX12_steps_44 : decode cX12_steps 44 = .ok (.getfield 7, 3) := by decide +kernel
theorem dX12_steps_47 : decode cX12_steps 47 = .ok (.iconst 2, 1) := by decide +kernel
theorem dX12_steps_48 : decode cX12_steps 48 = .ok (.iload_n 1, 1) := by decide +kernel
theorem dX12_steps_49 : decode cX12_steps 49 = .ok (.iastore, 1) := by decide +kernel
theorem dX12_steps_50 : decode cX12_steps 50 = .ok (.iload_n 2, 1) := by decide +kernel
theorem dX12_steps_51 : decode cX12_steps 51 = .ok (.ireturn, 1) := by decide +kernel
theorem dX12_isFrame_0 : decode cX12_isFrame 0 = .ok (.iload_n 1, 1) := by decide +kernel
theorem dX12_isFrame_1 : decode cX12_isFrame 1 = .ok (.i2l, 1) := by decide +kernel
theorem dX12_isFrame_2 : decode cX12_isFrame 2 = .ok (.lconst 0, 1) := by decide +kernel
theorem dX12_isFrame_3 : decode cX12_isFrame 3 = .ok (.aload_n 0, 1) := by decide +kernel
theorem dX12_isFrame_4 : decode cX12_isFrame 4 = .ok (.getfield 13, 3) := by decide +kernel
theorem dX12_isFrame_7 : decode cX12_isFrame 7 = .ok (.iconst 0, 1) := by decide +kernel
theorem dX12_isFrame_8 : decode cX12_isFrame 8 = .ok (.iaload, 1) := by decide +kernel
theorem dX12_isFrame_9 : decode cX12_isFrame 9 = .ok (.iconst 1, 1) := by decide +kernel
theorem dX12_isFrame_10 : decode cX12_isFrame 10 = .ok (.isub, 1) := by decide +kernel
theorem dX12_isFrame_11 : decode cX12_isFrame 11 = .ok (.i2l, 1) := by decide +kernel
theorem dX12_isFrame_12 : decode cX12_isFrame 12 = .ok (.invokestatic 54, 3) := by decide +kernel
theorem dX12_isFrame_15 : decode cX12_isFrame 15 = .ok (.ireturn, 1) := by decide +kernel
theorem dX12_isEye_0 : decode cX12_isEye 0 = .ok (.iload_n 1, 1) := by decide +kernel
theorem dX12_isEye_1 : decode cX12_isEye 1 = .ok (.i2l, 1) := by decide +kernel
theorem dX12_isEye_2 : decode cX12_isEye 2 = .ok (.lconst 0, 1) := by decide +kernel
theorem dX12_isEye_3 : decode cX12_isEye 3 = .ok (.aload_n 0, 1) := by decide +kernel
theorem dX12_isEye_4 : decode cX12_isEye 4 = .ok (.getfield 13, 3) := by decide +kernel
theorem dX12_isEye_7 : decode cX12_isEye 7 = .ok (.iconst 2, 1) := by decide +kernel
theorem dX12_isEye_8 : decode cX12_isEye 8 = .ok (.iaload, 1) := by decide +kernel
theorem dX12_isEye_9 : decode cX12_isEye 9 = .ok (.iconst 1, 1) := by decide +kernel
theorem dX12_isEye_10 : decode cX12_isEye 10 = .ok (.isub, 1) := by decide +kernel
theorem dX12_isEye_11 : decode cX12_isEye 11 = .ok (.i2l, 1) := by decide +kernel
theorem dX12_isEye_12 : decode cX12_isEye 12 = .ok (.invokestatic 54, 3) := by decide +kernel
theorem dX12_isEye_15 : decode cX12_isEye 15 = .ok (.ireturn, 1) := by decide +kernel
theorem dX12_draws_0 : decode cX12_draws 0 = .ok (.aload_n 0, 1) := by decide +kernel
theorem dX12_draws_1 : decode cX12_draws 1 = .ok (.iload_n 1, 1) := by decide +kernel
theorem dX12_draws_2 : decode cX12_draws 2 = .ok (.invokevirtual 181, 3) := by decide +kernel
theorem dX12_draws_5 : decode cX12_draws 5 = .ok (.ifCond .eq 15, 3) := by decide +kernel
theorem dX12_draws_8 : decode cX12_draws 8 = .ok (.iload_n 2, 1) := by decide +kernel
theorem dX12_draws_9 : decode cX12_draws 9 = .ok (.i2l, 1) := by decide +kernel
theorem dX12_draws_10 : decode cX12_draws 10 = .ok (.lconst 0, 1) := by decide +kernel
theorem dX12_draws_11 : decode cX12_draws 11 = .ok (.ldc2_w 121, 3) := by decide +kernel
theorem dX12_draws_14 : decode cX12_draws 14 = .ok (.invokestatic 54, 3) := by decide +kernel
theorem dX12_draws_17 : decode cX12_draws 17 = .ok (.ifCond .ne 8, 3) := by decide +kernel
theorem dX12_draws_20 : decode cX12_draws 20 = .ok (.aload_n 0, 1) := by decide +kernel
theorem dX12_draws_21 : decode cX12_draws 21 = .ok (.invokevirtual 62, 3) := by decide +kernel
theorem dX12_draws_24 : decode cX12_draws 24 = .ok (.ireturn, 1) := by decide +kernel
theorem dX12_draws_25 : decode cX12_draws 25 = .ok (.aload_n 0, 1) := by decide +kernel
theorem dX12_draws_26 : decode cX12_draws 26 = .ok (.getfield 7, 3) := by decide +kernel
theorem dX12_draws_29 : decode cX12_draws 29 = .ok (.iconst 3, 1) := by decide +kernel
theorem dX12_draws_30 : decode cX12_draws 30 = .ok (.iload_n 1, 1) := by decide +kernel
theorem dX12_draws_31 : decode cX12_draws 31 = .ok (.iadd, 1) := by decide +kernel
theorem dX12_draws_32 : decode cX12_draws 32 = .ok (.iaload, 1) := by decide +kernel
theorem dX12_draws_33 : decode cX12_draws 33 = .ok (.iload_n 2, 1) := by decide +kernel
theorem dX12_draws_34 : decode cX12_draws 34 = .ok (.if_icmp .ne 8, 3) := by decide +kernel
theorem dX12_draws_37 : decode cX12_draws 37 = .ok (.aload_n 0, 1) := by decide +kernel
theorem dX12_draws_38 : decode cX12_draws 38 = .ok (.invokevirtual 178, 3) := by decide +kernel
theorem dX12_draws_41 : decode cX12_draws 41 = .ok (.ireturn, 1) := by decide +kernel
theorem dX12_draws_42 : decode cX12_draws 42 = .ok (.aload_n 0, 1) := by decide +kernel
theorem dX12_draws_43 : decode cX12_draws 43 = .ok (.invokevirtual 175, 3) := by decide +kernel
theorem dX12_draws_46 : decode cX12_draws 46 = .ok (.aload_n 0, 1) := by decide +kernel
theorem dX12_draws_47 : decode cX12_draws 47 = .ok (.getfield 7, 3) := by decide +kernel
theorem dX12_draws_50 : decode cX12_draws 50 = .ok (.iconst 3, 1) := by decide +kernel
theorem dX12_draws_51 : decode cX12_draws 51 = .ok (.iload_n 1, 1) := by decide +kernel
theorem dX12_draws_52 : decode cX12_draws 52 = .ok (.iadd, 1) := by decide +kernel
theorem dX12_draws_53 : decode cX12_draws 53 = .ok (.iaload, 1) := by decide +kernel
theorem dX12_draws_54 : decode cX12_draws 54 = .ok (.istore_n 3, 1) := by decide +kernel
theorem dX12_draws_55 : decode cX12_draws 55 = .ok (.aload_n 0, 1) := by decide +kernel
theorem dX12_draws_56 : decode cX12_draws 56 = .ok (.getfield 7, 3) := by decide +kernel
theorem dX12_draws_59 : decode cX12_draws 59 = .ok (.iconst 3, 1) := by decide +kernel
theorem dX12_draws_60 : decode cX12_draws 60 = .ok (.iload_n 1, 1) := by decide +kernel
theorem dX12_draws_61 : decode cX12_draws 61 = .ok (.iadd, 1) := by decide +kernel
theorem dX12_draws_62 : decode cX12_draws 62 = .ok (.iload_n 2, 1) := by decide +kernel
theorem dX12_draws_63 : decode cX12_draws 63 = .ok (.iastore, 1) := by decide +kernel
theorem dX12_draws_64 : decode cX12_draws 64 = .ok (.iload_n 3, 1) := by decide +kernel
theorem dX12_draws_65 : decode cX12_draws 65 = .ok (.ireturn, 1) := by decide +kernel
theorem dX12_undo_0 : decode cX12_undo 0 = .ok (.aload_n 0, 1) := by decide +kernel
theorem dX12_undo_1 : decode cX12_undo 1 = .ok (.getfield 13, 3) := by decide +kernel
theorem dX12_undo_4 : decode cX12_undo 4 = .ok (.bipush 65, 2) := by decide +kernel
theorem dX12_undo_6 : decode cX12_undo 6 = .ok (.iaload, 1) := by decide +kernel
theorem dX12_undo_7 : decode cX12_undo 7 = .ok (.ifCond .ne 8, 3) := by decide +kernel
theorem dX12_undo_10 : decode cX12_undo 10 = .ok (.aload_n 0, 1) := by decide +kernel
theorem dX12_undo_11 : decode cX12_undo 11 = .ok (.invokevirtual 178, 3) := by decide +kernel
theorem dX12_undo_14 : decode cX12_undo 14 = .ok (.ireturn, 1) := by decide +kernel
theorem dX12_undo_15 : decode cX12_undo 15 = .ok (.aload_n 0, 1) := by decide +kernel
theorem dX12_undo_16 : decode cX12_undo 16 = .ok (.aload_n 0, 1) := by decide +kernel
theorem dX12_undo_17 : decode cX12_undo 17 = .ok (.getfield 13, 3) := by decide +kernel
theorem dX12_undo_20 : decode cX12_undo 20 = .ok (.bipush 65, 2) := by decide +kernel
theorem dX12_undo_22 : decode cX12_undo 22 = .ok (.iaload, 1) := by decide +kernel
theorem dX12_undo_23 : decode cX12_undo 23 = .ok (.bipush 25, 2) := by decide +kernel
theorem dX12_undo_25 : decode cX12_undo 25 = .ok (.imul, 1) := by decide +kernel
theorem dX12_undo_26 : decode cX12_undo 26 = .ok (.iconst 0, 1) := by decide +kernel
theorem dX12_undo_27 : decode cX12_undo 27 = .ok (.invokevirtual 169, 3) := by decide +kernel
theorem dX12_undo_30 : decode cX12_undo 30 = .ok (.aload_n 0, 1) := by decide +kernel
theorem dX12_undo_31 : decode cX12_undo 31 = .ok (.getfield 13, 3) := by decide +kernel
theorem dX12_undo_34 : decode cX12_undo 34 = .ok (.bipush 65, 2) := by decide +kernel
theorem dX12_undo_36 : decode cX12_undo 36 = .ok (.dup2, 1) := by decide +kernel
theorem dX12_undo_37 : decode cX12_undo 37 = .ok (.iaload, 1) := by decide +kernel
theorem dX12_undo_38 : decode cX12_undo 38 = .ok (.iconst 1, 1) := by decide +kernel
theorem dX12_undo_39 : decode cX12_undo 39 = .ok (.isub, 1) := by decide +kernel
theorem dX12_undo_40 : decode cX12_undo 40 = .ok (.iastore, 1) := by decide +kernel
theorem dX12_undo_41 : decode cX12_undo 41 = .ok (.aload_n 0, 1) := by decide +kernel
theorem dX12_undo_42 : decode cX12_undo 42 = .ok (.getfield 7, 3) := by decide +kernel
theorem dX12_undo_45 : decode cX12_undo 45 = .ok (.iconst 1, 1) := by decide +kernel
theorem dX12_undo_46 : decode cX12_undo 46 = .ok (.iaload, 1) := by decide +kernel
theorem dX12_undo_47 : decode cX12_undo 47 = .ok (.ireturn, 1) := by decide +kernel
theorem dX12_of_0 : decode cX12_of 0 = .ok (.aload_n 0, 1) := by decide +kernel
theorem dX12_of_1 : decode cX12_of 1 = .ok (.iload_n 1, 1) := by decide +kernel
theorem dX12_of_2 : decode cX12_of 2 = .ok (.invokevirtual 185, 3) := by decide +kernel
theorem dX12_of_5 : decode cX12_of 5 = .ok (.ifCond .eq 15, 3) := by decide +kernel
theorem dX12_of_8 : decode cX12_of 8 = .ok (.iload_n 2, 1) := by decide +kernel
theorem dX12_of_9 : decode cX12_of 9 = .ok (.i2l, 1) := by decide +kernel
theorem dX12_of_10 : decode cX12_of 10 = .ok (.lconst 0, 1) := by decide +kernel
theorem dX12_of_11 : decode cX12_of 11 = .ok (.ldc2_w 50, 3) := by decide +kernel
theorem dX12_of_14 : decode cX12_of 14 = .ok (.invokestatic 54, 3) := by decide +kernel
theorem dX12_of_17 : decode cX12_of 17 = .ok (.ifCond .ne 8, 3) := by decide +kernel
theorem dX12_of_20 : decode cX12_of 20 = .ok (.aload_n 0, 1) := by decide +kernel
theorem dX12_of_21 : decode cX12_of 21 = .ok (.invokevirtual 62, 3) := by decide +kernel
theorem dX12_of_24 : decode cX12_of 24 = .ok (.ireturn, 1) := by decide +kernel
theorem dX12_of_25 : decode cX12_of 25 = .ok (.iload_n 2, 1) := by decide +kernel
theorem dX12_of_26 : decode cX12_of 26 = .ok (.ifCond .ne 14, 3) := by decide +kernel
theorem dX12_of_29 : decode cX12_of 29 = .ok (.aload_n 0, 1) := by decide +kernel
theorem dX12_of_30 : decode cX12_of 30 = .ok (.getfield 13, 3) := by decide +kernel
theorem dX12_of_33 : decode cX12_of 33 = .ok (.iconst 3, 1) := by decide +kernel
theorem dX12_of_34 : decode cX12_of 34 = .ok (.iload_n 1, 1) := by decide +kernel
theorem dX12_of_35 : decode cX12_of 35 = .ok (.iadd, 1) := by decide +kernel
theorem dX12_of_36 : decode cX12_of 36 = .ok (.iaload, 1) := by decide +kernel
theorem dX12_of_37 : decode cX12_of 37 = .ok (.goto 29, 3) := by decide +kernel
theorem dX12_of_40 : decode cX12_of 40 = .ok (.iload_n 2, 1) := by decide +kernel
theorem dX12_of_41 : decode cX12_of 41 = .ok (.iconst 1, 1) := by decide +kernel
theorem dX12_of_42 : decode cX12_of 42 = .ok (.if_icmp .ne 15, 3) := by decide +kernel
theorem dX12_of_45 : decode cX12_of 45 = .ok (.aload_n 0, 1) := by decide +kernel
theorem dX12_of_46 : decode cX12_of 46 = .ok (.getfield 7, 3) := by decide +kernel
theorem dX12_of_49 : decode cX12_of 49 = .ok (.bipush 15, 2) := by decide +kernel
theorem dX12_of_51 : decode cX12_of 51 = .ok (.iload_n 1, 1) := by decide +kernel
theorem dX12_of_52 : decode cX12_of 52 = .ok (.iadd, 1) := by decide +kernel
theorem dX12_of_53 : decode cX12_of 53 = .ok (.iaload, 1) := by decide +kernel
theorem dX12_of_54 : decode cX12_of 54 = .ok (.goto 12, 3) := by decide +kernel
theorem dX12_of_57 : decode cX12_of 57 = .ok (.aload_n 0, 1) := by decide +kernel
theorem dX12_of_58 : decode cX12_of 58 = .ok (.getfield 7, 3) := by decide +kernel
theorem dX12_of_61 : decode cX12_of 61 = .ok (.bipush 20, 2) := by decide +kernel
theorem dX12_of_63 : decode cX12_of 63 = .ok (.iload_n 1, 1) := by decide +kernel
theorem dX12_of_64 : decode cX12_of 64 = .ok (.iadd, 1) := by decide +kernel
theorem dX12_of_65 : decode cX12_of 65 = .ok (.iaload, 1) := by decide +kernel
theorem dX12_of_66 : decode cX12_of 66 = .ok (.ireturn, 1) := by decide +kernel
theorem dX12_drawn_0 : decode cX12_drawn 0 = .ok (.aload_n 0, 1) := by decide +kernel
theorem dX12_drawn_1 : decode cX12_drawn 1 = .ok (.iload_n 1, 1) := by decide +kernel
theorem dX12_drawn_2 : decode cX12_drawn 2 = .ok (.invokevirtual 181, 3) := by decide +kernel
theorem dX12_drawn_5 : decode cX12_drawn 5 = .ok (.ifCond .eq 14, 3) := by decide +kernel
theorem dX12_drawn_8 : decode cX12_drawn 8 = .ok (.aload_n 0, 1) := by decide +kernel
theorem dX12_drawn_9 : decode cX12_drawn 9 = .ok (.getfield 7, 3) := by decide +kernel
theorem dX12_drawn_12 : decode cX12_drawn 12 = .ok (.iconst 3, 1) := by decide +kernel
theorem dX12_drawn_13 : decode cX12_drawn 13 = .ok (.iload_n 1, 1) := by decide +kernel
theorem dX12_drawn_14 : decode cX12_drawn 14 = .ok (.iadd, 1) := by decide +kernel
theorem dX12_drawn_15 : decode cX12_drawn 15 = .ok (.iaload, 1) := by decide +kernel
theorem dX12_drawn_16 : decode cX12_drawn 16 = .ok (.goto 7, 3) := by decide +kernel
theorem dX12_drawn_19 : decode cX12_drawn 19 = .ok (.aload_n 0, 1) := by decide +kernel
theorem dX12_drawn_20 : decode cX12_drawn 20 = .ok (.invokevirtual 62, 3) := by decide +kernel
theorem dX12_drawn_23 : decode cX12_drawn 23 = .ok (.ireturn, 1) := by decide +kernel
theorem dX12_tries_0 : decode cX12_tries 0 = .ok (.aload_n 0, 1) := by decide +kernel
theorem dX12_tries_1 : decode cX12_tries 1 = .ok (.iconst 0, 1) := by decide +kernel
theorem dX12_tries_2 : decode cX12_tries 2 = .ok (.sipush 675, 3) := by decide +kernel
theorem dX12_tries_5 : decode cX12_tries 5 = .ok (.invokevirtual 169, 3) := by decide +kernel
theorem dX12_tries_8 : decode cX12_tries 8 = .ok (.iconst 0, 1) := by decide +kernel
theorem dX12_tries_9 : decode cX12_tries 9 = .ok (.istore_n 1, 1) := by decide +kernel
theorem dX12_tries_10 : decode cX12_tries 10 = .ok (.iload_n 1, 1) := by decide +kernel
theorem dX12_tries_11 : decode cX12_tries 11 = .ok (.iconst 5, 1) := by decide +kernel
theorem dX12_tries_12 : decode cX12_tries 12 = .ok (.if_icmp .ge 20, 3) := by decide +kernel
theorem dX12_tries_15 : decode cX12_tries 15 = .ok (.aload_n 0, 1) := by decide +kernel
theorem dX12_tries_16 : decode cX12_tries 16 = .ok (.getfield 7, 3) := by decide +kernel
theorem dX12_tries_19 : decode cX12_tries 19 = .ok (.sipush 695, 3) := by decide +kernel
theorem dX12_tries_22 : decode cX12_tries 22 = .ok (.iload_n 1, 1) := by decide +kernel
theorem dX12_tries_23 : decode cX12_tries 23 = .ok (.iadd, 1) := by decide +kernel
theorem dX12_tries_24 : decode cX12_tries 24 = .ok (.iconst 0, 1) := by decide +kernel
theorem dX12_tries_25 : decode cX12_tries 25 = .ok (.iastore, 1) := by decide +kernel
theorem dX12_tries_26 : decode cX12_tries 26 = .ok (.iinc 1 1, 3) := by decide +kernel
theorem dX12_tries_29 : decode cX12_tries 29 = .ok (.goto (-19), 3) := by decide +kernel
theorem dX12_tries_32 : decode cX12_tries 32 = .ok (.return_, 1) := by decide +kernel
theorem dX12_flashes_0 : decode cX12_flashes 0 = .ok (.iconst 0, 1) := by decide +kernel
theorem dX12_flashes_1 : decode cX12_flashes 1 = .ok (.istore_n 3, 1) := by decide +kernel
theorem dX12_flashes_2 : decode cX12_flashes 2 = .ok (.iload_n 3, 1) := by decide +kernel
theorem dX12_flashes_3 : decode cX12_flashes 3 = .ok (.iload_n 1, 1) := by decide +kernel
theorem dX12_flashes_4 : decode cX12_flashes 4 = .ok (.if_icmp .ge 18, 3) := by decide +kernel
theorem dX12_flashes_7 : decode cX12_flashes 7 = .ok (.aload_n 0, 1) := by decide +kernel
theorem dX12_flashes_8 : decode cX12_flashes 8 = .ok (.sipush 675, 3) := by decide +kernel
theorem dX12_flashes_11 : decode cX12_flashes 11 = .ok (.iload_n 2, 1) := by decide +kernel
theorem dX12_flashes_12 : decode cX12_flashes 12 = .ok (.iconst 1, 1) := by decide +kernel
theorem dX12_flashes_13 : decode cX12_flashes 13 = .ok (.invokevirtual 132, 3) := by decide +kernel
theorem dX12_flashes_16 : decode cX12_flashes 16 = .ok (.iinc 3 1, 3) := by decide +kernel
theorem dX12_flashes_19 : decode cX12_flashes 19 = .ok (.goto (-17), 3) := by decide +kernel
theorem dX12_flashes_22 : decode cX12_flashes 22 = .ok (.return_, 1) := by decide +kernel
theorem dX12_at_0 : decode cX12_at 0 = .ok (.iload_n 1, 1) := by decide +kernel
theorem dX12_at_1 : decode cX12_at 1 = .ok (.i2l, 1) := by decide +kernel
theorem dX12_at_2 : decode cX12_at 2 = .ok (.lconst 0, 1) := by decide +kernel
theorem dX12_at_3 : decode cX12_at 3 = .ok (.ldc2_w 173, 3) := by decide +kernel
theorem dX12_at_6 : decode cX12_at 6 = .ok (.invokestatic 54, 3) := by decide +kernel
theorem dX12_at_9 : decode cX12_at 9 = .ok (.ifCond .ne 8, 3) := by decide +kernel
theorem dX12_at_12 : decode cX12_at 12 = .ok (.aload_n 0, 1) := by decide +kernel
theorem dX12_at_13 : decode cX12_at 13 = .ok (.invokevirtual 62, 3) := by decide +kernel
theorem dX12_at_16 : decode cX12_at 16 = .ok (.ireturn, 1) := by decide +kernel
theorem dX12_at_17 : decode cX12_at 17 = .ok (.aload_n 0, 1) := by decide +kernel
theorem dX12_at_18 : decode cX12_at 18 = .ok (.invokevirtual 188, 3) := by decide +kernel
theorem dX12_at_21 : decode cX12_at 21 = .ok (.aload_n 0, 1) := by decide +kernel
theorem dX12_at_22 : decode cX12_at 22 = .ok (.iload_n 1, 1) := by decide +kernel
theorem dX12_at_23 : decode cX12_at 23 = .ok (.aload_n 0, 1) := by decide +kernel
theorem dX12_at_24 : decode cX12_at 24 = .ok (.getfield 7, 3) := by decide +kernel
theorem dX12_at_27 : decode cX12_at 27 = .ok (.iconst 2, 1) := by decide +kernel
theorem dX12_at_28 : decode cX12_at 28 = .ok (.iaload, 1) := by decide +kernel
theorem dX12_at_29 : decode cX12_at 29 = .ok (.invokevirtual 191, 3) := by decide +kernel
theorem dX12_at_32 : decode cX12_at 32 = .ok (.aload_n 0, 1) := by decide +kernel
theorem dX12_at_33 : decode cX12_at 33 = .ok (.getfield 7, 3) := by decide +kernel
theorem dX12_at_36 : decode cX12_at 36 = .ok (.sipush 675, 3) := by decide +kernel
theorem dX12_at_39 : decode cX12_at 39 = .ok (.iaload, 1) := by decide +kernel
theorem dX12_at_40 : decode cX12_at 40 = .ok (.ireturn, 1) := by decide +kernel
theorem dX12_sees_0 : decode cX12_sees 0 = .ok (.aload_n 0, 1) := by decide +kernel
theorem dX12_sees_1 : decode cX12_sees 1 = .ok (.iload_n 1, 1) := by decide +kernel
theorem dX12_sees_2 : decode cX12_sees 2 = .ok (.invokevirtual 185, 3) := by decide +kernel
theorem dX12_sees_5 : decode cX12_sees 5 = .ok (.ifCond .eq 15, 3) := by decide +kernel
theorem dX12_sees_8 : decode cX12_sees 8 = .ok (.iload_n 2, 1) := by decide +kernel
theorem dX12_sees_9 : decode cX12_sees 9 = .ok (.i2l, 1) := by decide +kernel
theorem dX12_sees_10 : decode cX12_sees 10 = .ok (.lconst 0, 1) := by decide +kernel
theorem dX12_sees_11 : decode cX12_sees 11 = .ok (.ldc2_w 173, 3) := by decide +kernel
theorem dX12_sees_14 : decode cX12_sees 14 = .ok (.invokestatic 54, 3) := by decide +kernel
theorem dX12_sees_17 : decode cX12_sees 17 = .ok (.ifCond .ne 8, 3) := by decide +kernel
theorem dX12_sees_20 : decode cX12_sees 20 = .ok (.aload_n 0, 1) := by decide +kernel
theorem dX12_sees_21 : decode cX12_sees 21 = .ok (.invokevirtual 62, 3) := by decide +kernel
theorem dX12_sees_24 : decode cX12_sees 24 = .ok (.ireturn, 1) := by decide +kernel
theorem dX12_sees_25 : decode cX12_sees 25 = .ok (.aload_n 0, 1) := by decide +kernel
theorem dX12_sees_26 : decode cX12_sees 26 = .ok (.invokevirtual 188, 3) := by decide +kernel
theorem dX12_sees_29 : decode cX12_sees 29 = .ok (.aload_n 0, 1) := by decide +kernel
theorem dX12_sees_30 : decode cX12_sees 30 = .ok (.iload_n 2, 1) := by decide +kernel
theorem dX12_sees_31 : decode cX12_sees 31 = .ok (.aload_n 0, 1) := by decide +kernel
theorem dX12_sees_32 : decode cX12_sees 32 = .ok (.getfield 7, 3) := by decide +kernel
theorem dX12_sees_35 : decode cX12_sees 35 = .ok (.iconst 2, 1) := by decide +kernel
theorem dX12_sees_36 : decode cX12_sees 36 = .ok (.iaload, 1) := by decide +kernel
theorem dX12_sees_37 : decode cX12_sees 37 = .ok (.invokevirtual 191, 3) := by decide +kernel
theorem dX12_sees_40 : decode cX12_sees 40 = .ok (.aload_n 0, 1) := by decide +kernel
theorem dX12_sees_41 : decode cX12_sees 41 = .ok (.getfield 7, 3) := by decide +kernel
theorem dX12_sees_44 : decode cX12_sees 44 = .ok (.sipush 690, 3) := by decide +kernel
theorem dX12_sees_47 : decode cX12_sees 47 = .ok (.iload_n 1, 1) := by decide +kernel
theorem dX12_sees_48 : decode cX12_sees 48 = .ok (.iadd, 1) := by decide +kernel
theorem dX12_sees_49 : decode cX12_sees 49 = .ok (.iaload, 1) := by decide +kernel
theorem dX12_sees_50 : decode cX12_sees 50 = .ok (.ireturn, 1) := by decide +kernel
theorem dX12_round_0 : decode cX12_round 0 = .ok (.aload_n 0, 1) := by decide +kernel
theorem dX12_round_1 : decode cX12_round 1 = .ok (.invokevirtual 188, 3) := by decide +kernel
theorem dX12_round_4 : decode cX12_round 4 = .ok (.iconst 1, 1) := by decide +kernel
theorem dX12_round_5 : decode cX12_round 5 = .ok (.istore_n 1, 1) := by decide +kernel
theorem dX12_round_6 : decode cX12_round 6 = .ok (.iload_n 1, 1) := by decide +kernel
theorem dX12_round_7 : decode cX12_round 7 = .ok (.bipush 60, 2) := by decide +kernel
theorem dX12_round_9 : decode cX12_round 9 = .ok (.if_icmp .gt 99, 3) := by decide +kernel
theorem dX12_round_12 : decode cX12_round 12 = .ok (.aload_n 0, 1) := by decide +kernel
theorem dX12_round_13 : decode cX12_round 13 = .ok (.iconst 1, 1) := by decide +kernel
theorem dX12_round_14 : decode cX12_round 14 = .ok (.aload_n 0, 1) := by decide +kernel
theorem dX12_round_15 : decode cX12_round 15 = .ok (.getfield 7, 3) := by decide +kernel
theorem dX12_round_18 : decode cX12_round 18 = .ok (.iconst 2, 1) := by decide +kernel
theorem dX12_round_19 : decode cX12_round 19 = .ok (.iaload, 1) := by decide +kernel
theorem dX12_round_20 : decode cX12_round 20 = .ok (.invokevirtual 191, 3) := by decide +kernel
theorem dX12_round_23 : decode cX12_round 23 = .ok (.aload_n 0, 1) := by decide +kernel
theorem dX12_round_24 : decode cX12_round 24 = .ok (.getfield 7, 3) := by decide +kernel
theorem dX12_round_27 : decode cX12_round 27 = .ok (.sipush 675, 3) := by decide +kernel
theorem dX12_round_30 : decode cX12_round 30 = .ok (.iaload, 1) := by decide +kernel
theorem dX12_round_31 : decode cX12_round 31 = .ok (.aload_n 0, 1) := by decide +kernel
theorem dX12_round_32 : decode cX12_round 32 = .ok (.getfield 7, 3) := by decide +kernel
theorem dX12_round_35 : decode cX12_round 35 = .ok (.iconst 0, 1) := by decide +kernel
theorem dX12_round_36 : decode cX12_round 36 = .ok (.iaload, 1) := by decide +kernel
theorem dX12_round_37 : decode cX12_round 37 = .ok (.if_icmp .ne 7, 3) := by decide +kernel
theorem dX12_round_40 : decode cX12_round 40 = .ok (.iconst 1, 1) := by decide +kernel
theorem dX12_round_41 : decode cX12_round 41 = .ok (.goto 4, 3) := by decide +kernel
theorem dX12_round_44 : decode cX12_round 44 = .ok (.iconst 0, 1) := by decide +kernel
theorem dX12_round_45 : decode cX12_round 45 = .ok (.istore_n 2, 1) := by decide +kernel
theorem dX12_round_46 : decode cX12_round 46 = .ok (.iconst 0, 1) := by decide +kernel
theorem dX12_round_47 : decode cX12_round 47 = .ok (.istore_n 3, 1) := by decide +kernel
theorem dX12_round_48 : decode cX12_round 48 = .ok (.iload_n 3, 1) := by decide +kernel
theorem dX12_round_49 : decode cX12_round 49 = .ok (.aload_n 0, 1) := by decide +kernel
theorem dX12_round_50 : decode cX12_round 50 = .ok (.getfield 13, 3) := by decide +kernel
theorem dX12_round_53 : decode cX12_round 53 = .ok (.iconst 2, 1) := by decide +kernel
theorem dX12_round_54 : decode cX12_round 54 = .ok (.iaload, 1) := by decide +kernel
theorem dX12_round_55 : decode cX12_round 55 = .ok (.if_icmp .ge 41, 3) := by decide +kernel
theorem dX12_round_58 : decode cX12_round 58 = .ok (.iload_n 2, 1) := by decide +kernel
theorem dX12_round_59 : decode cX12_round 59 = .ok (.ifCond .eq 29, 3) := by decide +kernel
theorem dX12_round_62 : decode cX12_round 62 = .ok (.aload_n 0, 1) := by decide +kernel
theorem dX12_round_63 : decode cX12_round 63 = .ok (.getfield 7, 3) := by decide +kernel
theorem dX12_round_66 : decode cX12_round 66 = .ok (.sipush 690, 3) := by decide +kernel
theorem dX12_round_69 : decode cX12_round 69 = .ok (.iload_n 3, 1) := by decide +kernel
theorem dX12_round_70 : decode cX12_round 70 = .ok (.iadd, 1) := by decide +kernel
theorem dX12_round_71 : decode cX12_round 71 = .ok (.iaload, 1) := by decide +kernel
theorem dX12_round_72 : decode cX12_round 72 = .ok (.aload_n 0, 1) := by decide +kernel
theorem dX12_round_73 : decode cX12_round 73 = .ok (.getfield 7, 3) := by decide +kernel
theorem dX12_round_76 : decode cX12_round 76 = .ok (.bipush 15, 2) := by decide +kernel
theorem dX12_round_78 : decode cX12_round 78 = .ok (.iload_n 3, 1) := by decide +kernel
theorem dX12_round_79 : decode cX12_round 79 = .ok (.iadd, 1) := by decide +kernel
theorem dX12_round_80 : decode cX12_round 80 = .ok (.iaload, 1) := by decide +kernel
theorem dX12_round_81 : decode cX12_round 81 = .ok (.if_icmp .ne 7, 3) := by decide +kernel
theorem dX12_round_84 : decode cX12_round 84 = .ok (.iconst 1, 1) := by decide +kernel
theorem dX12_round_85 : decode cX12_round 85 = .ok (.goto 4, 3) := by decide +kernel
theorem dX12_round_88 : decode cX12_round 88 = .ok (.iconst 0, 1) := by decide +kernel
theorem dX12_round_89 : decode cX12_round 89 = .ok (.istore_n 2, 1) := by decide +kernel
theorem dX12_round_90 : decode cX12_round 90 = .ok (.iinc 3 1, 3) := by decide +kernel
theorem dX12_round_93 : decode cX12_round 93 = .ok (.goto (-45), 3) := by decide +kernel
theorem dX12_round_96 : decode cX12_round 96 = .ok (.iload_n 2, 1) := by decide +kernel
theorem dX12_round_97 : decode cX12_round 97 = .ok (.ifCond .eq 5, 3) := by decide +kernel
theorem dX12_round_100 : decode cX12_round 100 = .ok (.iload_n 1, 1) := by decide +kernel
theorem dX12_round_101 : decode cX12_round 101 = .ok (.ireturn, 1) := by decide +kernel
theorem dX12_round_102 : decode cX12_round 102 = .ok (.iinc 1 1, 3) := by decide +kernel
theorem dX12_round_105 : decode cX12_round 105 = .ok (.goto (-99), 3) := by decide +kernel
theorem dX12_round_108 : decode cX12_round 108 = .ok (.iconst (-1), 1) := by decide +kernel
theorem dX12_round_109 : decode cX12_round 109 = .ok (.ireturn, 1) := by decide +kernel
theorem dX12_still_0 : decode cX12_still 0 = .ok (.iload_n 1, 1) := by decide +kernel
theorem dX12_still_1 : decode cX12_still 1 = .ok (.i2l, 1) := by decide +kernel
theorem dX12_still_2 : decode cX12_still 2 = .ok (.lconst 1, 1) := by decide +kernel
theorem dX12_still_3 : decode cX12_still 3 = .ok (.ldc2_w 173, 3) := by decide +kernel
theorem dX12_still_6 : decode cX12_still 6 = .ok (.invokestatic 54, 3) := by decide +kernel
theorem dX12_still_9 : decode cX12_still 9 = .ok (.ifCond .ne 8, 3) := by decide +kernel
theorem dX12_still_12 : decode cX12_still 12 = .ok (.aload_n 0, 1) := by decide +kernel
theorem dX12_still_13 : decode cX12_still 13 = .ok (.invokevirtual 62, 3) := by decide +kernel
theorem dX12_still_16 : decode cX12_still 16 = .ok (.ireturn, 1) := by decide +kernel
theorem dX12_still_17 : decode cX12_still 17 = .ok (.iconst 0, 1) := by decide +kernel
theorem dX12_still_18 : decode cX12_still 18 = .ok (.istore_n 2, 1) := by decide +kernel
theorem dX12_still_19 : decode cX12_still 19 = .ok (.iconst 0, 1) := by decide +kernel
theorem dX12_still_20 : decode cX12_still 20 = .ok (.istore_n 3, 1) := by decide +kernel
theorem dX12_still_21 : decode cX12_still 21 = .ok (.iload_n 3, 1) := by decide +kernel
theorem dX12_still_22 : decode cX12_still 22 = .ok (.bipush 12, 2) := by decide +kernel
theorem dX12_still_24 : decode cX12_still 24 = .ok (.if_icmp .ge 95, 3) := by decide +kernel
theorem dX12_still_27 : decode cX12_still 27 = .ok (.aload_n 0, 1) := by decide +kernel
theorem dX12_still_28 : decode cX12_still 28 = .ok (.invokevirtual 188, 3) := by decide +kernel
theorem dX12_still_31 : decode cX12_still 31 = .ok (.iconst 1, 1) := by decide +kernel
theorem dX12_still_32 : decode cX12_still 32 = .ok (.istore 4, 2) := by decide +kernel
theorem dX12_still_34 : decode cX12_still 34 = .ok (.iconst 0, 1) := by decide +kernel
theorem dX12_still_35 : decode cX12_still 35 = .ok (.istore 5, 2) := by decide +kernel
theorem dX12_still_37 : decode cX12_still 37 = .ok (.iload 5, 2) := by decide +kernel
theorem dX12_still_39 : decode cX12_still 39 = .ok (.iload_n 1, 1) := by decide +kernel
theorem dX12_still_40 : decode cX12_still 40 = .ok (.if_icmp .ge 58, 3) := by decide +kernel
theorem dX12_still_43 : decode cX12_still 43 = .ok (.aload_n 0, 1) := by decide +kernel
theorem dX12_still_44 : decode cX12_still 44 = .ok (.iconst 1, 1) := by decide +kernel
theorem dX12_still_45 : decode cX12_still 45 = .ok (.iload_n 3, 1) := by decide +kernel
theorem dX12_still_46 : decode cX12_still 46 = .ok (.invokevirtual 191, 3) := by decide +kernel
theorem dX12_still_49 : decode cX12_still 49 = .ok (.iload 4, 2) := by decide +kernel
theorem dX12_still_51 : decode cX12_still 51 = .ok (.ifCond .eq 38, 3) := by decide +kernel
theorem dX12_still_54 : decode cX12_still 54 = .ok (.aload_n 0, 1) := by decide +kernel
theorem dX12_still_55 : decode cX12_still 55 = .ok (.getfield 7, 3) := by decide +kernel
theorem dX12_still_58 : decode cX12_still 58 = .ok (.iconst 3, 1) := by decide +kernel
theorem dX12_still_59 : decode cX12_still 59 = .ok (.aload_n 0, 1) := by decide +kernel
theorem dX12_still_60 : decode cX12_still 60 = .ok (.getfield 7, 3) := by decide +kernel
theorem dX12_still_63 : decode cX12_still 63 = .ok (.sipush 675, 3) := by decide +kernel
theorem dX12_still_66 : decode cX12_still 66 = .ok (.iaload, 1) := by decide +kernel
theorem dX12_still_67 : decode cX12_still 67 = .ok (.iadd, 1) := by decide +kernel
theorem dX12_still_68 : decode cX12_still 68 = .ok (.iaload, 1) := by decide +kernel
theorem dX12_still_69 : decode cX12_still 69 = .ok (.aload_n 0, 1) := by decide +kernel
theorem dX12_still_70 : decode cX12_still 70 = .ok (.getfield 7, 3) := by decide +kernel
theorem dX12_still_73 : decode cX12_still 73 = .ok (.iconst 3, 1) := by decide +kernel
theorem dX12_still_74 : decode cX12_still 74 = .ok (.aload_n 0, 1) := by decide +kernel
theorem dX12_still_75 : decode cX12_still 75 = .ok (.getfield 7, 3) := by decide +kernel
theorem dX12_still_78 : decode cX12_still 78 = .ok (.iconst 0, 1) := by decide +kernel
theorem dX12_still_79 : decode cX12_still 79 = .ok (.iaload, 1) := by decide +kernel
theorem dX12_still_80 : decode cX12_still 80 = .ok (.iadd, 1) := by decide +kernel
theorem dX12_still_81 : decode cX12_still 81 = .ok (.iaload, 1) := by decide +kernel
theorem dX12_still_82 : decode cX12_still 82 = .ok (.if_icmp .ne 7, 3) := by decide +kernel
theorem dX12_still_85 : decode cX12_still 85 = .ok (.iconst 1, 1) := by decide +kernel
theorem dX12_still_86 : decode cX12_still 86 = .ok (.goto 4, 3) := by decide +kernel
theorem dX12_still_89 : decode cX12_still 89 = .ok (.iconst 0, 1) := by decide +kernel
theorem dX12_still_90 : decode cX12_still 90 = .ok (.istore 4, 2) := by decide +kernel
theorem dX12_still_92 : decode cX12_still 92 = .ok (.iinc 5 1, 3) := by decide +kernel
theorem dX12_still_95 : decode cX12_still 95 = .ok (.goto (-58), 3) := by decide +kernel
theorem dX12_still_98 : decode cX12_still 98 = .ok (.iload_n 2, 1) := by decide +kernel
theorem dX12_still_99 : decode cX12_still 99 = .ok (.iload 4, 2) := by decide +kernel
theorem dX12_still_101 : decode cX12_still 101 = .ok (.ifCond .eq 9, 3) := by decide +kernel
theorem dX12_still_104 : decode cX12_still 104 = .ok (.iconst 1, 1) := by decide +kernel
theorem dX12_still_105 : decode cX12_still 105 = .ok (.iload_n 3, 1) := by decide +kernel
theorem dX12_still_106 : decode cX12_still 106 = .ok (.ishl, 1) := by decide +kernel
theorem dX12_still_107 : decode cX12_still 107 = .ok (.goto 4, 3) := by decide +kernel
theorem dX12_still_110 : decode cX12_still 110 = .ok (.iconst 0, 1) := by decide +kernel
theorem dX12_still_111 : decode cX12_still 111 = .ok (.ior, 1) := by decide +kernel
theorem dX12_still_112 : decode cX12_still 112 = .ok (.istore_n 2, 1) := by decide +kernel
theorem dX12_still_113 : decode cX12_still 113 = .ok (.iinc 3 1, 3) := by decide +kernel
theorem dX12_still_116 : decode cX12_still 116 = .ok (.goto (-95), 3) := by decide +kernel
theorem dX12_still_119 : decode cX12_still 119 = .ok (.iload_n 2, 1) := by decide +kernel
theorem dX12_still_120 : decode cX12_still 120 = .ok (.ireturn, 1) := by decide +kernel
theorem dX12_most_0 : decode cX12_most 0 = .ok (.aload_n 0, 1) := by decide +kernel
theorem dX12_most_1 : decode cX12_most 1 = .ok (.iload_n 1, 1) := by decide +kernel
theorem dX12_most_2 : decode cX12_most 2 = .ok (.invokevirtual 185, 3) := by decide +kernel
theorem dX12_most_5 : decode cX12_most 5 = .ok (.ifCond .eq 25, 3) := by decide +kernel
theorem dX12_most_8 : decode cX12_most 8 = .ok (.iload_n 2, 1) := by decide +kernel
theorem dX12_most_9 : decode cX12_most 9 = .ok (.i2l, 1) := by decide +kernel
theorem dX12_most_10 : decode cX12_most 10 = .ok (.lconst 1, 1) := by decide +kernel
theorem dX12_most_11 : decode cX12_most 11 = .ok (.ldc2_w 173, 3) := by decide +kernel
theorem dX12_most_14 : decode cX12_most 14 = .ok (.invokestatic 54, 3) := by decide +kernel
theorem dX12_most_17 : decode cX12_most 17 = .ok (.ifCond .eq 13, 3) := by decide +kernel
theorem dX12_most_20 : decode cX12_most 20 = .ok (.iload_n 3, 1) := by decide +kernel
theorem dX12_most_21 : decode cX12_most 21 = .ok (.i2l, 1) := by decide +kernel
theorem dX12_most_22 : decode cX12_most 22 = .ok (.lconst 0, 1) := by decide +kernel
theorem dX12_most_23 : decode cX12_most 23 = .ok (.lconst 1, 1) := by decide +kernel
theorem dX12_most_24 : decode cX12_most 24 = .ok (.invokestatic 54, 3) := by decide +kernel
theorem dX12_most_27 : decode cX12_most 27 = .ok (.ifCond .ne 8, 3) := by decide +kernel
theorem dX12_most_30 : decode cX12_most 30 = .ok (.aload_n 0, 1) := by decide +kernel
theorem dX12_most_31 : decode cX12_most 31 = .ok (.invokevirtual 62, 3) := by decide +kernel
theorem dX12_most_34 : decode cX12_most 34 = .ok (.ireturn, 1) := by decide +kernel
theorem dX12_most_35 : decode cX12_most 35 = .ok (.iconst 0, 1) := by decide +kernel
theorem dX12_most_36 : decode cX12_most 36 = .ok (.istore 4, 2) := by decide +kernel
theorem dX12_most_38 : decode cX12_most 38 = .ok (.iconst (-1), 1) := by decide +kernel
theorem dX12_most_39 : decode cX12_most 39 = .ok (.istore 5, 2) := by decide +kernel
theorem dX12_most_41 : decode cX12_most 41 = .ok (.iconst 0, 1) := by decide +kernel
theorem dX12_most_42 : decode cX12_most 42 = .ok (.istore 6, 2) := by decide +kernel
theorem dX12_most_44 : decode cX12_most 44 = .ok (.iload 6, 2) := by decide +kernel
theorem dX12_most_46 : decode cX12_most 46 = .ok (.bipush 12, 2) := by decide +kernel
theorem dX12_most_48 : decode cX12_most 48 = .ok (.if_icmp .ge 64, 3) := by decide +kernel
theorem dX12_most_51 : decode cX12_most 51 = .ok (.aload_n 0, 1) := by decide +kernel
theorem dX12_most_52 : decode cX12_most 52 = .ok (.invokevirtual 188, 3) := by decide +kernel
theorem dX12_most_55 : decode cX12_most 55 = .ok (.aload_n 0, 1) := by decide +kernel
theorem dX12_most_56 : decode cX12_most 56 = .ok (.iload_n 2, 1) := by decide +kernel
theorem dX12_most_57 : decode cX12_most 57 = .ok (.iload 6, 2) := by decide +kernel
theorem dX12_most_59 : decode cX12_most 59 = .ok (.invokevirtual 191, 3) := by decide +kernel
theorem dX12_most_62 : decode cX12_most 62 = .ok (.aload_n 0, 1) := by decide +kernel
theorem dX12_most_63 : decode cX12_most 63 = .ok (.getfield 7, 3) := by decide +kernel
theorem dX12_most_66 : decode cX12_most 66 = .ok (.sipush 695, 3) := by decide +kernel
theorem dX12_most_69 : decode cX12_most 69 = .ok (.iload_n 1, 1) := by decide +kernel
theorem dX12_most_70 : decode cX12_most 70 = .ok (.iadd, 1) := by decide +kernel
theorem dX12_most_71 : decode cX12_most 71 = .ok (.iaload, 1) := by decide +kernel
theorem dX12_most_72 : decode cX12_most 72 = .ok (.istore 7, 2) := by decide +kernel
theorem dX12_most_74 : decode cX12_most 74 = .ok (.iload 7, 2) := by decide +kernel
theorem dX12_most_76 : decode cX12_most 76 = .ok (.iload 5, 2) := by decide +kernel
theorem dX12_most_78 : decode cX12_most 78 = .ok (.if_icmp .le 8, 3) := by decide +kernel
theorem dX12_most_81 : decode cX12_most 81 = .ok (.iload 6, 2) := by decide +kernel
theorem dX12_most_83 : decode cX12_most 83 = .ok (.goto 5, 3) := by decide +kernel
theorem dX12_most_86 : decode cX12_most 86 = .ok (.iload 4, 2) := by decide +kernel
theorem dX12_most_88 : decode cX12_most 88 = .ok (.istore 4, 2) := by decide +kernel
theorem dX12_most_90 : decode cX12_most 90 = .ok (.iload 7, 2) := by decide +kernel
theorem dX12_most_92 : decode cX12_most 92 = .ok (.iload 5, 2) := by decide +kernel
theorem dX12_most_94 : decode cX12_most 94 = .ok (.if_icmp .le 8, 3) := by decide +kernel
theorem dX12_most_97 : decode cX12_most 97 = .ok (.iload 7, 2) := by decide +kernel
theorem dX12_most_99 : decode cX12_most 99 = .ok (.goto 5, 3) := by decide +kernel
theorem dX12_most_102 : decode cX12_most 102 = .ok (.iload 5, 2) := by decide +kernel
theorem dX12_most_104 : decode cX12_most 104 = .ok (.istore 5, 2) := by decide +kernel
theorem dX12_most_106 : decode cX12_most 106 = .ok (.iinc 6 1, 3) := by decide +kernel
theorem dX12_most_109 : decode cX12_most 109 = .ok (.goto (-65), 3) := by decide +kernel
theorem dX12_most_112 : decode cX12_most 112 = .ok (.iload_n 3, 1) := by decide +kernel
theorem dX12_most_113 : decode cX12_most 113 = .ok (.ifCond .ne 8, 3) := by decide +kernel
theorem dX12_most_116 : decode cX12_most 116 = .ok (.iload 4, 2) := by decide +kernel
theorem dX12_most_118 : decode cX12_most 118 = .ok (.goto 5, 3) := by decide +kernel
theorem dX12_most_121 : decode cX12_most 121 = .ok (.iload 5, 2) := by decide +kernel
theorem dX12_most_123 : decode cX12_most 123 = .ok (.ireturn, 1) := by decide +kernel
theorem dX12_costOf_0 : decode cX12_costOf 0 = .ok (.aload_n 0, 1) := by decide +kernel
theorem dX12_costOf_1 : decode cX12_costOf 1 = .ok (.getfield 13, 3) := by decide +kernel
theorem dX12_costOf_4 : decode cX12_costOf 4 = .ok (.iconst 0, 1) := by decide +kernel
theorem dX12_costOf_5 : decode cX12_costOf 5 = .ok (.iaload, 1) := by decide +kernel
theorem dX12_costOf_6 : decode cX12_costOf 6 = .ok (.istore_n 2, 1) := by decide +kernel
theorem dX12_costOf_7 : decode cX12_costOf 7 = .ok (.iload_n 2, 1) := by decide +kernel
theorem dX12_costOf_8 : decode cX12_costOf 8 = .ok (.iconst 1, 1) := by decide +kernel
theorem dX12_costOf_9 : decode cX12_costOf 9 = .ok (.isub, 1) := by decide +kernel
theorem dX12_costOf_10 : decode cX12_costOf 10 = .ok (.istore_n 3, 1) := by decide +kernel
theorem dX12_costOf_11 : decode cX12_costOf 11 = .ok (.iload_n 3, 1) := by decide +kernel
theorem dX12_costOf_12 : decode cX12_costOf 12 = .ok (.ifCond .lt 162, 3) := by decide +kernel
theorem dX12_costOf_15 : decode cX12_costOf 15 = .ok (.iconst 0, 1) := by decide +kernel
theorem dX12_costOf_16 : decode cX12_costOf 16 = .ok (.istore 4, 2) := by decide +kernel
theorem dX12_costOf_18 : decode cX12_costOf 18 = .ok (.iload 4, 2) := by decide +kernel
theorem dX12_costOf_20 : decode cX12_costOf 20 = .ok (.bipush 10, 2) := by decide +kernel
theorem dX12_costOf_22 : decode cX12_costOf 22 = .ok (.if_icmp .ge 146, 3) := by decide +kernel
theorem dX12_costOf_25 : decode cX12_costOf 25 = .ok (.iload_n 3, 1) := by decide +kernel
theorem dX12_costOf_26 : decode cX12_costOf 26 = .ok (.iload_n 2, 1) := by decide +kernel
theorem dX12_costOf_27 : decode cX12_costOf 27 = .ok (.iconst 1, 1) := by decide +kernel
theorem dX12_costOf_28 : decode cX12_costOf 28 = .ok (.isub, 1) := by decide +kernel
theorem dX12_costOf_29 : decode cX12_costOf 29 = .ok (.if_icmp .ne 22, 3) := by decide +kernel
theorem dX12_costOf_32 : decode cX12_costOf 32 = .ok (.iload 4, 2) := by decide +kernel
theorem dX12_costOf_34 : decode cX12_costOf 34 = .ok (.iload_n 1, 1) := by decide +kernel
theorem dX12_costOf_35 : decode cX12_costOf 35 = .ok (.invokestatic 46, 3) := by decide +kernel
theorem dX12_costOf_38 : decode cX12_costOf 38 = .ok (.iconst 2, 1) := by decide +kernel
theorem dX12_costOf_39 : decode cX12_costOf 39 = .ok (.if_icmp .ge 7, 3) := by decide +kernel
theorem dX12_costOf_42 : decode cX12_costOf 42 = .ok (.iconst 0, 1) := by decide +kernel
theorem dX12_costOf_43 : decode cX12_costOf 43 = .ok (.goto 10, 3) := by decide +kernel
theorem dX12_costOf_46 : decode cX12_costOf 46 = .ok (.bipush 99, 2) := by decide +kernel
theorem dX12_costOf_48 : decode cX12_costOf 48 = .ok (.goto 5, 3) := by decide +kernel
theorem dX12_costOf_51 : decode cX12_costOf 51 = .ok (.bipush 99, 2) := by decide +kernel
theorem dX12_costOf_53 : decode cX12_costOf 53 = .ok (.istore 5, 2) := by decide +kernel
theorem dX12_costOf_55 : decode cX12_costOf 55 = .ok (.iconst 0, 1) := by decide +kernel
theorem dX12_costOf_56 : decode cX12_costOf 56 = .ok (.istore 6, 2) := by decide +kernel
theorem dX12_costOf_58 : decode cX12_costOf 58 = .ok (.iload 6, 2) := by decide +kernel
theorem dX12_costOf_60 : decode cX12_costOf 60 = .ok (.bipush 10, 2) := by decide +kernel
theorem dX12_costOf_62 : decode cX12_costOf 62 = .ok (.if_icmp .ge 67, 3) := by decide +kernel
theorem dX12_costOf_65 : decode cX12_costOf 65 = .ok (.iload_n 3, 1) := by decide +kernel
theorem dX12_costOf_66 : decode cX12_costOf 66 = .ok (.iload_n 2, 1) := by decide +kernel
theorem dX12_costOf_67 : decode cX12_costOf 67 = .ok (.iconst 1, 1) := by decide +kernel
theorem dX12_costOf_68 : decode cX12_costOf 68 = .ok (.isub, 1) := by decide +kernel
theorem dX12_costOf_69 : decode cX12_costOf 69 = .ok (.if_icmp .ge 60, 3) := by decide +kernel
theorem dX12_costOf_72 : decode cX12_costOf 72 = .ok (.iload 4, 2) := by decide +kernel
theorem dX12_costOf_74 : decode cX12_costOf 74 = .ok (.iload 6, 2) := by decide +kernel
theorem dX12_costOf_76 : decode cX12_costOf 76 = .ok (.invokestatic 46, 3) := by decide +kernel
theorem dX12_costOf_79 : decode cX12_costOf 79 = .ok (.iconst 2, 1) := by decide +kernel
theorem dX12_costOf_80 : decode cX12_costOf 80 = .ok (.if_icmp .ge 39, 3) := by decide +kernel
theorem dX12_costOf_83 : decode cX12_costOf 83 = .ok (.aload_n 0, 1) := by decide +kernel
theorem dX12_costOf_84 : decode cX12_costOf 84 = .ok (.getfield 30, 3) := by decide +kernel
theorem dX12_costOf_87 : decode cX12_costOf 87 = .ok (.bipush 10, 2) := by decide +kernel
theorem dX12_costOf_89 : decode cX12_costOf 89 = .ok (.iload_n 3, 1) := by decide +kernel
theorem dX12_costOf_90 : decode cX12_costOf 90 = .ok (.iconst 1, 1) := by decide +kernel
theorem dX12_costOf_91 : decode cX12_costOf 91 = .ok (.iadd, 1) := by decide +kernel
theorem dX12_costOf_92 : decode cX12_costOf 92 = .ok (.imul, 1) := by decide +kernel
theorem dX12_costOf_93 : decode cX12_costOf 93 = .ok (.iload 6, 2) := by decide +kernel
theorem dX12_costOf_95 : decode cX12_costOf 95 = .ok (.iadd, 1) := by decide +kernel
theorem dX12_costOf_96 : decode cX12_costOf 96 = .ok (.iaload, 1) := by decide +kernel
theorem dX12_costOf_97 : decode cX12_costOf 97 = .ok (.iload 5, 2) := by decide +kernel
theorem dX12_costOf_99 : decode cX12_costOf 99 = .ok (.if_icmp .ge 20, 3) := by decide +kernel
theorem dX12_costOf_102 : decode cX12_costOf 102 = .ok (.aload_n 0, 1) := by decide +kernel
theorem dX12_costOf_103 : decode cX12_costOf 103 = .ok (.getfield 30, 3) := by decide +kernel
theorem dX12_costOf_106 : decode cX12_costOf 106 = .ok (.bipush 10, 2) := by decide +kernel
theorem dX12_costOf_108 : decode cX12_costOf 108 = .ok (.iload_n 3, 1) := by decide +kernel
theorem dX12_costOf_109 : decode cX12_costOf 109 = .ok (.iconst 1, 1) := by decide +kernel
theorem dX12_costOf_110 : decode cX12_costOf 110 = .ok (.iadd, 1) := by decide +kernel
theorem dX12_costOf_111 : decode cX12_costOf 111 = .ok (.imul, 1) := by decide +kernel
theorem dX12_costOf_112 : decode cX12_costOf 112 = .ok (.iload 6, 2) := by decide +kernel
theorem dX12_costOf_114 : decode cX12_costOf 114 = .ok (.iadd, 1) := by decide +kernel
theorem dX12_costOf_115 : decode cX12_costOf 115 = .ok (.iaload, 1) := by decide +kernel
theorem dX12_costOf_116 : decode cX12_costOf 116 = .ok (.goto 5, 3) := by decide +kernel
theorem dX12_costOf_119 : decode cX12_costOf 119 = .ok (.iload 5, 2) := by decide +kernel
theorem dX12_costOf_121 : decode cX12_costOf 121 = .ok (.istore 5, 2) := by decide +kernel
theorem dX12_costOf_123 : decode cX12_costOf 123 = .ok (.iinc 6 1, 3) := by decide +kernel
theorem dX12_costOf_126 : decode cX12_costOf 126 = .ok (.goto (-68), 3) := by decide +kernel
theorem dX12_costOf_129 : decode cX12_costOf 129 = .ok (.aload_n 0, 1) := by decide +kernel
theorem dX12_costOf_130 : decode cX12_costOf 130 = .ok (.getfield 30, 3) := by decide +kernel
theorem dX12_costOf_133 : decode cX12_costOf 133 = .ok (.bipush 10, 2) := by decide +kernel
theorem dX12_costOf_135 : decode cX12_costOf 135 = .ok (.iload_n 3, 1) := by decide +kernel
theorem dX12_costOf_136 : decode cX12_costOf 136 = .ok (.imul, 1) := by decide +kernel
theorem dX12_costOf_137 : decode cX12_costOf 137 = .ok (.iload 4, 2) := by decide +kernel
theorem dX12_costOf_139 : decode cX12_costOf 139 = .ok (.iadd, 1) := by decide +kernel
theorem dX12_costOf_140 : decode cX12_costOf 140 = .ok (.iload 5, 2) := by decide +kernel
theorem dX12_costOf_142 : decode cX12_costOf 142 = .ok (.aload_n 0, 1) := by decide +kernel
theorem dX12_costOf_143 : decode cX12_costOf 143 = .ok (.getfield 7, 3) := by decide +kernel
theorem dX12_costOf_146 : decode cX12_costOf 146 = .ok (.iconst 3, 1) := by decide +kernel
theorem dX12_costOf_147 : decode cX12_costOf 147 = .ok (.iload_n 3, 1) := by decide +kernel
theorem dX12_costOf_148 : decode cX12_costOf 148 = .ok (.iadd, 1) := by decide +kernel
theorem dX12_costOf_149 : decode cX12_costOf 149 = .ok (.iaload, 1) := by decide +kernel
theorem dX12_costOf_150 : decode cX12_costOf 150 = .ok (.iload 4, 2) := by decide +kernel
theorem dX12_costOf_152 : decode cX12_costOf 152 = .ok (.if_icmp .ne 7, 3) := by decide +kernel
theorem dX12_costOf_155 : decode cX12_costOf 155 = .ok (.iconst 0, 1) := by decide +kernel
theorem dX12_costOf_156 : decode cX12_costOf 156 = .ok (.goto 4, 3) := by decide +kernel
theorem dX12_costOf_159 : decode cX12_costOf 159 = .ok (.iconst 1, 1) := by decide +kernel
theorem dX12_costOf_160 : decode cX12_costOf 160 = .ok (.iadd, 1) := by decide +kernel
theorem dX12_costOf_161 : decode cX12_costOf 161 = .ok (.iastore, 1) := by decide +kernel
theorem dX12_costOf_162 : decode cX12_costOf 162 = .ok (.iinc 4 1, 3) := by decide +kernel
theorem dX12_costOf_165 : decode cX12_costOf 165 = .ok (.goto (-147), 3) := by decide +kernel
theorem dX12_costOf_168 : decode cX12_costOf 168 = .ok (.iinc 3 (-1), 3) := by decide +kernel
theorem dX12_costOf_171 : decode cX12_costOf 171 = .ok (.goto (-160), 3) := by decide +kernel
theorem dX12_costOf_174 : decode cX12_costOf 174 = .ok (.aload_n 0, 1) := by decide +kernel
theorem dX12_costOf_175 : decode cX12_costOf 175 = .ok (.getfield 30, 3) := by decide +kernel
theorem dX12_costOf_178 : decode cX12_costOf 178 = .ok (.iload_n 1, 1) := by decide +kernel
theorem dX12_costOf_179 : decode cX12_costOf 179 = .ok (.iaload, 1) := by decide +kernel
theorem dX12_costOf_180 : decode cX12_costOf 180 = .ok (.ireturn, 1) := by decide +kernel
theorem dX12_smooth_0 : decode cX12_smooth 0 = .ok (.iload_n 1, 1) := by decide +kernel
theorem dX12_smooth_1 : decode cX12_smooth 1 = .ok (.i2l, 1) := by decide +kernel
theorem dX12_smooth_2 : decode cX12_smooth 2 = .ok (.ldc2_w 194, 3) := by decide +kernel
theorem dX12_smooth_5 : decode cX12_smooth 5 = .ok (.aload_n 0, 1) := by decide +kernel
theorem dX12_smooth_6 : decode cX12_smooth 6 = .ok (.getfield 13, 3) := by decide +kernel
theorem dX12_smooth_9 : decode cX12_smooth 9 = .ok (.iconst 0, 1) := by decide +kernel
theorem dX12_smooth_10 : decode cX12_smooth 10 = .ok (.iaload, 1) := by decide +kernel
theorem dX12_smooth_11 : decode cX12_smooth 11 = .ok (.iconst 1, 1) := by decide +kernel
theorem dX12_smooth_12 : decode cX12_smooth 12 = .ok (.isub, 1) := by decide +kernel
theorem dX12_smooth_13 : decode cX12_smooth 13 = .ok (.i2l, 1) := by decide +kernel
theorem dX12_smooth_14 : decode cX12_smooth 14 = .ok (.invokestatic 54, 3) := by decide +kernel
theorem dX12_smooth_17 : decode cX12_smooth 17 = .ok (.ifCond .ne 8, 3) := by decide +kernel
theorem dX12_smooth_20 : decode cX12_smooth 20 = .ok (.aload_n 0, 1) := by decide +kernel
theorem dX12_smooth_21 : decode cX12_smooth 21 = .ok (.invokevirtual 196, 3) := by decide +kernel
theorem dX12_smooth_24 : decode cX12_smooth 24 = .ok (.ireturn, 1) := by decide +kernel
theorem dX12_smooth_25 : decode cX12_smooth 25 = .ok (.iconst 0, 1) := by decide +kernel
theorem dX12_smooth_26 : decode cX12_smooth 26 = .ok (.istore_n 2, 1) := by decide +kernel
theorem dX12_smooth_27 : decode cX12_smooth 27 = .ok (.sipush 999, 3) := by decide +kernel
theorem dX12_smooth_30 : decode cX12_smooth 30 = .ok (.istore_n 3, 1) := by decide +kernel
theorem dX12_smooth_31 : decode cX12_smooth 31 = .ok (.iconst 0, 1) := by decide +kernel
theorem dX12_smooth_32 : decode cX12_smooth 32 = .ok (.istore 4, 2) := by decide +kernel
theorem dX12_smooth_34 : decode cX12_smooth 34 = .ok (.iload 4, 2) := by decide +kernel
theorem dX12_smooth_36 : decode cX12_smooth 36 = .ok (.bipush 10, 2) := by decide +kernel
theorem dX12_smooth_38 : decode cX12_smooth 38 = .ok (.if_icmp .ge 43, 3) := by decide +kernel
theorem dX12_smooth_41 : decode cX12_smooth 41 = .ok (.aload_n 0, 1) := by decide +kernel
theorem dX12_smooth_42 : decode cX12_smooth 42 = .ok (.iload 4, 2) := by decide +kernel
theorem dX12_smooth_44 : decode cX12_smooth 44 = .ok (.invokevirtual 199, 3) := by decide +kernel
theorem dX12_smooth_47 : decode cX12_smooth 47 = .ok (.istore 5, 2) := by decide +kernel
theorem dX12_smooth_49 : decode cX12_smooth 49 = .ok (.iload 5, 2) := by decide +kernel
theorem dX12_smooth_51 : decode cX12_smooth 51 = .ok (.iload_n 3, 1) := by decide +kernel
theorem dX12_smooth_52 : decode cX12_smooth 52 = .ok (.if_icmp .ge 8, 3) := by decide +kernel
theorem dX12_smooth_55 : decode cX12_smooth 55 = .ok (.iload 4, 2) := by decide +kernel
theorem dX12_smooth_57 : decode cX12_smooth 57 = .ok (.goto 4, 3) := by decide +kernel
theorem dX12_smooth_60 : decode cX12_smooth 60 = .ok (.iload_n 2, 1) := by decide +kernel
theorem dX12_smooth_61 : decode cX12_smooth 61 = .ok (.istore_n 2, 1) := by decide +kernel
theorem dX12_smooth_62 : decode cX12_smooth 62 = .ok (.iload 5, 2) := by decide +kernel
theorem dX12_smooth_64 : decode cX12_smooth 64 = .ok (.iload_n 3, 1) := by decide +kernel
theorem dX12_smooth_65 : decode cX12_smooth 65 = .ok (.if_icmp .ge 8, 3) := by decide +kernel
theorem dX12_smooth_68 : decode cX12_smooth 68 = .ok (.iload 5, 2) := by decide +kernel
theorem dX12_smooth_70 : decode cX12_smooth 70 = .ok (.goto 4, 3) := by decide +kernel
theorem dX12_smooth_73 : decode cX12_smooth 73 = .ok (.iload_n 3, 1) := by decide +kernel
theorem dX12_smooth_74 : decode cX12_smooth 74 = .ok (.istore_n 3, 1) := by decide +kernel
theorem dX12_smooth_75 : decode cX12_smooth 75 = .ok (.iinc 4 1, 3) := by decide +kernel
theorem dX12_smooth_78 : decode cX12_smooth 78 = .ok (.goto (-44), 3) := by decide +kernel
theorem dX12_smooth_81 : decode cX12_smooth 81 = .ok (.aload_n 0, 1) := by decide +kernel
theorem dX12_smooth_82 : decode cX12_smooth 82 = .ok (.iload_n 2, 1) := by decide +kernel
theorem dX12_smooth_83 : decode cX12_smooth 83 = .ok (.invokevirtual 199, 3) := by decide +kernel
theorem dX12_smooth_86 : decode cX12_smooth 86 = .ok (.pop, 1) := by decide +kernel
theorem dX12_smooth_87 : decode cX12_smooth 87 = .ok (.iload_n 2, 1) := by decide +kernel
theorem dX12_smooth_88 : decode cX12_smooth 88 = .ok (.istore 4, 2) := by decide +kernel
theorem dX12_smooth_90 : decode cX12_smooth 90 = .ok (.iconst 1, 1) := by decide +kernel
theorem dX12_smooth_91 : decode cX12_smooth 91 = .ok (.istore 5, 2) := by decide +kernel
theorem dX12_smooth_93 : decode cX12_smooth 93 = .ok (.iload 5, 2) := by decide +kernel
theorem dX12_smooth_95 : decode cX12_smooth 95 = .ok (.iload_n 1, 1) := by decide +kernel
theorem dX12_smooth_96 : decode cX12_smooth 96 = .ok (.if_icmp .gt 90, 3) := by decide +kernel
theorem dX12_smooth_99 : decode cX12_smooth 99 = .ok (.aload_n 0, 1) := by decide +kernel
theorem dX12_smooth_100 : decode cX12_smooth 100 = .ok (.getfield 30, 3) := by decide +kernel
theorem dX12_smooth_103 : decode cX12_smooth 103 = .ok (.bipush 10, 2) := by decide +kernel
theorem dX12_smooth_105 : decode cX12_smooth 105 = .ok (.iload 5, 2) := by decide +kernel
theorem dX12_smooth_107 : decode cX12_smooth 107 = .ok (.iconst 1, 1) := by decide +kernel
theorem dX12_smooth_108 : decode cX12_smooth 108 = .ok (.isub, 1) := by decide +kernel
theorem dX12_smooth_109 : decode cX12_smooth 109 = .ok (.imul, 1) := by decide +kernel
theorem dX12_smooth_110 : decode cX12_smooth 110 = .ok (.iload 4, 2) := by decide +kernel
theorem dX12_smooth_112 : decode cX12_smooth 112 = .ok (.iadd, 1) := by decide +kernel
theorem dX12_smooth_113 : decode cX12_smooth 113 = .ok (.iaload, 1) := by decide +kernel
theorem dX12_smooth_114 : decode cX12_smooth 114 = .ok (.aload_n 0, 1) := by decide +kernel
theorem dX12_smooth_115 : decode cX12_smooth 115 = .ok (.getfield 7, 3) := by decide +kernel
theorem dX12_smooth_118 : decode cX12_smooth 118 = .ok (.iconst 3, 1) := by decide +kernel
theorem dX12_smooth_119 : decode cX12_smooth 119 = .ok (.iload 5, 2) := by decide +kernel
theorem dX12_smooth_121 : decode cX12_smooth 121 = .ok (.iadd, 1) := by decide +kernel
theorem dX12_smooth_122 : decode cX12_smooth 122 = .ok (.iconst 1, 1) := by decide +kernel
theorem dX12_smooth_123 : decode cX12_smooth 123 = .ok (.isub, 1) := by decide +kernel
theorem dX12_smooth_124 : decode cX12_smooth 124 = .ok (.iaload, 1) := by decide +kernel
theorem dX12_smooth_125 : decode cX12_smooth 125 = .ok (.iload 4, 2) := by decide +kernel
theorem dX12_smooth_127 : decode cX12_smooth 127 = .ok (.if_icmp .ne 7, 3) := by decide +kernel
theorem dX12_smooth_130 : decode cX12_smooth 130 = .ok (.iconst 0, 1) := by decide +kernel
theorem dX12_smooth_131 : decode cX12_smooth 131 = .ok (.goto 4, 3) := by decide +kernel
theorem dX12_smooth_134 : decode cX12_smooth 134 = .ok (.iconst 1, 1) := by decide +kernel
theorem dX12_smooth_135 : decode cX12_smooth 135 = .ok (.isub, 1) := by decide +kernel
theorem dX12_smooth_136 : decode cX12_smooth 136 = .ok (.istore 6, 2) := by decide +kernel
theorem dX12_smooth_138 : decode cX12_smooth 138 = .ok (.iconst 0, 1) := by decide +kernel
theorem dX12_smooth_139 : decode cX12_smooth 139 = .ok (.istore 7, 2) := by decide +kernel
theorem dX12_smooth_141 : decode cX12_smooth 141 = .ok (.iload 4, 2) := by decide +kernel
theorem dX12_smooth_143 : decode cX12_smooth 143 = .ok (.iload 7, 2) := by decide +kernel
theorem dX12_smooth_145 : decode cX12_smooth 145 = .ok (.invokestatic 46, 3) := by decide +kernel
theorem dX12_smooth_148 : decode cX12_smooth 148 = .ok (.iconst 1, 1) := by decide +kernel
theorem dX12_smooth_149 : decode cX12_smooth 149 = .ok (.if_icmp .gt 21, 3) := by decide +kernel
theorem dX12_smooth_152 : decode cX12_smooth 152 = .ok (.aload_n 0, 1) := by decide +kernel
theorem dX12_smooth_153 : decode cX12_smooth 153 = .ok (.getfield 30, 3) := by decide +kernel
theorem dX12_smooth_156 : decode cX12_smooth 156 = .ok (.bipush 10, 2) := by decide +kernel
theorem dX12_smooth_158 : decode cX12_smooth 158 = .ok (.iload 5, 2) := by decide +kernel
theorem dX12_smooth_160 : decode cX12_smooth 160 = .ok (.imul, 1) := by decide +kernel
theorem dX12_smooth_161 : decode cX12_smooth 161 = .ok (.iload 7, 2) := by decide +kernel
theorem dX12_smooth_163 : decode cX12_smooth 163 = .ok (.iadd, 1) := by decide +kernel
theorem dX12_smooth_164 : decode cX12_smooth 164 = .ok (.iaload, 1) := by decide +kernel
theorem dX12_smooth_165 : decode cX12_smooth 165 = .ok (.iload 6, 2) := by decide +kernel
theorem dX12_smooth_167 : decode cX12_smooth 167 = .ok (.if_icmp .eq 9, 3) := by decide +kernel
theorem dX12_smooth_170 : decode cX12_smooth 170 = .ok (.iinc 7 1, 3) := by decide +kernel
theorem dX12_smooth_173 : decode cX12_smooth 173 = .ok (.goto (-32), 3) := by decide +kernel
theorem dX12_smooth_176 : decode cX12_smooth 176 = .ok (.iload 7, 2) := by decide +kernel
theorem dX12_smooth_178 : decode cX12_smooth 178 = .ok (.istore 4, 2) := by decide +kernel
theorem dX12_smooth_180 : decode cX12_smooth 180 = .ok (.iinc 5 1, 3) := by decide +kernel
theorem dX12_smooth_183 : decode cX12_smooth 183 = .ok (.goto (-90), 3) := by decide +kernel
theorem dX12_smooth_186 : decode cX12_smooth 186 = .ok (.iload_n 1, 1) := by decide +kernel
theorem dX12_smooth_187 : decode cX12_smooth 187 = .ok (.ifCond .ge 7, 3) := by decide +kernel
theorem dX12_smooth_190 : decode cX12_smooth 190 = .ok (.iload_n 3, 1) := by decide +kernel
theorem dX12_smooth_191 : decode cX12_smooth 191 = .ok (.goto 5, 3) := by decide +kernel
theorem dX12_smooth_194 : decode cX12_smooth 194 = .ok (.iload 4, 2) := by decide +kernel
theorem dX12_smooth_196 : decode cX12_smooth 196 = .ok (.ireturn, 1) := by decide +kernel
theorem dX12_seen_0 : decode cX12_seen 0 = .ok (.iload_n 1, 1) := by decide +kernel
theorem dX12_seen_1 : decode cX12_seen 1 = .ok (.i2l, 1) := by decide +kernel
theorem dX12_seen_2 : decode cX12_seen 2 = .ok (.lconst 1, 1) := by decide +kernel
theorem dX12_seen_3 : decode cX12_seen 3 = .ok (.ldc2_w 202, 3) := by decide +kernel
theorem dX12_seen_6 : decode cX12_seen 6 = .ok (.invokestatic 54, 3) := by decide +kernel
theorem dX12_seen_9 : decode cX12_seen 9 = .ok (.ifCond .eq 15, 3) := by decide +kernel
theorem dX12_seen_12 : decode cX12_seen 12 = .ok (.iload_n 2, 1) := by decide +kernel
theorem dX12_seen_13 : decode cX12_seen 13 = .ok (.i2l, 1) := by decide +kernel
theorem dX12_seen_14 : decode cX12_seen 14 = .ok (.lconst 0, 1) := by decide +kernel
theorem dX12_seen_15 : decode cX12_seen 15 = .ok (.ldc2_w 121, 3) := by decide +kernel
theorem dX12_seen_18 : decode cX12_seen 18 = .ok (.invokestatic 54, 3) := by decide +kernel
theorem dX12_seen_21 : decode cX12_seen 21 = .ok (.ifCond .ne 8, 3) := by decide +kernel
theorem dX12_seen_24 : decode cX12_seen 24 = .ok (.aload_n 0, 1) := by decide +kernel
theorem dX12_seen_25 : decode cX12_seen 25 = .ok (.invokevirtual 62, 3) := by decide +kernel
theorem dX12_seen_28 : decode cX12_seen 28 = .ok (.ireturn, 1) := by decide +kernel
theorem dX12_seen_29 : decode cX12_seen 29 = .ok (.aload_n 0, 1) := by decide +kernel
theorem dX12_seen_30 : decode cX12_seen 30 = .ok (.getfield 13, 3) := by decide +kernel
theorem dX12_seen_33 : decode cX12_seen 33 = .ok (.bipush 8, 2) := by decide +kernel
theorem dX12_seen_35 : decode cX12_seen 35 = .ok (.iaload, 1) := by decide +kernel
theorem dX12_seen_36 : decode cX12_seen 36 = .ok (.istore_n 3, 1) := by decide +kernel
theorem dX12_seen_37 : decode cX12_seen 37 = .ok (.iload_n 3, 1) := by decide +kernel
theorem dX12_seen_38 : decode cX12_seen 38 = .ok (.bipush 6, 2) := by decide +kernel
theorem dX12_seen_40 : decode cX12_seen 40 = .ok (.if_icmp .ne 8, 3) := by decide +kernel
theorem dX12_seen_43 : decode cX12_seen 43 = .ok (.aload_n 0, 1) := by decide +kernel
theorem dX12_seen_44 : decode cX12_seen 44 = .ok (.invokevirtual 66, 3) := by decide +kernel
theorem dX12_seen_47 : decode cX12_seen 47 = .ok (.ireturn, 1) := by decide +kernel
theorem dX12_seen_48 : decode cX12_seen 48 = .ok (.aload_n 0, 1) := by decide +kernel
theorem dX12_seen_49 : decode cX12_seen 49 = .ok (.getfield 13, 3) := by decide +kernel
theorem dX12_seen_52 : decode cX12_seen 52 = .ok (.bipush 9, 2) := by decide +kernel
theorem dX12_seen_54 : decode cX12_seen 54 = .ok (.iload_n 3, 1) := by decide +kernel
theorem dX12_seen_55 : decode cX12_seen 55 = .ok (.iadd, 1) := by decide +kernel
theorem dX12_seen_56 : decode cX12_seen 56 = .ok (.iload_n 1, 1) := by decide +kernel
theorem dX12_seen_57 : decode cX12_seen 57 = .ok (.iastore, 1) := by decide +kernel
theorem dX12_seen_58 : decode cX12_seen 58 = .ok (.aload_n 0, 1) := by decide +kernel
theorem dX12_seen_59 : decode cX12_seen 59 = .ok (.getfield 13, 3) := by decide +kernel
theorem dX12_seen_62 : decode cX12_seen 62 = .ok (.bipush 15, 2) := by decide +kernel
theorem dX12_seen_64 : decode cX12_seen 64 = .ok (.iload_n 3, 1) := by decide +kernel
theorem dX12_seen_65 : decode cX12_seen 65 = .ok (.iadd, 1) := by decide +kernel
theorem dX12_seen_66 : decode cX12_seen 66 = .ok (.iload_n 2, 1) := by decide +kernel
theorem dX12_seen_67 : decode cX12_seen 67 = .ok (.iastore, 1) := by decide +kernel
theorem dX12_seen_68 : decode cX12_seen 68 = .ok (.aload_n 0, 1) := by decide +kernel
theorem dX12_seen_69 : decode cX12_seen 69 = .ok (.getfield 13, 3) := by decide +kernel
theorem dX12_seen_72 : decode cX12_seen 72 = .ok (.bipush 8, 2) := by decide +kernel
theorem dX12_seen_74 : decode cX12_seen 74 = .ok (.dup2, 1) := by decide +kernel
theorem dX12_seen_75 : decode cX12_seen 75 = .ok (.iaload, 1) := by decide +kernel
theorem dX12_seen_76 : decode cX12_seen 76 = .ok (.iconst 1, 1) := by decide +kernel
theorem dX12_seen_77 : decode cX12_seen 77 = .ok (.iadd, 1) := by decide +kernel
theorem dX12_seen_78 : decode cX12_seen 78 = .ok (.iastore, 1) := by decide +kernel
theorem dX12_seen_79 : decode cX12_seen 79 = .ok (.aload_n 0, 1) := by decide +kernel
theorem dX12_seen_80 : decode cX12_seen 80 = .ok (.getfield 13, 3) := by decide +kernel
theorem dX12_seen_83 : decode cX12_seen 83 = .ok (.bipush 8, 2) := by decide +kernel
theorem dX12_seen_85 : decode cX12_seen 85 = .ok (.iaload, 1) := by decide +kernel
theorem dX12_seen_86 : decode cX12_seen 86 = .ok (.ireturn, 1) := by decide +kernel
theorem dX12_shown_0 : decode cX12_shown 0 = .ok (.iload_n 1, 1) := by decide +kernel
theorem dX12_shown_1 : decode cX12_shown 1 = .ok (.bipush 12, 2) := by decide +kernel
theorem dX12_shown_3 : decode cX12_shown 3 = .ok (.idiv, 1) := by decide +kernel
theorem dX12_shown_4 : decode cX12_shown 4 = .ok (.istore_n 3, 1) := by decide +kernel
theorem dX12_shown_5 : decode cX12_shown 5 = .ok (.iconst 1, 1) := by decide +kernel
theorem dX12_shown_6 : decode cX12_shown 6 = .ok (.istore 4, 2) := by decide +kernel
theorem dX12_shown_8 : decode cX12_shown 8 = .ok (.iload 4, 2) := by decide +kernel
theorem dX12_shown_10 : decode cX12_shown 10 = .ok (.iload_n 2, 1) := by decide +kernel
theorem dX12_shown_11 : decode cX12_shown 11 = .ok (.if_icmp .gt 34, 3) := by decide +kernel
theorem dX12_shown_14 : decode cX12_shown 14 = .ok (.iload_n 3, 1) := by decide +kernel
theorem dX12_shown_15 : decode cX12_shown 15 = .ok (.aload_n 0, 1) := by decide +kernel
theorem dX12_shown_16 : decode cX12_shown 16 = .ok (.getfield 13, 3) := by decide +kernel
theorem dX12_shown_19 : decode cX12_shown 19 = .ok (.iconst 1, 1) := by decide +kernel
theorem dX12_shown_20 : decode cX12_shown 20 = .ok (.iaload, 1) := by decide +kernel
theorem dX12_shown_21 : decode cX12_shown 21 = .ok (.iload_n 1, 1) := by decide +kernel
theorem dX12_shown_22 : decode cX12_shown 22 = .ok (.bipush 12, 2) := by decide +kernel
theorem dX12_shown_24 : decode cX12_shown 24 = .ok (.irem, 1) := by decide +kernel
theorem dX12_shown_25 : decode cX12_shown 25 = .ok (.iload 4, 2) := by decide +kernel
theorem dX12_shown_27 : decode cX12_shown 27 = .ok (.invokestatic 162, 3) := by decide +kernel
theorem dX12_shown_30 : decode cX12_shown 30 = .ok (.iadd, 1) := by decide +kernel
theorem dX12_shown_31 : decode cX12_shown 31 = .ok (.aload_n 0, 1) := by decide +kernel
theorem dX12_shown_32 : decode cX12_shown 32 = .ok (.getfield 13, 3) := by decide +kernel
theorem dX12_shown_35 : decode cX12_shown 35 = .ok (.iconst 0, 1) := by decide +kernel
theorem dX12_shown_36 : decode cX12_shown 36 = .ok (.iaload, 1) := by decide +kernel
theorem dX12_shown_37 : decode cX12_shown 37 = .ok (.irem, 1) := by decide +kernel
theorem dX12_shown_38 : decode cX12_shown 38 = .ok (.istore_n 3, 1) := by decide +kernel
theorem dX12_shown_39 : decode cX12_shown 39 = .ok (.iinc 4 1, 3) := by decide +kernel
theorem dX12_shown_42 : decode cX12_shown 42 = .ok (.goto (-34), 3) := by decide +kernel
theorem dX12_shown_45 : decode cX12_shown 45 = .ok (.aload_n 0, 1) := by decide +kernel
theorem dX12_shown_46 : decode cX12_shown 46 = .ok (.getfield 7, 3) := by decide +kernel
theorem dX12_shown_49 : decode cX12_shown 49 = .ok (.iconst 3, 1) := by decide +kernel
theorem dX12_shown_50 : decode cX12_shown 50 = .ok (.iload_n 3, 1) := by decide +kernel
theorem dX12_shown_51 : decode cX12_shown 51 = .ok (.iadd, 1) := by decide +kernel
theorem dX12_shown_52 : decode cX12_shown 52 = .ok (.iaload, 1) := by decide +kernel
theorem dX12_shown_53 : decode cX12_shown 53 = .ok (.ireturn, 1) := by decide +kernel
theorem dX12_isSo_0 : decode cX12_isSo 0 = .ok (.iconst 1, 1) := by decide +kernel
theorem dX12_isSo_1 : decode cX12_isSo 1 = .ok (.istore_n 2, 1) := by decide +kernel
theorem dX12_isSo_2 : decode cX12_isSo 2 = .ok (.iconst 0, 1) := by decide +kernel
theorem dX12_isSo_3 : decode cX12_isSo 3 = .ok (.istore_n 3, 1) := by decide +kernel
theorem dX12_isSo_4 : decode cX12_isSo 4 = .ok (.iload_n 3, 1) := by decide +kernel
theorem dX12_isSo_5 : decode cX12_isSo 5 = .ok (.aload_n 0, 1) := by decide +kernel
theorem dX12_isSo_6 : decode cX12_isSo 6 = .ok (.getfield 13, 3) := by decide +kernel
theorem dX12_isSo_9 : decode cX12_isSo 9 = .ok (.bipush 8, 2) := by decide +kernel
theorem dX12_isSo_11 : decode cX12_isSo 11 = .ok (.iaload, 1) := by decide +kernel
theorem dX12_isSo_12 : decode cX12_isSo 12 = .ok (.if_icmp .ge 45, 3) := by decide +kernel
theorem dX12_isSo_15 : decode cX12_isSo 15 = .ok (.iload_n 2, 1) := by decide +kernel
theorem dX12_isSo_16 : decode cX12_isSo 16 = .ok (.ifCond .eq 33, 3) := by decide +kernel
theorem dX12_isSo_19 : decode cX12_isSo 19 = .ok (.aload_n 0, 1) := by decide +kernel
theorem dX12_isSo_20 : decode cX12_isSo 20 = .ok (.iload_n 1, 1) := by decide +kernel
theorem dX12_isSo_21 : decode cX12_isSo 21 = .ok (.aload_n 0, 1) := by decide +kernel
theorem dX12_isSo_22 : decode cX12_isSo 22 = .ok (.getfield 13, 3) := by decide +kernel
theorem dX12_isSo_25 : decode cX12_isSo 25 = .ok (.bipush 9, 2) := by decide +kernel
theorem dX12_isSo_27 : decode cX12_isSo 27 = .ok (.iload_n 3, 1) := by decide +kernel
theorem dX12_isSo_28 : decode cX12_isSo 28 = .ok (.iadd, 1) := by decide +kernel
theorem dX12_isSo_29 : decode cX12_isSo 29 = .ok (.iaload, 1) := by decide +kernel
theorem dX12_isSo_30 : decode cX12_isSo 30 = .ok (.invokevirtual 204, 3) := by decide +kernel
theorem dX12_isSo_33 : decode cX12_isSo 33 = .ok (.aload_n 0, 1) := by decide +kernel
theorem dX12_isSo_34 : decode cX12_isSo 34 = .ok (.getfield 13, 3) := by decide +kernel
theorem dX12_isSo_37 : decode cX12_isSo 37 = .ok (.bipush 15, 2) := by decide +kernel
theorem dX12_isSo_39 : decode cX12_isSo 39 = .ok (.iload_n 3, 1) := by decide +kernel
theorem dX12_isSo_40 : decode cX12_isSo 40 = .ok (.iadd, 1) := by decide +kernel
theorem dX12_isSo_41 : decode cX12_isSo 41 = .ok (.iaload, 1) := by decide +kernel
theorem dX12_isSo_42 : decode cX12_isSo 42 = .ok (.if_icmp .ne 7, 3) := by decide +kernel
theorem dX12_isSo_45 : decode cX12_isSo 45 = .ok (.iconst 1, 1) := by decide +kernel
theorem dX12_isSo_46 : decode cX12_isSo 46 = .ok (.goto 4, 3) := by decide +kernel
theorem dX12_isSo_49 : decode cX12_isSo 49 = .ok (.iconst 0, 1) := by decide +kernel
theorem dX12_isSo_50 : decode cX12_isSo 50 = .ok (.istore_n 2, 1) := by decide +kernel
theorem dX12_isSo_51 : decode cX12_isSo 51 = .ok (.iinc 3 1, 3) := by decide +kernel
theorem dX12_isSo_54 : decode cX12_isSo 54 = .ok (.goto (-50), 3) := by decide +kernel
theorem dX12_isSo_57 : decode cX12_isSo 57 = .ok (.iload_n 2, 1) := by decide +kernel
theorem dX12_isSo_58 : decode cX12_isSo 58 = .ok (.ireturn, 1) := by decide +kernel
theorem dX12_began_0 : decode cX12_began 0 = .ok (.iload_n 1, 1) := by decide +kernel
theorem dX12_began_1 : decode cX12_began 1 = .ok (.iconst (-1), 1) := by decide +kernel
theorem dX12_began_2 : decode cX12_began 2 = .ok (.if_icmp .ge 8, 3) := by decide +kernel
theorem dX12_began_5 : decode cX12_began 5 = .ok (.aload_n 0, 1) := by decide +kernel
theorem dX12_began_6 : decode cX12_began 6 = .ok (.invokevirtual 196, 3) := by decide +kernel
theorem dX12_began_9 : decode cX12_began 9 = .ok (.ireturn, 1) := by decide +kernel
theorem dX12_began_10 : decode cX12_began 10 = .ok (.iconst 0, 1) := by decide +kernel
theorem dX12_began_11 : decode cX12_began 11 = .ok (.istore_n 2, 1) := by decide +kernel
theorem dX12_began_12 : decode cX12_began 12 = .ok (.iconst 0, 1) := by decide +kernel
theorem dX12_began_13 : decode cX12_began 13 = .ok (.istore_n 3, 1) := by decide +kernel
theorem dX12_began_14 : decode cX12_began 14 = .ok (.iload_n 3, 1) := by decide +kernel
theorem dX12_began_15 : decode cX12_began 15 = .ok (.bipush 12, 2) := by decide +kernel
theorem dX12_began_17 : decode cX12_began 17 = .ok (.aload_n 0, 1) := by decide +kernel
theorem dX12_began_18 : decode cX12_began 18 = .ok (.getfield 13, 3) := by decide +kernel
theorem dX12_began_21 : decode cX12_began 21 = .ok (.iconst 0, 1) := by decide +kernel
theorem dX12_began_22 : decode cX12_began 22 = .ok (.iaload, 1) := by decide +kernel
theorem dX12_began_23 : decode cX12_began 23 = .ok (.imul, 1) := by decide +kernel
theorem dX12_began_24 : decode cX12_began 24 = .ok (.if_icmp .ge 27, 3) := by decide +kernel
theorem dX12_began_27 : decode cX12_began 27 = .ok (.aload_n 0, 1) := by decide +kernel
theorem dX12_began_28 : decode cX12_began 28 = .ok (.iload_n 3, 1) := by decide +kernel
theorem dX12_began_29 : decode cX12_began 29 = .ok (.invokevirtual 207, 3) := by decide +kernel
theorem dX12_began_32 : decode cX12_began 32 = .ok (.ifCond .eq 13, 3) := by decide +kernel
theorem dX12_began_35 : decode cX12_began 35 = .ok (.iload_n 2, 1) := by decide +kernel
theorem dX12_began_36 : decode cX12_began 36 = .ok (.iload_n 1, 1) := by decide +kernel
theorem dX12_began_37 : decode cX12_began 37 = .ok (.if_icmp .ne 5, 3) := by decide +kernel
theorem dX12_began_40 : decode cX12_began 40 = .ok (.iload_n 3, 1) := by decide +kernel
theorem dX12_began_41 : decode cX12_began 41 = .ok (.ireturn, 1) := by decide +kernel
theorem dX12_began_42 : decode cX12_began 42 = .ok (.iinc 2 1, 3) := by decide +kernel
theorem dX12_began_45 : decode cX12_began 45 = .ok (.iinc 3 1, 3) := by decide +kernel
theorem dX12_began_48 : decode cX12_began 48 = .ok (.goto (-34), 3) := by decide +kernel
theorem dX12_began_51 : decode cX12_began 51 = .ok (.iload_n 1, 1) := by decide +kernel
theorem dX12_began_52 : decode cX12_began 52 = .ok (.ifCond .ge 7, 3) := by decide +kernel
theorem dX12_began_55 : decode cX12_began 55 = .ok (.iload_n 2, 1) := by decide +kernel
theorem dX12_began_56 : decode cX12_began 56 = .ok (.goto 5, 3) := by decide +kernel
theorem dX12_began_59 : decode cX12_began 59 = .ok (.bipush (-5), 2) := by decide +kernel
theorem dX12_began_61 : decode cX12_began 61 = .ok (.ireturn, 1) := by decide +kernel
theorem dX12_tell_0 : decode cX12_tell 0 = .ok (.iconst (-1), 1) := by decide +kernel
theorem dX12_tell_1 : decode cX12_tell 1 = .ok (.istore_n 1, 1) := by decide +kernel
theorem dX12_tell_2 : decode cX12_tell 2 = .ok (.sipush 999, 3) := by decide +kernel
theorem dX12_tell_5 : decode cX12_tell 5 = .ok (.istore_n 2, 1) := by decide +kernel
theorem dX12_tell_6 : decode cX12_tell 6 = .ok (.iconst 1, 1) := by decide +kernel
theorem dX12_tell_7 : decode cX12_tell 7 = .ok (.istore_n 3, 1) := by decide +kernel
theorem dX12_tell_8 : decode cX12_tell 8 = .ok (.iload_n 3, 1) := by decide +kernel
theorem dX12_tell_9 : decode cX12_tell 9 = .ok (.bipush 30, 2) := by decide +kernel
theorem dX12_tell_11 : decode cX12_tell 11 = .ok (.if_icmp .gt 149, 3) := by decide +kernel
theorem dX12_tell_14 : decode cX12_tell 14 = .ok (.iconst 0, 1) := by decide +kernel
theorem dX12_tell_15 : decode cX12_tell 15 = .ok (.istore 4, 2) := by decide +kernel
theorem dX12_tell_17 : decode cX12_tell 17 = .ok (.iload 4, 2) := by decide +kernel
theorem dX12_tell_19 : decode cX12_tell 19 = .ok (.bipush 10, 2) := by decide +kernel
theorem dX12_tell_21 : decode cX12_tell 21 = .ok (.if_icmp .ge 17, 3) := by decide +kernel
theorem dX12_tell_24 : decode cX12_tell 24 = .ok (.aload_n 0, 1) := by decide +kernel
theorem dX12_tell_25 : decode cX12_tell 25 = .ok (.getfield 33, 3) := by decide +kernel
theorem dX12_tell_28 : decode cX12_tell 28 = .ok (.iload 4, 2) := by decide +kernel
theorem dX12_tell_30 : decode cX12_tell 30 = .ok (.iconst 0, 1) := by decide +kernel
theorem dX12_tell_31 : decode cX12_tell 31 = .ok (.iastore, 1) := by decide +kernel
theorem dX12_tell_32 : decode cX12_tell 32 = .ok (.iinc 4 1, 3) := by decide +kernel
theorem dX12_tell_35 : decode cX12_tell 35 = .ok (.goto (-18), 3) := by decide +kernel
theorem dX12_tell_38 : decode cX12_tell 38 = .ok (.iconst 0, 1) := by decide +kernel
theorem dX12_tell_39 : decode cX12_tell 39 = .ok (.istore 4, 2) := by decide +kernel
theorem dX12_tell_41 : decode cX12_tell 41 = .ok (.iconst 0, 1) := by decide +kernel
theorem dX12_tell_42 : decode cX12_tell 42 = .ok (.istore 5, 2) := by decide +kernel
theorem dX12_tell_44 : decode cX12_tell 44 = .ok (.iload 5, 2) := by decide +kernel
theorem dX12_tell_46 : decode cX12_tell 46 = .ok (.bipush 12, 2) := by decide +kernel
theorem dX12_tell_48 : decode cX12_tell 48 = .ok (.aload_n 0, 1) := by decide +kernel
theorem dX12_tell_49 : decode cX12_tell 49 = .ok (.getfield 13, 3) := by decide +kernel
theorem dX12_tell_52 : decode cX12_tell 52 = .ok (.iconst 0, 1) := by decide +kernel
theorem dX12_tell_53 : decode cX12_tell 53 = .ok (.iaload, 1) := by decide +kernel
theorem dX12_tell_54 : decode cX12_tell 54 = .ok (.imul, 1) := by decide +kernel
theorem dX12_tell_55 : decode cX12_tell 55 = .ok (.if_icmp .ge 64, 3) := by decide +kernel
theorem dX12_tell_58 : decode cX12_tell 58 = .ok (.aload_n 0, 1) := by decide +kernel
theorem dX12_tell_59 : decode cX12_tell 59 = .ok (.iload 5, 2) := by decide +kernel
theorem dX12_tell_61 : decode cX12_tell 61 = .ok (.invokevirtual 207, 3) := by decide +kernel
theorem dX12_tell_64 : decode cX12_tell 64 = .ok (.ifCond .eq 49, 3) := by decide +kernel
theorem dX12_tell_67 : decode cX12_tell 67 = .ok (.aload_n 0, 1) := by decide +kernel
theorem dX12_tell_68 : decode cX12_tell 68 = .ok (.iload 5, 2) := by decide +kernel
theorem dX12_tell_70 : decode cX12_tell 70 = .ok (.iload_n 3, 1) := by decide +kernel
theorem dX12_tell_71 : decode cX12_tell 71 = .ok (.invokevirtual 204, 3) := by decide +kernel
theorem dX12_tell_74 : decode cX12_tell 74 = .ok (.istore 6, 2) := by decide +kernel
theorem dX12_tell_76 : decode cX12_tell 76 = .ok (.aload_n 0, 1) := by decide +kernel
theorem dX12_tell_77 : decode cX12_tell 77 = .ok (.getfield 33, 3) := by decide +kernel
theorem dX12_tell_80 : decode cX12_tell 80 = .ok (.iload 6, 2) := by decide +kernel
theorem dX12_tell_82 : decode cX12_tell 82 = .ok (.dup2, 1) := by decide +kernel
theorem dX12_tell_83 : decode cX12_tell 83 = .ok (.iaload, 1) := by decide +kernel
theorem dX12_tell_84 : decode cX12_tell 84 = .ok (.iconst 1, 1) := by decide +kernel
theorem dX12_tell_85 : decode cX12_tell 85 = .ok (.iadd, 1) := by decide +kernel
theorem dX12_tell_86 : decode cX12_tell 86 = .ok (.iastore, 1) := by decide +kernel
theorem dX12_tell_87 : decode cX12_tell 87 = .ok (.aload_n 0, 1) := by decide +kernel
theorem dX12_tell_88 : decode cX12_tell 88 = .ok (.getfield 33, 3) := by decide +kernel
theorem dX12_tell_91 : decode cX12_tell 91 = .ok (.iload 6, 2) := by decide +kernel
theorem dX12_tell_93 : decode cX12_tell 93 = .ok (.iaload, 1) := by decide +kernel
theorem dX12_tell_94 : decode cX12_tell 94 = .ok (.iload 4, 2) := by decide +kernel
theorem dX12_tell_96 : decode cX12_tell 96 = .ok (.if_icmp .le 13, 3) := by decide +kernel
theorem dX12_tell_99 : decode cX12_tell 99 = .ok (.aload_n 0, 1) := by decide +kernel
theorem dX12_tell_100 : decode cX12_tell 100 = .ok (.getfield 33, 3) := by decide +kernel
theorem dX12_tell_103 : decode cX12_tell 103 = .ok (.iload 6, 2) := by decide +kernel
theorem dX12_tell_105 : decode cX12_tell 105 = .ok (.iaload, 1) := by decide +kernel
theorem dX12_tell_106 : decode cX12_tell 106 = .ok (.goto 5, 3) := by decide +kernel
theorem dX12_tell_109 : decode cX12_tell 109 = .ok (.iload 4, 2) := by decide +kernel
theorem dX12_tell_111 : decode cX12_tell 111 = .ok (.istore 4, 2) := by decide +kernel
theorem dX12_tell_113 : decode cX12_tell 113 = .ok (.iinc 5 1, 3) := by decide +kernel
theorem dX12_tell_116 : decode cX12_tell 116 = .ok (.goto (-72), 3) := by decide +kernel
theorem dX12_tell_119 : decode cX12_tell 119 = .ok (.iload 4, 2) := by decide +kernel
theorem dX12_tell_121 : decode cX12_tell 121 = .ok (.ifCond .le 13, 3) := by decide +kernel
theorem dX12_tell_124 : decode cX12_tell 124 = .ok (.iload 4, 2) := by decide +kernel
theorem dX12_tell_126 : decode cX12_tell 126 = .ok (.iload_n 2, 1) := by decide +kernel
theorem dX12_tell_127 : decode cX12_tell 127 = .ok (.if_icmp .ge 7, 3) := by decide +kernel
theorem dX12_tell_130 : decode cX12_tell 130 = .ok (.iload_n 3, 1) := by decide +kernel
theorem dX12_tell_131 : decode cX12_tell 131 = .ok (.goto 4, 3) := by decide +kernel
theorem dX12_tell_134 : decode cX12_tell 134 = .ok (.iload_n 1, 1) := by decide +kernel
theorem dX12_tell_135 : decode cX12_tell 135 = .ok (.istore_n 1, 1) := by decide +kernel
theorem dX12_tell_136 : decode cX12_tell 136 = .ok (.iload 4, 2) := by decide +kernel
theorem dX12_tell_138 : decode cX12_tell 138 = .ok (.ifCond .le 14, 3) := by decide +kernel
theorem dX12_tell_141 : decode cX12_tell 141 = .ok (.iload 4, 2) := by decide +kernel
theorem dX12_tell_143 : decode cX12_tell 143 = .ok (.iload_n 2, 1) := by decide +kernel
theorem dX12_tell_144 : decode cX12_tell 144 = .ok (.if_icmp .ge 8, 3) := by decide +kernel
theorem dX12_tell_147 : decode cX12_tell 147 = .ok (.iload 4, 2) := by decide +kernel
theorem dX12_tell_149 : decode cX12_tell 149 = .ok (.goto 4, 3) := by decide +kernel
theorem dX12_tell_152 : decode cX12_tell 152 = .ok (.iload_n 2, 1) := by decide +kernel
theorem dX12_tell_153 : decode cX12_tell 153 = .ok (.istore_n 2, 1) := by decide +kernel
theorem dX12_tell_154 : decode cX12_tell 154 = .ok (.iinc 3 1, 3) := by decide +kernel
theorem dX12_tell_157 : decode cX12_tell 157 = .ok (.goto (-149), 3) := by decide +kernel
theorem dX12_tell_160 : decode cX12_tell 160 = .ok (.iload_n 1, 1) := by decide +kernel
theorem dX12_tell_161 : decode cX12_tell 161 = .ok (.ireturn, 1) := by decide +kernel
theorem dX12_note_0 : decode cX12_note 0 = .ok (.aload_n 0, 1) := by decide +kernel
theorem dX12_note_1 : decode cX12_note 1 = .ok (.iload_n 1, 1) := by decide +kernel
theorem dX12_note_2 : decode cX12_note 2 = .ok (.invokevirtual 185, 3) := by decide +kernel
theorem dX12_note_5 : decode cX12_note 5 = .ok (.ifCond .eq 40, 3) := by decide +kernel
theorem dX12_note_8 : decode cX12_note 8 = .ok (.iload_n 2, 1) := by decide +kernel
theorem dX12_note_9 : decode cX12_note 9 = .ok (.i2l, 1) := by decide +kernel
theorem dX12_note_10 : decode cX12_note 10 = .ok (.lconst 0, 1) := by decide +kernel
theorem dX12_note_11 : decode cX12_note 11 = .ok (.ldc2_w 121, 3) := by decide +kernel
theorem dX12_note_14 : decode cX12_note 14 = .ok (.invokestatic 54, 3) := by decide +kernel
theorem dX12_note_17 : decode cX12_note 17 = .ok (.ifCond .eq 28, 3) := by decide +kernel
theorem dX12_note_20 : decode cX12_note 20 = .ok (.iload_n 3, 1) := by decide +kernel
theorem dX12_note_21 : decode cX12_note 21 = .ok (.i2l, 1) := by decide +kernel
theorem dX12_note_22 : decode cX12_note 22 = .ok (.lconst 0, 1) := by decide +kernel
theorem dX12_note_23 : decode cX12_note 23 = .ok (.ldc2_w 121, 3) := by decide +kernel
theorem dX12_note_26 : decode cX12_note 26 = .ok (.invokestatic 54, 3) := by decide +kernel
theorem dX12_note_29 : decode cX12_note 29 = .ok (.ifCond .eq 16, 3) := by decide +kernel
theorem dX12_note_32 : decode cX12_note 32 = .ok (.iload 4, 2) := by decide +kernel
theorem dX12_note_34 : decode cX12_note 34 = .ok (.i2l, 1) := by decide +kernel
theorem dX12_note_35 : decode cX12_note 35 = .ok (.lconst 0, 1) := by decide +kernel
theorem dX12_note_36 : decode cX12_note 36 = .ok (.ldc2_w 121, 3) := by decide +kernel
theorem dX12_note_39 : decode cX12_note 39 = .ok (.invokestatic 54, 3) := by decide +kernel
theorem dX12_note_42 : decode cX12_note 42 = .ok (.ifCond .ne 8, 3) := by decide +kernel
theorem dX12_note_45 : decode cX12_note 45 = .ok (.aload_n 0, 1) := by decide +kernel
theorem dX12_note_46 : decode cX12_note 46 = .ok (.invokevirtual 62, 3) := by decide +kernel
theorem dX12_note_49 : decode cX12_note 49 = .ok (.ireturn, 1) := by decide +kernel
theorem dX12_note_50 : decode cX12_note 50 = .ok (.aload_n 0, 1) := by decide +kernel
theorem dX12_note_51 : decode cX12_note 51 = .ok (.getfield 13, 3) := by decide +kernel
theorem dX12_note_54 : decode cX12_note 54 = .ok (.bipush 21, 2) := by decide +kernel
theorem dX12_note_56 : decode cX12_note 56 = .ok (.iaload, 1) := by decide +kernel
theorem dX12_note_57 : decode cX12_note 57 = .ok (.istore 5, 2) := by decide +kernel
theorem dX12_note_59 : decode cX12_note 59 = .ok (.iload 5, 2) := by decide +kernel
theorem dX12_note_61 : decode cX12_note 61 = .ok (.bipush 6, 2) := by decide +kernel
theorem dX12_note_63 : decode cX12_note 63 = .ok (.if_icmp .ne 8, 3) := by decide +kernel
theorem dX12_note_66 : decode cX12_note 66 = .ok (.aload_n 0, 1) := by decide +kernel
theorem dX12_note_67 : decode cX12_note 67 = .ok (.invokevirtual 66, 3) := by decide +kernel
theorem dX12_note_70 : decode cX12_note 70 = .ok (.ireturn, 1) := by decide +kernel
theorem dX12_note_71 : decode cX12_note 71 = .ok (.aload_n 0, 1) := by decide +kernel
theorem dX12_note_72 : decode cX12_note 72 = .ok (.getfield 13, 3) := by decide +kernel
theorem dX12_note_75 : decode cX12_note 75 = .ok (.bipush 22, 2) := by decide +kernel
theorem dX12_note_77 : decode cX12_note 77 = .ok (.iload 5, 2) := by decide +kernel
theorem dX12_note_79 : decode cX12_note 79 = .ok (.iadd, 1) := by decide +kernel
theorem dX12_note_80 : decode cX12_note 80 = .ok (.iload_n 1, 1) := by decide +kernel
theorem dX12_note_81 : decode cX12_note 81 = .ok (.iastore, 1) := by decide +kernel
theorem dX12_note_82 : decode cX12_note 82 = .ok (.aload_n 0, 1) := by decide +kernel
theorem dX12_note_83 : decode cX12_note 83 = .ok (.getfield 13, 3) := by decide +kernel
theorem dX12_note_86 : decode cX12_note 86 = .ok (.bipush 28, 2) := by decide +kernel
theorem dX12_note_88 : decode cX12_note 88 = .ok (.iload 5, 2) := by decide +kernel
theorem dX12_note_90 : decode cX12_note 90 = .ok (.iadd, 1) := by decide +kernel
theorem dX12_note_91 : decode cX12_note 91 = .ok (.iload_n 2, 1) := by decide +kernel
theorem dX12_note_92 : decode cX12_note 92 = .ok (.iastore, 1) := by decide +kernel
theorem dX12_note_93 : decode cX12_note 93 = .ok (.aload_n 0, 1) := by decide +kernel
theorem dX12_note_94 : decode cX12_note 94 = .ok (.getfield 13, 3) := by decide +kernel
theorem dX12_note_97 : decode cX12_note 97 = .ok (.bipush 34, 2) := by decide +kernel
theorem dX12_note_99 : decode cX12_note 99 = .ok (.iload 5, 2) := by decide +kernel
theorem dX12_note_101 : decode cX12_note 101 = .ok (.iadd, 1) := by decide +kernel
theorem dX12_note_102 : decode cX12_note 102 = .ok (.iload_n 3, 1) := by decide +kernel
theorem dX12_note_103 : decode cX12_note 103 = .ok (.iastore, 1) := by decide +kernel
theorem dX12_note_104 : decode cX12_note 104 = .ok (.aload_n 0, 1) := by decide +kernel
theorem dX12_note_105 : decode cX12_note 105 = .ok (.getfield 13, 3) := by decide +kernel
theorem dX12_note_108 : decode cX12_note 108 = .ok (.bipush 40, 2) := by decide +kernel
theorem dX12_note_110 : decode cX12_note 110 = .ok (.iload 5, 2) := by decide +kernel
theorem dX12_note_112 : decode cX12_note 112 = .ok (.iadd, 1) := by decide +kernel
theorem dX12_note_113 : decode cX12_note 113 = .ok (.iload 4, 2) := by decide +kernel
theorem dX12_note_115 : decode cX12_note 115 = .ok (.iastore, 1) := by decide +kernel
theorem dX12_note_116 : decode cX12_note 116 = .ok (.aload_n 0, 1) := by decide +kernel
theorem dX12_note_117 : decode cX12_note 117 = .ok (.getfield 13, 3) := by decide +kernel
theorem dX12_note_120 : decode cX12_note 120 = .ok (.bipush 21, 2) := by decide +kernel
theorem dX12_note_122 : decode cX12_note 122 = .ok (.dup2, 1) := by decide +kernel
theorem dX12_note_123 : decode cX12_note 123 = .ok (.iaload, 1) := by decide +kernel
theorem dX12_note_124 : decode cX12_note 124 = .ok (.iconst 1, 1) := by decide +kernel
theorem dX12_note_125 : decode cX12_note 125 = .ok (.iadd, 1) := by decide +kernel
theorem dX12_note_126 : decode cX12_note 126 = .ok (.iastore, 1) := by decide +kernel
theorem dX12_note_127 : decode cX12_note 127 = .ok (.aload_n 0, 1) := by decide +kernel
theorem dX12_note_128 : decode cX12_note 128 = .ok (.getfield 13, 3) := by decide +kernel
theorem dX12_note_131 : decode cX12_note 131 = .ok (.bipush 21, 2) := by decide +kernel
theorem dX12_note_133 : decode cX12_note 133 = .ok (.iaload, 1) := by decide +kernel
theorem dX12_note_134 : decode cX12_note 134 = .ok (.ireturn, 1) := by decide +kernel
theorem dX12_mark_0 : decode cX12_mark 0 = .ok (.iload_n 1, 1) := by decide +kernel
theorem dX12_mark_1 : decode cX12_mark 1 = .ok (.i2l, 1) := by decide +kernel
theorem dX12_mark_2 : decode cX12_mark 2 = .ok (.lconst 0, 1) := by decide +kernel
theorem dX12_mark_3 : decode cX12_mark 3 = .ok (.ldc2_w 60, 3) := by decide +kernel
theorem dX12_mark_6 : decode cX12_mark 6 = .ok (.invokestatic 54, 3) := by decide +kernel
theorem dX12_mark_9 : decode cX12_mark 9 = .ok (.ifCond .eq 27, 3) := by decide +kernel
theorem dX12_mark_12 : decode cX12_mark 12 = .ok (.iload_n 2, 1) := by decide +kernel
theorem dX12_mark_13 : decode cX12_mark 13 = .ok (.i2l, 1) := by decide +kernel
theorem dX12_mark_14 : decode cX12_mark 14 = .ok (.lconst 0, 1) := by decide +kernel
theorem dX12_mark_15 : decode cX12_mark 15 = .ok (.ldc2_w 210, 3) := by decide +kernel
theorem dX12_mark_18 : decode cX12_mark 18 = .ok (.invokestatic 54, 3) := by decide +kernel
theorem dX12_mark_21 : decode cX12_mark 21 = .ok (.ifCond .eq 15, 3) := by decide +kernel
theorem dX12_mark_24 : decode cX12_mark 24 = .ok (.iload_n 3, 1) := by decide +kernel
theorem dX12_mark_25 : decode cX12_mark 25 = .ok (.i2l, 1) := by decide +kernel
theorem dX12_mark_26 : decode cX12_mark 26 = .ok (.lconst 0, 1) := by decide +kernel
theorem dX12_mark_27 : decode cX12_mark 27 = .ok (.ldc2_w 202, 3) := by decide +kernel
theorem dX12_mark_30 : decode cX12_mark 30 = .ok (.invokestatic 54, 3) := by decide +kernel
theorem dX12_mark_33 : decode cX12_mark 33 = .ok (.ifCond .ne 8, 3) := by decide +kernel
theorem dX12_mark_36 : decode cX12_mark 36 = .ok (.aload_n 0, 1) := by decide +kernel
theorem dX12_mark_37 : decode cX12_mark 37 = .ok (.invokevirtual 62, 3) := by decide +kernel
theorem dX12_mark_40 : decode cX12_mark 40 = .ok (.ireturn, 1) := by decide +kernel
theorem dX12_mark_41 : decode cX12_mark 41 = .ok (.aload_n 0, 1) := by decide +kernel
theorem dX12_mark_42 : decode cX12_mark 42 = .ok (.getfield 13, 3) := by decide +kernel
theorem dX12_mark_45 : decode cX12_mark 45 = .ok (.bipush 46, 2) := by decide +kernel
theorem dX12_mark_47 : decode cX12_mark 47 = .ok (.iaload, 1) := by decide +kernel
theorem dX12_mark_48 : decode cX12_mark 48 = .ok (.istore 4, 2) := by decide +kernel
theorem dX12_mark_50 : decode cX12_mark 50 = .ok (.iload 4, 2) := by decide +kernel
theorem dX12_mark_52 : decode cX12_mark 52 = .ok (.bipush 6, 2) := by decide +kernel
theorem dX12_mark_54 : decode cX12_mark 54 = .ok (.if_icmp .ne 8, 3) := by decide +kernel
theorem dX12_mark_57 : decode cX12_mark 57 = .ok (.aload_n 0, 1) := by decide +kernel
theorem dX12_mark_58 : decode cX12_mark 58 = .ok (.invokevirtual 66, 3) := by decide +kernel
theorem dX12_mark_61 : decode cX12_mark 61 = .ok (.ireturn, 1) := by decide +kernel
theorem dX12_mark_62 : decode cX12_mark 62 = .ok (.aload_n 0, 1) := by decide +kernel
theorem dX12_mark_63 : decode cX12_mark 63 = .ok (.getfield 13, 3) := by decide +kernel
theorem dX12_mark_66 : decode cX12_mark 66 = .ok (.bipush 47, 2) := by decide +kernel
theorem dX12_mark_68 : decode cX12_mark 68 = .ok (.iload 4, 2) := by decide +kernel
theorem dX12_mark_70 : decode cX12_mark 70 = .ok (.iadd, 1) := by decide +kernel
theorem dX12_mark_71 : decode cX12_mark 71 = .ok (.iload_n 1, 1) := by decide +kernel
theorem dX12_mark_72 : decode cX12_mark 72 = .ok (.iastore, 1) := by decide +kernel
theorem dX12_mark_73 : decode cX12_mark 73 = .ok (.aload_n 0, 1) := by decide +kernel
theorem dX12_mark_74 : decode cX12_mark 74 = .ok (.getfield 13, 3) := by decide +kernel
theorem dX12_mark_77 : decode cX12_mark 77 = .ok (.bipush 53, 2) := by decide +kernel
theorem dX12_mark_79 : decode cX12_mark 79 = .ok (.iload 4, 2) := by decide +kernel
theorem dX12_mark_81 : decode cX12_mark 81 = .ok (.iadd, 1) := by decide +kernel
theorem dX12_mark_82 : decode cX12_mark 82 = .ok (.iload_n 2, 1) := by decide +kernel
theorem dX12_mark_83 : decode cX12_mark 83 = .ok (.iastore, 1) := by decide +kernel
theorem dX12_mark_84 : decode cX12_mark 84 = .ok (.aload_n 0, 1) := by decide +kernel
theorem dX12_mark_85 : decode cX12_mark 85 = .ok (.getfield 13, 3) := by decide +kernel
theorem dX12_mark_88 : decode cX12_mark 88 = .ok (.bipush 59, 2) := by decide +kernel
theorem dX12_mark_90 : decode cX12_mark 90 = .ok (.iload 4, 2) := by decide +kernel
theorem dX12_mark_92 : decode cX12_mark 92 = .ok (.iadd, 1) := by decide +kernel
theorem dX12_mark_93 : decode cX12_mark 93 = .ok (.iload_n 3, 1) := by decide +kernel
theorem dX12_mark_94 : decode cX12_mark 94 = .ok (.iastore, 1) := by decide +kernel
theorem dX12_mark_95 : decode cX12_mark 95 = .ok (.aload_n 0, 1) := by decide +kernel
theorem dX12_mark_96 : decode cX12_mark 96 = .ok (.getfield 13, 3) := by decide +kernel
theorem dX12_mark_99 : decode cX12_mark 99 = .ok (.bipush 46, 2) := by decide +kernel
theorem dX12_mark_101 : decode cX12_mark 101 = .ok (.dup2, 1) := by decide +kernel
theorem dX12_mark_102 : decode cX12_mark 102 = .ok (.iaload, 1) := by decide +kernel
theorem dX12_mark_103 : decode cX12_mark 103 = .ok (.iconst 1, 1) := by decide +kernel
theorem dX12_mark_104 : decode cX12_mark 104 = .ok (.iadd, 1) := by decide +kernel
theorem dX12_mark_105 : decode cX12_mark 105 = .ok (.iastore, 1) := by decide +kernel
theorem dX12_mark_106 : decode cX12_mark 106 = .ok (.aload_n 0, 1) := by decide +kernel
theorem dX12_mark_107 : decode cX12_mark 107 = .ok (.getfield 13, 3) := by decide +kernel
theorem dX12_mark_110 : decode cX12_mark 110 = .ok (.bipush 46, 2) := by decide +kernel
theorem dX12_mark_112 : decode cX12_mark 112 = .ok (.iaload, 1) := by decide +kernel
theorem dX12_mark_113 : decode cX12_mark 113 = .ok (.ireturn, 1) := by decide +kernel
theorem dX12_forget_0 : decode cX12_forget 0 = .ok (.iload_n 1, 1) := by decide +kernel
theorem dX12_forget_1 : decode cX12_forget 1 = .ok (.i2l, 1) := by decide +kernel
theorem dX12_forget_2 : decode cX12_forget 2 = .ok (.lconst 0, 1) := by decide +kernel
theorem dX12_forget_3 : decode cX12_forget 3 = .ok (.ldc2_w 50, 3) := by decide +kernel
theorem dX12_forget_6 : decode cX12_forget 6 = .ok (.invokestatic 54, 3) := by decide +kernel
theorem dX12_forget_9 : decode cX12_forget 9 = .ok (.ifCond .ne 8, 3) := by decide +kernel
theorem dX12_forget_12 : decode cX12_forget 12 = .ok (.aload_n 0, 1) := by decide +kernel
theorem dX12_forget_13 : decode cX12_forget 13 = .ok (.invokevirtual 62, 3) := by decide +kernel
theorem dX12_forget_16 : decode cX12_forget 16 = .ok (.ireturn, 1) := by decide +kernel
theorem dX12_forget_17 : decode cX12_forget 17 = .ok (.iload_n 1, 1) := by decide +kernel
theorem dX12_forget_18 : decode cX12_forget 18 = .ok (.ifCond .ne 8, 3) := by decide +kernel
theorem dX12_forget_21 : decode cX12_forget 21 = .ok (.bipush 8, 2) := by decide +kernel
theorem dX12_forget_23 : decode cX12_forget 23 = .ok (.goto 15, 3) := by decide +kernel
theorem dX12_forget_26 : decode cX12_forget 26 = .ok (.iload_n 1, 1) := by decide +kernel
theorem dX12_forget_27 : decode cX12_forget 27 = .ok (.iconst 1, 1) := by decide +kernel
theorem dX12_forget_28 : decode cX12_forget 28 = .ok (.if_icmp .ne 8, 3) := by decide +kernel
theorem dX12_forget_31 : decode cX12_forget 31 = .ok (.bipush 21, 2) := by decide +kernel
theorem dX12_forget_33 : decode cX12_forget 33 = .ok (.goto 5, 3) := by decide +kernel
theorem dX12_forget_36 : decode cX12_forget 36 = .ok (.bipush 46, 2) := by decide +kernel
theorem dX12_forget_38 : decode cX12_forget 38 = .ok (.istore_n 2, 1) := by decide +kernel
theorem dX12_forget_39 : decode cX12_forget 39 = .ok (.aload_n 0, 1) := by decide +kernel
theorem dX12_forget_40 : decode cX12_forget 40 = .ok (.getfield 13, 3) := by decide +kernel
theorem dX12_forget_43 : decode cX12_forget 43 = .ok (.iload_n 2, 1) := by decide +kernel
theorem dX12_forget_44 : decode cX12_forget 44 = .ok (.iaload, 1) := by decide +kernel
theorem dX12_forget_45 : decode cX12_forget 45 = .ok (.istore_n 3, 1) := by decide +kernel
theorem dX12_forget_46 : decode cX12_forget 46 = .ok (.aload_n 0, 1) := by decide +kernel
theorem dX12_forget_47 : decode cX12_forget 47 = .ok (.getfield 13, 3) := by decide +kernel
theorem dX12_forget_50 : decode cX12_forget 50 = .ok (.iload_n 2, 1) := by decide +kernel
theorem dX12_forget_51 : decode cX12_forget 51 = .ok (.iconst 0, 1) := by decide +kernel
theorem dX12_forget_52 : decode cX12_forget 52 = .ok (.iastore, 1) := by decide +kernel
theorem dX12_forget_53 : decode cX12_forget 53 = .ok (.iload_n 3, 1) := by decide +kernel
theorem dX12_forget_54 : decode cX12_forget 54 = .ok (.ireturn, 1) := by decide +kernel
theorem dX12_eyesThat_0 : decode cX12_eyesThat 0 = .ok (.iconst 0, 1) := by decide +kernel
theorem dX12_eyesThat_1 : decode cX12_eyesThat 1 = .ok (.istore_n 2, 1) := by decide +kernel
theorem dX12_eyesThat_2 : decode cX12_eyesThat 2 = .ok (.iconst 0, 1) := by decide +kernel
theorem dX12_eyesThat_3 : decode cX12_eyesThat 3 = .ok (.istore_n 3, 1) := by decide +kernel
theorem dX12_eyesThat_4 : decode cX12_eyesThat 4 = .ok (.iload_n 3, 1) := by decide +kernel
theorem dX12_eyesThat_5 : decode cX12_eyesThat 5 = .ok (.bipush 6, 2) := by decide +kernel
theorem dX12_eyesThat_7 : decode cX12_eyesThat 7 = .ok (.if_icmp .ge 111, 3) := by decide +kernel
theorem dX12_eyesThat_10 : decode cX12_eyesThat 10 = .ok (.iconst 1, 1) := by decide +kernel
theorem dX12_eyesThat_11 : decode cX12_eyesThat 11 = .ok (.istore 4, 2) := by decide +kernel
theorem dX12_eyesThat_13 : decode cX12_eyesThat 13 = .ok (.iconst 0, 1) := by decide +kernel
theorem dX12_eyesThat_14 : decode cX12_eyesThat 14 = .ok (.istore 5, 2) := by decide +kernel
theorem dX12_eyesThat_16 : decode cX12_eyesThat 16 = .ok (.iload 5, 2) := by decide +kernel
theorem dX12_eyesThat_18 : decode cX12_eyesThat 18 = .ok (.aload_n 0, 1) := by decide +kernel
theorem dX12_eyesThat_19 : decode cX12_eyesThat 19 = .ok (.getfield 13, 3) := by decide +kernel
theorem dX12_eyesThat_22 : decode cX12_eyesThat 22 = .ok (.bipush 21, 2) := by decide +kernel
theorem dX12_eyesThat_24 : decode cX12_eyesThat 24 = .ok (.iaload, 1) := by decide +kernel
theorem dX12_eyesThat_25 : decode cX12_eyesThat 25 = .ok (.if_icmp .ge 72, 3) := by decide +kernel
theorem dX12_eyesThat_28 : decode cX12_eyesThat 28 = .ok (.iload 4, 2) := by decide +kernel
theorem dX12_eyesThat_30 : decode cX12_eyesThat 30 = .ok (.ifCond .eq 58, 3) := by decide +kernel
theorem dX12_eyesThat_33 : decode cX12_eyesThat 33 = .ok (.aload_n 0, 1) := by decide +kernel
theorem dX12_eyesThat_34 : decode cX12_eyesThat 34 = .ok (.getfield 13, 3) := by decide +kernel
theorem dX12_eyesThat_37 : decode cX12_eyesThat 37 = .ok (.bipush 22, 2) := by decide +kernel
theorem dX12_eyesThat_39 : decode cX12_eyesThat 39 = .ok (.iload 5, 2) := by decide +kernel
theorem dX12_eyesThat_41 : decode cX12_eyesThat 41 = .ok (.iadd, 1) := by decide +kernel
theorem dX12_eyesThat_42 : decode cX12_eyesThat 42 = .ok (.iaload, 1) := by decide +kernel
theorem dX12_eyesThat_43 : decode cX12_eyesThat 43 = .ok (.iload_n 1, 1) := by decide +kernel
theorem dX12_eyesThat_44 : decode cX12_eyesThat 44 = .ok (.if_icmp .ne 40, 3) := by decide +kernel
theorem dX12_eyesThat_47 : decode cX12_eyesThat 47 = .ok (.iload_n 3, 1) := by decide +kernel
theorem dX12_eyesThat_48 : decode cX12_eyesThat 48 = .ok (.aload_n 0, 1) := by decide +kernel
theorem dX12_eyesThat_49 : decode cX12_eyesThat 49 = .ok (.getfield 13, 3) := by decide +kernel
theorem dX12_eyesThat_52 : decode cX12_eyesThat 52 = .ok (.bipush 28, 2) := by decide +kernel
theorem dX12_eyesThat_54 : decode cX12_eyesThat 54 = .ok (.iload 5, 2) := by decide +kernel
theorem dX12_eyesThat_56 : decode cX12_eyesThat 56 = .ok (.iadd, 1) := by decide +kernel
theorem dX12_eyesThat_57 : decode cX12_eyesThat 57 = .ok (.iaload, 1) := by decide +kernel
theorem dX12_eyesThat_58 : decode cX12_eyesThat 58 = .ok (.aload_n 0, 1) := by decide +kernel
theorem dX12_eyesThat_59 : decode cX12_eyesThat 59 = .ok (.getfield 13, 3) := by decide +kernel
theorem dX12_eyesThat_62 : decode cX12_eyesThat 62 = .ok (.bipush 34, 2) := by decide +kernel
theorem dX12_eyesThat_64 : decode cX12_eyesThat 64 = .ok (.iload 5, 2) := by decide +kernel
theorem dX12_eyesThat_66 : decode cX12_eyesThat 66 = .ok (.iadd, 1) := by decide +kernel
theorem dX12_eyesThat_67 : decode cX12_eyesThat 67 = .ok (.iaload, 1) := by decide +kernel
theorem dX12_eyesThat_68 : decode cX12_eyesThat 68 = .ok (.invokestatic 166, 3) := by decide +kernel
theorem dX12_eyesThat_71 : decode cX12_eyesThat 71 = .ok (.aload_n 0, 1) := by decide +kernel
theorem dX12_eyesThat_72 : decode cX12_eyesThat 72 = .ok (.getfield 13, 3) := by decide +kernel
theorem dX12_eyesThat_75 : decode cX12_eyesThat 75 = .ok (.bipush 40, 2) := by decide +kernel
theorem dX12_eyesThat_77 : decode cX12_eyesThat 77 = .ok (.iload 5, 2) := by decide +kernel
theorem dX12_eyesThat_79 : decode cX12_eyesThat 79 = .ok (.iadd, 1) := by decide +kernel
theorem dX12_eyesThat_80 : decode cX12_eyesThat 80 = .ok (.iaload, 1) := by decide +kernel
theorem dX12_eyesThat_81 : decode cX12_eyesThat 81 = .ok (.if_icmp .ne 7, 3) := by decide +kernel
theorem dX12_eyesThat_84 : decode cX12_eyesThat 84 = .ok (.iconst 1, 1) := by decide +kernel
theorem dX12_eyesThat_85 : decode cX12_eyesThat 85 = .ok (.goto 4, 3) := by decide +kernel
theorem dX12_eyesThat_88 : decode cX12_eyesThat 88 = .ok (.iconst 0, 1) := by decide +kernel
theorem dX12_eyesThat_89 : decode cX12_eyesThat 89 = .ok (.istore 4, 2) := by decide +kernel
theorem dX12_eyesThat_91 : decode cX12_eyesThat 91 = .ok (.iinc 5 1, 3) := by decide +kernel
theorem dX12_eyesThat_94 : decode cX12_eyesThat 94 = .ok (.goto (-78), 3) := by decide +kernel
theorem dX12_eyesThat_97 : decode cX12_eyesThat 97 = .ok (.iload_n 2, 1) := by decide +kernel
theorem dX12_eyesThat_98 : decode cX12_eyesThat 98 = .ok (.iload 4, 2) := by decide +kernel
theorem dX12_eyesThat_100 : decode cX12_eyesThat 100 = .ok (.ifCond .eq 9, 3) := by decide +kernel
theorem dX12_eyesThat_103 : decode cX12_eyesThat 103 = .ok (.iconst 1, 1) := by decide +kernel
theorem dX12_eyesThat_104 : decode cX12_eyesThat 104 = .ok (.iload_n 3, 1) := by decide +kernel
theorem dX12_eyesThat_105 : decode cX12_eyesThat 105 = .ok (.ishl, 1) := by decide +kernel
theorem dX12_eyesThat_106 : decode cX12_eyesThat 106 = .ok (.goto 4, 3) := by decide +kernel
theorem dX12_eyesThat_109 : decode cX12_eyesThat 109 = .ok (.iconst 0, 1) := by decide +kernel
theorem dX12_eyesThat_110 : decode cX12_eyesThat 110 = .ok (.ior, 1) := by decide +kernel
theorem dX12_eyesThat_111 : decode cX12_eyesThat 111 = .ok (.istore_n 2, 1) := by decide +kernel
theorem dX12_eyesThat_112 : decode cX12_eyesThat 112 = .ok (.iinc 3 1, 3) := by decide +kernel
theorem dX12_eyesThat_115 : decode cX12_eyesThat 115 = .ok (.goto (-111), 3) := by decide +kernel
theorem dX12_eyesThat_118 : decode cX12_eyesThat 118 = .ok (.iload_n 2, 1) := by decide +kernel
theorem dX12_eyesThat_119 : decode cX12_eyesThat 119 = .ok (.ireturn, 1) := by decide +kernel
theorem dX12_is_0 : decode cX12_is 0 = .ok (.aload_n 0, 1) := by decide +kernel
theorem dX12_is_1 : decode cX12_is 1 = .ok (.iload_n 1, 1) := by decide +kernel
theorem dX12_is_2 : decode cX12_is 2 = .ok (.invokevirtual 185, 3) := by decide +kernel
theorem dX12_is_5 : decode cX12_is 5 = .ok (.ifCond .eq 11, 3) := by decide +kernel
theorem dX12_is_8 : decode cX12_is 8 = .ok (.aload_n 0, 1) := by decide +kernel
theorem dX12_is_9 : decode cX12_is 9 = .ok (.iload_n 1, 1) := by decide +kernel
theorem dX12_is_10 : decode cX12_is 10 = .ok (.invokevirtual 212, 3) := by decide +kernel
theorem dX12_is_13 : decode cX12_is 13 = .ok (.goto 7, 3) := by decide +kernel
theorem dX12_is_16 : decode cX12_is 16 = .ok (.aload_n 0, 1) := by decide +kernel
theorem dX12_is_17 : decode cX12_is 17 = .ok (.invokevirtual 62, 3) := by decide +kernel
theorem dX12_is_20 : decode cX12_is 20 = .ok (.ireturn, 1) := by decide +kernel
theorem dX12_look_0 : decode cX12_look 0 = .ok (.aload_n 0, 1) := by decide +kernel
theorem dX12_look_1 : decode cX12_look 1 = .ok (.iload_n 1, 1) := by decide +kernel
theorem dX12_look_2 : decode cX12_look 2 = .ok (.invokevirtual 185, 3) := by decide +kernel
theorem dX12_look_5 : decode cX12_look 5 = .ok (.ifCond .ne 8, 3) := by decide +kernel
theorem dX12_look_8 : decode cX12_look 8 = .ok (.aload_n 0, 1) := by decide +kernel
theorem dX12_look_9 : decode cX12_look 9 = .ok (.invokevirtual 62, 3) := by decide +kernel
theorem dX12_look_12 : decode cX12_look 12 = .ok (.ireturn, 1) := by decide +kernel
theorem dX12_look_13 : decode cX12_look 13 = .ok (.aload_n 0, 1) := by decide +kernel
theorem dX12_look_14 : decode cX12_look 14 = .ok (.iload_n 1, 1) := by decide +kernel
theorem dX12_look_15 : decode cX12_look 15 = .ok (.invokevirtual 212, 3) := by decide +kernel
theorem dX12_look_18 : decode cX12_look 18 = .ok (.istore_n 2, 1) := by decide +kernel
theorem dX12_look_19 : decode cX12_look 19 = .ok (.iconst (-1), 1) := by decide +kernel
theorem dX12_look_20 : decode cX12_look 20 = .ok (.istore_n 3, 1) := by decide +kernel
theorem dX12_look_21 : decode cX12_look 21 = .ok (.bipush 99, 2) := by decide +kernel
theorem dX12_look_23 : decode cX12_look 23 = .ok (.istore 4, 2) := by decide +kernel
theorem dX12_look_25 : decode cX12_look 25 = .ok (.iconst 0, 1) := by decide +kernel
theorem dX12_look_26 : decode cX12_look 26 = .ok (.istore 5, 2) := by decide +kernel
theorem dX12_look_28 : decode cX12_look 28 = .ok (.iload 5, 2) := by decide +kernel
theorem dX12_look_30 : decode cX12_look 30 = .ok (.bipush 100, 2) := by decide +kernel
theorem dX12_look_32 : decode cX12_look 32 = .ok (.if_icmp .ge 158, 3) := by decide +kernel
theorem dX12_look_35 : decode cX12_look 35 = .ok (.iload_n 2, 1) := by decide +kernel
theorem dX12_look_36 : decode cX12_look 36 = .ok (.ifCond .le 154, 3) := by decide +kernel
theorem dX12_look_39 : decode cX12_look 39 = .ok (.iconst 0, 1) := by decide +kernel
theorem dX12_look_40 : decode cX12_look 40 = .ok (.istore 6, 2) := by decide +kernel
theorem dX12_look_42 : decode cX12_look 42 = .ok (.iconst 0, 1) := by decide +kernel
theorem dX12_look_43 : decode cX12_look 43 = .ok (.istore 7, 2) := by decide +kernel
theorem dX12_look_45 : decode cX12_look 45 = .ok (.iload 7, 2) := by decide +kernel
theorem dX12_look_47 : decode cX12_look 47 = .ok (.bipush 6, 2) := by decide +kernel
theorem dX12_look_49 : decode cX12_look 49 = .ok (.if_icmp .ge 105, 3) := by decide +kernel
theorem dX12_look_52 : decode cX12_look 52 = .ok (.iconst 0, 1) := by decide +kernel
theorem dX12_look_53 : decode cX12_look 53 = .ok (.istore 8, 2) := by decide +kernel
theorem dX12_look_55 : decode cX12_look 55 = .ok (.iconst 0, 1) := by decide +kernel
theorem dX12_look_56 : decode cX12_look 56 = .ok (.istore 9, 2) := by decide +kernel
theorem dX12_look_58 : decode cX12_look 58 = .ok (.iload 9, 2) := by decide +kernel
theorem dX12_look_60 : decode cX12_look 60 = .ok (.bipush 6, 2) := by decide +kernel
theorem dX12_look_62 : decode cX12_look 62 = .ok (.if_icmp .ge 70, 3) := by decide +kernel
theorem dX12_look_65 : decode cX12_look 65 = .ok (.iload 8, 2) := by decide +kernel
theorem dX12_look_67 : decode cX12_look 67 = .ok (.iload_n 2, 1) := by decide +kernel
theorem dX12_look_68 : decode cX12_look 68 = .ok (.iload 7, 2) := by decide +kernel
theorem dX12_look_70 : decode cX12_look 70 = .ok (.invokestatic 215, 3) := by decide +kernel
theorem dX12_look_73 : decode cX12_look 73 = .ok (.ifCond .eq 49, 3) := by decide +kernel
