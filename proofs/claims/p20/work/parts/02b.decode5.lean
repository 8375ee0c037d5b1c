theorem dX12_look_76 : decode cX12_look 76 = .ok (.iload_n 2, 1) := by decide +kernel
theorem dX12_look_77 : decode cX12_look 77 = .ok (.iload 9, 2) := by decide +kernel
theorem dX12_look_79 : decode cX12_look 79 = .ok (.invokestatic 215, 3) := by decide +kernel
theorem dX12_look_82 : decode cX12_look 82 = .ok (.ifCond .eq 40, 3) := by decide +kernel
theorem dX12_look_85 : decode cX12_look 85 = .ok (.iload 7, 2) := by decide +kernel
theorem dX12_look_87 : decode cX12_look 87 = .ok (.iload 5, 2) := by decide +kernel
theorem dX12_look_89 : decode cX12_look 89 = .ok (.bipush 10, 2) := by decide +kernel
theorem dX12_look_91 : decode cX12_look 91 = .ok (.idiv, 1) := by decide +kernel
theorem dX12_look_92 : decode cX12_look 92 = .ok (.iload 5, 2) := by decide +kernel
theorem dX12_look_94 : decode cX12_look 94 = .ok (.bipush 10, 2) := by decide +kernel
theorem dX12_look_96 : decode cX12_look 96 = .ok (.irem, 1) := by decide +kernel
theorem dX12_look_97 : decode cX12_look 97 = .ok (.invokestatic 166, 3) := by decide +kernel
theorem dX12_look_100 : decode cX12_look 100 = .ok (.iload 9, 2) := by decide +kernel
theorem dX12_look_102 : decode cX12_look 102 = .ok (.iload 5, 2) := by decide +kernel
theorem dX12_look_104 : decode cX12_look 104 = .ok (.bipush 10, 2) := by decide +kernel
theorem dX12_look_106 : decode cX12_look 106 = .ok (.idiv, 1) := by decide +kernel
theorem dX12_look_107 : decode cX12_look 107 = .ok (.iload 5, 2) := by decide +kernel
theorem dX12_look_109 : decode cX12_look 109 = .ok (.bipush 10, 2) := by decide +kernel
theorem dX12_look_111 : decode cX12_look 111 = .ok (.irem, 1) := by decide +kernel
theorem dX12_look_112 : decode cX12_look 112 = .ok (.invokestatic 166, 3) := by decide +kernel
theorem dX12_look_115 : decode cX12_look 115 = .ok (.if_icmp .ne 7, 3) := by decide +kernel
theorem dX12_look_118 : decode cX12_look 118 = .ok (.iconst 1, 1) := by decide +kernel
theorem dX12_look_119 : decode cX12_look 119 = .ok (.goto 4, 3) := by decide +kernel
theorem dX12_look_122 : decode cX12_look 122 = .ok (.iconst 0, 1) := by decide +kernel
theorem dX12_look_123 : decode cX12_look 123 = .ok (.iadd, 1) := by decide +kernel
theorem dX12_look_124 : decode cX12_look 124 = .ok (.istore 8, 2) := by decide +kernel
theorem dX12_look_126 : decode cX12_look 126 = .ok (.iinc 9 1, 3) := by decide +kernel
theorem dX12_look_129 : decode cX12_look 129 = .ok (.goto (-71), 3) := by decide +kernel
theorem dX12_look_132 : decode cX12_look 132 = .ok (.iload 8, 2) := by decide +kernel
theorem dX12_look_134 : decode cX12_look 134 = .ok (.iload 6, 2) := by decide +kernel
theorem dX12_look_136 : decode cX12_look 136 = .ok (.if_icmp .le 8, 3) := by decide +kernel
theorem dX12_look_139 : decode cX12_look 139 = .ok (.iload 8, 2) := by decide +kernel
theorem dX12_look_141 : decode cX12_look 141 = .ok (.goto 5, 3) := by decide +kernel
theorem dX12_look_144 : decode cX12_look 144 = .ok (.iload 6, 2) := by decide +kernel
theorem dX12_look_146 : decode cX12_look 146 = .ok (.istore 6, 2) := by decide +kernel
theorem dX12_look_148 : decode cX12_look 148 = .ok (.iinc 7 1, 3) := by decide +kernel
theorem dX12_look_151 : decode cX12_look 151 = .ok (.goto (-106), 3) := by decide +kernel
theorem dX12_look_154 : decode cX12_look 154 = .ok (.iload 6, 2) := by decide +kernel
theorem dX12_look_156 : decode cX12_look 156 = .ok (.iload 4, 2) := by decide +kernel
theorem dX12_look_158 : decode cX12_look 158 = .ok (.if_icmp .ge 8, 3) := by decide +kernel
theorem dX12_look_161 : decode cX12_look 161 = .ok (.iload 5, 2) := by decide +kernel
theorem dX12_look_163 : decode cX12_look 163 = .ok (.goto 4, 3) := by decide +kernel
theorem dX12_look_166 : decode cX12_look 166 = .ok (.iload_n 3, 1) := by decide +kernel
theorem dX12_look_167 : decode cX12_look 167 = .ok (.istore_n 3, 1) := by decide +kernel
theorem dX12_look_168 : decode cX12_look 168 = .ok (.iload 6, 2) := by decide +kernel
theorem dX12_look_170 : decode cX12_look 170 = .ok (.iload 4, 2) := by decide +kernel
theorem dX12_look_172 : decode cX12_look 172 = .ok (.if_icmp .ge 8, 3) := by decide +kernel
theorem dX12_look_175 : decode cX12_look 175 = .ok (.iload 6, 2) := by decide +kernel
theorem dX12_look_177 : decode cX12_look 177 = .ok (.goto 5, 3) := by decide +kernel
theorem dX12_look_180 : decode cX12_look 180 = .ok (.iload 4, 2) := by decide +kernel
theorem dX12_look_182 : decode cX12_look 182 = .ok (.istore 4, 2) := by decide +kernel
theorem dX12_look_184 : decode cX12_look 184 = .ok (.iinc 5 1, 3) := by decide +kernel
theorem dX12_look_187 : decode cX12_look 187 = .ok (.goto (-159), 3) := by decide +kernel
theorem dX12_look_190 : decode cX12_look 190 = .ok (.iload_n 3, 1) := by decide +kernel
theorem dX12_look_191 : decode cX12_look 191 = .ok (.ireturn, 1) := by decide +kernel
theorem dX12_kinds_0 : decode cX12_kinds 0 = .ok (.iconst 0, 1) := by decide +kernel
theorem dX12_kinds_1 : decode cX12_kinds 1 = .ok (.istore_n 1, 1) := by decide +kernel
theorem dX12_kinds_2 : decode cX12_kinds 2 = .ok (.iconst 0, 1) := by decide +kernel
theorem dX12_kinds_3 : decode cX12_kinds 3 = .ok (.istore_n 2, 1) := by decide +kernel
theorem dX12_kinds_4 : decode cX12_kinds 4 = .ok (.iload_n 2, 1) := by decide +kernel
theorem dX12_kinds_5 : decode cX12_kinds 5 = .ok (.bipush 6, 2) := by decide +kernel
theorem dX12_kinds_7 : decode cX12_kinds 7 = .ok (.if_icmp .ge 93, 3) := by decide +kernel
theorem dX12_kinds_10 : decode cX12_kinds 10 = .ok (.iconst 1, 1) := by decide +kernel
theorem dX12_kinds_11 : decode cX12_kinds 11 = .ok (.istore_n 3, 1) := by decide +kernel
theorem dX12_kinds_12 : decode cX12_kinds 12 = .ok (.iconst 0, 1) := by decide +kernel
theorem dX12_kinds_13 : decode cX12_kinds 13 = .ok (.istore 4, 2) := by decide +kernel
theorem dX12_kinds_15 : decode cX12_kinds 15 = .ok (.iload 4, 2) := by decide +kernel
theorem dX12_kinds_17 : decode cX12_kinds 17 = .ok (.aload_n 0, 1) := by decide +kernel
theorem dX12_kinds_18 : decode cX12_kinds 18 = .ok (.getfield 13, 3) := by decide +kernel
theorem dX12_kinds_21 : decode cX12_kinds 21 = .ok (.bipush 46, 2) := by decide +kernel
theorem dX12_kinds_23 : decode cX12_kinds 23 = .ok (.iaload, 1) := by decide +kernel
theorem dX12_kinds_24 : decode cX12_kinds 24 = .ok (.if_icmp .ge 56, 3) := by decide +kernel
theorem dX12_kinds_27 : decode cX12_kinds 27 = .ok (.iload_n 3, 1) := by decide +kernel
theorem dX12_kinds_28 : decode cX12_kinds 28 = .ok (.ifCond .eq 44, 3) := by decide +kernel
theorem dX12_kinds_31 : decode cX12_kinds 31 = .ok (.iload_n 2, 1) := by decide +kernel
theorem dX12_kinds_32 : decode cX12_kinds 32 = .ok (.aload_n 0, 1) := by decide +kernel
theorem dX12_kinds_33 : decode cX12_kinds 33 = .ok (.getfield 13, 3) := by decide +kernel
theorem dX12_kinds_36 : decode cX12_kinds 36 = .ok (.bipush 47, 2) := by decide +kernel
theorem dX12_kinds_38 : decode cX12_kinds 38 = .ok (.iload 4, 2) := by decide +kernel
theorem dX12_kinds_40 : decode cX12_kinds 40 = .ok (.iadd, 1) := by decide +kernel
theorem dX12_kinds_41 : decode cX12_kinds 41 = .ok (.iaload, 1) := by decide +kernel
theorem dX12_kinds_42 : decode cX12_kinds 42 = .ok (.aload_n 0, 1) := by decide +kernel
theorem dX12_kinds_43 : decode cX12_kinds 43 = .ok (.getfield 13, 3) := by decide +kernel
theorem dX12_kinds_46 : decode cX12_kinds 46 = .ok (.bipush 53, 2) := by decide +kernel
theorem dX12_kinds_48 : decode cX12_kinds 48 = .ok (.iload 4, 2) := by decide +kernel
theorem dX12_kinds_50 : decode cX12_kinds 50 = .ok (.iadd, 1) := by decide +kernel
theorem dX12_kinds_51 : decode cX12_kinds 51 = .ok (.iaload, 1) := by decide +kernel
theorem dX12_kinds_52 : decode cX12_kinds 52 = .ok (.invokestatic 162, 3) := by decide +kernel
theorem dX12_kinds_55 : decode cX12_kinds 55 = .ok (.aload_n 0, 1) := by decide +kernel
theorem dX12_kinds_56 : decode cX12_kinds 56 = .ok (.getfield 13, 3) := by decide +kernel
theorem dX12_kinds_59 : decode cX12_kinds 59 = .ok (.bipush 59, 2) := by decide +kernel
theorem dX12_kinds_61 : decode cX12_kinds 61 = .ok (.iload 4, 2) := by decide +kernel
theorem dX12_kinds_63 : decode cX12_kinds 63 = .ok (.iadd, 1) := by decide +kernel
theorem dX12_kinds_64 : decode cX12_kinds 64 = .ok (.iaload, 1) := by decide +kernel
theorem dX12_kinds_65 : decode cX12_kinds 65 = .ok (.if_icmp .ne 7, 3) := by decide +kernel
theorem dX12_kinds_68 : decode cX12_kinds 68 = .ok (.iconst 1, 1) := by decide +kernel
theorem dX12_kinds_69 : decode cX12_kinds 69 = .ok (.goto 4, 3) := by decide +kernel
theorem dX12_kinds_72 : decode cX12_kinds 72 = .ok (.iconst 0, 1) := by decide +kernel
theorem dX12_kinds_73 : decode cX12_kinds 73 = .ok (.istore_n 3, 1) := by decide +kernel
theorem dX12_kinds_74 : decode cX12_kinds 74 = .ok (.iinc 4 1, 3) := by decide +kernel
theorem dX12_kinds_77 : decode cX12_kinds 77 = .ok (.goto (-62), 3) := by decide +kernel
theorem dX12_kinds_80 : decode cX12_kinds 80 = .ok (.iload_n 1, 1) := by decide +kernel
theorem dX12_kinds_81 : decode cX12_kinds 81 = .ok (.iload_n 3, 1) := by decide +kernel
theorem dX12_kinds_82 : decode cX12_kinds 82 = .ok (.ifCond .eq 9, 3) := by decide +kernel
theorem dX12_kinds_85 : decode cX12_kinds 85 = .ok (.iconst 1, 1) := by decide +kernel
theorem dX12_kinds_86 : decode cX12_kinds 86 = .ok (.iload_n 2, 1) := by decide +kernel
theorem dX12_kinds_87 : decode cX12_kinds 87 = .ok (.ishl, 1) := by decide +kernel
theorem dX12_kinds_88 : decode cX12_kinds 88 = .ok (.goto 4, 3) := by decide +kernel
theorem dX12_kinds_91 : decode cX12_kinds 91 = .ok (.iconst 0, 1) := by decide +kernel
theorem dX12_kinds_92 : decode cX12_kinds 92 = .ok (.ior, 1) := by decide +kernel
theorem dX12_kinds_93 : decode cX12_kinds 93 = .ok (.istore_n 1, 1) := by decide +kernel
theorem dX12_kinds_94 : decode cX12_kinds 94 = .ok (.iinc 2 1, 3) := by decide +kernel
theorem dX12_kinds_97 : decode cX12_kinds 97 = .ok (.goto (-93), 3) := by decide +kernel
theorem dX12_kinds_100 : decode cX12_kinds 100 = .ok (.iload_n 1, 1) := by decide +kernel
theorem dX12_kinds_101 : decode cX12_kinds 101 = .ok (.ireturn, 1) := by decide +kernel
theorem dX12_ask_0 : decode cX12_ask 0 = .ok (.aload_n 0, 1) := by decide +kernel
theorem dX12_ask_1 : decode cX12_ask 1 = .ok (.invokevirtual 219, 3) := by decide +kernel
theorem dX12_ask_4 : decode cX12_ask 4 = .ok (.istore_n 1, 1) := by decide +kernel
theorem dX12_ask_5 : decode cX12_ask 5 = .ok (.iconst (-1), 1) := by decide +kernel
theorem dX12_ask_6 : decode cX12_ask 6 = .ok (.istore_n 2, 1) := by decide +kernel
theorem dX12_ask_7 : decode cX12_ask 7 = .ok (.bipush 99, 2) := by decide +kernel
theorem dX12_ask_9 : decode cX12_ask 9 = .ok (.istore_n 3, 1) := by decide +kernel
theorem dX12_ask_10 : decode cX12_ask 10 = .ok (.iconst 0, 1) := by decide +kernel
theorem dX12_ask_11 : decode cX12_ask 11 = .ok (.istore 4, 2) := by decide +kernel
theorem dX12_ask_13 : decode cX12_ask 13 = .ok (.iload 4, 2) := by decide +kernel
theorem dX12_ask_15 : decode cX12_ask 15 = .ok (.sipush 240, 3) := by decide +kernel
theorem dX12_ask_18 : decode cX12_ask 18 = .ok (.if_icmp .ge 162, 3) := by decide +kernel
theorem dX12_ask_21 : decode cX12_ask 21 = .ok (.iload_n 1, 1) := by decide +kernel
theorem dX12_ask_22 : decode cX12_ask 22 = .ok (.ifCond .le 158, 3) := by decide +kernel
theorem dX12_ask_25 : decode cX12_ask 25 = .ok (.iload 4, 2) := by decide +kernel
theorem dX12_ask_27 : decode cX12_ask 27 = .ok (.bipush 20, 2) := by decide +kernel
theorem dX12_ask_29 : decode cX12_ask 29 = .ok (.idiv, 1) := by decide +kernel
theorem dX12_ask_30 : decode cX12_ask 30 = .ok (.istore 5, 2) := by decide +kernel
theorem dX12_ask_32 : decode cX12_ask 32 = .ok (.iload 4, 2) := by decide +kernel
theorem dX12_ask_34 : decode cX12_ask 34 = .ok (.bipush 20, 2) := by decide +kernel
theorem dX12_ask_36 : decode cX12_ask 36 = .ok (.irem, 1) := by decide +kernel
theorem dX12_ask_37 : decode cX12_ask 37 = .ok (.istore 6, 2) := by decide +kernel
theorem dX12_ask_39 : decode cX12_ask 39 = .ok (.iconst 0, 1) := by decide +kernel
theorem dX12_ask_40 : decode cX12_ask 40 = .ok (.istore 7, 2) := by decide +kernel
theorem dX12_ask_42 : decode cX12_ask 42 = .ok (.iconst 0, 1) := by decide +kernel
theorem dX12_ask_43 : decode cX12_ask 43 = .ok (.istore 8, 2) := by decide +kernel
theorem dX12_ask_45 : decode cX12_ask 45 = .ok (.iload 8, 2) := by decide +kernel
theorem dX12_ask_47 : decode cX12_ask 47 = .ok (.bipush 6, 2) := by decide +kernel
theorem dX12_ask_49 : decode cX12_ask 49 = .ok (.if_icmp .ge 93, 3) := by decide +kernel
theorem dX12_ask_52 : decode cX12_ask 52 = .ok (.iconst 0, 1) := by decide +kernel
theorem dX12_ask_53 : decode cX12_ask 53 = .ok (.istore 9, 2) := by decide +kernel
theorem dX12_ask_55 : decode cX12_ask 55 = .ok (.iconst 0, 1) := by decide +kernel
theorem dX12_ask_56 : decode cX12_ask 56 = .ok (.istore 10, 2) := by decide +kernel
theorem dX12_ask_58 : decode cX12_ask 58 = .ok (.iload 10, 2) := by decide +kernel
theorem dX12_ask_60 : decode cX12_ask 60 = .ok (.bipush 6, 2) := by decide +kernel
theorem dX12_ask_62 : decode cX12_ask 62 = .ok (.if_icmp .ge 58, 3) := by decide +kernel
theorem dX12_ask_65 : decode cX12_ask 65 = .ok (.iload 9, 2) := by decide +kernel
theorem dX12_ask_67 : decode cX12_ask 67 = .ok (.iload_n 1, 1) := by decide +kernel
theorem dX12_ask_68 : decode cX12_ask 68 = .ok (.iload 8, 2) := by decide +kernel
theorem dX12_ask_70 : decode cX12_ask 70 = .ok (.invokestatic 215, 3) := by decide +kernel
theorem dX12_ask_73 : decode cX12_ask 73 = .ok (.ifCond .eq 37, 3) := by decide +kernel
theorem dX12_ask_76 : decode cX12_ask 76 = .ok (.iload_n 1, 1) := by decide +kernel
theorem dX12_ask_77 : decode cX12_ask 77 = .ok (.iload 10, 2) := by decide +kernel
theorem dX12_ask_79 : decode cX12_ask 79 = .ok (.invokestatic 215, 3) := by decide +kernel
theorem dX12_ask_82 : decode cX12_ask 82 = .ok (.ifCond .eq 28, 3) := by decide +kernel
theorem dX12_ask_85 : decode cX12_ask 85 = .ok (.iload 8, 2) := by decide +kernel
theorem dX12_ask_87 : decode cX12_ask 87 = .ok (.iload 5, 2) := by decide +kernel
theorem dX12_ask_89 : decode cX12_ask 89 = .ok (.iload 6, 2) := by decide +kernel
theorem dX12_ask_91 : decode cX12_ask 91 = .ok (.invokestatic 162, 3) := by decide +kernel
theorem dX12_ask_94 : decode cX12_ask 94 = .ok (.iload 10, 2) := by decide +kernel
theorem dX12_ask_96 : decode cX12_ask 96 = .ok (.iload 5, 2) := by decide +kernel
theorem dX12_ask_98 : decode cX12_ask 98 = .ok (.iload 6, 2) := by decide +kernel
theorem dX12_ask_100 : decode cX12_ask 100 = .ok (.invokestatic 162, 3) := by decide +kernel
theorem dX12_ask_103 : decode cX12_ask 103 = .ok (.if_icmp .ne 7, 3) := by decide +kernel
theorem dX12_ask_106 : decode cX12_ask 106 = .ok (.iconst 1, 1) := by decide +kernel
theorem dX12_ask_107 : decode cX12_ask 107 = .ok (.goto 4, 3) := by decide +kernel
theorem dX12_ask_110 : decode cX12_ask 110 = .ok (.iconst 0, 1) := by decide +kernel
theorem dX12_ask_111 : decode cX12_ask 111 = .ok (.iadd, 1) := by decide +kernel
theorem dX12_ask_112 : decode cX12_ask 112 = .ok (.istore 9, 2) := by decide +kernel
theorem dX12_ask_114 : decode cX12_ask 114 = .ok (.iinc 10 1, 3) := by decide +kernel
theorem dX12_ask_117 : decode cX12_ask 117 = .ok (.goto (-59), 3) := by decide +kernel
theorem dX12_ask_120 : decode cX12_ask 120 = .ok (.iload 9, 2) := by decide +kernel
theorem dX12_ask_122 : decode cX12_ask 122 = .ok (.iload 7, 2) := by decide +kernel
theorem dX12_ask_124 : decode cX12_ask 124 = .ok (.if_icmp .le 8, 3) := by decide +kernel
theorem dX12_ask_127 : decode cX12_ask 127 = .ok (.iload 9, 2) := by decide +kernel
theorem dX12_ask_129 : decode cX12_ask 129 = .ok (.goto 5, 3) := by decide +kernel
theorem dX12_ask_132 : decode cX12_ask 132 = .ok (.iload 7, 2) := by decide +kernel
theorem dX12_ask_134 : decode cX12_ask 134 = .ok (.istore 7, 2) := by decide +kernel
theorem dX12_ask_136 : decode cX12_ask 136 = .ok (.iinc 8 1, 3) := by decide +kernel
theorem dX12_ask_139 : decode cX12_ask 139 = .ok (.goto (-94), 3) := by decide +kernel
theorem dX12_ask_142 : decode cX12_ask 142 = .ok (.iload 7, 2) := by decide +kernel
theorem dX12_ask_144 : decode cX12_ask 144 = .ok (.iload_n 3, 1) := by decide +kernel
theorem dX12_ask_145 : decode cX12_ask 145 = .ok (.if_icmp .ge 14, 3) := by decide +kernel
theorem dX12_ask_148 : decode cX12_ask 148 = .ok (.bipush 100, 2) := by decide +kernel
theorem dX12_ask_150 : decode cX12_ask 150 = .ok (.iload 5, 2) := by decide +kernel
theorem dX12_ask_152 : decode cX12_ask 152 = .ok (.imul, 1) := by decide +kernel
theorem dX12_ask_153 : decode cX12_ask 153 = .ok (.iload 6, 2) := by decide +kernel
theorem dX12_ask_155 : decode cX12_ask 155 = .ok (.iadd, 1) := by decide +kernel
theorem dX12_ask_156 : decode cX12_ask 156 = .ok (.goto 4, 3) := by decide +kernel
theorem dX12_ask_159 : decode cX12_ask 159 = .ok (.iload_n 2, 1) := by decide +kernel
theorem dX12_ask_160 : decode cX12_ask 160 = .ok (.istore_n 2, 1) := by decide +kernel
theorem dX12_ask_161 : decode cX12_ask 161 = .ok (.iload 7, 2) := by decide +kernel
theorem dX12_ask_163 : decode cX12_ask 163 = .ok (.iload_n 3, 1) := by decide +kernel
theorem dX12_ask_164 : decode cX12_ask 164 = .ok (.if_icmp .ge 8, 3) := by decide +kernel
theorem dX12_ask_167 : decode cX12_ask 167 = .ok (.iload 7, 2) := by decide +kernel
theorem dX12_ask_169 : decode cX12_ask 169 = .ok (.goto 4, 3) := by decide +kernel
theorem dX12_ask_172 : decode cX12_ask 172 = .ok (.iload_n 3, 1) := by decide +kernel
theorem dX12_ask_173 : decode cX12_ask 173 = .ok (.istore_n 3, 1) := by decide +kernel
theorem dX12_ask_174 : decode cX12_ask 174 = .ok (.iinc 4 1, 3) := by decide +kernel
theorem dX12_ask_177 : decode cX12_ask 177 = .ok (.goto (-164), 3) := by decide +kernel
theorem dX12_ask_180 : decode cX12_ask 180 = .ok (.iload_n 2, 1) := by decide +kernel
theorem dX12_ask_181 : decode cX12_ask 181 = .ok (.ireturn, 1) := by decide +kernel
theorem dX12_rests_0 : decode cX12_rests 0 = .ok (.iconst 1, 1) := by decide +kernel
theorem dX12_rests_1 : decode cX12_rests 1 = .ok (.istore_n 3, 1) := by decide +kernel
theorem dX12_rests_2 : decode cX12_rests 2 = .ok (.iconst 0, 1) := by decide +kernel
theorem dX12_rests_3 : decode cX12_rests 3 = .ok (.istore 4, 2) := by decide +kernel
theorem dX12_rests_5 : decode cX12_rests 5 = .ok (.iload 4, 2) := by decide +kernel
theorem dX12_rests_7 : decode cX12_rests 7 = .ok (.iconst 4, 1) := by decide +kernel
theorem dX12_rests_8 : decode cX12_rests 8 = .ok (.if_icmp .ge 67, 3) := by decide +kernel
theorem dX12_rests_11 : decode cX12_rests 11 = .ok (.iload_n 3, 1) := by decide +kernel
theorem dX12_rests_12 : decode cX12_rests 12 = .ok (.ifCond .eq 55, 3) := by decide +kernel
theorem dX12_rests_15 : decode cX12_rests 15 = .ok (.aload_n 0, 1) := by decide +kernel
theorem dX12_rests_16 : decode cX12_rests 16 = .ok (.getfield 36, 3) := by decide +kernel
theorem dX12_rests_19 : decode cX12_rests 19 = .ok (.iconst 4, 1) := by decide +kernel
theorem dX12_rests_20 : decode cX12_rests 20 = .ok (.iload 4, 2) := by decide +kernel
theorem dX12_rests_22 : decode cX12_rests 22 = .ok (.imul, 1) := by decide +kernel
theorem dX12_rests_23 : decode cX12_rests 23 = .ok (.iload_n 2, 1) := by decide +kernel
theorem dX12_rests_24 : decode cX12_rests 24 = .ok (.iadd, 1) := by decide +kernel
theorem dX12_rests_25 : decode cX12_rests 25 = .ok (.iaload, 1) := by decide +kernel
theorem dX12_rests_26 : decode cX12_rests 26 = .ok (.aload_n 0, 1) := by decide +kernel
theorem dX12_rests_27 : decode cX12_rests 27 = .ok (.getfield 36, 3) := by decide +kernel
theorem dX12_rests_30 : decode cX12_rests 30 = .ok (.iconst 4, 1) := by decide +kernel
theorem dX12_rests_31 : decode cX12_rests 31 = .ok (.iload_n 1, 1) := by decide +kernel
theorem dX12_rests_32 : decode cX12_rests 32 = .ok (.imul, 1) := by decide +kernel
theorem dX12_rests_33 : decode cX12_rests 33 = .ok (.iload_n 2, 1) := by decide +kernel
theorem dX12_rests_34 : decode cX12_rests 34 = .ok (.iadd, 1) := by decide +kernel
theorem dX12_rests_35 : decode cX12_rests 35 = .ok (.iaload, 1) := by decide +kernel
theorem dX12_rests_36 : decode cX12_rests 36 = .ok (.if_icmp .gt 31, 3) := by decide +kernel
theorem dX12_rests_39 : decode cX12_rests 39 = .ok (.aload_n 0, 1) := by decide +kernel
theorem dX12_rests_40 : decode cX12_rests 40 = .ok (.getfield 39, 3) := by decide +kernel
theorem dX12_rests_43 : decode cX12_rests 43 = .ok (.iconst 4, 1) := by decide +kernel
theorem dX12_rests_44 : decode cX12_rests 44 = .ok (.iload_n 1, 1) := by decide +kernel
theorem dX12_rests_45 : decode cX12_rests 45 = .ok (.imul, 1) := by decide +kernel
theorem dX12_rests_46 : decode cX12_rests 46 = .ok (.iload 4, 2) := by decide +kernel
theorem dX12_rests_48 : decode cX12_rests 48 = .ok (.iadd, 1) := by decide +kernel
theorem dX12_rests_49 : decode cX12_rests 49 = .ok (.iaload, 1) := by decide +kernel
theorem dX12_rests_50 : decode cX12_rests 50 = .ok (.aload_n 0, 1) := by decide +kernel
theorem dX12_rests_51 : decode cX12_rests 51 = .ok (.getfield 39, 3) := by decide +kernel
theorem dX12_rests_54 : decode cX12_rests 54 = .ok (.iconst 4, 1) := by decide +kernel
theorem dX12_rests_55 : decode cX12_rests 55 = .ok (.iload_n 1, 1) := by decide +kernel
theorem dX12_rests_56 : decode cX12_rests 56 = .ok (.imul, 1) := by decide +kernel
theorem dX12_rests_57 : decode cX12_rests 57 = .ok (.iload_n 2, 1) := by decide +kernel
theorem dX12_rests_58 : decode cX12_rests 58 = .ok (.iadd, 1) := by decide +kernel
theorem dX12_rests_59 : decode cX12_rests 59 = .ok (.iaload, 1) := by decide +kernel
theorem dX12_rests_60 : decode cX12_rests 60 = .ok (.if_icmp .gt 7, 3) := by decide +kernel
theorem dX12_rests_63 : decode cX12_rests 63 = .ok (.iconst 1, 1) := by decide +kernel
theorem dX12_rests_64 : decode cX12_rests 64 = .ok (.goto 4, 3) := by decide +kernel
theorem dX12_rests_67 : decode cX12_rests 67 = .ok (.iconst 0, 1) := by decide +kernel
theorem dX12_rests_68 : decode cX12_rests 68 = .ok (.istore_n 3, 1) := by decide +kernel
theorem dX12_rests_69 : decode cX12_rests 69 = .ok (.iinc 4 1, 3) := by decide +kernel
theorem dX12_rests_72 : decode cX12_rests 72 = .ok (.goto (-67), 3) := by decide +kernel
theorem dX12_rests_75 : decode cX12_rests 75 = .ok (.iload_n 3, 1) := by decide +kernel
theorem dX12_rests_76 : decode cX12_rests 76 = .ok (.ireturn, 1) := by decide +kernel
theorem dX12_hands_0 : decode cX12_hands 0 = .ok (.aload_n 0, 1) := by decide +kernel
theorem dX12_hands_1 : decode cX12_hands 1 = .ok (.iload_n 1, 1) := by decide +kernel
theorem dX12_hands_2 : decode cX12_hands 2 = .ok (.invokevirtual 185, 3) := by decide +kernel
theorem dX12_hands_5 : decode cX12_hands 5 = .ok (.ifCond .eq 21, 3) := by decide +kernel
theorem dX12_hands_8 : decode cX12_hands 8 = .ok (.aload_n 0, 1) := by decide +kernel
theorem dX12_hands_9 : decode cX12_hands 9 = .ok (.iload_n 2, 1) := by decide +kernel
theorem dX12_hands_10 : decode cX12_hands 10 = .ok (.invokevirtual 185, 3) := by decide +kernel
theorem dX12_hands_13 : decode cX12_hands 13 = .ok (.ifCond .eq 13, 3) := by decide +kernel
theorem dX12_hands_16 : decode cX12_hands 16 = .ok (.iload_n 1, 1) := by decide +kernel
theorem dX12_hands_17 : decode cX12_hands 17 = .ok (.iload_n 2, 1) := by decide +kernel
theorem dX12_hands_18 : decode cX12_hands 18 = .ok (.if_icmp .eq 8, 3) := by decide +kernel
theorem dX12_hands_21 : decode cX12_hands 21 = .ok (.iload_n 3, 1) := by decide +kernel
theorem dX12_hands_22 : decode cX12_hands 22 = .ok (.iconst (-1), 1) := by decide +kernel
theorem dX12_hands_23 : decode cX12_hands 23 = .ok (.if_icmp .ge 8, 3) := by decide +kernel
theorem dX12_hands_26 : decode cX12_hands 26 = .ok (.aload_n 0, 1) := by decide +kernel
theorem dX12_hands_27 : decode cX12_hands 27 = .ok (.invokevirtual 196, 3) := by decide +kernel
theorem dX12_hands_30 : decode cX12_hands 30 = .ok (.ireturn, 1) := by decide +kernel
theorem dX12_hands_31 : decode cX12_hands 31 = .ok (.iconst 0, 1) := by decide +kernel
theorem dX12_hands_32 : decode cX12_hands 32 = .ok (.istore 4, 2) := by decide +kernel
theorem dX12_hands_34 : decode cX12_hands 34 = .ok (.iload 4, 2) := by decide +kernel
theorem dX12_hands_36 : decode cX12_hands 36 = .ok (.bipush 16, 2) := by decide +kernel
theorem dX12_hands_38 : decode cX12_hands 38 = .ok (.if_icmp .ge 89, 3) := by decide +kernel
theorem dX12_hands_41 : decode cX12_hands 41 = .ok (.aload_n 0, 1) := by decide +kernel
theorem dX12_hands_42 : decode cX12_hands 42 = .ok (.invokevirtual 188, 3) := by decide +kernel
theorem dX12_hands_45 : decode cX12_hands 45 = .ok (.aload_n 0, 1) := by decide +kernel
theorem dX12_hands_46 : decode cX12_hands 46 = .ok (.iconst 4, 1) := by decide +kernel
theorem dX12_hands_47 : decode cX12_hands 47 = .ok (.iload 4, 2) := by decide +kernel
theorem dX12_hands_49 : decode cX12_hands 49 = .ok (.iconst 4, 1) := by decide +kernel
theorem dX12_hands_50 : decode cX12_hands 50 = .ok (.idiv, 1) := by decide +kernel
theorem dX12_hands_51 : decode cX12_hands 51 = .ok (.iload 4, 2) := by decide +kernel
theorem dX12_hands_53 : decode cX12_hands 53 = .ok (.iconst 4, 1) := by decide +kernel
theorem dX12_hands_54 : decode cX12_hands 54 = .ok (.irem, 1) := by decide +kernel
theorem dX12_hands_55 : decode cX12_hands 55 = .ok (.iadd, 1) := by decide +kernel
theorem dX12_hands_56 : decode cX12_hands 56 = .ok (.invokevirtual 191, 3) := by decide +kernel
theorem dX12_hands_59 : decode cX12_hands 59 = .ok (.aload_n 0, 1) := by decide +kernel
theorem dX12_hands_60 : decode cX12_hands 60 = .ok (.getfield 36, 3) := by decide +kernel
theorem dX12_hands_63 : decode cX12_hands 63 = .ok (.iload 4, 2) := by decide +kernel
theorem dX12_hands_65 : decode cX12_hands 65 = .ok (.aload_n 0, 1) := by decide +kernel
theorem dX12_hands_66 : decode cX12_hands 66 = .ok (.getfield 7, 3) := by decide +kernel
theorem dX12_hands_69 : decode cX12_hands 69 = .ok (.sipush 695, 3) := by decide +kernel
theorem dX12_hands_72 : decode cX12_hands 72 = .ok (.iload_n 1, 1) := by decide +kernel
theorem dX12_hands_73 : decode cX12_hands 73 = .ok (.iadd, 1) := by decide +kernel
theorem dX12_hands_74 : decode cX12_hands 74 = .ok (.iaload, 1) := by decide +kernel
theorem dX12_hands_75 : decode cX12_hands 75 = .ok (.iload 4, 2) := by decide +kernel
theorem dX12_hands_77 : decode cX12_hands 77 = .ok (.iconst 4, 1) := by decide +kernel
theorem dX12_hands_78 : decode cX12_hands 78 = .ok (.idiv, 1) := by decide +kernel
theorem dX12_hands_79 : decode cX12_hands 79 = .ok (.iconst 3, 1) := by decide +kernel
theorem dX12_hands_80 : decode cX12_hands 80 = .ok (.if_icmp .ne 7, 3) := by decide +kernel
theorem dX12_hands_83 : decode cX12_hands 83 = .ok (.iconst 1, 1) := by decide +kernel
theorem dX12_hands_84 : decode cX12_hands 84 = .ok (.goto 4, 3) := by decide +kernel
theorem dX12_hands_87 : decode cX12_hands 87 = .ok (.iconst 0, 1) := by decide +kernel
theorem dX12_hands_88 : decode cX12_hands 88 = .ok (.isub, 1) := by decide +kernel
theorem dX12_hands_89 : decode cX12_hands 89 = .ok (.iastore, 1) := by decide +kernel
theorem dX12_hands_90 : decode cX12_hands 90 = .ok (.aload_n 0, 1) := by decide +kernel
theorem dX12_hands_91 : decode cX12_hands 91 = .ok (.getfield 39, 3) := by decide +kernel
theorem dX12_hands_94 : decode cX12_hands 94 = .ok (.iload 4, 2) := by decide +kernel
theorem dX12_hands_96 : decode cX12_hands 96 = .ok (.aload_n 0, 1) := by decide +kernel
theorem dX12_hands_97 : decode cX12_hands 97 = .ok (.getfield 7, 3) := by decide +kernel
theorem dX12_hands_100 : decode cX12_hands 100 = .ok (.sipush 695, 3) := by decide +kernel
theorem dX12_hands_103 : decode cX12_hands 103 = .ok (.iload_n 2, 1) := by decide +kernel
theorem dX12_hands_104 : decode cX12_hands 104 = .ok (.iadd, 1) := by decide +kernel
theorem dX12_hands_105 : decode cX12_hands 105 = .ok (.iaload, 1) := by decide +kernel
theorem dX12_hands_106 : decode cX12_hands 106 = .ok (.iload 4, 2) := by decide +kernel
theorem dX12_hands_108 : decode cX12_hands 108 = .ok (.iconst 4, 1) := by decide +kernel
theorem dX12_hands_109 : decode cX12_hands 109 = .ok (.irem, 1) := by decide +kernel
theorem dX12_hands_110 : decode cX12_hands 110 = .ok (.iconst 3, 1) := by decide +kernel
theorem dX12_hands_111 : decode cX12_hands 111 = .ok (.if_icmp .ne 7, 3) := by decide +kernel
theorem dX12_hands_114 : decode cX12_hands 114 = .ok (.iconst 1, 1) := by decide +kernel
theorem dX12_hands_115 : decode cX12_hands 115 = .ok (.goto 4, 3) := by decide +kernel
theorem dX12_hands_118 : decode cX12_hands 118 = .ok (.iconst 0, 1) := by decide +kernel
theorem dX12_hands_119 : decode cX12_hands 119 = .ok (.isub, 1) := by decide +kernel
theorem dX12_hands_120 : decode cX12_hands 120 = .ok (.iastore, 1) := by decide +kernel
theorem dX12_hands_121 : decode cX12_hands 121 = .ok (.iinc 4 1, 3) := by decide +kernel
theorem dX12_hands_124 : decode cX12_hands 124 = .ok (.goto (-90), 3) := by decide +kernel
theorem dX12_hands_127 : decode cX12_hands 127 = .ok (.iconst 0, 1) := by decide +kernel
theorem dX12_hands_128 : decode cX12_hands 128 = .ok (.istore 4, 2) := by decide +kernel
theorem dX12_hands_130 : decode cX12_hands 130 = .ok (.iconst 0, 1) := by decide +kernel
theorem dX12_hands_131 : decode cX12_hands 131 = .ok (.istore 5, 2) := by decide +kernel
theorem dX12_hands_133 : decode cX12_hands 133 = .ok (.iload 5, 2) := by decide +kernel
theorem dX12_hands_135 : decode cX12_hands 135 = .ok (.bipush 16, 2) := by decide +kernel
theorem dX12_hands_137 : decode cX12_hands 137 = .ok (.if_icmp .ge 46, 3) := by decide +kernel
theorem dX12_hands_140 : decode cX12_hands 140 = .ok (.aload_n 0, 1) := by decide +kernel
theorem dX12_hands_141 : decode cX12_hands 141 = .ok (.iload 5, 2) := by decide +kernel
theorem dX12_hands_143 : decode cX12_hands 143 = .ok (.iconst 4, 1) := by decide +kernel
theorem dX12_hands_144 : decode cX12_hands 144 = .ok (.idiv, 1) := by decide +kernel
theorem dX12_hands_145 : decode cX12_hands 145 = .ok (.iload 5, 2) := by decide +kernel
theorem dX12_hands_147 : decode cX12_hands 147 = .ok (.iconst 4, 1) := by decide +kernel
theorem dX12_hands_148 : decode cX12_hands 148 = .ok (.irem, 1) := by decide +kernel
theorem dX12_hands_149 : decode cX12_hands 149 = .ok (.invokevirtual 222, 3) := by decide +kernel
theorem dX12_hands_152 : decode cX12_hands 152 = .ok (.ifCond .eq 25, 3) := by decide +kernel
theorem dX12_hands_155 : decode cX12_hands 155 = .ok (.iload 4, 2) := by decide +kernel
theorem dX12_hands_157 : decode cX12_hands 157 = .ok (.iload_n 3, 1) := by decide +kernel
theorem dX12_hands_158 : decode cX12_hands 158 = .ok (.if_icmp .ne 16, 3) := by decide +kernel
theorem dX12_hands_161 : decode cX12_hands 161 = .ok (.bipush 10, 2) := by decide +kernel
theorem dX12_hands_163 : decode cX12_hands 163 = .ok (.iload 5, 2) := by decide +kernel
theorem dX12_hands_165 : decode cX12_hands 165 = .ok (.iconst 4, 1) := by decide +kernel
theorem dX12_hands_166 : decode cX12_hands 166 = .ok (.idiv, 1) := by decide +kernel
theorem dX12_hands_167 : decode cX12_hands 167 = .ok (.imul, 1) := by decide +kernel
theorem dX12_hands_168 : decode cX12_hands 168 = .ok (.iload 5, 2) := by decide +kernel
theorem dX12_hands_170 : decode cX12_hands 170 = .ok (.iconst 4, 1) := by decide +kernel
theorem dX12_hands_171 : decode cX12_hands 171 = .ok (.irem, 1) := by decide +kernel
theorem dX12_hands_172 : decode cX12_hands 172 = .ok (.iadd, 1) := by decide +kernel
theorem dX12_hands_173 : decode cX12_hands 173 = .ok (.ireturn, 1) := by decide +kernel
theorem dX12_hands_174 : decode cX12_hands 174 = .ok (.iinc 4 1, 3) := by decide +kernel
theorem dX12_hands_177 : decode cX12_hands 177 = .ok (.iinc 5 1, 3) := by decide +kernel
theorem dX12_hands_180 : decode cX12_hands 180 = .ok (.goto (-47), 3) := by decide +kernel
theorem dX12_hands_183 : decode cX12_hands 183 = .ok (.iload_n 3, 1) := by decide +kernel
theorem dX12_hands_184 : decode cX12_hands 184 = .ok (.ifCond .ge 8, 3) := by decide +kernel
theorem dX12_hands_187 : decode cX12_hands 187 = .ok (.iload 4, 2) := by decide +kernel
theorem dX12_hands_189 : decode cX12_hands 189 = .ok (.goto 5, 3) := by decide +kernel
theorem dX12_hands_192 : decode cX12_hands 192 = .ok (.bipush (-5), 2) := by decide +kernel
theorem dX12_hands_194 : decode cX12_hands 194 = .ok (.ireturn, 1) := by decide +kernel
theorem dX12_smear_0 : decode cX12_smear 0 = .ok (.aload_n 0, 1) := by decide +kernel
theorem dX12_smear_1 : decode cX12_smear 1 = .ok (.iload_n 1, 1) := by decide +kernel
theorem dX12_smear_2 : decode cX12_smear 2 = .ok (.invokevirtual 185, 3) := by decide +kernel
theorem dX12_smear_5 : decode cX12_smear 5 = .ok (.ifCond .eq 40, 3) := by decide +kernel
theorem dX12_smear_8 : decode cX12_smear 8 = .ok (.iload_n 2, 1) := by decide +kernel
theorem dX12_smear_9 : decode cX12_smear 9 = .ok (.i2l, 1) := by decide +kernel
theorem dX12_smear_10 : decode cX12_smear 10 = .ok (.lconst 0, 1) := by decide +kernel
theorem dX12_smear_11 : decode cX12_smear 11 = .ok (.ldc2_w 121, 3) := by decide +kernel
theorem dX12_smear_14 : decode cX12_smear 14 = .ok (.invokestatic 54, 3) := by decide +kernel
theorem dX12_smear_17 : decode cX12_smear 17 = .ok (.ifCond .eq 28, 3) := by decide +kernel
theorem dX12_smear_20 : decode cX12_smear 20 = .ok (.iload_n 3, 1) := by decide +kernel
theorem dX12_smear_21 : decode cX12_smear 21 = .ok (.i2l, 1) := by decide +kernel
theorem dX12_smear_22 : decode cX12_smear 22 = .ok (.lconst 0, 1) := by decide +kernel
theorem dX12_smear_23 : decode cX12_smear 23 = .ok (.ldc2_w 225, 3) := by decide +kernel
theorem dX12_smear_26 : decode cX12_smear 26 = .ok (.invokestatic 54, 3) := by decide +kernel
theorem dX12_smear_29 : decode cX12_smear 29 = .ok (.ifCond .eq 16, 3) := by decide +kernel
theorem dX12_smear_32 : decode cX12_smear 32 = .ok (.iload 4, 2) := by decide +kernel
theorem dX12_smear_34 : decode cX12_smear 34 = .ok (.i2l, 1) := by decide +kernel
theorem dX12_smear_35 : decode cX12_smear 35 = .ok (.lconst 0, 1) := by decide +kernel
theorem dX12_smear_36 : decode cX12_smear 36 = .ok (.ldc2_w 227, 3) := by decide +kernel
theorem dX12_smear_39 : decode cX12_smear 39 = .ok (.invokestatic 54, 3) := by decide +kernel
theorem dX12_smear_42 : decode cX12_smear 42 = .ok (.ifCond .ne 8, 3) := by decide +kernel
theorem dX12_smear_45 : decode cX12_smear 45 = .ok (.aload_n 0, 1) := by decide +kernel
theorem dX12_smear_46 : decode cX12_smear 46 = .ok (.invokevirtual 62, 3) := by decide +kernel
theorem dX12_smear_49 : decode cX12_smear 49 = .ok (.ireturn, 1) := by decide +kernel
theorem dX12_smear_50 : decode cX12_smear 50 = .ok (.lconst 0, 1) := by decide +kernel
theorem dX12_smear_51 : decode cX12_smear 51 = .ok (.lstore 5, 2) := by decide +kernel
theorem dX12_smear_53 : decode cX12_smear 53 = .ok (.lconst 0, 1) := by decide +kernel
theorem dX12_smear_54 : decode cX12_smear 54 = .ok (.lstore 7, 2) := by decide +kernel
theorem dX12_smear_56 : decode cX12_smear 56 = .ok (.iconst 0, 1) := by decide +kernel
theorem dX12_smear_57 : decode cX12_smear 57 = .ok (.istore 9, 2) := by decide +kernel
theorem dX12_smear_59 : decode cX12_smear 59 = .ok (.iload 9, 2) := by decide +kernel
theorem dX12_smear_61 : decode cX12_smear 61 = .ok (.iconst 1, 1) := by decide +kernel
theorem dX12_smear_62 : decode cX12_smear 62 = .ok (.iload_n 3, 1) := by decide +kernel
theorem dX12_smear_63 : decode cX12_smear 63 = .ok (.ishl, 1) := by decide +kernel
theorem dX12_smear_64 : decode cX12_smear 64 = .ok (.if_icmp .ge 118, 3) := by decide +kernel
theorem dX12_smear_67 : decode cX12_smear 67 = .ok (.aload_n 0, 1) := by decide +kernel
theorem dX12_smear_68 : decode cX12_smear 68 = .ok (.invokevirtual 188, 3) := by decide +kernel
theorem dX12_smear_71 : decode cX12_smear 71 = .ok (.lconst 1, 1) := by decide +kernel
theorem dX12_smear_72 : decode cX12_smear 72 = .ok (.lstore 10, 2) := by decide +kernel
theorem dX12_smear_74 : decode cX12_smear 74 = .ok (.iconst 0, 1) := by decide +kernel
theorem dX12_smear_75 : decode cX12_smear 75 = .ok (.istore 12, 2) := by decide +kernel
theorem dX12_smear_77 : decode cX12_smear 77 = .ok (.iload 12, 2) := by decide +kernel
theorem dX12_smear_79 : decode cX12_smear 79 = .ok (.iload_n 3, 1) := by decide +kernel
theorem dX12_smear_80 : decode cX12_smear 80 = .ok (.if_icmp .ge 64, 3) := by decide +kernel
theorem dX12_smear_83 : decode cX12_smear 83 = .ok (.lload 10, 2) := by decide +kernel
theorem dX12_smear_85 : decode cX12_smear 85 = .ok (.iload 9, 2) := by decide +kernel
theorem dX12_smear_87 : decode cX12_smear 87 = .ok (.iload 12, 2) := by decide +kernel
theorem dX12_smear_89 : decode cX12_smear 89 = .ok (.invokestatic 215, 3) := by decide +kernel
theorem dX12_smear_92 : decode cX12_smear 92 = .ok (.ifCond .eq 9, 3) := by decide +kernel
theorem dX12_smear_95 : decode cX12_smear 95 = .ok (.iload 4, 2) := by decide +kernel
theorem dX12_smear_97 : decode cX12_smear 97 = .ok (.i2l, 1) := by decide +kernel
theorem dX12_smear_98 : decode cX12_smear 98 = .ok (.goto 9, 3) := by decide +kernel
theorem dX12_smear_101 : decode cX12_smear 101 = .ok (.bipush 10, 2) := by decide +kernel
theorem dX12_smear_103 : decode cX12_smear 103 = .ok (.iload 4, 2) := by decide +kernel
theorem dX12_smear_105 : decode cX12_smear 105 = .ok (.isub, 1) := by decide +kernel
theorem dX12_smear_106 : decode cX12_smear 106 = .ok (.i2l, 1) := by decide +kernel
theorem dX12_smear_107 : decode cX12_smear 107 = .ok (.lmul, 1) := by decide +kernel
theorem dX12_smear_108 : decode cX12_smear 108 = .ok (.lstore 10, 2) := by decide +kernel
theorem dX12_smear_110 : decode cX12_smear 110 = .ok (.aload_n 0, 1) := by decide +kernel
theorem dX12_smear_111 : decode cX12_smear 111 = .ok (.sipush 675, 3) := by decide +kernel
theorem dX12_smear_114 : decode cX12_smear 114 = .ok (.aload_n 0, 1) := by decide +kernel
theorem dX12_smear_115 : decode cX12_smear 115 = .ok (.getfield 7, 3) := by decide +kernel
theorem dX12_smear_118 : decode cX12_smear 118 = .ok (.iconst 2, 1) := by decide +kernel
theorem dX12_smear_119 : decode cX12_smear 119 = .ok (.iaload, 1) := by decide +kernel
theorem dX12_smear_120 : decode cX12_smear 120 = .ok (.iload 9, 2) := by decide +kernel
theorem dX12_smear_122 : decode cX12_smear 122 = .ok (.iload 12, 2) := by decide +kernel
theorem dX12_smear_124 : decode cX12_smear 124 = .ok (.invokestatic 215, 3) := by decide +kernel
theorem dX12_smear_127 : decode cX12_smear 127 = .ok (.ifCond .ne 7, 3) := by decide +kernel
theorem dX12_smear_130 : decode cX12_smear 130 = .ok (.iconst 1, 1) := by decide +kernel
theorem dX12_smear_131 : decode cX12_smear 131 = .ok (.goto 4, 3) := by decide +kernel
theorem dX12_smear_134 : decode cX12_smear 134 = .ok (.iconst 0, 1) := by decide +kernel
theorem dX12_smear_135 : decode cX12_smear 135 = .ok (.invokevirtual 132, 3) := by decide +kernel
theorem dX12_smear_138 : decode cX12_smear 138 = .ok (.iinc 12 1, 3) := by decide +kernel
theorem dX12_smear_141 : decode cX12_smear 141 = .ok (.goto (-64), 3) := by decide +kernel
theorem dX12_smear_144 : decode cX12_smear 144 = .ok (.lload 7, 2) := by decide +kernel
theorem dX12_smear_146 : decode cX12_smear 146 = .ok (.lload 10, 2) := by decide +kernel
theorem dX12_smear_148 : decode cX12_smear 148 = .ok (.ladd, 1) := by decide +kernel
theorem dX12_smear_149 : decode cX12_smear 149 = .ok (.lstore 7, 2) := by decide +kernel
theorem dX12_smear_151 : decode cX12_smear 151 = .ok (.lload 5, 2) := by decide +kernel
theorem dX12_smear_153 : decode cX12_smear 153 = .ok (.aload_n 0, 1) := by decide +kernel
theorem dX12_smear_154 : decode cX12_smear 154 = .ok (.getfield 7, 3) := by decide +kernel
theorem dX12_smear_157 : decode cX12_smear 157 = .ok (.sipush 690, 3) := by decide +kernel
theorem dX12_smear_160 : decode cX12_smear 160 = .ok (.iload_n 1, 1) := by decide +kernel
theorem dX12_smear_161 : decode cX12_smear 161 = .ok (.iadd, 1) := by decide +kernel
theorem dX12_smear_162 : decode cX12_smear 162 = .ok (.iaload, 1) := by decide +kernel
theorem dX12_smear_163 : decode cX12_smear 163 = .ok (.iload_n 2, 1) := by decide +kernel
theorem dX12_smear_164 : decode cX12_smear 164 = .ok (.if_icmp .ne 8, 3) := by decide +kernel
theorem dX12_smear_167 : decode cX12_smear 167 = .ok (.lload 10, 2) := by decide +kernel
theorem dX12_smear_169 : decode cX12_smear 169 = .ok (.goto 4, 3) := by decide +kernel
theorem dX12_smear_172 : decode cX12_smear 172 = .ok (.lconst 0, 1) := by decide +kernel
theorem dX12_smear_173 : decode cX12_smear 173 = .ok (.ladd, 1) := by decide +kernel
theorem dX12_smear_174 : decode cX12_smear 174 = .ok (.lstore 5, 2) := by decide +kernel
theorem dX12_smear_176 : decode cX12_smear 176 = .ok (.iinc 9 1, 3) := by decide +kernel
theorem dX12_smear_179 : decode cX12_smear 179 = .ok (.goto (-120), 3) := by decide +kernel
theorem dX12_smear_182 : decode cX12_smear 182 = .ok (.lload 5, 2) := by decide +kernel
theorem dX12_smear_184 : decode cX12_smear 184 = .ok (.lstore 9, 2) := by decide +kernel
theorem dX12_smear_186 : decode cX12_smear 186 = .ok (.lload 7, 2) := by decide +kernel
theorem dX12_smear_188 : decode cX12_smear 188 = .ok (.lstore 11, 2) := by decide +kernel
theorem dX12_smear_190 : decode cX12_smear 190 = .ok (.lload 11, 2) := by decide +kernel
theorem dX12_smear_192 : decode cX12_smear 192 = .ok (.lconst 0, 1) := by decide +kernel
theorem dX12_smear_193 : decode cX12_smear 193 = .ok (.lcmp, 1) := by decide +kernel
theorem dX12_smear_194 : decode cX12_smear 194 = .ok (.ifCond .eq 21, 3) := by decide +kernel
theorem dX12_smear_197 : decode cX12_smear 197 = .ok (.lload 9, 2) := by decide +kernel
theorem dX12_smear_199 : decode cX12_smear 199 = .ok (.lload 11, 2) := by decide +kernel
theorem dX12_smear_201 : decode cX12_smear 201 = .ok (.lrem, 1) := by decide +kernel
theorem dX12_smear_202 : decode cX12_smear 202 = .ok (.lstore 13, 2) := by decide +kernel
theorem dX12_smear_204 : decode cX12_smear 204 = .ok (.lload 11, 2) := by decide +kernel
theorem dX12_smear_206 : decode cX12_smear 206 = .ok (.lstore 9, 2) := by decide +kernel
theorem dX12_smear_208 : decode cX12_smear 208 = .ok (.lload 13, 2) := by decide +kernel
theorem dX12_smear_210 : decode cX12_smear 210 = .ok (.lstore 11, 2) := by decide +kernel
theorem dX12_smear_212 : decode cX12_smear 212 = .ok (.goto (-22), 3) := by decide +kernel
theorem dX12_smear_215 : decode cX12_smear 215 = .ok (.aload_n 0, 1) := by decide +kernel
theorem dX12_smear_216 : decode cX12_smear 216 = .ok (.lload 5, 2) := by decide +kernel
theorem dX12_smear_218 : decode cX12_smear 218 = .ok (.lload 9, 2) := by decide +kernel
theorem dX12_smear_220 : decode cX12_smear 220 = .ok (.ldiv, 1) := by decide +kernel
theorem dX12_smear_221 : decode cX12_smear 221 = .ok (.putfield 229, 3) := by decide +kernel
theorem dX12_smear_224 : decode cX12_smear 224 = .ok (.aload_n 0, 1) := by decide +kernel
theorem dX12_smear_225 : decode cX12_smear 225 = .ok (.lload 7, 2) := by decide +kernel
theorem dX12_smear_227 : decode cX12_smear 227 = .ok (.lload 9, 2) := by decide +kernel
theorem dX12_smear_229 : decode cX12_smear 229 = .ok (.ldiv, 1) := by decide +kernel
theorem dX12_smear_230 : decode cX12_smear 230 = .ok (.putfield 23, 3) := by decide +kernel
theorem dX12_smear_233 : decode cX12_smear 233 = .ok (.iconst 1, 1) := by decide +kernel
theorem dX12_smear_234 : decode cX12_smear 234 = .ok (.ireturn, 1) := by decide +kernel
theorem dX12_nights_0 : decode cX12_nights 0 = .ok (.iload_n 1, 1) := by decide +kernel
theorem dX12_nights_1 : decode cX12_nights 1 = .ok (.i2l, 1) := by decide +kernel
theorem dX12_nights_2 : decode cX12_nights 2 = .ok (.lconst 0, 1) := by decide +kernel
theorem dX12_nights_3 : decode cX12_nights 3 = .ok (.ldc2_w 232, 3) := by decide +kernel
theorem dX12_nights_6 : decode cX12_nights 6 = .ok (.invokestatic 54, 3) := by decide +kernel
theorem dX12_nights_9 : decode cX12_nights 9 = .ok (.ifCond .eq 15, 3) := by decide +kernel
theorem dX12_nights_12 : decode cX12_nights 12 = .ok (.iload_n 2, 1) := by decide +kernel
theorem dX12_nights_13 : decode cX12_nights 13 = .ok (.i2l, 1) := by decide +kernel
theorem dX12_nights_14 : decode cX12_nights 14 = .ok (.lconst 0, 1) := by decide +kernel
theorem dX12_nights_15 : decode cX12_nights 15 = .ok (.ldc2_w 173, 3) := by decide +kernel
theorem dX12_nights_18 : decode cX12_nights 18 = .ok (.invokestatic 54, 3) := by decide +kernel
theorem dX12_nights_21 : decode cX12_nights 21 = .ok (.ifCond .ne 8, 3) := by decide +kernel
theorem dX12_nights_24 : decode cX12_nights 24 = .ok (.aload_n 0, 1) := by decide +kernel
theorem dX12_nights_25 : decode cX12_nights 25 = .ok (.invokevirtual 62, 3) := by decide +kernel
theorem dX12_nights_28 : decode cX12_nights 28 = .ok (.ireturn, 1) := by decide +kernel
theorem dX12_nights_29 : decode cX12_nights 29 = .ok (.aload_n 0, 1) := by decide +kernel
theorem dX12_nights_30 : decode cX12_nights 30 = .ok (.invokevirtual 188, 3) := by decide +kernel
theorem dX12_nights_33 : decode cX12_nights 33 = .ok (.iload_n 1, 1) := by decide +kernel
theorem dX12_nights_34 : decode cX12_nights 34 = .ok (.i2l, 1) := by decide +kernel
theorem dX12_nights_35 : decode cX12_nights 35 = .ok (.lstore_n 3, 1) := by decide +kernel
theorem dX12_nights_36 : decode cX12_nights 36 = .ok (.iconst 0, 1) := by decide +kernel
theorem dX12_nights_37 : decode cX12_nights 37 = .ok (.istore 5, 2) := by decide +kernel
theorem dX12_nights_39 : decode cX12_nights 39 = .ok (.iload 5, 2) := by decide +kernel
theorem dX12_nights_41 : decode cX12_nights 41 = .ok (.iload_n 2, 1) := by decide +kernel
theorem dX12_nights_42 : decode cX12_nights 42 = .ok (.if_icmp .ge 41, 3) := by decide +kernel
theorem dX12_nights_45 : decode cX12_nights 45 = .ok (.lload_n 3, 1) := by decide +kernel
theorem dX12_nights_46 : decode cX12_nights 46 = .ok (.ldc2_w 234, 3) := by decide +kernel
theorem dX12_nights_49 : decode cX12_nights 49 = .ok (.lmul, 1) := by decide +kernel
theorem dX12_nights_50 : decode cX12_nights 50 = .ok (.ldc2_w 236, 3) := by decide +kernel
theorem dX12_nights_53 : decode cX12_nights 53 = .ok (.ladd, 1) := by decide +kernel
theorem dX12_nights_54 : decode cX12_nights 54 = .ok (.ldc2_w 238, 3) := by decide +kernel
theorem dX12_nights_57 : decode cX12_nights 57 = .ok (.lrem, 1) := by decide +kernel
theorem dX12_nights_58 : decode cX12_nights 58 = .ok (.lstore_n 3, 1) := by decide +kernel
theorem dX12_nights_59 : decode cX12_nights 59 = .ok (.aload_n 0, 1) := by decide +kernel
theorem dX12_nights_60 : decode cX12_nights 60 = .ok (.sipush 675, 3) := by decide +kernel
theorem dX12_nights_63 : decode cX12_nights 63 = .ok (.lload_n 3, 1) := by decide +kernel
theorem dX12_nights_64 : decode cX12_nights 64 = .ok (.ldc2_w 240, 3) := by decide +kernel
theorem dX12_nights_67 : decode cX12_nights 67 = .ok (.ldiv, 1) := by decide +kernel
theorem dX12_nights_68 : decode cX12_nights 68 = .ok (.ldc2_w 52, 3) := by decide +kernel
theorem dX12_nights_71 : decode cX12_nights 71 = .ok (.lrem, 1) := by decide +kernel
theorem dX12_nights_72 : decode cX12_nights 72 = .ok (.l2i, 1) := by decide +kernel
theorem dX12_nights_73 : decode cX12_nights 73 = .ok (.iconst 1, 1) := by decide +kernel
theorem dX12_nights_74 : decode cX12_nights 74 = .ok (.invokevirtual 132, 3) := by decide +kernel
theorem dX12_nights_77 : decode cX12_nights 77 = .ok (.iinc 5 1, 3) := by decide +kernel
theorem dX12_nights_80 : decode cX12_nights 80 = .ok (.goto (-41), 3) := by decide +kernel
theorem dX12_nights_83 : decode cX12_nights 83 = .ok (.aload_n 0, 1) := by decide +kernel
theorem dX12_nights_84 : decode cX12_nights 84 = .ok (.sipush 675, 3) := by decide +kernel
theorem dX12_nights_87 : decode cX12_nights 87 = .ok (.invokevirtual 242, 3) := by decide +kernel
theorem dX12_nights_90 : decode cX12_nights 90 = .ok (.ireturn, 1) := by decide +kernel
theorem dX12_movesOf_0 : decode cX12_movesOf 0 = .ok (.iconst 0, 1) := by decide +kernel
theorem dX12_movesOf_1 : decode cX12_movesOf 1 = .ok (.istore_n 2, 1) := by decide +kernel
theorem dX12_movesOf_2 : decode cX12_movesOf 2 = .ok (.iconst 0, 1) := by decide +kernel
theorem dX12_movesOf_3 : decode cX12_movesOf 3 = .ok (.istore_n 3, 1) := by decide +kernel
theorem dX12_movesOf_4 : decode cX12_movesOf 4 = .ok (.iload_n 3, 1) := by decide +kernel
theorem dX12_movesOf_5 : decode cX12_movesOf 5 = .ok (.aload_n 0, 1) := by decide +kernel
theorem dX12_movesOf_6 : decode cX12_movesOf 6 = .ok (.getfield 13, 3) := by decide +kernel
theorem dX12_movesOf_9 : decode cX12_movesOf 9 = .ok (.iconst 2, 1) := by decide +kernel
theorem dX12_movesOf_10 : decode cX12_movesOf 10 = .ok (.iaload, 1) := by decide +kernel
theorem dX12_movesOf_11 : decode cX12_movesOf 11 = .ok (.if_icmp .ge 23, 3) := by decide +kernel
theorem dX12_movesOf_14 : decode cX12_movesOf 14 = .ok (.iload_n 2, 1) := by decide +kernel
theorem dX12_movesOf_15 : decode cX12_movesOf 15 = .ok (.aload_n 0, 1) := by decide +kernel
theorem dX12_movesOf_16 : decode cX12_movesOf 16 = .ok (.getfield 7, 3) := by decide +kernel
theorem dX12_movesOf_19 : decode cX12_movesOf 19 = .ok (.iload_n 1, 1) := by decide +kernel
theorem dX12_movesOf_20 : decode cX12_movesOf 20 = .ok (.bipush 20, 2) := by decide +kernel
theorem dX12_movesOf_22 : decode cX12_movesOf 22 = .ok (.iadd, 1) := by decide +kernel
theorem dX12_movesOf_23 : decode cX12_movesOf 23 = .ok (.iload_n 3, 1) := by decide +kernel
theorem dX12_movesOf_24 : decode cX12_movesOf 24 = .ok (.iadd, 1) := by decide +kernel
theorem dX12_movesOf_25 : decode cX12_movesOf 25 = .ok (.iaload, 1) := by decide +kernel
theorem dX12_movesOf_26 : decode cX12_movesOf 26 = .ok (.iadd, 1) := by decide +kernel
theorem dX12_movesOf_27 : decode cX12_movesOf 27 = .ok (.istore_n 2, 1) := by decide +kernel
theorem dX12_movesOf_28 : decode cX12_movesOf 28 = .ok (.iinc 3 1, 3) := by decide +kernel
theorem dX12_movesOf_31 : decode cX12_movesOf 31 = .ok (.goto (-27), 3) := by decide +kernel
theorem dX12_movesOf_34 : decode cX12_movesOf 34 = .ok (.iload_n 2, 1) := by decide +kernel
theorem dX12_movesOf_35 : decode cX12_movesOf 35 = .ok (.ireturn, 1) := by decide +kernel
theorem dX12_part_0 : decode cX12_part 0 = .ok (.iload_n 1, 1) := by decide +kernel
theorem dX12_part_1 : decode cX12_part 1 = .ok (.i2l, 1) := by decide +kernel
theorem dX12_part_2 : decode cX12_part 2 = .ok (.lconst 0, 1) := by decide +kernel
theorem dX12_part_3 : decode cX12_part 3 = .ok (.lconst 1, 1) := by decide +kernel
theorem dX12_part_4 : decode cX12_part 4 = .ok (.invokestatic 54, 3) := by decide +kernel
theorem dX12_part_7 : decode cX12_part 7 = .ok (.ifCond .ne 9, 3) := by decide +kernel
theorem dX12_part_10 : decode cX12_part 10 = .ok (.aload_n 0, 1) := by decide +kernel
theorem dX12_part_11 : decode cX12_part 11 = .ok (.invokevirtual 62, 3) := by decide +kernel
theorem dX12_part_14 : decode cX12_part 14 = .ok (.i2l, 1) := by decide +kernel
theorem dX12_part_15 : decode cX12_part 15 = .ok (.lreturn, 1) := by decide +kernel
theorem dX12_part_16 : decode cX12_part 16 = .ok (.iload_n 1, 1) := by decide +kernel
theorem dX12_part_17 : decode cX12_part 17 = .ok (.ifCond .ne 10, 3) := by decide +kernel
theorem dX12_part_20 : decode cX12_part 20 = .ok (.aload_n 0, 1) := by decide +kernel
theorem dX12_part_21 : decode cX12_part 21 = .ok (.getfield 229, 3) := by decide +kernel
theorem dX12_part_24 : decode cX12_part 24 = .ok (.goto 7, 3) := by decide +kernel
theorem dX12_part_27 : decode cX12_part 27 = .ok (.aload_n 0, 1) := by decide +kernel
theorem dX12_part_28 : decode cX12_part 28 = .ok (.getfield 23, 3) := by decide +kernel
theorem dX12_part_31 : decode cX12_part 31 = .ok (.lreturn, 1) := by decide +kernel
theorem dX12_carries_0 : decode cX12_carries 0 = .ok (.iconst 0, 1) := by decide +kernel
theorem dX12_carries_1 : decode cX12_carries 1 = .ok (.istore 5, 2) := by decide +kernel
theorem dX12_carries_3 : decode cX12_carries 3 = .ok (.iload 5, 2) := by decide +kernel
theorem dX12_carries_5 : decode cX12_carries 5 = .ok (.sipush 225, 3) := by decide +kernel
theorem dX12_carries_8 : decode cX12_carries 8 = .ok (.if_icmp .ge 27, 3) := by decide +kernel
theorem dX12_carries_11 : decode cX12_carries 11 = .ok (.aload_n 0, 1) := by decide +kernel
theorem dX12_carries_12 : decode cX12_carries 12 = .ok (.getfield 7, 3) := by decide +kernel
theorem dX12_carries_15 : decode cX12_carries 15 = .ok (.iload_n 2, 1) := by decide +kernel
theorem dX12_carries_16 : decode cX12_carries 16 = .ok (.iload 5, 2) := by decide +kernel
theorem dX12_carries_18 : decode cX12_carries 18 = .ok (.iadd, 1) := by decide +kernel
theorem dX12_carries_19 : decode cX12_carries 19 = .ok (.aload_n 0, 1) := by decide +kernel
theorem dX12_carries_20 : decode cX12_carries 20 = .ok (.getfield 7, 3) := by decide +kernel
theorem dX12_carries_23 : decode cX12_carries 23 = .ok (.iload_n 1, 1) := by decide +kernel
theorem dX12_carries_24 : decode cX12_carries 24 = .ok (.iload 5, 2) := by decide +kernel
theorem dX12_carries_26 : decode cX12_carries 26 = .ok (.iadd, 1) := by decide +kernel
theorem dX12_carries_27 : decode cX12_carries 27 = .ok (.iaload, 1) := by decide +kernel
theorem dX12_carries_28 : decode cX12_carries 28 = .ok (.iastore, 1) := by decide +kernel
theorem dX12_carries_29 : decode cX12_carries 29 = .ok (.iinc 5 1, 3) := by decide +kernel
theorem dX12_carries_32 : decode cX12_carries 32 = .ok (.goto (-29), 3) := by decide +kernel
theorem dX12_carries_35 : decode cX12_carries 35 = .ok (.iconst 0, 1) := by decide +kernel
theorem dX12_carries_36 : decode cX12_carries 36 = .ok (.istore 5, 2) := by decide +kernel
theorem dX12_carries_38 : decode cX12_carries 38 = .ok (.iload 5, 2) := by decide +kernel
theorem dX12_carries_40 : decode cX12_carries 40 = .ok (.bipush 66, 2) := by decide +kernel
theorem dX12_carries_42 : decode cX12_carries 42 = .ok (.if_icmp .ge 28, 3) := by decide +kernel
theorem dX12_carries_45 : decode cX12_carries 45 = .ok (.aload_n 0, 1) := by decide +kernel
theorem dX12_carries_46 : decode cX12_carries 46 = .ok (.getfield 13, 3) := by decide +kernel
theorem dX12_carries_49 : decode cX12_carries 49 = .ok (.iload 4, 2) := by decide +kernel
theorem dX12_carries_51 : decode cX12_carries 51 = .ok (.iload 5, 2) := by decide +kernel
theorem dX12_carries_53 : decode cX12_carries 53 = .ok (.iadd, 1) := by decide +kernel
theorem dX12_carries_54 : decode cX12_carries 54 = .ok (.aload_n 0, 1) := by decide +kernel
theorem dX12_carries_55 : decode cX12_carries 55 = .ok (.getfield 13, 3) := by decide +kernel
theorem dX12_carries_58 : decode cX12_carries 58 = .ok (.iload_n 3, 1) := by decide +kernel
theorem dX12_carries_59 : decode cX12_carries 59 = .ok (.iload 5, 2) := by decide +kernel
theorem dX12_carries_61 : decode cX12_carries 61 = .ok (.iadd, 1) := by decide +kernel
theorem dX12_carries_62 : decode cX12_carries 62 = .ok (.iaload, 1) := by decide +kernel
theorem dX12_carries_63 : decode cX12_carries 63 = .ok (.iastore, 1) := by decide +kernel
theorem dX12_carries_64 : decode cX12_carries 64 = .ok (.iinc 5 1, 3) := by decide +kernel
theorem dX12_carries_67 : decode cX12_carries 67 = .ok (.goto (-29), 3) := by decide +kernel
theorem dX12_carries_70 : decode cX12_carries 70 = .ok (.return_, 1) := by decide +kernel
theorem dX12_image_0 : decode cX12_image 0 = .ok (.iload_n 1, 1) := by decide +kernel
theorem dX12_image_1 : decode cX12_image 1 = .ok (.i2l, 1) := by decide +kernel
theorem dX12_image_2 : decode cX12_image 2 = .ok (.lconst 0, 1) := by decide +kernel
theorem dX12_image_3 : decode cX12_image 3 = .ok (.lconst 1, 1) := by decide +kernel
theorem dX12_image_4 : decode cX12_image 4 = .ok (.invokestatic 54, 3) := by decide +kernel
theorem dX12_image_7 : decode cX12_image 7 = .ok (.ifCond .ne 8, 3) := by decide +kernel
theorem dX12_image_10 : decode cX12_image 10 = .ok (.aload_n 0, 1) := by decide +kernel
theorem dX12_image_11 : decode cX12_image 11 = .ok (.invokevirtual 62, 3) := by decide +kernel
theorem dX12_image_14 : decode cX12_image 14 = .ok (.ireturn, 1) := by decide +kernel
theorem dX12_image_15 : decode cX12_image 15 = .ok (.aload_n 0, 1) := by decide +kernel
theorem dX12_image_16 : decode cX12_image 16 = .ok (.iconst 0, 1) := by decide +kernel
theorem dX12_image_17 : decode cX12_image 17 = .ok (.sipush 225, 3) := by decide +kernel
theorem dX12_image_20 : decode cX12_image 20 = .ok (.iload_n 1, 1) := by decide +kernel
theorem dX12_image_21 : decode cX12_image 21 = .ok (.iconst 1, 1) := by decide +kernel
theorem dX12_image_22 : decode cX12_image 22 = .ok (.iadd, 1) := by decide +kernel
theorem dX12_image_23 : decode cX12_image 23 = .ok (.imul, 1) := by decide +kernel
theorem dX12_image_24 : decode cX12_image 24 = .ok (.iconst 0, 1) := by decide +kernel
theorem dX12_image_25 : decode cX12_image 25 = .ok (.bipush 66, 2) := by decide +kernel
theorem dX12_image_27 : decode cX12_image 27 = .ok (.iload_n 1, 1) := by decide +kernel
theorem dX12_image_28 : decode cX12_image 28 = .ok (.iconst 1, 1) := by decide +kernel
theorem dX12_image_29 : decode cX12_image 29 = .ok (.iadd, 1) := by decide +kernel
theorem dX12_image_30 : decode cX12_image 30 = .ok (.imul, 1) := by decide +kernel
theorem dX12_image_31 : decode cX12_image 31 = .ok (.invokevirtual 245, 3) := by decide +kernel
theorem dX12_image_34 : decode cX12_image 34 = .ok (.aload_n 0, 1) := by decide +kernel
theorem dX12_image_35 : decode cX12_image 35 = .ok (.getfield 16, 3) := by decide +kernel
theorem dX12_image_38 : decode cX12_image 38 = .ok (.iload_n 1, 1) := by decide +kernel
theorem dX12_image_39 : decode cX12_image 39 = .ok (.iconst 1, 1) := by decide +kernel
theorem dX12_image_40 : decode cX12_image 40 = .ok (.iastore, 1) := by decide +kernel
theorem dX12_image_41 : decode cX12_image 41 = .ok (.iconst 1, 1) := by decide +kernel
theorem dX12_image_42 : decode cX12_image 42 = .ok (.ireturn, 1) := by decide +kernel
theorem dX12_from_0 : decode cX12_from 0 = .ok (.iload_n 1, 1) := by decide +kernel
theorem dX12_from_1 : decode cX12_from 1 = .ok (.i2l, 1) := by decide +kernel
theorem dX12_from_2 : decode cX12_from 2 = .ok (.lconst 0, 1) := by decide +kernel
theorem dX12_from_3 : decode cX12_from 3 = .ok (.lconst 1, 1) := by decide +kernel
theorem dX12_from_4 : decode cX12_from 4 = .ok (.invokestatic 54, 3) := by decide +kernel
theorem dX12_from_7 : decode cX12_from 7 = .ok (.ifCond .ne 8, 3) := by decide +kernel
theorem dX12_from_10 : decode cX12_from 10 = .ok (.aload_n 0, 1) := by decide +kernel
theorem dX12_from_11 : decode cX12_from 11 = .ok (.invokevirtual 62, 3) := by decide +kernel
theorem dX12_from_14 : decode cX12_from 14 = .ok (.ireturn, 1) := by decide +kernel
theorem dX12_from_15 : decode cX12_from 15 = .ok (.aload_n 0, 1) := by decide +kernel
theorem dX12_from_16 : decode cX12_from 16 = .ok (.getfield 16, 3) := by decide +kernel
theorem dX12_from_19 : decode cX12_from 19 = .ok (.iload_n 1, 1) := by decide +kernel
theorem dX12_from_20 : decode cX12_from 20 = .ok (.iaload, 1) := by decide +kernel
theorem dX12_from_21 : decode cX12_from 21 = .ok (.ifCond .ne 8, 3) := by decide +kernel
theorem dX12_from_24 : decode cX12_from 24 = .ok (.aload_n 0, 1) := by decide +kernel
theorem dX12_from_25 : decode cX12_from 25 = .ok (.invokevirtual 178, 3) := by decide +kernel
theorem dX12_from_28 : decode cX12_from 28 = .ok (.ireturn, 1) := by decide +kernel
theorem dX12_from_29 : decode cX12_from 29 = .ok (.aload_n 0, 1) := by decide +kernel
theorem dX12_from_30 : decode cX12_from 30 = .ok (.sipush 225, 3) := by decide +kernel
theorem dX12_from_33 : decode cX12_from 33 = .ok (.iload_n 1, 1) := by decide +kernel
theorem dX12_from_34 : decode cX12_from 34 = .ok (.iconst 1, 1) := by decide +kernel
theorem dX12_from_35 : decode cX12_from 35 = .ok (.iadd, 1) := by decide +kernel
theorem dX12_from_36 : decode cX12_from 36 = .ok (.imul, 1) := by decide +kernel
theorem dX12_from_37 : decode cX12_from 37 = .ok (.iconst 0, 1) := by decide +kernel
theorem dX12_from_38 : decode cX12_from 38 = .ok (.bipush 66, 2) := by decide +kernel
theorem dX12_from_40 : decode cX12_from 40 = .ok (.iload_n 1, 1) := by decide +kernel
theorem dX12_from_41 : decode cX12_from 41 = .ok (.iconst 1, 1) := by decide +kernel
theorem dX12_from_42 : decode cX12_from 42 = .ok (.iadd, 1) := by decide +kernel
theorem dX12_from_43 : decode cX12_from 43 = .ok (.imul, 1) := by decide +kernel
theorem dX12_from_44 : decode cX12_from 44 = .ok (.iconst 0, 1) := by decide +kernel
theorem dX12_from_45 : decode cX12_from 45 = .ok (.invokevirtual 245, 3) := by decide +kernel
theorem dX12_from_48 : decode cX12_from 48 = .ok (.iconst 1, 1) := by decide +kernel
theorem dX12_from_49 : decode cX12_from 49 = .ok (.ireturn, 1) := by decide +kernel
theorem dX12_status_0 : decode cX12_status 0 = .ok (.iload_n 1, 1) := by decide +kernel
theorem dX12_status_1 : decode cX12_status 1 = .ok (.i2l, 1) := by decide +kernel
theorem dX12_status_2 : decode cX12_status 2 = .ok (.lconst 0, 1) := by decide +kernel
theorem dX12_status_3 : decode cX12_status 3 = .ok (.ldc2_w 50, 3) := by decide +kernel
theorem dX12_status_6 : decode cX12_status 6 = .ok (.invokestatic 54, 3) := by decide +kernel
theorem dX12_status_9 : decode cX12_status 9 = .ok (.ifCond .ne 15, 3) := by decide +kernel
theorem dX12_status_12 : decode cX12_status 12 = .ok (.aload_n 0, 1) := by decide +kernel
theorem dX12_status_13 : decode cX12_status 13 = .ok (.getfield 27, 3) := by decide +kernel
theorem dX12_status_16 : decode cX12_status 16 = .ok (.iconst 0, 1) := by decide +kernel
theorem dX12_status_17 : decode cX12_status 17 = .ok (.dup2, 1) := by decide +kernel
theorem dX12_status_18 : decode cX12_status 18 = .ok (.iaload, 1) := by decide +kernel
theorem dX12_status_19 : decode cX12_status 19 = .ok (.iconst 1, 1) := by decide +kernel
theorem dX12_status_20 : decode cX12_status 20 = .ok (.iadd, 1) := by decide +kernel
theorem dX12_status_21 : decode cX12_status 21 = .ok (.iastore, 1) := by decide +kernel
theorem dX12_status_22 : decode cX12_status 22 = .ok (.iconst (-1), 1) := by decide +kernel
theorem dX12_status_23 : decode cX12_status 23 = .ok (.ireturn, 1) := by decide +kernel
theorem dX12_status_24 : decode cX12_status 24 = .ok (.aload_n 0, 1) := by decide +kernel
theorem dX12_status_25 : decode cX12_status 25 = .ok (.getfield 27, 3) := by decide +kernel
theorem dX12_status_28 : decode cX12_status 28 = .ok (.iload_n 1, 1) := by decide +kernel
theorem dX12_status_29 : decode cX12_status 29 = .ok (.iaload, 1) := by decide +kernel
theorem dX12_status_30 : decode cX12_status 30 = .ok (.ireturn, 1) := by decide +kernel
theorem dX12_countOf_0 : decode cX12_countOf 0 = .ok (.iload_n 1, 1) := by decide +kernel
theorem dX12_countOf_1 : decode cX12_countOf 1 = .ok (.ifCond .ne 12, 3) := by decide +kernel
theorem dX12_countOf_4 : decode cX12_countOf 4 = .ok (.aload_n 0, 1) := by decide +kernel
theorem dX12_countOf_5 : decode cX12_countOf 5 = .ok (.getfield 13, 3) := by decide +kernel
theorem dX12_countOf_8 : decode cX12_countOf 8 = .ok (.iconst 0, 1) := by decide +kernel
theorem dX12_countOf_9 : decode cX12_countOf 9 = .ok (.iaload, 1) := by decide +kernel
theorem dX12_countOf_10 : decode cX12_countOf 10 = .ok (.goto 155, 3) := by decide +kernel
theorem dX12_countOf_13 : decode cX12_countOf 13 = .ok (.iload_n 1, 1) := by decide +kernel
theorem dX12_countOf_14 : decode cX12_countOf 14 = .ok (.iconst 1, 1) := by decide +kernel
theorem dX12_countOf_15 : decode cX12_countOf 15 = .ok (.if_icmp .ne 12, 3) := by decide +kernel
theorem dX12_countOf_18 : decode cX12_countOf 18 = .ok (.aload_n 0, 1) := by decide +kernel
theorem dX12_countOf_19 : decode cX12_countOf 19 = .ok (.getfield 13, 3) := by decide +kernel
theorem dX12_countOf_22 : decode cX12_countOf 22 = .ok (.iconst 1, 1) := by decide +kernel
theorem dX12_countOf_23 : decode cX12_countOf 23 = .ok (.iaload, 1) := by decide +kernel
theorem dX12_countOf_24 : decode cX12_countOf 24 = .ok (.goto 141, 3) := by decide +kernel
theorem dX12_countOf_27 : decode cX12_countOf 27 = .ok (.iload_n 1, 1) := by decide +kernel
theorem dX12_countOf_28 : decode cX12_countOf 28 = .ok (.iconst 2, 1) := by decide +kernel
theorem dX12_countOf_29 : decode cX12_countOf 29 = .ok (.if_icmp .ne 12, 3) := by decide +kernel
theorem dX12_countOf_32 : decode cX12_countOf 32 = .ok (.aload_n 0, 1) := by decide +kernel
theorem dX12_countOf_33 : decode cX12_countOf 33 = .ok (.getfield 7, 3) := by decide +kernel
theorem dX12_countOf_36 : decode cX12_countOf 36 = .ok (.iconst 2, 1) := by decide +kernel
theorem dX12_countOf_37 : decode cX12_countOf 37 = .ok (.iaload, 1) := by decide +kernel
theorem dX12_countOf_38 : decode cX12_countOf 38 = .ok (.goto 127, 3) := by decide +kernel
theorem dX12_countOf_41 : decode cX12_countOf 41 = .ok (.iload_n 1, 1) := by decide +kernel
theorem dX12_countOf_42 : decode cX12_countOf 42 = .ok (.iconst 3, 1) := by decide +kernel
theorem dX12_countOf_43 : decode cX12_countOf 43 = .ok (.if_icmp .ne 12, 3) := by decide +kernel
theorem dX12_countOf_46 : decode cX12_countOf 46 = .ok (.aload_n 0, 1) := by decide +kernel
theorem dX12_countOf_47 : decode cX12_countOf 47 = .ok (.getfield 7, 3) := by decide +kernel
theorem dX12_countOf_50 : decode cX12_countOf 50 = .ok (.iconst 0, 1) := by decide +kernel
theorem dX12_countOf_51 : decode cX12_countOf 51 = .ok (.iaload, 1) := by decide +kernel
theorem dX12_countOf_52 : decode cX12_countOf 52 = .ok (.goto 113, 3) := by decide +kernel
theorem dX12_countOf_55 : decode cX12_countOf 55 = .ok (.iload_n 1, 1) := by decide +kernel
theorem dX12_countOf_56 : decode cX12_countOf 56 = .ok (.iconst 4, 1) := by decide +kernel
theorem dX12_countOf_57 : decode cX12_countOf 57 = .ok (.if_icmp .ne 12, 3) := by decide +kernel
theorem dX12_countOf_60 : decode cX12_countOf 60 = .ok (.aload_n 0, 1) := by decide +kernel
theorem dX12_countOf_61 : decode cX12_countOf 61 = .ok (.getfield 7, 3) := by decide +kernel
theorem dX12_countOf_64 : decode cX12_countOf 64 = .ok (.iconst 1, 1) := by decide +kernel
theorem dX12_countOf_65 : decode cX12_countOf 65 = .ok (.iaload, 1) := by decide +kernel
theorem dX12_countOf_66 : decode cX12_countOf 66 = .ok (.goto 99, 3) := by decide +kernel
theorem dX12_countOf_69 : decode cX12_countOf 69 = .ok (.iload_n 1, 1) := by decide +kernel
theorem dX12_countOf_70 : decode cX12_countOf 70 = .ok (.iconst 5, 1) := by decide +kernel
theorem dX12_countOf_71 : decode cX12_countOf 71 = .ok (.if_icmp .ne 12, 3) := by decide +kernel
theorem dX12_countOf_74 : decode cX12_countOf 74 = .ok (.aload_n 0, 1) := by decide +kernel
theorem dX12_countOf_75 : decode cX12_countOf 75 = .ok (.getfield 13, 3) := by decide +kernel
theorem dX12_countOf_78 : decode cX12_countOf 78 = .ok (.iconst 2, 1) := by decide +kernel
theorem dX12_countOf_79 : decode cX12_countOf 79 = .ok (.iaload, 1) := by decide +kernel
theorem dX12_countOf_80 : decode cX12_countOf 80 = .ok (.goto 85, 3) := by decide +kernel
theorem dX12_countOf_83 : decode cX12_countOf 83 = .ok (.iload_n 1, 1) := by decide +kernel
theorem dX12_countOf_84 : decode cX12_countOf 84 = .ok (.bipush 6, 2) := by decide +kernel
theorem dX12_countOf_86 : decode cX12_countOf 86 = .ok (.if_icmp .ne 11, 3) := by decide +kernel
theorem dX12_countOf_89 : decode cX12_countOf 89 = .ok (.aload_n 0, 1) := by decide +kernel
theorem dX12_countOf_90 : decode cX12_countOf 90 = .ok (.iconst 0, 1) := by decide +kernel
theorem dX12_countOf_91 : decode cX12_countOf 91 = .ok (.invokevirtual 242, 3) := by decide +kernel
theorem dX12_countOf_94 : decode cX12_countOf 94 = .ok (.goto 71, 3) := by decide +kernel
theorem dX12_countOf_97 : decode cX12_countOf 97 = .ok (.iload_n 1, 1) := by decide +kernel
theorem dX12_countOf_98 : decode cX12_countOf 98 = .ok (.bipush 7, 2) := by decide +kernel
theorem dX12_countOf_100 : decode cX12_countOf 100 = .ok (.if_icmp .ne 13, 3) := by decide +kernel
theorem dX12_countOf_103 : decode cX12_countOf 103 = .ok (.aload_n 0, 1) := by decide +kernel
theorem dX12_countOf_104 : decode cX12_countOf 104 = .ok (.getfield 13, 3) := by decide +kernel
theorem dX12_countOf_107 : decode cX12_countOf 107 = .ok (.bipush 8, 2) := by decide +kernel
theorem dX12_countOf_109 : decode cX12_countOf 109 = .ok (.iaload, 1) := by decide +kernel
theorem dX12_countOf_110 : decode cX12_countOf 110 = .ok (.goto 55, 3) := by decide +kernel
theorem dX12_countOf_113 : decode cX12_countOf 113 = .ok (.iload_n 1, 1) := by decide +kernel
theorem dX12_countOf_114 : decode cX12_countOf 114 = .ok (.bipush 8, 2) := by decide +kernel
theorem dX12_countOf_116 : decode cX12_countOf 116 = .ok (.if_icmp .ne 13, 3) := by decide +kernel
theorem dX12_countOf_119 : decode cX12_countOf 119 = .ok (.aload_n 0, 1) := by decide +kernel
theorem dX12_countOf_120 : decode cX12_countOf 120 = .ok (.getfield 13, 3) := by decide +kernel
theorem dX12_countOf_123 : decode cX12_countOf 123 = .ok (.bipush 21, 2) := by decide +kernel
theorem dX12_countOf_125 : decode cX12_countOf 125 = .ok (.iaload, 1) := by decide +kernel
theorem dX12_countOf_126 : decode cX12_countOf 126 = .ok (.goto 39, 3) := by decide +kernel
theorem dX12_countOf_129 : decode cX12_countOf 129 = .ok (.iload_n 1, 1) := by decide +kernel
theorem dX12_countOf_130 : decode cX12_countOf 130 = .ok (.bipush 9, 2) := by decide +kernel
theorem dX12_countOf_132 : decode cX12_countOf 132 = .ok (.if_icmp .ne 13, 3) := by decide +kernel
theorem dX12_countOf_135 : decode cX12_countOf 135 = .ok (.aload_n 0, 1) := by decide +kernel
theorem dX12_countOf_136 : decode cX12_countOf 136 = .ok (.getfield 13, 3) := by decide +kernel
theorem dX12_countOf_139 : decode cX12_countOf 139 = .ok (.bipush 46, 2) := by decide +kernel
theorem dX12_countOf_141 : decode cX12_countOf 141 = .ok (.iaload, 1) := by decide +kernel
theorem dX12_countOf_142 : decode cX12_countOf 142 = .ok (.goto 23, 3) := by decide +kernel
theorem dX12_countOf_145 : decode cX12_countOf 145 = .ok (.iload_n 1, 1) := by decide +kernel
theorem dX12_countOf_146 : decode cX12_countOf 146 = .ok (.bipush 10, 2) := by decide +kernel
theorem dX12_countOf_148 : decode cX12_countOf 148 = .ok (.if_icmp .ne 13, 3) := by decide +kernel
theorem dX12_countOf_151 : decode cX12_countOf 151 = .ok (.aload_n 0, 1) := by decide +kernel
theorem dX12_countOf_152 : decode cX12_countOf 152 = .ok (.getfield 13, 3) := by decide +kernel
theorem dX12_countOf_155 : decode cX12_countOf 155 = .ok (.bipush 65, 2) := by decide +kernel
theorem dX12_countOf_157 : decode cX12_countOf 157 = .ok (.iaload, 1) := by decide +kernel
theorem dX12_countOf_158 : decode cX12_countOf 158 = .ok (.goto 7, 3) := by decide +kernel
theorem dX12_countOf_161 : decode cX12_countOf 161 = .ok (.aload_n 0, 1) := by decide +kernel
theorem dX12_countOf_162 : decode cX12_countOf 162 = .ok (.getfield 75, 3) := by decide +kernel
theorem dX12_countOf_165 : decode cX12_countOf 165 = .ok (.ireturn, 1) := by decide +kernel
theorem dX12_count_0 : decode cX12_count 0 = .ok (.iload_n 1, 1) := by decide +kernel
theorem dX12_count_1 : decode cX12_count 1 = .ok (.i2l, 1) := by decide +kernel
theorem dX12_count_2 : decode cX12_count 2 = .ok (.lconst 0, 1) := by decide +kernel
theorem dX12_count_3 : decode cX12_count 3 = .ok (.ldc2_w 60, 3) := by decide +kernel
theorem dX12_count_6 : decode cX12_count 6 = .ok (.invokestatic 54, 3) := by decide +kernel
theorem dX12_count_9 : decode cX12_count 9 = .ok (.ifCond .eq 11, 3) := by decide +kernel
theorem dX12_count_12 : decode cX12_count 12 = .ok (.aload_n 0, 1) := by decide +kernel
theorem dX12_count_13 : decode cX12_count 13 = .ok (.iload_n 1, 1) := by decide +kernel
theorem dX12_count_14 : decode cX12_count 14 = .ok (.invokevirtual 249, 3) := by decide +kernel
theorem dX12_count_17 : decode cX12_count 17 = .ok (.goto 7, 3) := by decide +kernel
theorem dX12_count_20 : decode cX12_count 20 = .ok (.aload_n 0, 1) := by decide +kernel
theorem dX12_count_21 : decode cX12_count 21 = .ok (.invokevirtual 62, 3) := by decide +kernel
theorem dX12_count_24 : decode cX12_count 24 = .ok (.ireturn, 1) := by decide +kernel
theorem dX12_digest_0 : decode cX12_digest 0 = .ok (.ldc2_w 252, 3) := by decide +kernel
theorem dX12_digest_3 : decode cX12_digest 3 = .ok (.lstore_n 1, 1) := by decide +kernel
theorem dX12_digest_4 : decode cX12_digest 4 = .ok (.iconst 0, 1) := by decide +kernel
theorem dX12_digest_5 : decode cX12_digest 5 = .ok (.istore_n 3, 1) := by decide +kernel
theorem dX12_digest_6 : decode cX12_digest 6 = .ok (.iload_n 3, 1) := by decide +kernel
theorem dX12_digest_7 : decode cX12_digest 7 = .ok (.bipush 12, 2) := by decide +kernel
theorem dX12_digest_9 : decode cX12_digest 9 = .ok (.if_icmp .ge 22, 3) := by decide +kernel
theorem dX12_digest_12 : decode cX12_digest 12 = .ok (.ldc2_w 254, 3) := by decide +kernel
theorem dX12_digest_15 : decode cX12_digest 15 = .ok (.lload_n 1, 1) := by decide +kernel
theorem dX12_digest_16 : decode cX12_digest 16 = .ok (.lmul, 1) := by decide +kernel
theorem dX12_digest_17 : decode cX12_digest 17 = .ok (.aload_n 0, 1) := by decide +kernel
theorem dX12_digest_18 : decode cX12_digest 18 = .ok (.iload_n 3, 1) := by decide +kernel
theorem dX12_digest_19 : decode cX12_digest 19 = .ok (.invokevirtual 249, 3) := by decide +kernel
theorem dX12_digest_22 : decode cX12_digest 22 = .ok (.i2l, 1) := by decide +kernel
theorem dX12_digest_23 : decode cX12_digest 23 = .ok (.ladd, 1) := by decide +kernel
theorem dX12_digest_24 : decode cX12_digest 24 = .ok (.lstore_n 1, 1) := by decide +kernel
theorem dX12_digest_25 : decode cX12_digest 25 = .ok (.iinc 3 1, 3) := by decide +kernel
theorem dX12_digest_28 : decode cX12_digest 28 = .ok (.goto (-22), 3) := by decide +kernel
theorem dX12_digest_31 : decode cX12_digest 31 = .ok (.iconst 0, 1) := by decide +kernel
theorem dX12_digest_32 : decode cX12_digest 32 = .ok (.istore_n 3, 1) := by decide +kernel
theorem dX12_digest_33 : decode cX12_digest 33 = .ok (.iload_n 3, 1) := by decide +kernel
theorem dX12_digest_34 : decode cX12_digest 34 = .ok (.aload_n 0, 1) := by decide +kernel
theorem dX12_digest_35 : decode cX12_digest 35 = .ok (.getfield 13, 3) := by decide +kernel
theorem dX12_digest_38 : decode cX12_digest 38 = .ok (.iconst 0, 1) := by decide +kernel
theorem dX12_digest_39 : decode cX12_digest 39 = .ok (.iaload, 1) := by decide +kernel
theorem dX12_digest_40 : decode cX12_digest 40 = .ok (.if_icmp .ge 25, 3) := by decide +kernel
theorem dX12_digest_43 : decode cX12_digest 43 = .ok (.ldc2_w 254, 3) := by decide +kernel
theorem dX12_digest_46 : decode cX12_digest 46 = .ok (.lload_n 1, 1) := by decide +kernel
theorem dX12_digest_47 : decode cX12_digest 47 = .ok (.lmul, 1) := by decide +kernel
theorem dX12_digest_48 : decode cX12_digest 48 = .ok (.aload_n 0, 1) := by decide +kernel
theorem dX12_digest_49 : decode cX12_digest 49 = .ok (.getfield 7, 3) := by decide +kernel
theorem dX12_digest_52 : decode cX12_digest 52 = .ok (.iconst 3, 1) := by decide +kernel
theorem dX12_digest_53 : decode cX12_digest 53 = .ok (.iload_n 3, 1) := by decide +kernel
theorem dX12_digest_54 : decode cX12_digest 54 = .ok (.iadd, 1) := by decide +kernel
theorem dX12_digest_55 : decode cX12_digest 55 = .ok (.iaload, 1) := by decide +kernel
theorem dX12_digest_56 : decode cX12_digest 56 = .ok (.i2l, 1) := by decide +kernel
theorem dX12_digest_57 : decode cX12_digest 57 = .ok (.ladd, 1) := by decide +kernel
theorem dX12_digest_58 : decode cX12_digest 58 = .ok (.lstore_n 1, 1) := by decide +kernel
theorem dX12_digest_59 : decode cX12_digest 59 = .ok (.iinc 3 1, 3) := by decide +kernel
theorem dX12_digest_62 : decode cX12_digest 62 = .ok (.goto (-29), 3) := by decide +kernel
theorem dX12_digest_65 : decode cX12_digest 65 = .ok (.iconst 0, 1) := by decide +kernel
theorem dX12_digest_66 : decode cX12_digest 66 = .ok (.istore_n 3, 1) := by decide +kernel
theorem dX12_digest_67 : decode cX12_digest 67 = .ok (.iload_n 3, 1) := by decide +kernel
theorem dX12_digest_68 : decode cX12_digest 68 = .ok (.aload_n 0, 1) := by decide +kernel
theorem dX12_digest_69 : decode cX12_digest 69 = .ok (.getfield 13, 3) := by decide +kernel
theorem dX12_digest_72 : decode cX12_digest 72 = .ok (.iconst 2, 1) := by decide +kernel
theorem dX12_digest_73 : decode cX12_digest 73 = .ok (.iaload, 1) := by decide +kernel
theorem dX12_digest_74 : decode cX12_digest 74 = .ok (.if_icmp .ge 55, 3) := by decide +kernel
theorem dX12_digest_77 : decode cX12_digest 77 = .ok (.ldc2_w 254, 3) := by decide +kernel
theorem dX12_digest_80 : decode cX12_digest 80 = .ok (.ldc2_w 254, 3) := by decide +kernel
theorem dX12_digest_83 : decode cX12_digest 83 = .ok (.ldc2_w 254, 3) := by decide +kernel
theorem dX12_digest_86 : decode cX12_digest 86 = .ok (.lload_n 1, 1) := by decide +kernel
theorem dX12_digest_87 : decode cX12_digest 87 = .ok (.lmul, 1) := by decide +kernel
theorem dX12_digest_88 : decode cX12_digest 88 = .ok (.aload_n 0, 1) := by decide +kernel
theorem dX12_digest_89 : decode cX12_digest 89 = .ok (.getfield 13, 3) := by decide +kernel
theorem dX12_digest_92 : decode cX12_digest 92 = .ok (.iconst 3, 1) := by decide +kernel
theorem dX12_digest_93 : decode cX12_digest 93 = .ok (.iload_n 3, 1) := by decide +kernel
theorem dX12_digest_94 : decode cX12_digest 94 = .ok (.iadd, 1) := by decide +kernel
theorem dX12_digest_95 : decode cX12_digest 95 = .ok (.iaload, 1) := by decide +kernel
theorem dX12_digest_96 : decode cX12_digest 96 = .ok (.i2l, 1) := by decide +kernel
theorem dX12_digest_97 : decode cX12_digest 97 = .ok (.ladd, 1) := by decide +kernel
theorem dX12_digest_98 : decode cX12_digest 98 = .ok (.lmul, 1) := by decide +kernel
theorem dX12_digest_99 : decode cX12_digest 99 = .ok (.aload_n 0, 1) := by decide +kernel
theorem dX12_digest_100 : decode cX12_digest 100 = .ok (.getfield 7, 3) := by decide +kernel
theorem dX12_digest_103 : decode cX12_digest 103 = .ok (.bipush 15, 2) := by decide +kernel
theorem dX12_digest_105 : decode cX12_digest 105 = .ok (.iload_n 3, 1) := by decide +kernel
theorem dX12_digest_106 : decode cX12_digest 106 = .ok (.iadd, 1) := by decide +kernel
theorem dX12_digest_107 : decode cX12_digest 107 = .ok (.iaload, 1) := by decide +kernel
theorem dX12_digest_108 : decode cX12_digest 108 = .ok (.i2l, 1) := by decide +kernel
theorem dX12_digest_109 : decode cX12_digest 109 = .ok (.ladd, 1) := by decide +kernel
theorem dX12_digest_110 : decode cX12_digest 110 = .ok (.lmul, 1) := by decide +kernel
theorem dX12_digest_111 : decode cX12_digest 111 = .ok (.aload_n 0, 1) := by decide +kernel
theorem dX12_digest_112 : decode cX12_digest 112 = .ok (.getfield 7, 3) := by decide +kernel
theorem dX12_digest_115 : decode cX12_digest 115 = .ok (.bipush 20, 2) := by decide +kernel
theorem dX12_digest_117 : decode cX12_digest 117 = .ok (.iload_n 3, 1) := by decide +kernel
theorem dX12_digest_118 : decode cX12_digest 118 = .ok (.iadd, 1) := by decide +kernel
theorem dX12_digest_119 : decode cX12_digest 119 = .ok (.iaload, 1) := by decide +kernel
theorem dX12_digest_120 : decode cX12_digest 120 = .ok (.i2l, 1) := by decide +kernel
theorem dX12_digest_121 : decode cX12_digest 121 = .ok (.ladd, 1) := by decide +kernel
theorem dX12_digest_122 : decode cX12_digest 122 = .ok (.lstore_n 1, 1) := by decide +kernel
theorem dX12_digest_123 : decode cX12_digest 123 = .ok (.iinc 3 1, 3) := by decide +kernel
theorem dX12_digest_126 : decode cX12_digest 126 = .ok (.goto (-59), 3) := by decide +kernel
theorem dX12_digest_129 : decode cX12_digest 129 = .ok (.iconst 0, 1) := by decide +kernel
theorem dX12_digest_130 : decode cX12_digest 130 = .ok (.istore_n 3, 1) := by decide +kernel
theorem dX12_digest_131 : decode cX12_digest 131 = .ok (.iload_n 3, 1) := by decide +kernel
theorem dX12_digest_132 : decode cX12_digest 132 = .ok (.aload_n 0, 1) := by decide +kernel
theorem dX12_digest_133 : decode cX12_digest 133 = .ok (.getfield 13, 3) := by decide +kernel
theorem dX12_digest_136 : decode cX12_digest 136 = .ok (.bipush 8, 2) := by decide +kernel
theorem dX12_digest_138 : decode cX12_digest 138 = .ok (.iaload, 1) := by decide +kernel
theorem dX12_digest_139 : decode cX12_digest 139 = .ok (.if_icmp .ge 41, 3) := by decide +kernel
theorem dX12_digest_142 : decode cX12_digest 142 = .ok (.ldc2_w 254, 3) := by decide +kernel
theorem dX12_digest_145 : decode cX12_digest 145 = .ok (.ldc2_w 254, 3) := by decide +kernel
theorem dX12_digest_148 : decode cX12_digest 148 = .ok (.lload_n 1, 1) := by decide +kernel
theorem dX12_digest_149 : decode cX12_digest 149 = .ok (.lmul, 1) := by decide +kernel
theorem dX12_digest_150 : decode cX12_digest 150 = .ok (.aload_n 0, 1) := by decide +kernel
theorem dX12_digest_151 : decode cX12_digest 151 = .ok (.getfield 13, 3) := by decide +kernel
theorem dX12_digest_154 : decode cX12_digest 154 = .ok (.bipush 9, 2) := by decide +kernel
theorem dX12_digest_156 : decode cX12_digest 156 = .ok (.iload_n 3, 1) := by decide +kernel
theorem dX12_digest_157 : decode cX12_digest 157 = .ok (.iadd, 1) := by decide +kernel
theorem dX12_digest_158 : decode cX12_digest 158 = .ok (.iaload, 1) := by decide +kernel
theorem dX12_digest_159 : decode cX12_digest 159 = .ok (.i2l, 1) := by decide +kernel
theorem dX12_digest_160 : decode cX12_digest 160 = .ok (.ladd, 1) := by decide +kernel
theorem dX12_digest_161 : decode cX12_digest 161 = .ok (.lmul, 1) := by decide +kernel
theorem dX12_digest_162 : decode cX12_digest 162 = .ok (.aload_n 0, 1) := by decide +kernel
theorem dX12_digest_163 : decode cX12_digest 163 = .ok (.getfield 13, 3) := by decide +kernel
theorem dX12_digest_166 : decode cX12_digest 166 = .ok (.bipush 15, 2) := by decide +kernel
theorem dX12_digest_168 : decode cX12_digest 168 = .ok (.iload_n 3, 1) := by decide +kernel
theorem dX12_digest_169 : decode cX12_digest 169 = .ok (.iadd, 1) := by decide +kernel
theorem dX12_digest_170 : decode cX12_digest 170 = .ok (.iaload, 1) := by decide +kernel
theorem dX12_digest_171 : decode cX12_digest 171 = .ok (.i2l, 1) := by decide +kernel
theorem dX12_digest_172 : decode cX12_digest 172 = .ok (.ladd, 1) := by decide +kernel
theorem dX12_digest_173 : decode cX12_digest 173 = .ok (.lstore_n 1, 1) := by decide +kernel
theorem dX12_digest_174 : decode cX12_digest 174 = .ok (.iinc 3 1, 3) := by decide +kernel
theorem dX12_digest_177 : decode cX12_digest 177 = .ok (.goto (-46), 3) := by decide +kernel
theorem dX12_digest_180 : decode cX12_digest 180 = .ok (.iconst 0, 1) := by decide +kernel
theorem dX12_digest_181 : decode cX12_digest 181 = .ok (.istore_n 3, 1) := by decide +kernel
theorem dX12_digest_182 : decode cX12_digest 182 = .ok (.iload_n 3, 1) := by decide +kernel
theorem dX12_digest_183 : decode cX12_digest 183 = .ok (.aload_n 0, 1) := by decide +kernel
theorem dX12_digest_184 : decode cX12_digest 184 = .ok (.getfield 13, 3) := by decide +kernel
theorem dX12_digest_187 : decode cX12_digest 187 = .ok (.bipush 21, 2) := by decide +kernel
theorem dX12_digest_189 : decode cX12_digest 189 = .ok (.iaload, 1) := by decide +kernel
theorem dX12_digest_190 : decode cX12_digest 190 = .ok (.if_icmp .ge 71, 3) := by decide +kernel
theorem dX12_digest_193 : decode cX12_digest 193 = .ok (.ldc2_w 254, 3) := by decide +kernel
theorem dX12_digest_196 : decode cX12_digest 196 = .ok (.ldc2_w 254, 3) := by decide +kernel
theorem dX12_digest_199 : decode cX12_digest 199 = .ok (.ldc2_w 254, 3) := by decide +kernel
theorem dX12_digest_202 : decode cX12_digest 202 = .ok (.ldc2_w 254, 3) := by decide +kernel
theorem dX12_digest_205 : decode cX12_digest 205 = .ok (.lload_n 1, 1) := by decide +kernel
theorem dX12_digest_206 : decode cX12_digest 206 = .ok (.lmul, 1) := by decide +kernel
theorem dX12_digest_207 : decode cX12_digest 207 = .ok (.aload_n 0, 1) := by decide +kernel
theorem dX12_digest_208 : decode cX12_digest 208 = .ok (.getfield 13, 3) := by decide +kernel
theorem dX12_digest_211 : decode cX12_digest 211 = .ok (.bipush 22, 2) := by decide +kernel
theorem dX12_digest_213 : decode cX12_digest 213 = .ok (.iload_n 3, 1) := by decide +kernel
theorem dX12_digest_214 : decode cX12_digest 214 = .ok (.iadd, 1) := by decide +kernel
theorem dX12_digest_215 : decode cX12_digest 215 = .ok (.iaload, 1) := by decide +kernel
theorem dX12_digest_216 : decode cX12_digest 216 = .ok (.i2l, 1) := by decide +kernel
theorem dX12_digest_217 : decode cX12_digest 217 = .ok (.ladd, 1) := by decide +kernel
theorem dX12_digest_218 : decode cX12_digest 218 = .ok (.lmul, 1) := by decide +kernel
theorem dX12_digest_219 : decode cX12_digest 219 = .ok (.aload_n 0, 1) := by decide +kernel
theorem dX12_digest_220 : decode cX12_digest 220 = .ok (.getfield 13, 3) := by decide +kernel
theorem dX12_digest_223 : decode cX12_digest 223 = .ok (.bipush 28, 2) := by decide +kernel
theorem dX12_digest_225 : decode cX12_digest 225 = .ok (.iload_n 3, 1) := by decide +kernel
theorem dX12_digest_226 : decode cX12_digest 226 = .ok (.iadd, 1) := by decide +kernel
theorem dX12_digest_227 : decode cX12_digest 227 = .ok (.iaload, 1) := by decide +kernel
theorem dX12_digest_228 : decode cX12_digest 228 = .ok (.i2l, 1) := by decide +kernel
theorem dX12_digest_229 : decode cX12_digest 229 = .ok (.ladd, 1) := by decide +kernel
theorem dX12_digest_230 : decode cX12_digest 230 = .ok (.lmul, 1) := by decide +kernel
theorem dX12_digest_231 : decode cX12_digest 231 = .ok (.aload_n 0, 1) := by decide +kernel
theorem dX12_digest_232 : decode cX12_digest 232 = .ok (.getfield 13, 3) := by decide +kernel
theorem dX12_digest_235 : decode cX12_digest 235 = .ok (.bipush 34, 2) := by decide +kernel
theorem dX12_digest_237 : decode cX12_digest 237 = .ok (.iload_n 3, 1) := by decide +kernel
theorem dX12_digest_238 : decode cX12_digest 238 = .ok (.iadd, 1) := by decide +kernel
theorem dX12_digest_239 : decode cX12_digest 239 = .ok (.iaload, 1) := by decide +kernel
theorem dX12_digest_240 : decode cX12_digest 240 = .ok (.i2l, 1) := by decide +kernel
theorem dX12_digest_241 : decode cX12_digest 241 = .ok (.ladd, 1) := by decide +kernel
theorem dX12_digest_242 : decode cX12_digest 242 = .ok (.lmul, 1) := by decide +kernel
theorem dX12_digest_243 : decode cX12_digest 243 = .ok (.aload_n 0, 1) := by decide +kernel
theorem dX12_digest_244 : decode cX12_digest 244 = .ok (.getfield 13, 3) := by decide +kernel
theorem dX12_digest_247 : decode cX12_digest 247 = .ok (.bipush 40, 2) := by decide +kernel
theorem dX12_digest_249 : decode cX12_digest 249 = .ok (.iload_n 3, 1) := by decide +kernel
theorem dX12_digest_250 : decode cX12_digest 250 = .ok (.iadd, 1) := by decide +kernel
theorem dX12_digest_251 : decode cX12_digest 251 = .ok (.iaload, 1) := by decide +kernel
theorem dX12_digest_252 : decode cX12_digest 252 = .ok (.i2l, 1) := by decide +kernel
theorem dX12_digest_253 : decode cX12_digest 253 = .ok (.ladd, 1) := by decide +kernel
theorem dX12_digest_254 : decode cX12_digest 254 = .ok (.lstore_n 1, 1) := by decide +kernel
theorem dX12_digest_255 : decode cX12_digest 255 = .ok (.iinc 3 1, 3) := by decide +kernel
theorem dX12_digest_258 : decode cX12_digest 258 = .ok (.goto (-76), 3) := by decide +kernel
theorem dX12_digest_261 : decode cX12_digest 261 = .ok (.iconst 0, 1) := by decide +kernel
theorem dX12_digest_262 : decode cX12_digest 262 = .ok (.istore_n 3, 1) := by decide +kernel
theorem dX12_digest_263 : decode cX12_digest 263 = .ok (.iload_n 3, 1) := by decide +kernel
theorem dX12_digest_264 : decode cX12_digest 264 = .ok (.aload_n 0, 1) := by decide +kernel
theorem dX12_digest_265 : decode cX12_digest 265 = .ok (.getfield 13, 3) := by decide +kernel
theorem dX12_digest_268 : decode cX12_digest 268 = .ok (.bipush 46, 2) := by decide +kernel
theorem dX12_digest_270 : decode cX12_digest 270 = .ok (.iaload, 1) := by decide +kernel
theorem dX12_digest_271 : decode cX12_digest 271 = .ok (.if_icmp .ge 56, 3) := by decide +kernel
theorem dX12_digest_274 : decode cX12_digest 274 = .ok (.ldc2_w 254, 3) := by decide +kernel
theorem dX12_digest_277 : decode cX12_digest 277 = .ok (.ldc2_w 254, 3) := by decide +kernel
theorem dX12_digest_280 : decode cX12_digest 280 = .ok (.ldc2_w 254, 3) := by decide +kernel
theorem dX12_digest_283 : decode cX12_digest 283 = .ok (.lload_n 1, 1) := by decide +kernel
theorem dX12_digest_284 : decode cX12_digest 284 = .ok (.lmul, 1) := by decide +kernel
theorem dX12_digest_285 : decode cX12_digest 285 = .ok (.aload_n 0, 1) := by decide +kernel
theorem dX12_digest_286 : decode cX12_digest 286 = .ok (.getfield 13, 3) := by decide +kernel
theorem dX12_digest_289 : decode cX12_digest 289 = .ok (.bipush 47, 2) := by decide +kernel
theorem dX12_digest_291 : decode cX12_digest 291 = .ok (.iload_n 3, 1) := by decide +kernel
theorem dX12_digest_292 : decode cX12_digest 292 = .ok (.iadd, 1) := by decide +kernel
theorem dX12_digest_293 : decode cX12_digest 293 = .ok (.iaload, 1) := by decide +kernel
theorem dX12_digest_294 : decode cX12_digest 294 = .ok (.i2l, 1) := by decide +kernel
theorem dX12_digest_295 : decode cX12_digest 295 = .ok (.ladd, 1) := by decide +kernel
theorem dX12_digest_296 : decode cX12_digest 296 = .ok (.lmul, 1) := by decide +kernel
theorem dX12_digest_297 : decode cX12_digest 297 = .ok (.aload_n 0, 1) := by decide +kernel
theorem dX12_digest_298 : decode cX12_digest 298 = .ok (.getfield 13, 3) := by decide +kernel
theorem dX12_digest_301 : decode cX12_digest 301 = .ok (.bipush 53, 2) := by decide +kernel
theorem dX12_digest_303 : decode cX12_digest 303 = .ok (.iload_n 3, 1) := by decide +kernel
theorem dX12_digest_304 : decode cX12_digest 304 = .ok (.iadd, 1) := by decide +kernel
theorem dX12_digest_305 : decode cX12_digest 305 = .ok (.iaload, 1) := by decide +kernel
theorem dX12_digest_306 : decode cX12_digest 306 = .ok (.i2l, 1) := by decide +kernel
theorem dX12_digest_307 : decode cX12_digest 307 = .ok (.ladd, 1) := by decide +kernel
theorem dX12_digest_308 : decode cX12_digest 308 = .ok (.lmul, 1) := by decide +kernel
theorem dX12_digest_309 : decode cX12_digest 309 = .ok (.aload_n 0, 1) := by decide +kernel
theorem dX12_digest_310 : decode cX12_digest 310 = .ok (.getfield 13, 3) := by decide +kernel
theorem dX12_digest_313 : decode cX12_digest 313 = .ok (.bipush 59, 2) := by decide +kernel
theorem dX12_digest_315 : decode cX12_digest 315 = .ok (.iload_n 3, 1) := by decide +kernel
theorem dX12_digest_316 : decode cX12_digest 316 = .ok (.iadd, 1) := by decide +kernel
theorem dX12_digest_317 : decode cX12_digest 317 = .ok (.iaload, 1) := by decide +kernel
theorem dX12_digest_318 : decode cX12_digest 318 = .ok (.i2l, 1) := by decide +kernel
theorem dX12_digest_319 : decode cX12_digest 319 = .ok (.ladd, 1) := by decide +kernel
theorem dX12_digest_320 : decode cX12_digest 320 = .ok (.lstore_n 1, 1) := by decide +kernel
theorem dX12_digest_321 : decode cX12_digest 321 = .ok (.iinc 3 1, 3) := by decide +kernel
theorem dX12_digest_324 : decode cX12_digest 324 = .ok (.goto (-61), 3) := by decide +kernel
theorem dX12_digest_327 : decode cX12_digest 327 = .ok (.ldc2_w 254, 3) := by decide +kernel
theorem dX12_digest_330 : decode cX12_digest 330 = .ok (.ldc2_w 254, 3) := by decide +kernel
theorem dX12_digest_333 : decode cX12_digest 333 = .ok (.lload_n 1, 1) := by decide +kernel
theorem dX12_digest_334 : decode cX12_digest 334 = .ok (.lmul, 1) := by decide +kernel
theorem dX12_digest_335 : decode cX12_digest 335 = .ok (.aload_n 0, 1) := by decide +kernel
theorem dX12_digest_336 : decode cX12_digest 336 = .ok (.getfield 229, 3) := by decide +kernel
theorem dX12_digest_339 : decode cX12_digest 339 = .ok (.ladd, 1) := by decide +kernel
theorem dX12_digest_340 : decode cX12_digest 340 = .ok (.lmul, 1) := by decide +kernel
theorem dX12_digest_341 : decode cX12_digest 341 = .ok (.aload_n 0, 1) := by decide +kernel
theorem dX12_digest_342 : decode cX12_digest 342 = .ok (.getfield 23, 3) := by decide +kernel
theorem dX12_digest_345 : decode cX12_digest 345 = .ok (.ladd, 1) := by decide +kernel
theorem dX12_digest_346 : decode cX12_digest 346 = .ok (.lreturn, 1) := by decide +kernel
theorem dJ9_floorMod_7cf53_0 : decode cJ9_floorMod_7cf53 0 = .ok (.iload_n 0, 1) := by decide +kernel
theorem dJ9_floorMod_7cf53_1 : decode cJ9_floorMod_7cf53 1 = .ok (.iload_n 1, 1) := by decide +kernel
theorem dJ9_floorMod_7cf53_2 : decode cJ9_floorMod_7cf53 2 = .ok (.irem, 1) := by decide +kernel
theorem dJ9_floorMod_7cf53_3 : decode cJ9_floorMod_7cf53 3 = .ok (.istore_n 2, 1) := by decide +kernel
theorem dJ9_floorMod_7cf53_4 : decode cJ9_floorMod_7cf53 4 = .ok (.iload_n 0, 1) := by decide +kernel
theorem dJ9_floorMod_7cf53_5 : decode cJ9_floorMod_7cf53 5 = .ok (.iload_n 1, 1) := by decide +kernel
theorem dJ9_floorMod_7cf53_6 : decode cJ9_floorMod_7cf53 6 = .ok (.ixor, 1) := by decide +kernel
theorem dJ9_floorMod_7cf53_7 : decode cJ9_floorMod_7cf53 7 = .ok (.ifCond .ge 11, 3) := by decide +kernel
theorem dJ9_floorMod_7cf53_10 : decode cJ9_floorMod_7cf53 10 = .ok (.iload_n 2, 1) := by decide +kernel
theorem dJ9_floorMod_7cf53_11 : decode cJ9_floorMod_7cf53 11 = .ok (.ifCond .eq 7, 3) := by decide +kernel
theorem dJ9_floorMod_7cf53_14 : decode cJ9_floorMod_7cf53 14 = .ok (.iload_n 2, 1) := by decide +kernel
theorem dJ9_floorMod_7cf53_15 : decode cJ9_floorMod_7cf53 15 = .ok (.iload_n 1, 1) := by decide +kernel
theorem dJ9_floorMod_7cf53_16 : decode cJ9_floorMod_7cf53 16 = .ok (.iadd, 1) := by decide +kernel
theorem dJ9_floorMod_7cf53_17 : decode cJ9_floorMod_7cf53 17 = .ok (.ireturn, 1) := by decide +kernel
theorem dJ9_floorMod_7cf53_18 : decode cJ9_floorMod_7cf53 18 = .ok (.iload_n 2, 1) := by decide +kernel
theorem dJ9_floorMod_7cf53_19 : decode cJ9_floorMod_7cf53 19 = .ok (.ireturn, 1) := by decide +kernel
theorem dJ9_abs_0f7a4_0 : decode cJ9_abs_0f7a4 0 = .ok (.iload_n 0, 1) := by decide +kernel
theorem dJ9_abs_0f7a4_1 : decode cJ9_abs_0f7a4 1 = .ok (.ifCond .ge 8, 3) := by decide +kernel
theorem dJ9_abs_0f7a4_4 : decode cJ9_abs_0f7a4 4 = .ok (.iload_n 0, 1) := by decide +kernel
theorem dJ9_abs_0f7a4_5 : decode cJ9_abs_0f7a4 5 = .ok (.ineg, 1) := by decide +kernel
theorem dJ9_abs_0f7a4_6 : decode cJ9_abs_0f7a4 6 = .ok (.goto 4, 3) := by decide +kernel
theorem dJ9_abs_0f7a4_9 : decode cJ9_abs_0f7a4 9 = .ok (.iload_n 0, 1) := by decide +kernel
theorem dJ9_abs_0f7a4_10 : decode cJ9_abs_0f7a4 10 = .ok (.ireturn, 1) := by decide +kernel
theorem dJ9_max_7cf53_0 : decode cJ9_max_7cf53 0 = .ok (.iload_n 0, 1) := by decide +kernel
theorem dJ9_max_7cf53_1 : decode cJ9_max_7cf53 1 = .ok (.iload_n 1, 1) := by decide +kernel
theorem dJ9_max_7cf53_2 : decode cJ9_max_7cf53 2 = .ok (.if_icmp .lt 7, 3) := by decide +kernel
theorem dJ9_max_7cf53_5 : decode cJ9_max_7cf53 5 = .ok (.iload_n 0, 1) := by decide +kernel
theorem dJ9_max_7cf53_6 : decode cJ9_max_7cf53 6 = .ok (.goto 4, 3) := by decide +kernel
theorem dJ9_max_7cf53_9 : decode cJ9_max_7cf53 9 = .ok (.iload_n 1, 1) := by decide +kernel
theorem dJ9_max_7cf53_10 : decode cJ9_max_7cf53 10 = .ok (.ireturn, 1) := by decide +kernel
theorem dJ9_min_7cf53_0 : decode cJ9_min_7cf53 0 = .ok (.iload_n 0, 1) := by decide +kernel
theorem dJ9_min_7cf53_1 : decode cJ9_min_7cf53 1 = .ok (.iload_n 1, 1) := by decide +kernel
theorem dJ9_min_7cf53_2 : decode cJ9_min_7cf53 2 = .ok (.if_icmp .gt 7, 3) := by decide +kernel
theorem dJ9_min_7cf53_5 : decode cJ9_min_7cf53 5 = .ok (.iload_n 0, 1) := by decide +kernel
theorem dJ9_min_7cf53_6 : decode cJ9_min_7cf53 6 = .ok (.goto 4, 3) := by decide +kernel
theorem dJ9_min_7cf53_9 : decode cJ9_min_7cf53 9 = .ok (.iload_n 1, 1) := by decide +kernel
theorem dJ9_min_7cf53_10 : decode cJ9_min_7cf53 10 = .ok (.ireturn, 1) := by decide +kernel
theorem dJ0_length_8abf5_0 : decode cJ0_length_8abf5 0 = .ok (.aload_n 0, 1) := by decide +kernel
theorem dJ0_length_8abf5_1 : decode cJ0_length_8abf5 1 = .ok (.getfield 9, 3) := by decide +kernel
theorem dJ0_length_8abf5_4 : decode cJ0_length_8abf5 4 = .ok (.arraylength, 1) := by decide +kernel
theorem dJ0_length_8abf5_5 : decode cJ0_length_8abf5 5 = .ok (.aload_n 0, 1) := by decide +kernel
theorem dJ0_length_8abf5_6 : decode cJ0_length_8abf5 6 = .ok (.invokevirtual 335, 3) := by decide +kernel
theorem dJ0_length_8abf5_9 : decode cJ0_length_8abf5 9 = .ok (.ishr, 1) := by decide +kernel
theorem dJ0_length_8abf5_10 : decode cJ0_length_8abf5 10 = .ok (.ireturn, 1) := by decide +kernel
theorem dJ0_charAt_5068e_0 : decode cJ0_charAt_5068e 0 = .ok (.aload_n 0, 1) := by decide +kernel
theorem dJ0_charAt_5068e_1 : decode cJ0_charAt_5068e 1 = .ok (.invokevirtual 492, 3) := by decide +kernel
theorem dJ0_charAt_5068e_4 : decode cJ0_charAt_5068e 4 = .ok (.ifCond .eq 12, 3) := by decide +kernel
theorem dJ0_charAt_5068e_7 : decode cJ0_charAt_5068e 7 = .ok (.aload_n 0, 1) := by decide +kernel
theorem dJ0_charAt_5068e_8 : decode cJ0_charAt_5068e 8 = .ok (.getfield 9, 3) := by decide +kernel
theorem dJ0_charAt_5068e_11 : decode cJ0_charAt_5068e 11 = .ok (.iload_n 1, 1) := by decide +kernel
theorem dJ0_charAt_5068e_12 : decode cJ0_charAt_5068e 12 = .ok (.invokestatic 495, 3) := by decide +kernel
theorem dJ0_charAt_5068e_15 : decode cJ0_charAt_5068e 15 = .ok (.ireturn, 1) := by decide +kernel
theorem dJ0_coder_7d493_0 : decode cJ0_coder_7d493 0 = .ok (.getstatic 38, 3) := by decide +kernel
theorem dJ0_coder_7d493_3 : decode cJ0_coder_7d493 3 = .ok (.ifCond .eq 10, 3) := by decide +kernel
theorem dJ0_coder_7d493_6 : decode cJ0_coder_7d493 6 = .ok (.aload_n 0, 1) := by decide +kernel
theorem dJ0_coder_7d493_7 : decode cJ0_coder_7d493 7 = .ok (.getfield 15, 3) := by decide +kernel
theorem dJ0_coder_7d493_10 : decode cJ0_coder_7d493 10 = .ok (.goto 4, 3) := by decide +kernel
theorem dJ0_coder_7d493_14 : decode cJ0_coder_7d493 14 = .ok (.ireturn, 1) := by decide +kernel
theorem dJ0_isLatin1_aae02_0 : decode cJ0_isLatin1_aae02 0 = .ok (.getstatic 38, 3) := by decide +kernel
theorem dJ0_isLatin1_aae02_3 : decode cJ0_isLatin1_aae02 3 = .ok (.ifCond .eq 14, 3) := by decide +kernel
theorem dJ0_isLatin1_aae02_6 : decode cJ0_isLatin1_aae02 6 = .ok (.aload_n 0, 1) := by decide +kernel
theorem dJ0_isLatin1_aae02_7 : decode cJ0_isLatin1_aae02 7 = .ok (.getfield 15, 3) := by decide +kernel
theorem dJ0_isLatin1_aae02_10 : decode cJ0_isLatin1_aae02 10 = .ok (.ifCond .ne 7, 3) := by decide +kernel
theorem dJ0_isLatin1_aae02_13 : decode cJ0_isLatin1_aae02 13 = .ok (.iconst 1, 1) := by decide +kernel
theorem dJ0_isLatin1_aae02_14 : decode cJ0_isLatin1_aae02 14 = .ok (.goto 4, 3) := by decide +kernel
theorem dJ0_isLatin1_aae02_18 : decode cJ0_isLatin1_aae02 18 = .ok (.ireturn, 1) := by decide +kernel
theorem dJ0_checkIndex_df160_0 : decode cJ0_checkIndex_df160 0 = .ok (.iload_n 0, 1) := by decide +kernel
theorem dJ0_checkIndex_df160_1 : decode cJ0_checkIndex_df160 1 = .ok (.iload_n 1, 1) := by decide +kernel
theorem dJ0_checkIndex_df160_2 : decode cJ0_checkIndex_df160 2 = .ok (.getstatic 1053, 3) := by decide +kernel
theorem dJ0_checkIndex_df160_5 : decode cJ0_checkIndex_df160 5 = .ok (.invokestatic 1059, 3) := by decide +kernel
theorem dJ0_checkIndex_df160_8 : decode cJ0_checkIndex_df160 8 = .ok (.pop, 1) := by decide +kernel
theorem dJ0_checkIndex_df160_9 : decode cJ0_checkIndex_df160 9 = .ok (.return_, 1) := by decide +kernel
theorem dJ1_charAt_3b067_0 : decode cJ1_charAt_3b067 0 = .ok (.iload_n 1, 1) := by decide +kernel
theorem dJ1_charAt_3b067_1 : decode cJ1_charAt_3b067 1 = .ok (.aload_n 0, 1) := by decide +kernel
theorem dJ1_charAt_3b067_2 : decode cJ1_charAt_3b067 2 = .ok (.arraylength, 1) := by decide +kernel
theorem dJ1_charAt_3b067_3 : decode cJ1_charAt_3b067 3 = .ok (.invokestatic 9, 3) := by decide +kernel
theorem dJ1_charAt_3b067_6 : decode cJ1_charAt_3b067 6 = .ok (.aload_n 0, 1) := by decide +kernel
theorem dJ1_charAt_3b067_7 : decode cJ1_charAt_3b067 7 = .ok (.iload_n 1, 1) := by decide +kernel
theorem dJ1_charAt_3b067_8 : decode cJ1_charAt_3b067 8 = .ok (.baload, 1) := by decide +kernel
theorem dJ1_charAt_3b067_9 : decode cJ1_charAt_3b067 9 = .ok (.sipush 255, 3) := by decide +kernel
theorem dJ1_charAt_3b067_12 : decode cJ1_charAt_3b067 12 = .ok (.iand, 1) := by decide +kernel
theorem dJ1_charAt_3b067_13 : decode cJ1_charAt_3b067 13 = .ok (.i2c, 1) := by decide +kernel
theorem dJ1_charAt_3b067_14 : decode cJ1_charAt_3b067 14 = .ok (.ireturn, 1) := by decide +kernel
theorem dJ3_checkIndex_8e157_0 : decode cJ3_checkIndex_8e157 0 = .ok (.iload_n 0, 1) := by decide +kernel
theorem dJ3_checkIndex_8e157_1 : decode cJ3_checkIndex_8e157 1 = .ok (.ifCond .lt 8, 3) := by decide +kernel
theorem dJ3_checkIndex_8e157_4 : decode cJ3_checkIndex_8e157 4 = .ok (.iload_n 0, 1) := by decide +kernel
theorem dJ3_checkIndex_8e157_5 : decode cJ3_checkIndex_8e157 5 = .ok (.iload_n 1, 1) := by decide +kernel
theorem dJ3_checkIndex_8e157_6 : decode cJ3_checkIndex_8e157 6 = .ok (.if_icmp .lt 10, 3) := by decide +kernel
theorem dJ3_checkIndex_8e157_16 : decode cJ3_checkIndex_8e157 16 = .ok (.iload_n 0, 1) := by decide +kernel
theorem dJ3_checkIndex_8e157_17 : decode cJ3_checkIndex_8e157 17 = .ok (.ireturn, 1) := by decide +kernel
