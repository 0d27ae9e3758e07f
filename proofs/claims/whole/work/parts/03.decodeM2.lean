theorem dM_init_0 : decode cM_init 0 = .ok (.aload_n 0, 1) := by decide +kernel
theorem dM_init_1 : decode cM_init 1 = .ok (.invokespecial 7, 3) := by decide +kernel
theorem dM_init_4 : decode cM_init 4 = .ok (.aload_n 0, 1) := by decide +kernel
theorem dM_init_5 : decode cM_init 5 = .ok (.sipush 576, 3) := by decide +kernel
theorem dM_init_8 : decode cM_init 8 = .ok (.newarray .int, 2) := by decide +kernel
theorem dM_init_10 : decode cM_init 10 = .ok (.putfield 13, 3) := by decide +kernel
theorem dM_init_13 : decode cM_init 13 = .ok (.aload_n 0, 1) := by decide +kernel
theorem dM_init_14 : decode cM_init 14 = .ok (.iconst 3, 1) := by decide +kernel
theorem dM_init_15 : decode cM_init 15 = .ok (.newarray .int, 2) := by decide +kernel
theorem dM_init_17 : decode cM_init 17 = .ok (.putfield 17, 3) := by decide +kernel
theorem dM_init_20 : decode cM_init 20 = .ok (.aload_n 0, 1) := by decide +kernel
theorem dM_init_21 : decode cM_init 21 = .ok (.bipush 72, 2) := by decide +kernel
theorem dM_init_23 : decode cM_init 23 = .ok (.newarray .int, 2) := by decide +kernel
theorem dM_init_25 : decode cM_init 25 = .ok (.putfield 20, 3) := by decide +kernel
theorem dM_init_28 : decode cM_init 28 = .ok (.aload_n 0, 1) := by decide +kernel
theorem dM_init_29 : decode cM_init 29 = .ok (.bipush 72, 2) := by decide +kernel
theorem dM_init_31 : decode cM_init 31 = .ok (.newarray .int, 2) := by decide +kernel
theorem dM_init_33 : decode cM_init 33 = .ok (.putfield 23, 3) := by decide +kernel
theorem dM_init_36 : decode cM_init 36 = .ok (.aload_n 0, 1) := by decide +kernel
theorem dM_init_37 : decode cM_init 37 = .ok (.bipush 72, 2) := by decide +kernel
theorem dM_init_39 : decode cM_init 39 = .ok (.newarray .int, 2) := by decide +kernel
theorem dM_init_41 : decode cM_init 41 = .ok (.putfield 26, 3) := by decide +kernel
theorem dM_init_44 : decode cM_init 44 = .ok (.aload_n 0, 1) := by decide +kernel
theorem dM_init_45 : decode cM_init 45 = .ok (.iconst 3, 1) := by decide +kernel
theorem dM_init_46 : decode cM_init 46 = .ok (.newarray .int, 2) := by decide +kernel
theorem dM_init_48 : decode cM_init 48 = .ok (.putfield 29, 3) := by decide +kernel
theorem dM_init_51 : decode cM_init 51 = .ok (.aload_n 0, 1) := by decide +kernel
theorem dM_init_52 : decode cM_init 52 = .ok (.iconst 3, 1) := by decide +kernel
theorem dM_init_53 : decode cM_init 53 = .ok (.newarray .int, 2) := by decide +kernel
theorem dM_init_55 : decode cM_init 55 = .ok (.putfield 32, 3) := by decide +kernel
theorem dM_init_58 : decode cM_init 58 = .ok (.aload_n 0, 1) := by decide +kernel
theorem dM_init_59 : decode cM_init 59 = .ok (.bipush 72, 2) := by decide +kernel
theorem dM_init_61 : decode cM_init 61 = .ok (.newarray .int, 2) := by decide +kernel
theorem dM_init_63 : decode cM_init 63 = .ok (.putfield 35, 3) := by decide +kernel
theorem dM_init_66 : decode cM_init 66 = .ok (.aload_n 0, 1) := by decide +kernel
theorem dM_init_67 : decode cM_init 67 = .ok (.bipush 72, 2) := by decide +kernel
theorem dM_init_69 : decode cM_init 69 = .ok (.newarray .int, 2) := by decide +kernel
theorem dM_init_71 : decode cM_init 71 = .ok (.putfield 38, 3) := by decide +kernel
theorem dM_init_74 : decode cM_init 74 = .ok (.aload_n 0, 1) := by decide +kernel
theorem dM_init_75 : decode cM_init 75 = .ok (.bipush 72, 2) := by decide +kernel
theorem dM_init_77 : decode cM_init 77 = .ok (.newarray .int, 2) := by decide +kernel
theorem dM_init_79 : decode cM_init 79 = .ok (.putfield 41, 3) := by decide +kernel
theorem dM_init_82 : decode cM_init 82 = .ok (.aload_n 0, 1) := by decide +kernel
theorem dM_init_83 : decode cM_init 83 = .ok (.sipush 600, 3) := by decide +kernel
theorem dM_init_86 : decode cM_init 86 = .ok (.newarray .int, 2) := by decide +kernel
theorem dM_init_88 : decode cM_init 88 = .ok (.putfield 44, 3) := by decide +kernel
theorem dM_init_91 : decode cM_init 91 = .ok (.aload_n 0, 1) := by decide +kernel
theorem dM_init_92 : decode cM_init 92 = .ok (.bipush 24, 2) := by decide +kernel
theorem dM_init_94 : decode cM_init 94 = .ok (.newarray .int, 2) := by decide +kernel
theorem dM_init_96 : decode cM_init 96 = .ok (.putfield 47, 3) := by decide +kernel
theorem dM_init_99 : decode cM_init 99 = .ok (.aload_n 0, 1) := by decide +kernel
theorem dM_init_100 : decode cM_init 100 = .ok (.bipush 24, 2) := by decide +kernel
theorem dM_init_102 : decode cM_init 102 = .ok (.newarray .int, 2) := by decide +kernel
theorem dM_init_104 : decode cM_init 104 = .ok (.putfield 50, 3) := by decide +kernel
theorem dM_init_107 : decode cM_init 107 = .ok (.aload_n 0, 1) := by decide +kernel
theorem dM_init_108 : decode cM_init 108 = .ok (.bipush 24, 2) := by decide +kernel
theorem dM_init_110 : decode cM_init 110 = .ok (.newarray .int, 2) := by decide +kernel
theorem dM_init_112 : decode cM_init 112 = .ok (.putfield 53, 3) := by decide +kernel
theorem dM_init_115 : decode cM_init 115 = .ok (.aload_n 0, 1) := by decide +kernel
theorem dM_init_116 : decode cM_init 116 = .ok (.bipush 41, 2) := by decide +kernel
theorem dM_init_118 : decode cM_init 118 = .ok (.newarray .int, 2) := by decide +kernel
theorem dM_init_120 : decode cM_init 120 = .ok (.putfield 56, 3) := by decide +kernel
theorem dM_init_123 : decode cM_init 123 = .ok (.aload_n 0, 1) := by decide +kernel
theorem dM_init_124 : decode cM_init 124 = .ok (.sipush 1230, 3) := by decide +kernel
theorem dM_init_127 : decode cM_init 127 = .ok (.newarray .int, 2) := by decide +kernel
theorem dM_init_129 : decode cM_init 129 = .ok (.putfield 59, 3) := by decide +kernel
theorem dM_init_132 : decode cM_init 132 = .ok (.aload_n 0, 1) := by decide +kernel
theorem dM_init_133 : decode cM_init 133 = .ok (.sipush 1230, 3) := by decide +kernel
theorem dM_init_136 : decode cM_init 136 = .ok (.newarray .int, 2) := by decide +kernel
theorem dM_init_138 : decode cM_init 138 = .ok (.putfield 62, 3) := by decide +kernel
theorem dM_init_141 : decode cM_init 141 = .ok (.aload_n 0, 1) := by decide +kernel
theorem dM_init_142 : decode cM_init 142 = .ok (.bipush 24, 2) := by decide +kernel
theorem dM_init_144 : decode cM_init 144 = .ok (.newarray .int, 2) := by decide +kernel
theorem dM_init_146 : decode cM_init 146 = .ok (.putfield 65, 3) := by decide +kernel
theorem dM_init_149 : decode cM_init 149 = .ok (.aload_n 0, 1) := by decide +kernel
theorem dM_init_150 : decode cM_init 150 = .ok (.iconst 0, 1) := by decide +kernel
theorem dM_init_151 : decode cM_init 151 = .ok (.putfield 1, 3) := by decide +kernel
theorem dM_init_154 : decode cM_init 154 = .ok (.iconst 0, 1) := by decide +kernel
theorem dM_init_155 : decode cM_init 155 = .ok (.istore_n 1, 1) := by decide +kernel
theorem dM_init_156 : decode cM_init 156 = .ok (.iload_n 1, 1) := by decide +kernel
theorem dM_init_157 : decode cM_init 157 = .ok (.sipush 576, 3) := by decide +kernel
theorem dM_init_160 : decode cM_init 160 = .ok (.if_icmp .ge 17, 3) := by decide +kernel
theorem dM_init_163 : decode cM_init 163 = .ok (.aload_n 0, 1) := by decide +kernel
theorem dM_init_164 : decode cM_init 164 = .ok (.getfield 13, 3) := by decide +kernel
theorem dM_init_167 : decode cM_init 167 = .ok (.iload_n 1, 1) := by decide +kernel
theorem dM_init_168 : decode cM_init 168 = .ok (.ldc 68, 2) := by decide +kernel
theorem dM_init_170 : decode cM_init 170 = .ok (.iastore, 1) := by decide +kernel
theorem dM_init_171 : decode cM_init 171 = .ok (.iinc 1 1, 3) := by decide +kernel
theorem dM_init_174 : decode cM_init 174 = .ok (.goto (-18), 3) := by decide +kernel
theorem dM_init_177 : decode cM_init 177 = .ok (.iconst 0, 1) := by decide +kernel
theorem dM_init_178 : decode cM_init 178 = .ok (.istore_n 1, 1) := by decide +kernel
theorem dM_init_179 : decode cM_init 179 = .ok (.iload_n 1, 1) := by decide +kernel
theorem dM_init_180 : decode cM_init 180 = .ok (.iconst 3, 1) := by decide +kernel
theorem dM_init_181 : decode cM_init 181 = .ok (.if_icmp .ge 16, 3) := by decide +kernel
theorem dM_init_184 : decode cM_init 184 = .ok (.aload_n 0, 1) := by decide +kernel
theorem dM_init_185 : decode cM_init 185 = .ok (.getfield 17, 3) := by decide +kernel
theorem dM_init_188 : decode cM_init 188 = .ok (.iload_n 1, 1) := by decide +kernel
theorem dM_init_189 : decode cM_init 189 = .ok (.iconst (-1), 1) := by decide +kernel
theorem dM_init_190 : decode cM_init 190 = .ok (.iastore, 1) := by decide +kernel
theorem dM_init_191 : decode cM_init 191 = .ok (.iinc 1 1, 3) := by decide +kernel
theorem dM_init_194 : decode cM_init 194 = .ok (.goto (-15), 3) := by decide +kernel
theorem dM_init_197 : decode cM_init 197 = .ok (.aload_n 0, 1) := by decide +kernel
theorem dM_init_198 : decode cM_init 198 = .ok (.invokevirtual 69, 3) := by decide +kernel
theorem dM_init_201 : decode cM_init 201 = .ok (.return_, 1) := by decide +kernel
theorem dM_noNode_0 : decode cM_noNode 0 = .ok (.iload_n 1, 1) := by decide +kernel
theorem dM_noNode_1 : decode cM_noNode 1 = .ok (.iconst 0, 1) := by decide +kernel
theorem dM_noNode_2 : decode cM_noNode 2 = .ok (.aload_n 0, 1) := by decide +kernel
theorem dM_noNode_3 : decode cM_noNode 3 = .ok (.getfield 72, 3) := by decide +kernel
theorem dM_noNode_6 : decode cM_noNode 6 = .ok (.iconst 1, 1) := by decide +kernel
theorem dM_noNode_7 : decode cM_noNode 7 = .ok (.isub, 1) := by decide +kernel
theorem dM_noNode_8 : decode cM_noNode 8 = .ok (.invokestatic 75, 3) := by decide +kernel
theorem dM_noNode_11 : decode cM_noNode 11 = .ok (.ifCond .ne 7, 3) := by decide +kernel
theorem dM_noNode_14 : decode cM_noNode 14 = .ok (.iconst 1, 1) := by decide +kernel
theorem dM_noNode_15 : decode cM_noNode 15 = .ok (.goto 4, 3) := by decide +kernel
theorem dM_noNode_18 : decode cM_noNode 18 = .ok (.iconst 0, 1) := by decide +kernel
theorem dM_noNode_19 : decode cM_noNode 19 = .ok (.ireturn, 1) := by decide +kernel
theorem dM_settle_0 : decode cM_settle 0 = .ok (.iconst 0, 1) := by decide +kernel
theorem dM_settle_1 : decode cM_settle 1 = .ok (.istore_n 1, 1) := by decide +kernel
theorem dM_settle_2 : decode cM_settle 2 = .ok (.iload_n 1, 1) := by decide +kernel
theorem dM_settle_3 : decode cM_settle 3 = .ok (.bipush 72, 2) := by decide +kernel
theorem dM_settle_5 : decode cM_settle 5 = .ok (.if_icmp .ge 69, 3) := by decide +kernel
theorem dM_settle_8 : decode cM_settle 8 = .ok (.aload_n 0, 1) := by decide +kernel
theorem dM_settle_9 : decode cM_settle 9 = .ok (.getfield 35, 3) := by decide +kernel
theorem dM_settle_12 : decode cM_settle 12 = .ok (.iload_n 1, 1) := by decide +kernel
theorem dM_settle_13 : decode cM_settle 13 = .ok (.aload_n 0, 1) := by decide +kernel
theorem dM_settle_14 : decode cM_settle 14 = .ok (.getfield 20, 3) := by decide +kernel
theorem dM_settle_17 : decode cM_settle 17 = .ok (.iload_n 1, 1) := by decide +kernel
theorem dM_settle_18 : decode cM_settle 18 = .ok (.iaload, 1) := by decide +kernel
theorem dM_settle_19 : decode cM_settle 19 = .ok (.iastore, 1) := by decide +kernel
theorem dM_settle_20 : decode cM_settle 20 = .ok (.aload_n 0, 1) := by decide +kernel
theorem dM_settle_21 : decode cM_settle 21 = .ok (.getfield 38, 3) := by decide +kernel
theorem dM_settle_24 : decode cM_settle 24 = .ok (.iload_n 1, 1) := by decide +kernel
theorem dM_settle_25 : decode cM_settle 25 = .ok (.aload_n 0, 1) := by decide +kernel
theorem dM_settle_26 : decode cM_settle 26 = .ok (.getfield 23, 3) := by decide +kernel
theorem dM_settle_29 : decode cM_settle 29 = .ok (.iload_n 1, 1) := by decide +kernel
theorem dM_settle_30 : decode cM_settle 30 = .ok (.iaload, 1) := by decide +kernel
theorem dM_settle_31 : decode cM_settle 31 = .ok (.iastore, 1) := by decide +kernel
theorem dM_settle_32 : decode cM_settle 32 = .ok (.aload_n 0, 1) := by decide +kernel
theorem dM_settle_33 : decode cM_settle 33 = .ok (.getfield 41, 3) := by decide +kernel
theorem dM_settle_36 : decode cM_settle 36 = .ok (.iload_n 1, 1) := by decide +kernel
theorem dM_settle_37 : decode cM_settle 37 = .ok (.aload_n 0, 1) := by decide +kernel
theorem dM_settle_38 : decode cM_settle 38 = .ok (.getfield 26, 3) := by decide +kernel
theorem dM_settle_41 : decode cM_settle 41 = .ok (.iload_n 1, 1) := by decide +kernel
theorem dM_settle_42 : decode cM_settle 42 = .ok (.iaload, 1) := by decide +kernel
theorem dM_settle_43 : decode cM_settle 43 = .ok (.iastore, 1) := by decide +kernel
theorem dM_settle_44 : decode cM_settle 44 = .ok (.aload_n 0, 1) := by decide +kernel
theorem dM_settle_45 : decode cM_settle 45 = .ok (.getfield 20, 3) := by decide +kernel
theorem dM_settle_48 : decode cM_settle 48 = .ok (.iload_n 1, 1) := by decide +kernel
theorem dM_settle_49 : decode cM_settle 49 = .ok (.ldc 79, 2) := by decide +kernel
theorem dM_settle_51 : decode cM_settle 51 = .ok (.iastore, 1) := by decide +kernel
theorem dM_settle_52 : decode cM_settle 52 = .ok (.aload_n 0, 1) := by decide +kernel
theorem dM_settle_53 : decode cM_settle 53 = .ok (.getfield 23, 3) := by decide +kernel
theorem dM_settle_56 : decode cM_settle 56 = .ok (.iload_n 1, 1) := by decide +kernel
theorem dM_settle_57 : decode cM_settle 57 = .ok (.ldc 79, 2) := by decide +kernel
theorem dM_settle_59 : decode cM_settle 59 = .ok (.iastore, 1) := by decide +kernel
theorem dM_settle_60 : decode cM_settle 60 = .ok (.aload_n 0, 1) := by decide +kernel
theorem dM_settle_61 : decode cM_settle 61 = .ok (.getfield 26, 3) := by decide +kernel
theorem dM_settle_64 : decode cM_settle 64 = .ok (.iload_n 1, 1) := by decide +kernel
theorem dM_settle_65 : decode cM_settle 65 = .ok (.ldc 79, 2) := by decide +kernel
theorem dM_settle_67 : decode cM_settle 67 = .ok (.iastore, 1) := by decide +kernel
theorem dM_settle_68 : decode cM_settle 68 = .ok (.iinc 1 1, 3) := by decide +kernel
theorem dM_settle_71 : decode cM_settle 71 = .ok (.goto (-69), 3) := by decide +kernel
theorem dM_settle_74 : decode cM_settle 74 = .ok (.iconst 0, 1) := by decide +kernel
theorem dM_settle_75 : decode cM_settle 75 = .ok (.istore_n 1, 1) := by decide +kernel
theorem dM_settle_76 : decode cM_settle 76 = .ok (.iload_n 1, 1) := by decide +kernel
theorem dM_settle_77 : decode cM_settle 77 = .ok (.iconst 3, 1) := by decide +kernel
theorem dM_settle_78 : decode cM_settle 78 = .ok (.if_icmp .ge 233, 3) := by decide +kernel
theorem dM_settle_81 : decode cM_settle 81 = .ok (.aload_n 0, 1) := by decide +kernel
theorem dM_settle_82 : decode cM_settle 82 = .ok (.getfield 29, 3) := by decide +kernel
theorem dM_settle_85 : decode cM_settle 85 = .ok (.iload_n 1, 1) := by decide +kernel
theorem dM_settle_86 : decode cM_settle 86 = .ok (.iconst 0, 1) := by decide +kernel
theorem dM_settle_87 : decode cM_settle 87 = .ok (.iastore, 1) := by decide +kernel
theorem dM_settle_88 : decode cM_settle 88 = .ok (.aload_n 0, 1) := by decide +kernel
theorem dM_settle_89 : decode cM_settle 89 = .ok (.getfield 17, 3) := by decide +kernel
theorem dM_settle_92 : decode cM_settle 92 = .ok (.iload_n 1, 1) := by decide +kernel
theorem dM_settle_93 : decode cM_settle 93 = .ok (.iaload, 1) := by decide +kernel
theorem dM_settle_94 : decode cM_settle 94 = .ok (.ifCond .lt 211, 3) := by decide +kernel
theorem dM_settle_97 : decode cM_settle 97 = .ok (.aload_n 0, 1) := by decide +kernel
theorem dM_settle_98 : decode cM_settle 98 = .ok (.aload_n 0, 1) := by decide +kernel
theorem dM_settle_99 : decode cM_settle 99 = .ok (.getfield 17, 3) := by decide +kernel
theorem dM_settle_102 : decode cM_settle 102 = .ok (.iload_n 1, 1) := by decide +kernel
theorem dM_settle_103 : decode cM_settle 103 = .ok (.iaload, 1) := by decide +kernel
theorem dM_settle_104 : decode cM_settle 104 = .ok (.iconst (-1), 1) := by decide +kernel
theorem dM_settle_105 : decode cM_settle 105 = .ok (.iconst (-1), 1) := by decide +kernel
theorem dM_settle_106 : decode cM_settle 106 = .ok (.invokevirtual 80, 3) := by decide +kernel
theorem dM_settle_109 : decode cM_settle 109 = .ok (.iconst 0, 1) := by decide +kernel
theorem dM_settle_110 : decode cM_settle 110 = .ok (.istore_n 2, 1) := by decide +kernel
theorem dM_settle_111 : decode cM_settle 111 = .ok (.iload_n 2, 1) := by decide +kernel
theorem dM_settle_112 : decode cM_settle 112 = .ok (.aload_n 0, 1) := by decide +kernel
theorem dM_settle_113 : decode cM_settle 113 = .ok (.getfield 72, 3) := by decide +kernel
theorem dM_settle_116 : decode cM_settle 116 = .ok (.if_icmp .ge 189, 3) := by decide +kernel
theorem dM_settle_119 : decode cM_settle 119 = .ok (.aload_n 0, 1) := by decide +kernel
theorem dM_settle_120 : decode cM_settle 120 = .ok (.getfield 47, 3) := by decide +kernel
theorem dM_settle_123 : decode cM_settle 123 = .ok (.iload_n 2, 1) := by decide +kernel
theorem dM_settle_124 : decode cM_settle 124 = .ok (.iaload, 1) := by decide +kernel
theorem dM_settle_125 : decode cM_settle 125 = .ok (.ldc 68, 2) := by decide +kernel
theorem dM_settle_127 : decode cM_settle 127 = .ok (.if_icmp .eq 7, 3) := by decide +kernel
theorem dM_settle_130 : decode cM_settle 130 = .ok (.iconst 1, 1) := by decide +kernel
theorem dM_settle_131 : decode cM_settle 131 = .ok (.goto 4, 3) := by decide +kernel
theorem dM_settle_134 : decode cM_settle 134 = .ok (.iconst 0, 1) := by decide +kernel
theorem dM_settle_135 : decode cM_settle 135 = .ok (.istore_n 3, 1) := by decide +kernel
theorem dM_settle_136 : decode cM_settle 136 = .ok (.aload_n 0, 1) := by decide +kernel
theorem dM_settle_137 : decode cM_settle 137 = .ok (.getfield 20, 3) := by decide +kernel
theorem dM_settle_140 : decode cM_settle 140 = .ok (.bipush 24, 2) := by decide +kernel
theorem dM_settle_142 : decode cM_settle 142 = .ok (.iload_n 1, 1) := by decide +kernel
theorem dM_settle_143 : decode cM_settle 143 = .ok (.imul, 1) := by decide +kernel
theorem dM_settle_144 : decode cM_settle 144 = .ok (.iload_n 2, 1) := by decide +kernel
theorem dM_settle_145 : decode cM_settle 145 = .ok (.iadd, 1) := by decide +kernel
theorem dM_settle_146 : decode cM_settle 146 = .ok (.iload_n 3, 1) := by decide +kernel
theorem dM_settle_147 : decode cM_settle 147 = .ok (.ifCond .eq 12, 3) := by decide +kernel
theorem dM_settle_150 : decode cM_settle 150 = .ok (.aload_n 0, 1) := by decide +kernel
theorem dM_settle_151 : decode cM_settle 151 = .ok (.getfield 47, 3) := by decide +kernel
theorem dM_settle_154 : decode cM_settle 154 = .ok (.iload_n 2, 1) := by decide +kernel
theorem dM_settle_155 : decode cM_settle 155 = .ok (.iaload, 1) := by decide +kernel
theorem dM_settle_156 : decode cM_settle 156 = .ok (.goto 5, 3) := by decide +kernel
theorem dM_settle_159 : decode cM_settle 159 = .ok (.ldc 79, 2) := by decide +kernel
theorem dM_settle_161 : decode cM_settle 161 = .ok (.iastore, 1) := by decide +kernel
theorem dM_settle_162 : decode cM_settle 162 = .ok (.aload_n 0, 1) := by decide +kernel
theorem dM_settle_163 : decode cM_settle 163 = .ok (.getfield 23, 3) := by decide +kernel
theorem dM_settle_166 : decode cM_settle 166 = .ok (.bipush 24, 2) := by decide +kernel
theorem dM_settle_168 : decode cM_settle 168 = .ok (.iload_n 1, 1) := by decide +kernel
theorem dM_settle_169 : decode cM_settle 169 = .ok (.imul, 1) := by decide +kernel
theorem dM_settle_170 : decode cM_settle 170 = .ok (.iload_n 2, 1) := by decide +kernel
theorem dM_settle_171 : decode cM_settle 171 = .ok (.iadd, 1) := by decide +kernel
theorem dM_settle_172 : decode cM_settle 172 = .ok (.aload_n 0, 1) := by decide +kernel
theorem dM_settle_173 : decode cM_settle 173 = .ok (.getfield 50, 3) := by decide +kernel
theorem dM_settle_176 : decode cM_settle 176 = .ok (.iload_n 2, 1) := by decide +kernel
theorem dM_settle_177 : decode cM_settle 177 = .ok (.iaload, 1) := by decide +kernel
theorem dM_settle_178 : decode cM_settle 178 = .ok (.iastore, 1) := by decide +kernel
theorem dM_settle_179 : decode cM_settle 179 = .ok (.aload_n 0, 1) := by decide +kernel
theorem dM_settle_180 : decode cM_settle 180 = .ok (.getfield 26, 3) := by decide +kernel
theorem dM_settle_183 : decode cM_settle 183 = .ok (.bipush 24, 2) := by decide +kernel
theorem dM_settle_185 : decode cM_settle 185 = .ok (.iload_n 1, 1) := by decide +kernel
theorem dM_settle_186 : decode cM_settle 186 = .ok (.imul, 1) := by decide +kernel
theorem dM_settle_187 : decode cM_settle 187 = .ok (.iload_n 2, 1) := by decide +kernel
theorem dM_settle_188 : decode cM_settle 188 = .ok (.iadd, 1) := by decide +kernel
theorem dM_settle_189 : decode cM_settle 189 = .ok (.aload_n 0, 1) := by decide +kernel
theorem dM_settle_190 : decode cM_settle 190 = .ok (.getfield 53, 3) := by decide +kernel
theorem dM_settle_193 : decode cM_settle 193 = .ok (.iload_n 2, 1) := by decide +kernel
theorem dM_settle_194 : decode cM_settle 194 = .ok (.iaload, 1) := by decide +kernel
theorem dM_settle_195 : decode cM_settle 195 = .ok (.iastore, 1) := by decide +kernel
theorem dM_settle_196 : decode cM_settle 196 = .ok (.iconst 0, 1) := by decide +kernel
theorem dM_settle_197 : decode cM_settle 197 = .ok (.istore 4, 2) := by decide +kernel
theorem dM_settle_199 : decode cM_settle 199 = .ok (.iload 4, 2) := by decide +kernel
theorem dM_settle_201 : decode cM_settle 201 = .ok (.aload_n 0, 1) := by decide +kernel
theorem dM_settle_202 : decode cM_settle 202 = .ok (.getfield 72, 3) := by decide +kernel
theorem dM_settle_205 : decode cM_settle 205 = .ok (.if_icmp .ge 94, 3) := by decide +kernel
theorem dM_settle_208 : decode cM_settle 208 = .ok (.iload_n 3, 1) := by decide +kernel
theorem dM_settle_209 : decode cM_settle 209 = .ok (.ifCond .eq 53, 3) := by decide +kernel
theorem dM_settle_212 : decode cM_settle 212 = .ok (.aload_n 0, 1) := by decide +kernel
theorem dM_settle_213 : decode cM_settle 213 = .ok (.getfield 13, 3) := by decide +kernel
theorem dM_settle_216 : decode cM_settle 216 = .ok (.bipush 24, 2) := by decide +kernel
theorem dM_settle_218 : decode cM_settle 218 = .ok (.iload_n 2, 1) := by decide +kernel
theorem dM_settle_219 : decode cM_settle 219 = .ok (.imul, 1) := by decide +kernel
theorem dM_settle_220 : decode cM_settle 220 = .ok (.iload 4, 2) := by decide +kernel
theorem dM_settle_222 : decode cM_settle 222 = .ok (.iadd, 1) := by decide +kernel
theorem dM_settle_223 : decode cM_settle 223 = .ok (.iaload, 1) := by decide +kernel
theorem dM_settle_224 : decode cM_settle 224 = .ok (.ldc 68, 2) := by decide +kernel
theorem dM_settle_226 : decode cM_settle 226 = .ok (.if_icmp .eq 36, 3) := by decide +kernel
theorem dM_settle_229 : decode cM_settle 229 = .ok (.aload_n 0, 1) := by decide +kernel
theorem dM_settle_230 : decode cM_settle 230 = .ok (.getfield 47, 3) := by decide +kernel
theorem dM_settle_233 : decode cM_settle 233 = .ok (.iload_n 2, 1) := by decide +kernel
theorem dM_settle_234 : decode cM_settle 234 = .ok (.iaload, 1) := by decide +kernel
theorem dM_settle_235 : decode cM_settle 235 = .ok (.aload_n 0, 1) := by decide +kernel
theorem dM_settle_236 : decode cM_settle 236 = .ok (.getfield 13, 3) := by decide +kernel
theorem dM_settle_239 : decode cM_settle 239 = .ok (.bipush 24, 2) := by decide +kernel
theorem dM_settle_241 : decode cM_settle 241 = .ok (.iload_n 2, 1) := by decide +kernel
theorem dM_settle_242 : decode cM_settle 242 = .ok (.imul, 1) := by decide +kernel
theorem dM_settle_243 : decode cM_settle 243 = .ok (.iload 4, 2) := by decide +kernel
theorem dM_settle_245 : decode cM_settle 245 = .ok (.iadd, 1) := by decide +kernel
theorem dM_settle_246 : decode cM_settle 246 = .ok (.iaload, 1) := by decide +kernel
theorem dM_settle_247 : decode cM_settle 247 = .ok (.iadd, 1) := by decide +kernel
theorem dM_settle_248 : decode cM_settle 248 = .ok (.aload_n 0, 1) := by decide +kernel
theorem dM_settle_249 : decode cM_settle 249 = .ok (.getfield 47, 3) := by decide +kernel
theorem dM_settle_252 : decode cM_settle 252 = .ok (.iload 4, 2) := by decide +kernel
theorem dM_settle_254 : decode cM_settle 254 = .ok (.iaload, 1) := by decide +kernel
theorem dM_settle_255 : decode cM_settle 255 = .ok (.if_icmp .ne 7, 3) := by decide +kernel
theorem dM_settle_258 : decode cM_settle 258 = .ok (.iconst 1, 1) := by decide +kernel
theorem dM_settle_259 : decode cM_settle 259 = .ok (.goto 4, 3) := by decide +kernel
theorem dM_settle_262 : decode cM_settle 262 = .ok (.iconst 0, 1) := by decide +kernel
theorem dM_settle_263 : decode cM_settle 263 = .ok (.istore 5, 2) := by decide +kernel
theorem dM_settle_265 : decode cM_settle 265 = .ok (.aload_n 0, 1) := by decide +kernel
theorem dM_settle_266 : decode cM_settle 266 = .ok (.getfield 29, 3) := by decide +kernel
theorem dM_settle_269 : decode cM_settle 269 = .ok (.iload_n 1, 1) := by decide +kernel
theorem dM_settle_270 : decode cM_settle 270 = .ok (.iload 5, 2) := by decide +kernel
theorem dM_settle_272 : decode cM_settle 272 = .ok (.ifCond .eq 14, 3) := by decide +kernel
theorem dM_settle_275 : decode cM_settle 275 = .ok (.aload_n 0, 1) := by decide +kernel
theorem dM_settle_276 : decode cM_settle 276 = .ok (.getfield 29, 3) := by decide +kernel
theorem dM_settle_279 : decode cM_settle 279 = .ok (.iload_n 1, 1) := by decide +kernel
theorem dM_settle_280 : decode cM_settle 280 = .ok (.iaload, 1) := by decide +kernel
theorem dM_settle_281 : decode cM_settle 281 = .ok (.iconst 1, 1) := by decide +kernel
theorem dM_settle_282 : decode cM_settle 282 = .ok (.iadd, 1) := by decide +kernel
theorem dM_settle_283 : decode cM_settle 283 = .ok (.goto 9, 3) := by decide +kernel
theorem dM_settle_286 : decode cM_settle 286 = .ok (.aload_n 0, 1) := by decide +kernel
theorem dM_settle_287 : decode cM_settle 287 = .ok (.getfield 29, 3) := by decide +kernel
theorem dM_settle_290 : decode cM_settle 290 = .ok (.iload_n 1, 1) := by decide +kernel
theorem dM_settle_291 : decode cM_settle 291 = .ok (.iaload, 1) := by decide +kernel
theorem dM_settle_292 : decode cM_settle 292 = .ok (.iastore, 1) := by decide +kernel
theorem dM_settle_293 : decode cM_settle 293 = .ok (.iinc 4 1, 3) := by decide +kernel
theorem dM_settle_296 : decode cM_settle 296 = .ok (.goto (-97), 3) := by decide +kernel
theorem dM_settle_299 : decode cM_settle 299 = .ok (.iinc 2 1, 3) := by decide +kernel
theorem dM_settle_302 : decode cM_settle 302 = .ok (.goto (-191), 3) := by decide +kernel
theorem dM_settle_305 : decode cM_settle 305 = .ok (.iinc 1 1, 3) := by decide +kernel
theorem dM_settle_308 : decode cM_settle 308 = .ok (.goto (-232), 3) := by decide +kernel
theorem dM_settle_311 : decode cM_settle 311 = .ok (.return_, 1) := by decide +kernel
theorem dM_count0_0 : decode cM_count0 0 = .ok (.aload_n 0, 1) := by decide +kernel
theorem dM_count0_1 : decode cM_count0 1 = .ok (.invokevirtual 69, 3) := by decide +kernel
theorem dM_count0_4 : decode cM_count0 4 = .ok (.iconst 0, 1) := by decide +kernel
theorem dM_count0_5 : decode cM_count0 5 = .ok (.istore_n 1, 1) := by decide +kernel
theorem dM_count0_6 : decode cM_count0 6 = .ok (.iload_n 1, 1) := by decide +kernel
theorem dM_count0_7 : decode cM_count0 7 = .ok (.iconst 3, 1) := by decide +kernel
theorem dM_count0_8 : decode cM_count0 8 = .ok (.if_icmp .ge 121, 3) := by decide +kernel
theorem dM_count0_11 : decode cM_count0 11 = .ok (.aload_n 0, 1) := by decide +kernel
theorem dM_count0_12 : decode cM_count0 12 = .ok (.getfield 32, 3) := by decide +kernel
theorem dM_count0_15 : decode cM_count0 15 = .ok (.iload_n 1, 1) := by decide +kernel
theorem dM_count0_16 : decode cM_count0 16 = .ok (.iconst 0, 1) := by decide +kernel
theorem dM_count0_17 : decode cM_count0 17 = .ok (.iastore, 1) := by decide +kernel
theorem dM_count0_18 : decode cM_count0 18 = .ok (.iconst 0, 1) := by decide +kernel
theorem dM_count0_19 : decode cM_count0 19 = .ok (.istore_n 2, 1) := by decide +kernel
theorem dM_count0_20 : decode cM_count0 20 = .ok (.iload_n 2, 1) := by decide +kernel
theorem dM_count0_21 : decode cM_count0 21 = .ok (.aload_n 0, 1) := by decide +kernel
theorem dM_count0_22 : decode cM_count0 22 = .ok (.getfield 72, 3) := by decide +kernel
theorem dM_count0_25 : decode cM_count0 25 = .ok (.if_icmp .ge 98, 3) := by decide +kernel
theorem dM_count0_28 : decode cM_count0 28 = .ok (.bipush 24, 2) := by decide +kernel
theorem dM_count0_30 : decode cM_count0 30 = .ok (.iload_n 1, 1) := by decide +kernel
theorem dM_count0_31 : decode cM_count0 31 = .ok (.imul, 1) := by decide +kernel
theorem dM_count0_32 : decode cM_count0 32 = .ok (.iload_n 2, 1) := by decide +kernel
theorem dM_count0_33 : decode cM_count0 33 = .ok (.iadd, 1) := by decide +kernel
theorem dM_count0_34 : decode cM_count0 34 = .ok (.istore_n 3, 1) := by decide +kernel
theorem dM_count0_35 : decode cM_count0 35 = .ok (.aload_n 0, 1) := by decide +kernel
theorem dM_count0_36 : decode cM_count0 36 = .ok (.getfield 20, 3) := by decide +kernel
theorem dM_count0_39 : decode cM_count0 39 = .ok (.iload_n 3, 1) := by decide +kernel
theorem dM_count0_40 : decode cM_count0 40 = .ok (.iaload, 1) := by decide +kernel
theorem dM_count0_41 : decode cM_count0 41 = .ok (.aload_n 0, 1) := by decide +kernel
theorem dM_count0_42 : decode cM_count0 42 = .ok (.getfield 35, 3) := by decide +kernel
theorem dM_count0_45 : decode cM_count0 45 = .ok (.iload_n 3, 1) := by decide +kernel
theorem dM_count0_46 : decode cM_count0 46 = .ok (.iaload, 1) := by decide +kernel
theorem dM_count0_47 : decode cM_count0 47 = .ok (.if_icmp .ne 33, 3) := by decide +kernel
theorem dM_count0_50 : decode cM_count0 50 = .ok (.aload_n 0, 1) := by decide +kernel
theorem dM_count0_51 : decode cM_count0 51 = .ok (.getfield 23, 3) := by decide +kernel
theorem dM_count0_54 : decode cM_count0 54 = .ok (.iload_n 3, 1) := by decide +kernel
theorem dM_count0_55 : decode cM_count0 55 = .ok (.iaload, 1) := by decide +kernel
theorem dM_count0_56 : decode cM_count0 56 = .ok (.aload_n 0, 1) := by decide +kernel
theorem dM_count0_57 : decode cM_count0 57 = .ok (.getfield 38, 3) := by decide +kernel
theorem dM_count0_60 : decode cM_count0 60 = .ok (.iload_n 3, 1) := by decide +kernel
theorem dM_count0_61 : decode cM_count0 61 = .ok (.iaload, 1) := by decide +kernel
theorem dM_count0_62 : decode cM_count0 62 = .ok (.if_icmp .ne 18, 3) := by decide +kernel
theorem dM_count0_65 : decode cM_count0 65 = .ok (.aload_n 0, 1) := by decide +kernel
theorem dM_count0_66 : decode cM_count0 66 = .ok (.getfield 26, 3) := by decide +kernel
theorem dM_count0_69 : decode cM_count0 69 = .ok (.iload_n 3, 1) := by decide +kernel
theorem dM_count0_70 : decode cM_count0 70 = .ok (.iaload, 1) := by decide +kernel
theorem dM_count0_71 : decode cM_count0 71 = .ok (.aload_n 0, 1) := by decide +kernel
theorem dM_count0_72 : decode cM_count0 72 = .ok (.getfield 41, 3) := by decide +kernel
theorem dM_count0_75 : decode cM_count0 75 = .ok (.iload_n 3, 1) := by decide +kernel
theorem dM_count0_76 : decode cM_count0 76 = .ok (.iaload, 1) := by decide +kernel
theorem dM_count0_77 : decode cM_count0 77 = .ok (.if_icmp .eq 7, 3) := by decide +kernel
theorem dM_count0_80 : decode cM_count0 80 = .ok (.iconst 1, 1) := by decide +kernel
theorem dM_count0_81 : decode cM_count0 81 = .ok (.goto 4, 3) := by decide +kernel
theorem dM_count0_84 : decode cM_count0 84 = .ok (.iconst 0, 1) := by decide +kernel
theorem dM_count0_85 : decode cM_count0 85 = .ok (.istore 4, 2) := by decide +kernel
theorem dM_count0_87 : decode cM_count0 87 = .ok (.aload_n 0, 1) := by decide +kernel
theorem dM_count0_88 : decode cM_count0 88 = .ok (.getfield 32, 3) := by decide +kernel
theorem dM_count0_91 : decode cM_count0 91 = .ok (.iload_n 1, 1) := by decide +kernel
theorem dM_count0_92 : decode cM_count0 92 = .ok (.iload 4, 2) := by decide +kernel
theorem dM_count0_94 : decode cM_count0 94 = .ok (.ifCond .eq 16, 3) := by decide +kernel
theorem dM_count0_97 : decode cM_count0 97 = .ok (.aload_n 0, 1) := by decide +kernel
theorem dM_count0_98 : decode cM_count0 98 = .ok (.getfield 32, 3) := by decide +kernel
theorem dM_count0_101 : decode cM_count0 101 = .ok (.iload_n 1, 1) := by decide +kernel
theorem dM_count0_102 : decode cM_count0 102 = .ok (.iaload, 1) := by decide +kernel
theorem dM_count0_103 : decode cM_count0 103 = .ok (.iconst 1, 1) := by decide +kernel
theorem dM_count0_104 : decode cM_count0 104 = .ok (.iload_n 2, 1) := by decide +kernel
theorem dM_count0_105 : decode cM_count0 105 = .ok (.ishl, 1) := by decide +kernel
theorem dM_count0_106 : decode cM_count0 106 = .ok (.ior, 1) := by decide +kernel
theorem dM_count0_107 : decode cM_count0 107 = .ok (.goto 9, 3) := by decide +kernel
theorem dM_count0_110 : decode cM_count0 110 = .ok (.aload_n 0, 1) := by decide +kernel
theorem dM_count0_111 : decode cM_count0 111 = .ok (.getfield 32, 3) := by decide +kernel
theorem dM_count0_114 : decode cM_count0 114 = .ok (.iload_n 1, 1) := by decide +kernel
theorem dM_count0_115 : decode cM_count0 115 = .ok (.iaload, 1) := by decide +kernel
theorem dM_count0_116 : decode cM_count0 116 = .ok (.iastore, 1) := by decide +kernel
theorem dM_count0_117 : decode cM_count0 117 = .ok (.iinc 2 1, 3) := by decide +kernel
theorem dM_count0_120 : decode cM_count0 120 = .ok (.goto (-100), 3) := by decide +kernel
theorem dM_count0_123 : decode cM_count0 123 = .ok (.iinc 1 1, 3) := by decide +kernel
theorem dM_count0_126 : decode cM_count0 126 = .ok (.goto (-120), 3) := by decide +kernel
theorem dM_count0_129 : decode cM_count0 129 = .ok (.return_, 1) := by decide +kernel
theorem dM_change_0 : decode cM_change 0 = .ok (.aload_n 0, 1) := by decide +kernel
theorem dM_change_1 : decode cM_change 1 = .ok (.getfield 84, 3) := by decide +kernel
theorem dM_change_4 : decode cM_change 4 = .ok (.ifCond .eq 15, 3) := by decide +kernel
theorem dM_change_7 : decode cM_change 7 = .ok (.aload_n 0, 1) := by decide +kernel
theorem dM_change_8 : decode cM_change 8 = .ok (.getfield 56, 3) := by decide +kernel
theorem dM_change_11 : decode cM_change 11 = .ok (.aload_n 0, 1) := by decide +kernel
theorem dM_change_12 : decode cM_change 12 = .ok (.getfield 88, 3) := by decide +kernel
theorem dM_change_15 : decode cM_change 15 = .ok (.iaload, 1) := by decide +kernel
theorem dM_change_16 : decode cM_change 16 = .ok (.goto 4, 3) := by decide +kernel
theorem dM_change_19 : decode cM_change 19 = .ok (.iconst 0, 1) := by decide +kernel
theorem dM_change_20 : decode cM_change 20 = .ok (.istore_n 3, 1) := by decide +kernel
theorem dM_change_21 : decode cM_change 21 = .ok (.aload_n 0, 1) := by decide +kernel
theorem dM_change_22 : decode cM_change 22 = .ok (.getfield 59, 3) := by decide +kernel
theorem dM_change_25 : decode cM_change 25 = .ok (.bipush 30, 2) := by decide +kernel
theorem dM_change_27 : decode cM_change 27 = .ok (.aload_n 0, 1) := by decide +kernel
theorem dM_change_28 : decode cM_change 28 = .ok (.getfield 88, 3) := by decide +kernel
theorem dM_change_31 : decode cM_change 31 = .ok (.imul, 1) := by decide +kernel
theorem dM_change_32 : decode cM_change 32 = .ok (.iload_n 3, 1) := by decide +kernel
theorem dM_change_33 : decode cM_change 33 = .ok (.iadd, 1) := by decide +kernel
theorem dM_change_34 : decode cM_change 34 = .ok (.iload_n 1, 1) := by decide +kernel
theorem dM_change_35 : decode cM_change 35 = .ok (.iastore, 1) := by decide +kernel
theorem dM_change_36 : decode cM_change 36 = .ok (.aload_n 0, 1) := by decide +kernel
theorem dM_change_37 : decode cM_change 37 = .ok (.getfield 62, 3) := by decide +kernel
theorem dM_change_40 : decode cM_change 40 = .ok (.bipush 30, 2) := by decide +kernel
theorem dM_change_42 : decode cM_change 42 = .ok (.aload_n 0, 1) := by decide +kernel
theorem dM_change_43 : decode cM_change 43 = .ok (.getfield 88, 3) := by decide +kernel
theorem dM_change_46 : decode cM_change 46 = .ok (.imul, 1) := by decide +kernel
theorem dM_change_47 : decode cM_change 47 = .ok (.iload_n 3, 1) := by decide +kernel
theorem dM_change_48 : decode cM_change 48 = .ok (.iadd, 1) := by decide +kernel
theorem dM_change_49 : decode cM_change 49 = .ok (.aload_n 0, 1) := by decide +kernel
theorem dM_change_50 : decode cM_change 50 = .ok (.getfield 13, 3) := by decide +kernel
theorem dM_change_53 : decode cM_change 53 = .ok (.iload_n 1, 1) := by decide +kernel
theorem dM_change_54 : decode cM_change 54 = .ok (.iaload, 1) := by decide +kernel
theorem dM_change_55 : decode cM_change 55 = .ok (.iastore, 1) := by decide +kernel
theorem dM_change_56 : decode cM_change 56 = .ok (.aload_n 0, 1) := by decide +kernel
theorem dM_change_57 : decode cM_change 57 = .ok (.getfield 56, 3) := by decide +kernel
theorem dM_change_60 : decode cM_change 60 = .ok (.aload_n 0, 1) := by decide +kernel
theorem dM_change_61 : decode cM_change 61 = .ok (.getfield 88, 3) := by decide +kernel
theorem dM_change_64 : decode cM_change 64 = .ok (.iload_n 3, 1) := by decide +kernel
theorem dM_change_65 : decode cM_change 65 = .ok (.iconst 1, 1) := by decide +kernel
theorem dM_change_66 : decode cM_change 66 = .ok (.iadd, 1) := by decide +kernel
theorem dM_change_67 : decode cM_change 67 = .ok (.iastore, 1) := by decide +kernel
theorem dM_change_68 : decode cM_change 68 = .ok (.aload_n 0, 1) := by decide +kernel
theorem dM_change_69 : decode cM_change 69 = .ok (.getfield 13, 3) := by decide +kernel
theorem dM_change_72 : decode cM_change 72 = .ok (.iload_n 1, 1) := by decide +kernel
theorem dM_change_73 : decode cM_change 73 = .ok (.iload_n 2, 1) := by decide +kernel
theorem dM_change_74 : decode cM_change 74 = .ok (.iastore, 1) := by decide +kernel
theorem dM_change_75 : decode cM_change 75 = .ok (.aload_n 0, 1) := by decide +kernel
theorem dM_change_76 : decode cM_change 76 = .ok (.dup, 1) := by decide +kernel
theorem dM_change_77 : decode cM_change 77 = .ok (.getfield 91, 3) := by decide +kernel
theorem dM_change_80 : decode cM_change 80 = .ok (.iconst 1, 1) := by decide +kernel
theorem dM_change_81 : decode cM_change 81 = .ok (.iadd, 1) := by decide +kernel
theorem dM_change_82 : decode cM_change 82 = .ok (.putfield 91, 3) := by decide +kernel
theorem dM_change_85 : decode cM_change 85 = .ok (.aload_n 0, 1) := by decide +kernel
theorem dM_change_86 : decode cM_change 86 = .ok (.getfield 84, 3) := by decide +kernel
theorem dM_change_89 : decode cM_change 89 = .ok (.ifCond .ne 11, 3) := by decide +kernel
theorem dM_change_92 : decode cM_change 92 = .ok (.aload_n 0, 1) := by decide +kernel
theorem dM_change_93 : decode cM_change 93 = .ok (.invokevirtual 94, 3) := by decide +kernel
theorem dM_change_96 : decode cM_change 96 = .ok (.aload_n 0, 1) := by decide +kernel
theorem dM_change_97 : decode cM_change 97 = .ok (.invokevirtual 97, 3) := by decide +kernel
theorem dM_change_100 : decode cM_change 100 = .ok (.return_, 1) := by decide +kernel
theorem dM_keep_0 : decode cM_keep 0 = .ok (.aload_n 0, 1) := by decide +kernel
theorem dM_keep_1 : decode cM_keep 1 = .ok (.dup, 1) := by decide +kernel
theorem dM_keep_2 : decode cM_keep 2 = .ok (.getfield 88, 3) := by decide +kernel
theorem dM_keep_5 : decode cM_keep 5 = .ok (.iconst 1, 1) := by decide +kernel
theorem dM_keep_6 : decode cM_keep 6 = .ok (.iadd, 1) := by decide +kernel
theorem dM_keep_7 : decode cM_keep 7 = .ok (.putfield 88, 3) := by decide +kernel
theorem dM_keep_10 : decode cM_keep 10 = .ok (.aload_n 0, 1) := by decide +kernel
theorem dM_keep_11 : decode cM_keep 11 = .ok (.getfield 88, 3) := by decide +kernel
theorem dM_keep_14 : decode cM_keep 14 = .ok (.bipush 40, 2) := by decide +kernel
theorem dM_keep_16 : decode cM_keep 16 = .ok (.if_icmp .le 82, 3) := by decide +kernel
theorem dM_keep_19 : decode cM_keep 19 = .ok (.aload_n 0, 1) := by decide +kernel
theorem dM_keep_20 : decode cM_keep 20 = .ok (.bipush 40, 2) := by decide +kernel
theorem dM_keep_22 : decode cM_keep 22 = .ok (.putfield 88, 3) := by decide +kernel
theorem dM_keep_25 : decode cM_keep 25 = .ok (.iconst 0, 1) := by decide +kernel
theorem dM_keep_26 : decode cM_keep 26 = .ok (.istore_n 1, 1) := by decide +kernel
theorem dM_keep_27 : decode cM_keep 27 = .ok (.iload_n 1, 1) := by decide +kernel
theorem dM_keep_28 : decode cM_keep 28 = .ok (.bipush 40, 2) := by decide +kernel
theorem dM_keep_30 : decode cM_keep 30 = .ok (.if_icmp .ge 23, 3) := by decide +kernel
theorem dM_keep_33 : decode cM_keep 33 = .ok (.aload_n 0, 1) := by decide +kernel
theorem dM_keep_34 : decode cM_keep 34 = .ok (.getfield 56, 3) := by decide +kernel
theorem dM_keep_37 : decode cM_keep 37 = .ok (.iload_n 1, 1) := by decide +kernel
theorem dM_keep_38 : decode cM_keep 38 = .ok (.aload_n 0, 1) := by decide +kernel
theorem dM_keep_39 : decode cM_keep 39 = .ok (.getfield 56, 3) := by decide +kernel
theorem dM_keep_42 : decode cM_keep 42 = .ok (.iload_n 1, 1) := by decide +kernel
theorem dM_keep_43 : decode cM_keep 43 = .ok (.iconst 1, 1) := by decide +kernel
theorem dM_keep_44 : decode cM_keep 44 = .ok (.iadd, 1) := by decide +kernel
theorem dM_keep_45 : decode cM_keep 45 = .ok (.iaload, 1) := by decide +kernel
theorem dM_keep_46 : decode cM_keep 46 = .ok (.iastore, 1) := by decide +kernel
theorem dM_keep_47 : decode cM_keep 47 = .ok (.iinc 1 1, 3) := by decide +kernel
theorem dM_keep_50 : decode cM_keep 50 = .ok (.goto (-23), 3) := by decide +kernel
theorem dM_keep_53 : decode cM_keep 53 = .ok (.iconst 0, 1) := by decide +kernel
theorem dM_keep_54 : decode cM_keep 54 = .ok (.istore_n 1, 1) := by decide +kernel
theorem dM_keep_55 : decode cM_keep 55 = .ok (.iload_n 1, 1) := by decide +kernel
theorem dM_keep_56 : decode cM_keep 56 = .ok (.sipush 1200, 3) := by decide +kernel
theorem dM_keep_59 : decode cM_keep 59 = .ok (.if_icmp .ge 39, 3) := by decide +kernel
theorem dM_keep_62 : decode cM_keep 62 = .ok (.aload_n 0, 1) := by decide +kernel
theorem dM_keep_63 : decode cM_keep 63 = .ok (.getfield 59, 3) := by decide +kernel
theorem dM_keep_66 : decode cM_keep 66 = .ok (.iload_n 1, 1) := by decide +kernel
theorem dM_keep_67 : decode cM_keep 67 = .ok (.aload_n 0, 1) := by decide +kernel
theorem dM_keep_68 : decode cM_keep 68 = .ok (.getfield 59, 3) := by decide +kernel
theorem dM_keep_71 : decode cM_keep 71 = .ok (.iload_n 1, 1) := by decide +kernel
theorem dM_keep_72 : decode cM_keep 72 = .ok (.bipush 30, 2) := by decide +kernel
theorem dM_keep_74 : decode cM_keep 74 = .ok (.iadd, 1) := by decide +kernel
theorem dM_keep_75 : decode cM_keep 75 = .ok (.iaload, 1) := by decide +kernel
theorem dM_keep_76 : decode cM_keep 76 = .ok (.iastore, 1) := by decide +kernel
theorem dM_keep_77 : decode cM_keep 77 = .ok (.aload_n 0, 1) := by decide +kernel
theorem dM_keep_78 : decode cM_keep 78 = .ok (.getfield 62, 3) := by decide +kernel
theorem dM_keep_81 : decode cM_keep 81 = .ok (.iload_n 1, 1) := by decide +kernel
theorem dM_keep_82 : decode cM_keep 82 = .ok (.aload_n 0, 1) := by decide +kernel
theorem dM_keep_83 : decode cM_keep 83 = .ok (.getfield 62, 3) := by decide +kernel
theorem dM_keep_86 : decode cM_keep 86 = .ok (.iload_n 1, 1) := by decide +kernel
theorem dM_keep_87 : decode cM_keep 87 = .ok (.bipush 30, 2) := by decide +kernel
theorem dM_keep_89 : decode cM_keep 89 = .ok (.iadd, 1) := by decide +kernel
theorem dM_keep_90 : decode cM_keep 90 = .ok (.iaload, 1) := by decide +kernel
theorem dM_keep_91 : decode cM_keep 91 = .ok (.iastore, 1) := by decide +kernel
theorem dM_keep_92 : decode cM_keep 92 = .ok (.iinc 1 1, 3) := by decide +kernel
theorem dM_keep_95 : decode cM_keep 95 = .ok (.goto (-40), 3) := by decide +kernel
theorem dM_keep_98 : decode cM_keep 98 = .ok (.return_, 1) := by decide +kernel
theorem dM_node_0 : decode cM_node 0 = .ok (.aload_n 0, 1) := by decide +kernel
theorem dM_node_1 : decode cM_node 1 = .ok (.iconst 0, 1) := by decide +kernel
theorem dM_node_2 : decode cM_node 2 = .ok (.putfield 1, 3) := by decide +kernel
theorem dM_node_5 : decode cM_node 5 = .ok (.aload_n 0, 1) := by decide +kernel
theorem dM_node_6 : decode cM_node 6 = .ok (.getfield 84, 3) := by decide +kernel
theorem dM_node_9 : decode cM_node 9 = .ok (.ifCond .eq 6, 3) := by decide +kernel
theorem dM_node_12 : decode cM_node 12 = .ok (.ldc 100, 2) := by decide +kernel
theorem dM_node_14 : decode cM_node 14 = .ok (.ireturn, 1) := by decide +kernel
theorem dM_node_15 : decode cM_node 15 = .ok (.aload_n 0, 1) := by decide +kernel
theorem dM_node_16 : decode cM_node 16 = .ok (.getfield 72, 3) := by decide +kernel
theorem dM_node_19 : decode cM_node 19 = .ok (.bipush 24, 2) := by decide +kernel
theorem dM_node_21 : decode cM_node 21 = .ok (.if_icmp .ne 6, 3) := by decide +kernel
theorem dM_node_24 : decode cM_node 24 = .ok (.ldc 101, 2) := by decide +kernel
theorem dM_node_26 : decode cM_node 26 = .ok (.ireturn, 1) := by decide +kernel
theorem dM_node_27 : decode cM_node 27 = .ok (.aload_n 0, 1) := by decide +kernel
theorem dM_node_28 : decode cM_node 28 = .ok (.dup, 1) := by decide +kernel
theorem dM_node_29 : decode cM_node 29 = .ok (.getfield 72, 3) := by decide +kernel
theorem dM_node_32 : decode cM_node 32 = .ok (.iconst 1, 1) := by decide +kernel
theorem dM_node_33 : decode cM_node 33 = .ok (.iadd, 1) := by decide +kernel
theorem dM_node_34 : decode cM_node 34 = .ok (.putfield 72, 3) := by decide +kernel
theorem dM_node_37 : decode cM_node 37 = .ok (.aload_n 0, 1) := by decide +kernel
theorem dM_node_38 : decode cM_node 38 = .ok (.invokevirtual 69, 3) := by decide +kernel
theorem dM_node_41 : decode cM_node 41 = .ok (.aload_n 0, 1) := by decide +kernel
theorem dM_node_42 : decode cM_node 42 = .ok (.getfield 72, 3) := by decide +kernel
theorem dM_node_45 : decode cM_node 45 = .ok (.iconst 1, 1) := by decide +kernel
theorem dM_node_46 : decode cM_node 46 = .ok (.isub, 1) := by decide +kernel
theorem dM_node_47 : decode cM_node 47 = .ok (.ireturn, 1) := by decide +kernel
theorem dM_source_0 : decode cM_source 0 = .ok (.aload_n 0, 1) := by decide +kernel
theorem dM_source_1 : decode cM_source 1 = .ok (.iconst 0, 1) := by decide +kernel
theorem dM_source_2 : decode cM_source 2 = .ok (.putfield 1, 3) := by decide +kernel
theorem dM_source_5 : decode cM_source 5 = .ok (.iload_n 1, 1) := by decide +kernel
theorem dM_source_6 : decode cM_source 6 = .ok (.iconst 0, 1) := by decide +kernel
theorem dM_source_7 : decode cM_source 7 = .ok (.iconst 2, 1) := by decide +kernel
theorem dM_source_8 : decode cM_source 8 = .ok (.invokestatic 75, 3) := by decide +kernel
theorem dM_source_11 : decode cM_source 11 = .ok (.ifCond .eq 17, 3) := by decide +kernel
theorem dM_source_14 : decode cM_source 14 = .ok (.iload_n 2, 1) := by decide +kernel
theorem dM_source_15 : decode cM_source 15 = .ok (.iconst (-1), 1) := by decide +kernel
theorem dM_source_16 : decode cM_source 16 = .ok (.aload_n 0, 1) := by decide +kernel
theorem dM_source_17 : decode cM_source 17 = .ok (.getfield 72, 3) := by decide +kernel
theorem dM_source_20 : decode cM_source 20 = .ok (.iconst 1, 1) := by decide +kernel
theorem dM_source_21 : decode cM_source 21 = .ok (.isub, 1) := by decide +kernel
theorem dM_source_22 : decode cM_source 22 = .ok (.invokestatic 75, 3) := by decide +kernel
theorem dM_source_25 : decode cM_source 25 = .ok (.ifCond .ne 6, 3) := by decide +kernel
theorem dM_source_28 : decode cM_source 28 = .ok (.ldc 102, 2) := by decide +kernel
theorem dM_source_30 : decode cM_source 30 = .ok (.ireturn, 1) := by decide +kernel
theorem dM_source_31 : decode cM_source 31 = .ok (.aload_n 0, 1) := by decide +kernel
theorem dM_source_32 : decode cM_source 32 = .ok (.getfield 84, 3) := by decide +kernel
theorem dM_source_35 : decode cM_source 35 = .ok (.ifCond .eq 6, 3) := by decide +kernel
theorem dM_source_38 : decode cM_source 38 = .ok (.ldc 100, 2) := by decide +kernel
theorem dM_source_40 : decode cM_source 40 = .ok (.ireturn, 1) := by decide +kernel
theorem dM_source_41 : decode cM_source 41 = .ok (.aload_n 0, 1) := by decide +kernel
theorem dM_source_42 : decode cM_source 42 = .ok (.getfield 17, 3) := by decide +kernel
theorem dM_source_45 : decode cM_source 45 = .ok (.iload_n 1, 1) := by decide +kernel
theorem dM_source_46 : decode cM_source 46 = .ok (.iaload, 1) := by decide +kernel
theorem dM_source_47 : decode cM_source 47 = .ok (.istore_n 3, 1) := by decide +kernel
theorem dM_source_48 : decode cM_source 48 = .ok (.aload_n 0, 1) := by decide +kernel
theorem dM_source_49 : decode cM_source 49 = .ok (.getfield 17, 3) := by decide +kernel
theorem dM_source_52 : decode cM_source 52 = .ok (.iload_n 1, 1) := by decide +kernel
theorem dM_source_53 : decode cM_source 53 = .ok (.iload_n 2, 1) := by decide +kernel
theorem dM_source_54 : decode cM_source 54 = .ok (.iastore, 1) := by decide +kernel
theorem dM_source_55 : decode cM_source 55 = .ok (.aload_n 0, 1) := by decide +kernel
theorem dM_source_56 : decode cM_source 56 = .ok (.getfield 32, 3) := by decide +kernel
theorem dM_source_59 : decode cM_source 59 = .ok (.iload_n 1, 1) := by decide +kernel
theorem dM_source_60 : decode cM_source 60 = .ok (.iconst 0, 1) := by decide +kernel
theorem dM_source_61 : decode cM_source 61 = .ok (.iastore, 1) := by decide +kernel
theorem dM_source_62 : decode cM_source 62 = .ok (.aload_n 0, 1) := by decide +kernel
theorem dM_source_63 : decode cM_source 63 = .ok (.invokevirtual 69, 3) := by decide +kernel
theorem dM_source_66 : decode cM_source 66 = .ok (.iload_n 3, 1) := by decide +kernel
theorem dM_source_67 : decode cM_source 67 = .ok (.ireturn, 1) := by decide +kernel
theorem dM_isFalling_0 : decode cM_isFalling 0 = .ok (.aload_n 0, 1) := by decide +kernel
theorem dM_isFalling_1 : decode cM_isFalling 1 = .ok (.iload_n 2, 1) := by decide +kernel
theorem dM_isFalling_2 : decode cM_isFalling 2 = .ok (.iload_n 1, 1) := by decide +kernel
theorem dM_isFalling_3 : decode cM_isFalling 3 = .ok (.iload_n 2, 1) := by decide +kernel
theorem dM_isFalling_4 : decode cM_isFalling 4 = .ok (.invokevirtual 80, 3) := by decide +kernel
theorem dM_isFalling_7 : decode cM_isFalling 7 = .ok (.aload_n 0, 1) := by decide +kernel
theorem dM_isFalling_8 : decode cM_isFalling 8 = .ok (.getfield 47, 3) := by decide +kernel
theorem dM_isFalling_11 : decode cM_isFalling 11 = .ok (.iload_n 1, 1) := by decide +kernel
theorem dM_isFalling_12 : decode cM_isFalling 12 = .ok (.iaload, 1) := by decide +kernel
theorem dM_isFalling_13 : decode cM_isFalling 13 = .ok (.ldc 68, 2) := by decide +kernel
theorem dM_isFalling_15 : decode cM_isFalling 15 = .ok (.if_icmp .eq 14, 3) := by decide +kernel
theorem dM_isFalling_18 : decode cM_isFalling 18 = .ok (.aload_n 0, 1) := by decide +kernel
theorem dM_isFalling_19 : decode cM_isFalling 19 = .ok (.getfield 47, 3) := by decide +kernel
theorem dM_isFalling_22 : decode cM_isFalling 22 = .ok (.iload_n 1, 1) := by decide +kernel
theorem dM_isFalling_23 : decode cM_isFalling 23 = .ok (.iaload, 1) := by decide +kernel
theorem dM_isFalling_24 : decode cM_isFalling 24 = .ok (.iload_n 3, 1) := by decide +kernel
theorem dM_isFalling_25 : decode cM_isFalling 25 = .ok (.iadd, 1) := by decide +kernel
theorem dM_isFalling_26 : decode cM_isFalling 26 = .ok (.ifCond .lt 5, 3) := by decide +kernel
theorem dM_isFalling_29 : decode cM_isFalling 29 = .ok (.iconst 0, 1) := by decide +kernel
theorem dM_isFalling_30 : decode cM_isFalling 30 = .ok (.ireturn, 1) := by decide +kernel
theorem dM_isFalling_31 : decode cM_isFalling 31 = .ok (.aload_n 0, 1) := by decide +kernel
theorem dM_isFalling_32 : decode cM_isFalling 32 = .ok (.aload_n 0, 1) := by decide +kernel
theorem dM_isFalling_33 : decode cM_isFalling 33 = .ok (.getfield 50, 3) := by decide +kernel
theorem dM_isFalling_36 : decode cM_isFalling 36 = .ok (.iload_n 1, 1) := by decide +kernel
theorem dM_isFalling_37 : decode cM_isFalling 37 = .ok (.iaload, 1) := by decide +kernel
theorem dM_isFalling_38 : decode cM_isFalling 38 = .ok (.iconst 1, 1) := by decide +kernel
theorem dM_isFalling_39 : decode cM_isFalling 39 = .ok (.iadd, 1) := by decide +kernel
theorem dM_isFalling_40 : decode cM_isFalling 40 = .ok (.putfield 103, 3) := by decide +kernel
theorem dM_isFalling_43 : decode cM_isFalling 43 = .ok (.iload_n 1, 1) := by decide +kernel
theorem dM_isFalling_44 : decode cM_isFalling 44 = .ok (.istore 4, 2) := by decide +kernel
theorem dM_isFalling_46 : decode cM_isFalling 46 = .ok (.aload_n 0, 1) := by decide +kernel
theorem dM_isFalling_47 : decode cM_isFalling 47 = .ok (.getfield 103, 3) := by decide +kernel
theorem dM_isFalling_50 : decode cM_isFalling 50 = .ok (.iconst 1, 1) := by decide +kernel
theorem dM_isFalling_51 : decode cM_isFalling 51 = .ok (.isub, 1) := by decide +kernel
theorem dM_isFalling_52 : decode cM_isFalling 52 = .ok (.istore 5, 2) := by decide +kernel
theorem dM_isFalling_54 : decode cM_isFalling 54 = .ok (.iload 5, 2) := by decide +kernel
theorem dM_isFalling_56 : decode cM_isFalling 56 = .ok (.ifCond .lt 27, 3) := by decide +kernel
theorem dM_isFalling_59 : decode cM_isFalling 59 = .ok (.aload_n 0, 1) := by decide +kernel
theorem dM_isFalling_60 : decode cM_isFalling 60 = .ok (.getfield 65, 3) := by decide +kernel
theorem dM_isFalling_63 : decode cM_isFalling 63 = .ok (.iload 5, 2) := by decide +kernel
theorem dM_isFalling_65 : decode cM_isFalling 65 = .ok (.iload 4, 2) := by decide +kernel
theorem dM_isFalling_67 : decode cM_isFalling 67 = .ok (.iastore, 1) := by decide +kernel
theorem dM_isFalling_68 : decode cM_isFalling 68 = .ok (.aload_n 0, 1) := by decide +kernel
theorem dM_isFalling_69 : decode cM_isFalling 69 = .ok (.getfield 53, 3) := by decide +kernel
theorem dM_isFalling_72 : decode cM_isFalling 72 = .ok (.iload 4, 2) := by decide +kernel
theorem dM_isFalling_74 : decode cM_isFalling 74 = .ok (.iaload, 1) := by decide +kernel
theorem dM_isFalling_75 : decode cM_isFalling 75 = .ok (.istore 4, 2) := by decide +kernel
theorem dM_isFalling_77 : decode cM_isFalling 77 = .ok (.iinc 5 (-1), 3) := by decide +kernel
theorem dM_isFalling_80 : decode cM_isFalling 80 = .ok (.goto (-26), 3) := by decide +kernel
theorem dM_isFalling_83 : decode cM_isFalling 83 = .ok (.iconst 1, 1) := by decide +kernel
theorem dM_isFalling_84 : decode cM_isFalling 84 = .ok (.ireturn, 1) := by decide +kernel
theorem dM_put_0 : decode cM_put 0 = .ok (.aload_n 0, 1) := by decide +kernel
theorem dM_put_1 : decode cM_put 1 = .ok (.iconst 0, 1) := by decide +kernel
theorem dM_put_2 : decode cM_put 2 = .ok (.putfield 1, 3) := by decide +kernel
theorem dM_put_5 : decode cM_put 5 = .ok (.aload_n 0, 1) := by decide +kernel
theorem dM_put_6 : decode cM_put 6 = .ok (.iload_n 1, 1) := by decide +kernel
theorem dM_put_7 : decode cM_put 7 = .ok (.invokevirtual 106, 3) := by decide +kernel
theorem dM_put_10 : decode cM_put 10 = .ok (.ifCond .ne 29, 3) := by decide +kernel
theorem dM_put_13 : decode cM_put 13 = .ok (.aload_n 0, 1) := by decide +kernel
theorem dM_put_14 : decode cM_put 14 = .ok (.iload_n 2, 1) := by decide +kernel
theorem dM_put_15 : decode cM_put 15 = .ok (.invokevirtual 106, 3) := by decide +kernel
theorem dM_put_18 : decode cM_put 18 = .ok (.ifCond .ne 21, 3) := by decide +kernel
theorem dM_put_21 : decode cM_put 21 = .ok (.iload_n 1, 1) := by decide +kernel
theorem dM_put_22 : decode cM_put 22 = .ok (.iload_n 2, 1) := by decide +kernel
theorem dM_put_23 : decode cM_put 23 = .ok (.if_icmp .eq 16, 3) := by decide +kernel
theorem dM_put_26 : decode cM_put 26 = .ok (.iload_n 3, 1) := by decide +kernel
theorem dM_put_27 : decode cM_put 27 = .ok (.sipush (-1000), 3) := by decide +kernel
theorem dM_put_30 : decode cM_put 30 = .ok (.sipush 1000, 3) := by decide +kernel
theorem dM_put_33 : decode cM_put 33 = .ok (.invokestatic 75, 3) := by decide +kernel
theorem dM_put_36 : decode cM_put 36 = .ok (.ifCond .ne 6, 3) := by decide +kernel
theorem dM_put_39 : decode cM_put 39 = .ok (.ldc 102, 2) := by decide +kernel
theorem dM_put_41 : decode cM_put 41 = .ok (.ireturn, 1) := by decide +kernel
theorem dM_put_42 : decode cM_put 42 = .ok (.aload_n 0, 1) := by decide +kernel
theorem dM_put_43 : decode cM_put 43 = .ok (.getfield 84, 3) := by decide +kernel
theorem dM_put_46 : decode cM_put 46 = .ok (.ifCond .eq 20, 3) := by decide +kernel
theorem dM_put_49 : decode cM_put 49 = .ok (.aload_n 0, 1) := by decide +kernel
theorem dM_put_50 : decode cM_put 50 = .ok (.getfield 56, 3) := by decide +kernel
theorem dM_put_53 : decode cM_put 53 = .ok (.aload_n 0, 1) := by decide +kernel
theorem dM_put_54 : decode cM_put 54 = .ok (.getfield 88, 3) := by decide +kernel
theorem dM_put_57 : decode cM_put 57 = .ok (.iaload, 1) := by decide +kernel
theorem dM_put_58 : decode cM_put 58 = .ok (.bipush 30, 2) := by decide +kernel
theorem dM_put_60 : decode cM_put 60 = .ok (.if_icmp .ne 6, 3) := by decide +kernel
theorem dM_put_63 : decode cM_put 63 = .ok (.ldc 101, 2) := by decide +kernel
theorem dM_put_65 : decode cM_put 65 = .ok (.ireturn, 1) := by decide +kernel
theorem dM_put_66 : decode cM_put 66 = .ok (.aload_n 0, 1) := by decide +kernel
theorem dM_put_67 : decode cM_put 67 = .ok (.iload_n 1, 1) := by decide +kernel
theorem dM_put_68 : decode cM_put 68 = .ok (.iload_n 2, 1) := by decide +kernel
theorem dM_put_69 : decode cM_put 69 = .ok (.iload_n 3, 1) := by decide +kernel
theorem dM_put_70 : decode cM_put 70 = .ok (.invokevirtual 110, 3) := by decide +kernel
theorem dM_put_73 : decode cM_put 73 = .ok (.ifCond .eq 6, 3) := by decide +kernel
theorem dM_put_76 : decode cM_put 76 = .ok (.ldc 113, 2) := by decide +kernel
theorem dM_put_78 : decode cM_put 78 = .ok (.ireturn, 1) := by decide +kernel
theorem dM_put_79 : decode cM_put 79 = .ok (.aload_n 0, 1) := by decide +kernel
theorem dM_put_80 : decode cM_put 80 = .ok (.getfield 13, 3) := by decide +kernel
theorem dM_put_83 : decode cM_put 83 = .ok (.bipush 24, 2) := by decide +kernel
theorem dM_put_85 : decode cM_put 85 = .ok (.iload_n 1, 1) := by decide +kernel
theorem dM_put_86 : decode cM_put 86 = .ok (.imul, 1) := by decide +kernel
theorem dM_put_87 : decode cM_put 87 = .ok (.iload_n 2, 1) := by decide +kernel
theorem dM_put_88 : decode cM_put 88 = .ok (.iadd, 1) := by decide +kernel
theorem dM_put_89 : decode cM_put 89 = .ok (.iaload, 1) := by decide +kernel
theorem dM_put_90 : decode cM_put 90 = .ok (.istore 4, 2) := by decide +kernel
theorem dM_put_92 : decode cM_put 92 = .ok (.aload_n 0, 1) := by decide +kernel
theorem dM_put_93 : decode cM_put 93 = .ok (.bipush 24, 2) := by decide +kernel
theorem dM_put_95 : decode cM_put 95 = .ok (.iload_n 1, 1) := by decide +kernel
theorem dM_put_96 : decode cM_put 96 = .ok (.imul, 1) := by decide +kernel
theorem dM_put_97 : decode cM_put 97 = .ok (.iload_n 2, 1) := by decide +kernel
theorem dM_put_98 : decode cM_put 98 = .ok (.iadd, 1) := by decide +kernel
theorem dM_put_99 : decode cM_put 99 = .ok (.iload_n 3, 1) := by decide +kernel
theorem dM_put_100 : decode cM_put 100 = .ok (.invokevirtual 114, 3) := by decide +kernel
theorem dM_put_103 : decode cM_put 103 = .ok (.iload 4, 2) := by decide +kernel
theorem dM_put_105 : decode cM_put 105 = .ok (.ldc 68, 2) := by decide +kernel
theorem dM_put_107 : decode cM_put 107 = .ok (.if_icmp .ne 8, 3) := by decide +kernel
theorem dM_put_110 : decode cM_put 110 = .ok (.ldc 79, 2) := by decide +kernel
theorem dM_put_112 : decode cM_put 112 = .ok (.goto 5, 3) := by decide +kernel
theorem dM_put_115 : decode cM_put 115 = .ok (.iload 4, 2) := by decide +kernel
theorem dM_put_117 : decode cM_put 117 = .ok (.ireturn, 1) := by decide +kernel
theorem dM_take_0 : decode cM_take 0 = .ok (.aload_n 0, 1) := by decide +kernel
theorem dM_take_1 : decode cM_take 1 = .ok (.iconst 0, 1) := by decide +kernel
theorem dM_take_2 : decode cM_take 2 = .ok (.putfield 1, 3) := by decide +kernel
theorem dM_take_5 : decode cM_take 5 = .ok (.aload_n 0, 1) := by decide +kernel
theorem dM_take_6 : decode cM_take 6 = .ok (.iload_n 1, 1) := by decide +kernel
theorem dM_take_7 : decode cM_take 7 = .ok (.invokevirtual 106, 3) := by decide +kernel
theorem dM_take_10 : decode cM_take 10 = .ok (.ifCond .ne 16, 3) := by decide +kernel
theorem dM_take_13 : decode cM_take 13 = .ok (.aload_n 0, 1) := by decide +kernel
theorem dM_take_14 : decode cM_take 14 = .ok (.iload_n 2, 1) := by decide +kernel
theorem dM_take_15 : decode cM_take 15 = .ok (.invokevirtual 106, 3) := by decide +kernel
theorem dM_take_18 : decode cM_take 18 = .ok (.ifCond .ne 8, 3) := by decide +kernel
theorem dM_take_21 : decode cM_take 21 = .ok (.iload_n 1, 1) := by decide +kernel
theorem dM_take_22 : decode cM_take 22 = .ok (.iload_n 2, 1) := by decide +kernel
theorem dM_take_23 : decode cM_take 23 = .ok (.if_icmp .ne 6, 3) := by decide +kernel
theorem dM_take_26 : decode cM_take 26 = .ok (.ldc 102, 2) := by decide +kernel
theorem dM_take_28 : decode cM_take 28 = .ok (.ireturn, 1) := by decide +kernel
theorem dM_take_29 : decode cM_take 29 = .ok (.aload_n 0, 1) := by decide +kernel
theorem dM_take_30 : decode cM_take 30 = .ok (.getfield 84, 3) := by decide +kernel
theorem dM_take_33 : decode cM_take 33 = .ok (.ifCond .eq 20, 3) := by decide +kernel
theorem dM_take_36 : decode cM_take 36 = .ok (.aload_n 0, 1) := by decide +kernel
theorem dM_take_37 : decode cM_take 37 = .ok (.getfield 56, 3) := by decide +kernel
theorem dM_take_40 : decode cM_take 40 = .ok (.aload_n 0, 1) := by decide +kernel
theorem dM_take_41 : decode cM_take 41 = .ok (.getfield 88, 3) := by decide +kernel
theorem dM_take_44 : decode cM_take 44 = .ok (.iaload, 1) := by decide +kernel
theorem dM_take_45 : decode cM_take 45 = .ok (.bipush 30, 2) := by decide +kernel
theorem dM_take_47 : decode cM_take 47 = .ok (.if_icmp .ne 6, 3) := by decide +kernel
theorem dM_take_50 : decode cM_take 50 = .ok (.ldc 101, 2) := by decide +kernel
theorem dM_take_52 : decode cM_take 52 = .ok (.ireturn, 1) := by decide +kernel
theorem dM_take_53 : decode cM_take 53 = .ok (.aload_n 0, 1) := by decide +kernel
theorem dM_take_54 : decode cM_take 54 = .ok (.getfield 13, 3) := by decide +kernel
theorem dM_take_57 : decode cM_take 57 = .ok (.bipush 24, 2) := by decide +kernel
theorem dM_take_59 : decode cM_take 59 = .ok (.iload_n 1, 1) := by decide +kernel
theorem dM_take_60 : decode cM_take 60 = .ok (.imul, 1) := by decide +kernel
theorem dM_take_61 : decode cM_take 61 = .ok (.iload_n 2, 1) := by decide +kernel
theorem dM_take_62 : decode cM_take 62 = .ok (.iadd, 1) := by decide +kernel
theorem dM_take_63 : decode cM_take 63 = .ok (.iaload, 1) := by decide +kernel
theorem dM_take_64 : decode cM_take 64 = .ok (.istore_n 3, 1) := by decide +kernel
theorem dM_take_65 : decode cM_take 65 = .ok (.iload_n 3, 1) := by decide +kernel
theorem dM_take_66 : decode cM_take 66 = .ok (.ldc 68, 2) := by decide +kernel
theorem dM_take_68 : decode cM_take 68 = .ok (.if_icmp .ne 6, 3) := by decide +kernel
theorem dM_take_71 : decode cM_take 71 = .ok (.ldc 79, 2) := by decide +kernel
theorem dM_take_73 : decode cM_take 73 = .ok (.ireturn, 1) := by decide +kernel
theorem dM_take_74 : decode cM_take 74 = .ok (.aload_n 0, 1) := by decide +kernel
theorem dM_take_75 : decode cM_take 75 = .ok (.bipush 24, 2) := by decide +kernel
theorem dM_take_77 : decode cM_take 77 = .ok (.iload_n 1, 1) := by decide +kernel
theorem dM_take_78 : decode cM_take 78 = .ok (.imul, 1) := by decide +kernel
theorem dM_take_79 : decode cM_take 79 = .ok (.iload_n 2, 1) := by decide +kernel
theorem dM_take_80 : decode cM_take 80 = .ok (.iadd, 1) := by decide +kernel
theorem dM_take_81 : decode cM_take 81 = .ok (.ldc 68, 2) := by decide +kernel
theorem dM_take_83 : decode cM_take 83 = .ok (.invokevirtual 114, 3) := by decide +kernel
theorem dM_take_86 : decode cM_take 86 = .ok (.iload_n 3, 1) := by decide +kernel
theorem dM_take_87 : decode cM_take 87 = .ok (.ireturn, 1) := by decide +kernel
theorem dM_arc_0 : decode cM_arc 0 = .ok (.aload_n 0, 1) := by decide +kernel
theorem dM_arc_1 : decode cM_arc 1 = .ok (.iconst 0, 1) := by decide +kernel
theorem dM_arc_2 : decode cM_arc 2 = .ok (.putfield 1, 3) := by decide +kernel
theorem dM_arc_5 : decode cM_arc 5 = .ok (.aload_n 0, 1) := by decide +kernel
theorem dM_arc_6 : decode cM_arc 6 = .ok (.iload_n 1, 1) := by decide +kernel
theorem dM_arc_7 : decode cM_arc 7 = .ok (.invokevirtual 106, 3) := by decide +kernel
theorem dM_arc_10 : decode cM_arc 10 = .ok (.ifCond .ne 16, 3) := by decide +kernel
theorem dM_arc_13 : decode cM_arc 13 = .ok (.aload_n 0, 1) := by decide +kernel
theorem dM_arc_14 : decode cM_arc 14 = .ok (.iload_n 2, 1) := by decide +kernel
theorem dM_arc_15 : decode cM_arc 15 = .ok (.invokevirtual 106, 3) := by decide +kernel
theorem dM_arc_18 : decode cM_arc 18 = .ok (.ifCond .ne 8, 3) := by decide +kernel
theorem dM_arc_21 : decode cM_arc 21 = .ok (.iload_n 1, 1) := by decide +kernel
theorem dM_arc_22 : decode cM_arc 22 = .ok (.iload_n 2, 1) := by decide +kernel
theorem dM_arc_23 : decode cM_arc 23 = .ok (.if_icmp .ne 6, 3) := by decide +kernel
theorem dM_arc_26 : decode cM_arc 26 = .ok (.ldc 102, 2) := by decide +kernel
theorem dM_arc_28 : decode cM_arc 28 = .ok (.ireturn, 1) := by decide +kernel
theorem dM_arc_29 : decode cM_arc 29 = .ok (.aload_n 0, 1) := by decide +kernel
theorem dM_arc_30 : decode cM_arc 30 = .ok (.getfield 13, 3) := by decide +kernel
theorem dM_arc_33 : decode cM_arc 33 = .ok (.bipush 24, 2) := by decide +kernel
theorem dM_arc_35 : decode cM_arc 35 = .ok (.iload_n 1, 1) := by decide +kernel
theorem dM_arc_36 : decode cM_arc 36 = .ok (.imul, 1) := by decide +kernel
theorem dM_arc_37 : decode cM_arc 37 = .ok (.iload_n 2, 1) := by decide +kernel
theorem dM_arc_38 : decode cM_arc 38 = .ok (.iadd, 1) := by decide +kernel
theorem dM_arc_39 : decode cM_arc 39 = .ok (.iaload, 1) := by decide +kernel
theorem dM_arc_40 : decode cM_arc 40 = .ok (.ldc 68, 2) := by decide +kernel
theorem dM_arc_42 : decode cM_arc 42 = .ok (.if_icmp .ne 8, 3) := by decide +kernel
theorem dM_arc_45 : decode cM_arc 45 = .ok (.ldc 79, 2) := by decide +kernel
theorem dM_arc_47 : decode cM_arc 47 = .ok (.goto 14, 3) := by decide +kernel
theorem dM_arc_50 : decode cM_arc 50 = .ok (.aload_n 0, 1) := by decide +kernel
theorem dM_arc_51 : decode cM_arc 51 = .ok (.getfield 13, 3) := by decide +kernel
theorem dM_arc_54 : decode cM_arc 54 = .ok (.bipush 24, 2) := by decide +kernel
theorem dM_arc_56 : decode cM_arc 56 = .ok (.iload_n 1, 1) := by decide +kernel
theorem dM_arc_57 : decode cM_arc 57 = .ok (.imul, 1) := by decide +kernel
theorem dM_arc_58 : decode cM_arc 58 = .ok (.iload_n 2, 1) := by decide +kernel
theorem dM_arc_59 : decode cM_arc 59 = .ok (.iadd, 1) := by decide +kernel
theorem dM_arc_60 : decode cM_arc 60 = .ok (.iaload, 1) := by decide +kernel
theorem dM_arc_61 : decode cM_arc 61 = .ok (.ireturn, 1) := by decide +kernel
theorem dM_begin_0 : decode cM_begin 0 = .ok (.aload_n 0, 1) := by decide +kernel
theorem dM_begin_1 : decode cM_begin 1 = .ok (.iconst 0, 1) := by decide +kernel
theorem dM_begin_2 : decode cM_begin 2 = .ok (.putfield 1, 3) := by decide +kernel
theorem dM_begin_5 : decode cM_begin 5 = .ok (.aload_n 0, 1) := by decide +kernel
theorem dM_begin_6 : decode cM_begin 6 = .ok (.getfield 84, 3) := by decide +kernel
theorem dM_begin_9 : decode cM_begin 9 = .ok (.ifCond .eq 6, 3) := by decide +kernel
theorem dM_begin_12 : decode cM_begin 12 = .ok (.ldc 100, 2) := by decide +kernel
theorem dM_begin_14 : decode cM_begin 14 = .ok (.ireturn, 1) := by decide +kernel
theorem dM_begin_15 : decode cM_begin 15 = .ok (.aload_n 0, 1) := by decide +kernel
theorem dM_begin_16 : decode cM_begin 16 = .ok (.iconst 1, 1) := by decide +kernel
theorem dM_begin_17 : decode cM_begin 17 = .ok (.putfield 84, 3) := by decide +kernel
theorem dM_begin_20 : decode cM_begin 20 = .ok (.aload_n 0, 1) := by decide +kernel
theorem dM_begin_21 : decode cM_begin 21 = .ok (.getfield 56, 3) := by decide +kernel
theorem dM_begin_24 : decode cM_begin 24 = .ok (.aload_n 0, 1) := by decide +kernel
theorem dM_begin_25 : decode cM_begin 25 = .ok (.getfield 88, 3) := by decide +kernel
theorem dM_begin_28 : decode cM_begin 28 = .ok (.iconst 0, 1) := by decide +kernel
theorem dM_begin_29 : decode cM_begin 29 = .ok (.iastore, 1) := by decide +kernel
theorem dM_begin_30 : decode cM_begin 30 = .ok (.iconst 1, 1) := by decide +kernel
theorem dM_begin_31 : decode cM_begin 31 = .ok (.ireturn, 1) := by decide +kernel
theorem dM_end_0 : decode cM_end 0 = .ok (.aload_n 0, 1) := by decide +kernel
theorem dM_end_1 : decode cM_end 1 = .ok (.iconst 0, 1) := by decide +kernel
theorem dM_end_2 : decode cM_end 2 = .ok (.putfield 1, 3) := by decide +kernel
theorem dM_end_5 : decode cM_end 5 = .ok (.aload_n 0, 1) := by decide +kernel
theorem dM_end_6 : decode cM_end 6 = .ok (.getfield 84, 3) := by decide +kernel
theorem dM_end_9 : decode cM_end 9 = .ok (.ifCond .ne 6, 3) := by decide +kernel
theorem dM_end_12 : decode cM_end 12 = .ok (.ldc 100, 2) := by decide +kernel
theorem dM_end_14 : decode cM_end 14 = .ok (.ireturn, 1) := by decide +kernel
theorem dM_end_15 : decode cM_end 15 = .ok (.aload_n 0, 1) := by decide +kernel
theorem dM_end_16 : decode cM_end 16 = .ok (.iconst 0, 1) := by decide +kernel
theorem dM_end_17 : decode cM_end 17 = .ok (.putfield 84, 3) := by decide +kernel
theorem dM_end_20 : decode cM_end 20 = .ok (.aload_n 0, 1) := by decide +kernel
theorem dM_end_21 : decode cM_end 21 = .ok (.getfield 56, 3) := by decide +kernel
theorem dM_end_24 : decode cM_end 24 = .ok (.aload_n 0, 1) := by decide +kernel
theorem dM_end_25 : decode cM_end 25 = .ok (.getfield 88, 3) := by decide +kernel
theorem dM_end_28 : decode cM_end 28 = .ok (.iaload, 1) := by decide +kernel
theorem dM_end_29 : decode cM_end 29 = .ok (.istore_n 1, 1) := by decide +kernel
theorem dM_end_30 : decode cM_end 30 = .ok (.iload_n 1, 1) := by decide +kernel
theorem dM_end_31 : decode cM_end 31 = .ok (.ifCond .le 7, 3) := by decide +kernel
theorem dM_end_34 : decode cM_end 34 = .ok (.aload_n 0, 1) := by decide +kernel
theorem dM_end_35 : decode cM_end 35 = .ok (.invokevirtual 94, 3) := by decide +kernel
theorem dM_end_38 : decode cM_end 38 = .ok (.aload_n 0, 1) := by decide +kernel
theorem dM_end_39 : decode cM_end 39 = .ok (.invokevirtual 97, 3) := by decide +kernel
theorem dM_end_42 : decode cM_end 42 = .ok (.iload_n 1, 1) := by decide +kernel
theorem dM_end_43 : decode cM_end 43 = .ok (.ireturn, 1) := by decide +kernel
theorem dM_undo_0 : decode cM_undo 0 = .ok (.aload_n 0, 1) := by decide +kernel
theorem dM_undo_1 : decode cM_undo 1 = .ok (.iconst 0, 1) := by decide +kernel
theorem dM_undo_2 : decode cM_undo 2 = .ok (.putfield 1, 3) := by decide +kernel
theorem dM_undo_5 : decode cM_undo 5 = .ok (.aload_n 0, 1) := by decide +kernel
theorem dM_undo_6 : decode cM_undo 6 = .ok (.getfield 84, 3) := by decide +kernel
theorem dM_undo_9 : decode cM_undo 9 = .ok (.ifCond .eq 6, 3) := by decide +kernel
theorem dM_undo_12 : decode cM_undo 12 = .ok (.ldc 100, 2) := by decide +kernel
theorem dM_undo_14 : decode cM_undo 14 = .ok (.ireturn, 1) := by decide +kernel
theorem dM_undo_15 : decode cM_undo 15 = .ok (.aload_n 0, 1) := by decide +kernel
theorem dM_undo_16 : decode cM_undo 16 = .ok (.getfield 88, 3) := by decide +kernel
theorem dM_undo_19 : decode cM_undo 19 = .ok (.ifCond .ne 6, 3) := by decide +kernel
theorem dM_undo_22 : decode cM_undo 22 = .ok (.ldc 79, 2) := by decide +kernel
theorem dM_undo_24 : decode cM_undo 24 = .ok (.ireturn, 1) := by decide +kernel
theorem dM_undo_25 : decode cM_undo 25 = .ok (.aload_n 0, 1) := by decide +kernel
theorem dM_undo_26 : decode cM_undo 26 = .ok (.dup, 1) := by decide +kernel
theorem dM_undo_27 : decode cM_undo 27 = .ok (.getfield 88, 3) := by decide +kernel
theorem dM_undo_30 : decode cM_undo 30 = .ok (.iconst 1, 1) := by decide +kernel
theorem dM_undo_31 : decode cM_undo 31 = .ok (.isub, 1) := by decide +kernel
theorem dM_undo_32 : decode cM_undo 32 = .ok (.putfield 88, 3) := by decide +kernel
theorem dM_undo_35 : decode cM_undo 35 = .ok (.aload_n 0, 1) := by decide +kernel
theorem dM_undo_36 : decode cM_undo 36 = .ok (.getfield 56, 3) := by decide +kernel
theorem dM_undo_39 : decode cM_undo 39 = .ok (.aload_n 0, 1) := by decide +kernel
theorem dM_undo_40 : decode cM_undo 40 = .ok (.getfield 88, 3) := by decide +kernel
theorem dM_undo_43 : decode cM_undo 43 = .ok (.iaload, 1) := by decide +kernel
theorem dM_undo_44 : decode cM_undo 44 = .ok (.iconst 1, 1) := by decide +kernel
theorem dM_undo_45 : decode cM_undo 45 = .ok (.isub, 1) := by decide +kernel
theorem dM_undo_46 : decode cM_undo 46 = .ok (.istore_n 1, 1) := by decide +kernel
theorem dM_undo_47 : decode cM_undo 47 = .ok (.iload_n 1, 1) := by decide +kernel
theorem dM_undo_48 : decode cM_undo 48 = .ok (.ifCond .lt 42, 3) := by decide +kernel
theorem dM_undo_51 : decode cM_undo 51 = .ok (.aload_n 0, 1) := by decide +kernel
theorem dM_undo_52 : decode cM_undo 52 = .ok (.getfield 13, 3) := by decide +kernel
theorem dM_undo_55 : decode cM_undo 55 = .ok (.aload_n 0, 1) := by decide +kernel
theorem dM_undo_56 : decode cM_undo 56 = .ok (.getfield 59, 3) := by decide +kernel
theorem dM_undo_59 : decode cM_undo 59 = .ok (.bipush 30, 2) := by decide +kernel
theorem dM_undo_61 : decode cM_undo 61 = .ok (.aload_n 0, 1) := by decide +kernel
theorem dM_undo_62 : decode cM_undo 62 = .ok (.getfield 88, 3) := by decide +kernel
theorem dM_undo_65 : decode cM_undo 65 = .ok (.imul, 1) := by decide +kernel
theorem dM_undo_66 : decode cM_undo 66 = .ok (.iload_n 1, 1) := by decide +kernel
theorem dM_undo_67 : decode cM_undo 67 = .ok (.iadd, 1) := by decide +kernel
theorem dM_undo_68 : decode cM_undo 68 = .ok (.iaload, 1) := by decide +kernel
theorem dM_undo_69 : decode cM_undo 69 = .ok (.aload_n 0, 1) := by decide +kernel
theorem dM_undo_70 : decode cM_undo 70 = .ok (.getfield 62, 3) := by decide +kernel
theorem dM_undo_73 : decode cM_undo 73 = .ok (.bipush 30, 2) := by decide +kernel
theorem dM_undo_75 : decode cM_undo 75 = .ok (.aload_n 0, 1) := by decide +kernel
theorem dM_undo_76 : decode cM_undo 76 = .ok (.getfield 88, 3) := by decide +kernel
theorem dM_undo_79 : decode cM_undo 79 = .ok (.imul, 1) := by decide +kernel
theorem dM_undo_80 : decode cM_undo 80 = .ok (.iload_n 1, 1) := by decide +kernel
theorem dM_undo_81 : decode cM_undo 81 = .ok (.iadd, 1) := by decide +kernel
theorem dM_undo_82 : decode cM_undo 82 = .ok (.iaload, 1) := by decide +kernel
theorem dM_undo_83 : decode cM_undo 83 = .ok (.iastore, 1) := by decide +kernel
theorem dM_undo_84 : decode cM_undo 84 = .ok (.iinc 1 (-1), 3) := by decide +kernel
theorem dM_undo_87 : decode cM_undo 87 = .ok (.goto (-40), 3) := by decide +kernel
theorem dM_undo_90 : decode cM_undo 90 = .ok (.aload_n 0, 1) := by decide +kernel
theorem dM_undo_91 : decode cM_undo 91 = .ok (.invokevirtual 97, 3) := by decide +kernel
theorem dM_undo_94 : decode cM_undo 94 = .ok (.aload_n 0, 1) := by decide +kernel
theorem dM_undo_95 : decode cM_undo 95 = .ok (.getfield 88, 3) := by decide +kernel
theorem dM_undo_98 : decode cM_undo 98 = .ok (.ireturn, 1) := by decide +kernel
theorem dM_isBad_0 : decode cM_isBad 0 = .ok (.iload_n 1, 1) := by decide +kernel
theorem dM_isBad_1 : decode cM_isBad 1 = .ok (.iconst 0, 1) := by decide +kernel
theorem dM_isBad_2 : decode cM_isBad 2 = .ok (.iconst 2, 1) := by decide +kernel
theorem dM_isBad_3 : decode cM_isBad 3 = .ok (.invokestatic 75, 3) := by decide +kernel
theorem dM_isBad_6 : decode cM_isBad 6 = .ok (.ifCond .eq 11, 3) := by decide +kernel
theorem dM_isBad_9 : decode cM_isBad 9 = .ok (.aload_n 0, 1) := by decide +kernel
theorem dM_isBad_10 : decode cM_isBad 10 = .ok (.iload_n 2, 1) := by decide +kernel
theorem dM_isBad_11 : decode cM_isBad 11 = .ok (.invokevirtual 106, 3) := by decide +kernel
theorem dM_isBad_14 : decode cM_isBad 14 = .ok (.ifCond .eq 7, 3) := by decide +kernel
theorem dM_isBad_17 : decode cM_isBad 17 = .ok (.iconst 1, 1) := by decide +kernel
theorem dM_isBad_18 : decode cM_isBad 18 = .ok (.goto 4, 3) := by decide +kernel
theorem dM_isBad_21 : decode cM_isBad 21 = .ok (.iconst 0, 1) := by decide +kernel
theorem dM_isBad_22 : decode cM_isBad 22 = .ok (.ireturn, 1) := by decide +kernel
theorem dM_distance_0 : decode cM_distance 0 = .ok (.aload_n 0, 1) := by decide +kernel
theorem dM_distance_1 : decode cM_distance 1 = .ok (.iconst 0, 1) := by decide +kernel
theorem dM_distance_2 : decode cM_distance 2 = .ok (.putfield 1, 3) := by decide +kernel
theorem dM_distance_5 : decode cM_distance 5 = .ok (.aload_n 0, 1) := by decide +kernel
theorem dM_distance_6 : decode cM_distance 6 = .ok (.iload_n 1, 1) := by decide +kernel
theorem dM_distance_7 : decode cM_distance 7 = .ok (.iload_n 2, 1) := by decide +kernel
theorem dM_distance_8 : decode cM_distance 8 = .ok (.invokevirtual 118, 3) := by decide +kernel
theorem dM_distance_11 : decode cM_distance 11 = .ok (.ifCond .eq 8, 3) := by decide +kernel
theorem dM_distance_14 : decode cM_distance 14 = .ok (.ldc 102, 2) := by decide +kernel
theorem dM_distance_16 : decode cM_distance 16 = .ok (.goto 14, 3) := by decide +kernel
theorem dM_distance_19 : decode cM_distance 19 = .ok (.aload_n 0, 1) := by decide +kernel
theorem dM_distance_20 : decode cM_distance 20 = .ok (.getfield 20, 3) := by decide +kernel
theorem dM_distance_23 : decode cM_distance 23 = .ok (.bipush 24, 2) := by decide +kernel
theorem dM_distance_25 : decode cM_distance 25 = .ok (.iload_n 1, 1) := by decide +kernel
theorem dM_distance_26 : decode cM_distance 26 = .ok (.imul, 1) := by decide +kernel
theorem dM_distance_27 : decode cM_distance 27 = .ok (.iload_n 2, 1) := by decide +kernel
theorem dM_distance_28 : decode cM_distance 28 = .ok (.iadd, 1) := by decide +kernel
theorem dM_distance_29 : decode cM_distance 29 = .ok (.iaload, 1) := by decide +kernel
theorem dM_distance_30 : decode cM_distance 30 = .ok (.ireturn, 1) := by decide +kernel
theorem dM_hops_0 : decode cM_hops 0 = .ok (.aload_n 0, 1) := by decide +kernel
theorem dM_hops_1 : decode cM_hops 1 = .ok (.iconst 0, 1) := by decide +kernel
theorem dM_hops_2 : decode cM_hops 2 = .ok (.putfield 1, 3) := by decide +kernel
theorem dM_hops_5 : decode cM_hops 5 = .ok (.aload_n 0, 1) := by decide +kernel
theorem dM_hops_6 : decode cM_hops 6 = .ok (.iload_n 1, 1) := by decide +kernel
theorem dM_hops_7 : decode cM_hops 7 = .ok (.iload_n 2, 1) := by decide +kernel
theorem dM_hops_8 : decode cM_hops 8 = .ok (.invokevirtual 118, 3) := by decide +kernel
theorem dM_hops_11 : decode cM_hops 11 = .ok (.ifCond .eq 8, 3) := by decide +kernel
theorem dM_hops_14 : decode cM_hops 14 = .ok (.ldc 102, 2) := by decide +kernel
theorem dM_hops_16 : decode cM_hops 16 = .ok (.goto 14, 3) := by decide +kernel
theorem dM_hops_19 : decode cM_hops 19 = .ok (.aload_n 0, 1) := by decide +kernel
theorem dM_hops_20 : decode cM_hops 20 = .ok (.getfield 23, 3) := by decide +kernel
theorem dM_hops_23 : decode cM_hops 23 = .ok (.bipush 24, 2) := by decide +kernel
theorem dM_hops_25 : decode cM_hops 25 = .ok (.iload_n 1, 1) := by decide +kernel
theorem dM_hops_26 : decode cM_hops 26 = .ok (.imul, 1) := by decide +kernel
theorem dM_hops_27 : decode cM_hops 27 = .ok (.iload_n 2, 1) := by decide +kernel
theorem dM_hops_28 : decode cM_hops 28 = .ok (.iadd, 1) := by decide +kernel
theorem dM_hops_29 : decode cM_hops 29 = .ok (.iaload, 1) := by decide +kernel
theorem dM_hops_30 : decode cM_hops 30 = .ok (.ireturn, 1) := by decide +kernel
theorem dM_parent_0 : decode cM_parent 0 = .ok (.aload_n 0, 1) := by decide +kernel
theorem dM_parent_1 : decode cM_parent 1 = .ok (.iconst 0, 1) := by decide +kernel
theorem dM_parent_2 : decode cM_parent 2 = .ok (.putfield 1, 3) := by decide +kernel
theorem dM_parent_5 : decode cM_parent 5 = .ok (.aload_n 0, 1) := by decide +kernel
theorem dM_parent_6 : decode cM_parent 6 = .ok (.iload_n 1, 1) := by decide +kernel
theorem dM_parent_7 : decode cM_parent 7 = .ok (.iload_n 2, 1) := by decide +kernel
theorem dM_parent_8 : decode cM_parent 8 = .ok (.invokevirtual 118, 3) := by decide +kernel
theorem dM_parent_11 : decode cM_parent 11 = .ok (.ifCond .eq 8, 3) := by decide +kernel
theorem dM_parent_14 : decode cM_parent 14 = .ok (.ldc 102, 2) := by decide +kernel
theorem dM_parent_16 : decode cM_parent 16 = .ok (.goto 14, 3) := by decide +kernel
theorem dM_parent_19 : decode cM_parent 19 = .ok (.aload_n 0, 1) := by decide +kernel
theorem dM_parent_20 : decode cM_parent 20 = .ok (.getfield 26, 3) := by decide +kernel
theorem dM_parent_23 : decode cM_parent 23 = .ok (.bipush 24, 2) := by decide +kernel
theorem dM_parent_25 : decode cM_parent 25 = .ok (.iload_n 1, 1) := by decide +kernel
theorem dM_parent_26 : decode cM_parent 26 = .ok (.imul, 1) := by decide +kernel
theorem dM_parent_27 : decode cM_parent 27 = .ok (.iload_n 2, 1) := by decide +kernel
theorem dM_parent_28 : decode cM_parent 28 = .ok (.iadd, 1) := by decide +kernel
theorem dM_parent_29 : decode cM_parent 29 = .ok (.iaload, 1) := by decide +kernel
theorem dM_parent_30 : decode cM_parent 30 = .ok (.ireturn, 1) := by decide +kernel
theorem dM_way_0 : decode cM_way 0 = .ok (.aload_n 0, 1) := by decide +kernel
theorem dM_way_1 : decode cM_way 1 = .ok (.iconst 0, 1) := by decide +kernel
theorem dM_way_2 : decode cM_way 2 = .ok (.putfield 1, 3) := by decide +kernel
theorem dM_way_5 : decode cM_way 5 = .ok (.aload_n 0, 1) := by decide +kernel
theorem dM_way_6 : decode cM_way 6 = .ok (.iload_n 1, 1) := by decide +kernel
theorem dM_way_7 : decode cM_way 7 = .ok (.iload_n 2, 1) := by decide +kernel
theorem dM_way_8 : decode cM_way 8 = .ok (.invokevirtual 118, 3) := by decide +kernel
theorem dM_way_11 : decode cM_way 11 = .ok (.ifCond .eq 6, 3) := by decide +kernel
theorem dM_way_14 : decode cM_way 14 = .ok (.ldc 102, 2) := by decide +kernel
theorem dM_way_16 : decode cM_way 16 = .ok (.ireturn, 1) := by decide +kernel
theorem dM_way_17 : decode cM_way 17 = .ok (.aload_n 0, 1) := by decide +kernel
theorem dM_way_18 : decode cM_way 18 = .ok (.getfield 23, 3) := by decide +kernel
theorem dM_way_21 : decode cM_way 21 = .ok (.bipush 24, 2) := by decide +kernel
theorem dM_way_23 : decode cM_way 23 = .ok (.iload_n 1, 1) := by decide +kernel
theorem dM_way_24 : decode cM_way 24 = .ok (.imul, 1) := by decide +kernel
theorem dM_way_25 : decode cM_way 25 = .ok (.iload_n 2, 1) := by decide +kernel
theorem dM_way_26 : decode cM_way 26 = .ok (.iadd, 1) := by decide +kernel
theorem dM_way_27 : decode cM_way 27 = .ok (.iaload, 1) := by decide +kernel
theorem dM_way_28 : decode cM_way 28 = .ok (.istore 4, 2) := by decide +kernel
theorem dM_way_30 : decode cM_way 30 = .ok (.iload 4, 2) := by decide +kernel
theorem dM_way_32 : decode cM_way 32 = .ok (.ldc 79, 2) := by decide +kernel
theorem dM_way_34 : decode cM_way 34 = .ok (.if_icmp .ne 6, 3) := by decide +kernel
theorem dM_way_37 : decode cM_way 37 = .ok (.ldc 79, 2) := by decide +kernel
theorem dM_way_39 : decode cM_way 39 = .ok (.ireturn, 1) := by decide +kernel
theorem dM_way_40 : decode cM_way 40 = .ok (.iload_n 3, 1) := by decide +kernel
theorem dM_way_41 : decode cM_way 41 = .ok (.iconst (-1), 1) := by decide +kernel
theorem dM_way_42 : decode cM_way 42 = .ok (.iload 4, 2) := by decide +kernel
theorem dM_way_44 : decode cM_way 44 = .ok (.invokestatic 75, 3) := by decide +kernel
theorem dM_way_47 : decode cM_way 47 = .ok (.ifCond .ne 6, 3) := by decide +kernel
theorem dM_way_50 : decode cM_way 50 = .ok (.ldc 102, 2) := by decide +kernel
theorem dM_way_52 : decode cM_way 52 = .ok (.ireturn, 1) := by decide +kernel
theorem dM_way_53 : decode cM_way 53 = .ok (.iload_n 2, 1) := by decide +kernel
theorem dM_way_54 : decode cM_way 54 = .ok (.istore 5, 2) := by decide +kernel
theorem dM_way_56 : decode cM_way 56 = .ok (.iload 4, 2) := by decide +kernel
theorem dM_way_58 : decode cM_way 58 = .ok (.istore 6, 2) := by decide +kernel
theorem dM_way_60 : decode cM_way 60 = .ok (.iload 6, 2) := by decide +kernel
theorem dM_way_62 : decode cM_way 62 = .ok (.iload_n 3, 1) := by decide +kernel
theorem dM_way_63 : decode cM_way 63 = .ok (.if_icmp .le 27, 3) := by decide +kernel
theorem dM_way_66 : decode cM_way 66 = .ok (.iload_n 3, 1) := by decide +kernel
theorem dM_way_67 : decode cM_way 67 = .ok (.ifCond .lt 23, 3) := by decide +kernel
theorem dM_way_70 : decode cM_way 70 = .ok (.aload_n 0, 1) := by decide +kernel
theorem dM_way_71 : decode cM_way 71 = .ok (.getfield 26, 3) := by decide +kernel
theorem dM_way_74 : decode cM_way 74 = .ok (.bipush 24, 2) := by decide +kernel
theorem dM_way_76 : decode cM_way 76 = .ok (.iload_n 1, 1) := by decide +kernel
theorem dM_way_77 : decode cM_way 77 = .ok (.imul, 1) := by decide +kernel
theorem dM_way_78 : decode cM_way 78 = .ok (.iload 5, 2) := by decide +kernel
theorem dM_way_80 : decode cM_way 80 = .ok (.iadd, 1) := by decide +kernel
theorem dM_way_81 : decode cM_way 81 = .ok (.iaload, 1) := by decide +kernel
theorem dM_way_82 : decode cM_way 82 = .ok (.istore 5, 2) := by decide +kernel
theorem dM_way_84 : decode cM_way 84 = .ok (.iinc 6 (-1), 3) := by decide +kernel
theorem dM_way_87 : decode cM_way 87 = .ok (.goto (-27), 3) := by decide +kernel
theorem dM_way_90 : decode cM_way 90 = .ok (.iload_n 3, 1) := by decide +kernel
theorem dM_way_91 : decode cM_way 91 = .ok (.ifCond .ge 10, 3) := by decide +kernel
theorem dM_way_94 : decode cM_way 94 = .ok (.iload 4, 2) := by decide +kernel
theorem dM_way_96 : decode cM_way 96 = .ok (.iconst 1, 1) := by decide +kernel
theorem dM_way_97 : decode cM_way 97 = .ok (.iadd, 1) := by decide +kernel
theorem dM_way_98 : decode cM_way 98 = .ok (.goto 5, 3) := by decide +kernel
theorem dM_way_101 : decode cM_way 101 = .ok (.iload 5, 2) := by decide +kernel
theorem dM_way_103 : decode cM_way 103 = .ok (.ireturn, 1) := by decide +kernel
theorem dM_affected_0 : decode cM_affected 0 = .ok (.aload_n 0, 1) := by decide +kernel
theorem dM_affected_1 : decode cM_affected 1 = .ok (.iconst 0, 1) := by decide +kernel
theorem dM_affected_2 : decode cM_affected 2 = .ok (.putfield 1, 3) := by decide +kernel
theorem dM_affected_5 : decode cM_affected 5 = .ok (.iload_n 1, 1) := by decide +kernel
theorem dM_affected_6 : decode cM_affected 6 = .ok (.iconst 0, 1) := by decide +kernel
theorem dM_affected_7 : decode cM_affected 7 = .ok (.iconst 2, 1) := by decide +kernel
theorem dM_affected_8 : decode cM_affected 8 = .ok (.invokestatic 75, 3) := by decide +kernel
theorem dM_affected_11 : decode cM_affected 11 = .ok (.ifCond .eq 12, 3) := by decide +kernel
theorem dM_affected_14 : decode cM_affected 14 = .ok (.aload_n 0, 1) := by decide +kernel
theorem dM_affected_15 : decode cM_affected 15 = .ok (.getfield 32, 3) := by decide +kernel
theorem dM_affected_18 : decode cM_affected 18 = .ok (.iload_n 1, 1) := by decide +kernel
theorem dM_affected_19 : decode cM_affected 19 = .ok (.iaload, 1) := by decide +kernel
theorem dM_affected_20 : decode cM_affected 20 = .ok (.goto 5, 3) := by decide +kernel
theorem dM_affected_23 : decode cM_affected 23 = .ok (.ldc 102, 2) := by decide +kernel
theorem dM_affected_25 : decode cM_affected 25 = .ok (.ireturn, 1) := by decide +kernel
theorem dM_tight_0 : decode cM_tight 0 = .ok (.aload_n 0, 1) := by decide +kernel
theorem dM_tight_1 : decode cM_tight 1 = .ok (.iconst 0, 1) := by decide +kernel
theorem dM_tight_2 : decode cM_tight 2 = .ok (.putfield 1, 3) := by decide +kernel
theorem dM_tight_5 : decode cM_tight 5 = .ok (.iload_n 1, 1) := by decide +kernel
theorem dM_tight_6 : decode cM_tight 6 = .ok (.iconst 0, 1) := by decide +kernel
theorem dM_tight_7 : decode cM_tight 7 = .ok (.iconst 2, 1) := by decide +kernel
theorem dM_tight_8 : decode cM_tight 8 = .ok (.invokestatic 75, 3) := by decide +kernel
theorem dM_tight_11 : decode cM_tight 11 = .ok (.ifCond .eq 12, 3) := by decide +kernel
theorem dM_tight_14 : decode cM_tight 14 = .ok (.aload_n 0, 1) := by decide +kernel
theorem dM_tight_15 : decode cM_tight 15 = .ok (.getfield 29, 3) := by decide +kernel
theorem dM_tight_18 : decode cM_tight 18 = .ok (.iload_n 1, 1) := by decide +kernel
theorem dM_tight_19 : decode cM_tight 19 = .ok (.iaload, 1) := by decide +kernel
theorem dM_tight_20 : decode cM_tight 20 = .ok (.goto 5, 3) := by decide +kernel
theorem dM_tight_23 : decode cM_tight 23 = .ok (.ldc 102, 2) := by decide +kernel
theorem dM_tight_25 : decode cM_tight 25 = .ok (.ireturn, 1) := by decide +kernel
theorem dM_ring_0 : decode cM_ring 0 = .ok (.aload_n 0, 1) := by decide +kernel
theorem dM_ring_1 : decode cM_ring 1 = .ok (.iconst 0, 1) := by decide +kernel
theorem dM_ring_2 : decode cM_ring 2 = .ok (.putfield 1, 3) := by decide +kernel
theorem dM_ring_5 : decode cM_ring 5 = .ok (.iload_n 1, 1) := by decide +kernel
theorem dM_ring_6 : decode cM_ring 6 = .ok (.iconst (-1), 1) := by decide +kernel
theorem dM_ring_7 : decode cM_ring 7 = .ok (.aload_n 0, 1) := by decide +kernel
theorem dM_ring_8 : decode cM_ring 8 = .ok (.getfield 103, 3) := by decide +kernel
theorem dM_ring_11 : decode cM_ring 11 = .ok (.iconst 1, 1) := by decide +kernel
theorem dM_ring_12 : decode cM_ring 12 = .ok (.isub, 1) := by decide +kernel
theorem dM_ring_13 : decode cM_ring 13 = .ok (.invokestatic 75, 3) := by decide +kernel
theorem dM_ring_16 : decode cM_ring 16 = .ok (.ifCond .ne 8, 3) := by decide +kernel
theorem dM_ring_19 : decode cM_ring 19 = .ok (.ldc 102, 2) := by decide +kernel
theorem dM_ring_21 : decode cM_ring 21 = .ok (.goto 20, 3) := by decide +kernel
theorem dM_ring_24 : decode cM_ring 24 = .ok (.iload_n 1, 1) := by decide +kernel
theorem dM_ring_25 : decode cM_ring 25 = .ok (.ifCond .ge 10, 3) := by decide +kernel
theorem dM_ring_28 : decode cM_ring 28 = .ok (.aload_n 0, 1) := by decide +kernel
theorem dM_ring_29 : decode cM_ring 29 = .ok (.getfield 103, 3) := by decide +kernel
theorem dM_ring_32 : decode cM_ring 32 = .ok (.goto 9, 3) := by decide +kernel
theorem dM_ring_35 : decode cM_ring 35 = .ok (.aload_n 0, 1) := by decide +kernel
theorem dM_ring_36 : decode cM_ring 36 = .ok (.getfield 65, 3) := by decide +kernel
theorem dM_ring_39 : decode cM_ring 39 = .ok (.iload_n 1, 1) := by decide +kernel
theorem dM_ring_40 : decode cM_ring 40 = .ok (.iaload, 1) := by decide +kernel
theorem dM_ring_41 : decode cM_ring 41 = .ok (.ireturn, 1) := by decide +kernel
theorem dM_count1_0 : decode cM_count1 0 = .ok (.aload_n 0, 1) := by decide +kernel
theorem dM_count1_1 : decode cM_count1 1 = .ok (.iconst 0, 1) := by decide +kernel
theorem dM_count1_2 : decode cM_count1 2 = .ok (.putfield 1, 3) := by decide +kernel
theorem dM_count1_5 : decode cM_count1 5 = .ok (.iconst 0, 1) := by decide +kernel
theorem dM_count1_6 : decode cM_count1 6 = .ok (.istore_n 2, 1) := by decide +kernel
theorem dM_count1_7 : decode cM_count1 7 = .ok (.iload_n 1, 1) := by decide +kernel
theorem dM_count1_8 : decode cM_count1 8 = .ok (.tableswitch 125 0 5 #[40, 45, 81, 86, 107, 120], 40) := by decide +kernel
theorem dM_count1_48 : decode cM_count1 48 = .ok (.aload_n 0, 1) := by decide +kernel
theorem dM_count1_49 : decode cM_count1 49 = .ok (.getfield 72, 3) := by decide +kernel
theorem dM_count1_52 : decode cM_count1 52 = .ok (.ireturn, 1) := by decide +kernel
theorem dM_count1_53 : decode cM_count1 53 = .ok (.iconst 0, 1) := by decide +kernel
theorem dM_count1_54 : decode cM_count1 54 = .ok (.istore_n 3, 1) := by decide +kernel
theorem dM_count1_55 : decode cM_count1 55 = .ok (.iload_n 3, 1) := by decide +kernel
theorem dM_count1_56 : decode cM_count1 56 = .ok (.sipush 576, 3) := by decide +kernel
theorem dM_count1_59 : decode cM_count1 59 = .ok (.if_icmp .ge 28, 3) := by decide +kernel
theorem dM_count1_62 : decode cM_count1 62 = .ok (.aload_n 0, 1) := by decide +kernel
theorem dM_count1_63 : decode cM_count1 63 = .ok (.getfield 13, 3) := by decide +kernel
theorem dM_count1_66 : decode cM_count1 66 = .ok (.iload_n 3, 1) := by decide +kernel
theorem dM_count1_67 : decode cM_count1 67 = .ok (.iaload, 1) := by decide +kernel
theorem dM_count1_68 : decode cM_count1 68 = .ok (.ldc 68, 2) := by decide +kernel
theorem dM_count1_70 : decode cM_count1 70 = .ok (.if_icmp .eq 9, 3) := by decide +kernel
theorem dM_count1_73 : decode cM_count1 73 = .ok (.iload_n 2, 1) := by decide +kernel
theorem dM_count1_74 : decode cM_count1 74 = .ok (.iconst 1, 1) := by decide +kernel
theorem dM_count1_75 : decode cM_count1 75 = .ok (.iadd, 1) := by decide +kernel
theorem dM_count1_76 : decode cM_count1 76 = .ok (.goto 4, 3) := by decide +kernel
theorem dM_count1_79 : decode cM_count1 79 = .ok (.iload_n 2, 1) := by decide +kernel
theorem dM_count1_80 : decode cM_count1 80 = .ok (.istore_n 2, 1) := by decide +kernel
theorem dM_count1_81 : decode cM_count1 81 = .ok (.iinc 3 1, 3) := by decide +kernel
theorem dM_count1_84 : decode cM_count1 84 = .ok (.goto (-29), 3) := by decide +kernel
theorem dM_count1_87 : decode cM_count1 87 = .ok (.iload_n 2, 1) := by decide +kernel
theorem dM_count1_88 : decode cM_count1 88 = .ok (.ireturn, 1) := by decide +kernel
theorem dM_count1_89 : decode cM_count1 89 = .ok (.aload_n 0, 1) := by decide +kernel
theorem dM_count1_90 : decode cM_count1 90 = .ok (.getfield 88, 3) := by decide +kernel
theorem dM_count1_93 : decode cM_count1 93 = .ok (.ireturn, 1) := by decide +kernel
theorem dM_count1_94 : decode cM_count1 94 = .ok (.aload_n 0, 1) := by decide +kernel
theorem dM_count1_95 : decode cM_count1 95 = .ok (.getfield 84, 3) := by decide +kernel
theorem dM_count1_98 : decode cM_count1 98 = .ok (.ifCond .eq 15, 3) := by decide +kernel
theorem dM_count1_101 : decode cM_count1 101 = .ok (.aload_n 0, 1) := by decide +kernel
theorem dM_count1_102 : decode cM_count1 102 = .ok (.getfield 56, 3) := by decide +kernel
theorem dM_count1_105 : decode cM_count1 105 = .ok (.aload_n 0, 1) := by decide +kernel
theorem dM_count1_106 : decode cM_count1 106 = .ok (.getfield 88, 3) := by decide +kernel
theorem dM_count1_109 : decode cM_count1 109 = .ok (.iaload, 1) := by decide +kernel
theorem dM_count1_110 : decode cM_count1 110 = .ok (.goto 4, 3) := by decide +kernel
theorem dM_count1_113 : decode cM_count1 113 = .ok (.iconst 0, 1) := by decide +kernel
theorem dM_count1_114 : decode cM_count1 114 = .ok (.ireturn, 1) := by decide +kernel
theorem dM_count1_115 : decode cM_count1 115 = .ok (.aload_n 0, 1) := by decide +kernel
theorem dM_count1_116 : decode cM_count1 116 = .ok (.getfield 84, 3) := by decide +kernel
theorem dM_count1_119 : decode cM_count1 119 = .ok (.ifCond .eq 7, 3) := by decide +kernel
theorem dM_count1_122 : decode cM_count1 122 = .ok (.iconst 1, 1) := by decide +kernel
theorem dM_count1_123 : decode cM_count1 123 = .ok (.goto 4, 3) := by decide +kernel
theorem dM_count1_126 : decode cM_count1 126 = .ok (.iconst 0, 1) := by decide +kernel
theorem dM_count1_127 : decode cM_count1 127 = .ok (.ireturn, 1) := by decide +kernel
theorem dM_count1_128 : decode cM_count1 128 = .ok (.aload_n 0, 1) := by decide +kernel
theorem dM_count1_129 : decode cM_count1 129 = .ok (.getfield 91, 3) := by decide +kernel
theorem dM_count1_132 : decode cM_count1 132 = .ok (.ireturn, 1) := by decide +kernel
theorem dM_count1_133 : decode cM_count1 133 = .ok (.ldc 102, 2) := by decide +kernel
theorem dM_count1_135 : decode cM_count1 135 = .ok (.ireturn, 1) := by decide +kernel
