theorem dX9_brings_14 : decode cX9_brings 14 = .ok (.iload_n 1, 1) := by decide +kernel
theorem dX9_brings_15 : decode cX9_brings 15 = .ok (.iconst 0, 1) := by decide +kernel
theorem dX9_brings_16 : decode cX9_brings 16 = .ok (.iastore, 1) := by decide +kernel
theorem dX9_brings_17 : decode cX9_brings 17 = .ok (.iinc 1 1, 3) := by decide +kernel
theorem dX9_brings_20 : decode cX9_brings 20 = .ok (.goto (-18), 3) := by decide +kernel
theorem dX9_brings_23 : decode cX9_brings 23 = .ok (.iconst 0, 1) := by decide +kernel
theorem dX9_brings_24 : decode cX9_brings 24 = .ok (.istore_n 1, 1) := by decide +kernel
theorem dX9_brings_25 : decode cX9_brings 25 = .ok (.iload_n 1, 1) := by decide +kernel
theorem dX9_brings_26 : decode cX9_brings 26 = .ok (.aload_n 0, 1) := by decide +kernel
theorem dX9_brings_27 : decode cX9_brings 27 = .ok (.getfield 322, 3) := by decide +kernel
theorem dX9_brings_30 : decode cX9_brings 30 = .ok (.if_icmp .ge 170, 3) := by decide +kernel
theorem dX9_brings_33 : decode cX9_brings 33 = .ok (.aload_n 0, 1) := by decide +kernel
theorem dX9_brings_34 : decode cX9_brings 34 = .ok (.getfield 163, 3) := by decide +kernel
theorem dX9_brings_37 : decode cX9_brings 37 = .ok (.iload_n 1, 1) := by decide +kernel
theorem dX9_brings_38 : decode cX9_brings 38 = .ok (.iaload, 1) := by decide +kernel
theorem dX9_brings_39 : decode cX9_brings 39 = .ok (.aload_n 0, 1) := by decide +kernel
theorem dX9_brings_40 : decode cX9_brings 40 = .ok (.getfield 294, 3) := by decide +kernel
theorem dX9_brings_43 : decode cX9_brings 43 = .ok (.if_icmp .ge 151, 3) := by decide +kernel
theorem dX9_brings_46 : decode cX9_brings 46 = .ok (.aload_n 0, 1) := by decide +kernel
theorem dX9_brings_47 : decode cX9_brings 47 = .ok (.getfield 163, 3) := by decide +kernel
theorem dX9_brings_50 : decode cX9_brings 50 = .ok (.iload_n 1, 1) := by decide +kernel
theorem dX9_brings_51 : decode cX9_brings 51 = .ok (.iaload, 1) := by decide +kernel
theorem dX9_brings_52 : decode cX9_brings 52 = .ok (.istore_n 2, 1) := by decide +kernel
theorem dX9_brings_53 : decode cX9_brings 53 = .ok (.aload_n 0, 1) := by decide +kernel
theorem dX9_brings_54 : decode cX9_brings 54 = .ok (.getfield 133, 3) := by decide +kernel
theorem dX9_brings_57 : decode cX9_brings 57 = .ok (.iload_n 2, 1) := by decide +kernel
theorem dX9_brings_58 : decode cX9_brings 58 = .ok (.iaload, 1) := by decide +kernel
theorem dX9_brings_59 : decode cX9_brings 59 = .ok (.istore_n 3, 1) := by decide +kernel
theorem dX9_brings_60 : decode cX9_brings 60 = .ok (.aload_n 0, 1) := by decide +kernel
theorem dX9_brings_61 : decode cX9_brings 61 = .ok (.getfield 154, 3) := by decide +kernel
theorem dX9_brings_64 : decode cX9_brings 64 = .ok (.iload_n 1, 1) := by decide +kernel
theorem dX9_brings_65 : decode cX9_brings 65 = .ok (.iaload, 1) := by decide +kernel
theorem dX9_brings_66 : decode cX9_brings 66 = .ok (.istore 4, 2) := by decide +kernel
theorem dX9_brings_68 : decode cX9_brings 68 = .ok (.aload_n 0, 1) := by decide +kernel
theorem dX9_brings_69 : decode cX9_brings 69 = .ok (.getfield 136, 3) := by decide +kernel
theorem dX9_brings_72 : decode cX9_brings 72 = .ok (.iload_n 2, 1) := by decide +kernel
theorem dX9_brings_73 : decode cX9_brings 73 = .ok (.iaload, 1) := by decide +kernel
theorem dX9_brings_74 : decode cX9_brings 74 = .ok (.aload_n 0, 1) := by decide +kernel
theorem dX9_brings_75 : decode cX9_brings 75 = .ok (.getfield 127, 3) := by decide +kernel
theorem dX9_brings_78 : decode cX9_brings 78 = .ok (.iload_n 3, 1) := by decide +kernel
theorem dX9_brings_79 : decode cX9_brings 79 = .ok (.iaload, 1) := by decide +kernel
theorem dX9_brings_80 : decode cX9_brings 80 = .ok (.aload_n 0, 1) := by decide +kernel
theorem dX9_brings_81 : decode cX9_brings 81 = .ok (.getfield 97, 3) := by decide +kernel
theorem dX9_brings_84 : decode cX9_brings 84 = .ok (.iload 4, 2) := by decide +kernel
theorem dX9_brings_86 : decode cX9_brings 86 = .ok (.iaload, 1) := by decide +kernel
theorem dX9_brings_87 : decode cX9_brings 87 = .ok (.aload_n 0, 1) := by decide +kernel
theorem dX9_brings_88 : decode cX9_brings 88 = .ok (.getfield 100, 3) := by decide +kernel
theorem dX9_brings_91 : decode cX9_brings 91 = .ok (.iload 4, 2) := by decide +kernel
theorem dX9_brings_93 : decode cX9_brings 93 = .ok (.iaload, 1) := by decide +kernel
theorem dX9_brings_94 : decode cX9_brings 94 = .ok (.isub, 1) := by decide +kernel
theorem dX9_brings_95 : decode cX9_brings 95 = .ok (.invokestatic 325, 3) := by decide +kernel
theorem dX9_brings_98 : decode cX9_brings 98 = .ok (.invokestatic 325, 3) := by decide +kernel
theorem dX9_brings_101 : decode cX9_brings 101 = .ok (.istore 5, 2) := by decide +kernel
theorem dX9_brings_103 : decode cX9_brings 103 = .ok (.aload_n 0, 1) := by decide +kernel
theorem dX9_brings_104 : decode cX9_brings 104 = .ok (.getfield 127, 3) := by decide +kernel
theorem dX9_brings_107 : decode cX9_brings 107 = .ok (.iload_n 3, 1) := by decide +kernel
theorem dX9_brings_108 : decode cX9_brings 108 = .ok (.dup2, 1) := by decide +kernel
theorem dX9_brings_109 : decode cX9_brings 109 = .ok (.iaload, 1) := by decide +kernel
theorem dX9_brings_110 : decode cX9_brings 110 = .ok (.iload 5, 2) := by decide +kernel
theorem dX9_brings_112 : decode cX9_brings 112 = .ok (.isub, 1) := by decide +kernel
theorem dX9_brings_113 : decode cX9_brings 113 = .ok (.iastore, 1) := by decide +kernel
theorem dX9_brings_114 : decode cX9_brings 114 = .ok (.aload_n 0, 1) := by decide +kernel
theorem dX9_brings_115 : decode cX9_brings 115 = .ok (.getfield 100, 3) := by decide +kernel
theorem dX9_brings_118 : decode cX9_brings 118 = .ok (.iload 4, 2) := by decide +kernel
theorem dX9_brings_120 : decode cX9_brings 120 = .ok (.dup2, 1) := by decide +kernel
theorem dX9_brings_121 : decode cX9_brings 121 = .ok (.iaload, 1) := by decide +kernel
theorem dX9_brings_122 : decode cX9_brings 122 = .ok (.iload 5, 2) := by decide +kernel
theorem dX9_brings_124 : decode cX9_brings 124 = .ok (.iadd, 1) := by decide +kernel
theorem dX9_brings_125 : decode cX9_brings 125 = .ok (.iastore, 1) := by decide +kernel
theorem dX9_brings_126 : decode cX9_brings 126 = .ok (.aload_n 0, 1) := by decide +kernel
theorem dX9_brings_127 : decode cX9_brings 127 = .ok (.getfield 148, 3) := by decide +kernel
theorem dX9_brings_130 : decode cX9_brings 130 = .ok (.iload_n 2, 1) := by decide +kernel
theorem dX9_brings_131 : decode cX9_brings 131 = .ok (.dup2, 1) := by decide +kernel
theorem dX9_brings_132 : decode cX9_brings 132 = .ok (.iaload, 1) := by decide +kernel
theorem dX9_brings_133 : decode cX9_brings 133 = .ok (.iload 5, 2) := by decide +kernel
theorem dX9_brings_135 : decode cX9_brings 135 = .ok (.iadd, 1) := by decide +kernel
theorem dX9_brings_136 : decode cX9_brings 136 = .ok (.iastore, 1) := by decide +kernel
theorem dX9_brings_137 : decode cX9_brings 137 = .ok (.aload_n 0, 1) := by decide +kernel
theorem dX9_brings_138 : decode cX9_brings 138 = .ok (.getfield 142, 3) := by decide +kernel
theorem dX9_brings_141 : decode cX9_brings 141 = .ok (.iload_n 2, 1) := by decide +kernel
theorem dX9_brings_142 : decode cX9_brings 142 = .ok (.dup2, 1) := by decide +kernel
theorem dX9_brings_143 : decode cX9_brings 143 = .ok (.iaload, 1) := by decide +kernel
theorem dX9_brings_144 : decode cX9_brings 144 = .ok (.iconst 2, 1) := by decide +kernel
theorem dX9_brings_145 : decode cX9_brings 145 = .ok (.aload_n 0, 1) := by decide +kernel
theorem dX9_brings_146 : decode cX9_brings 146 = .ok (.getfield 151, 3) := by decide +kernel
theorem dX9_brings_149 : decode cX9_brings 149 = .ok (.bipush 12, 2) := by decide +kernel
theorem dX9_brings_151 : decode cX9_brings 151 = .ok (.iload_n 3, 1) := by decide +kernel
theorem dX9_brings_152 : decode cX9_brings 152 = .ok (.imul, 1) := by decide +kernel
theorem dX9_brings_153 : decode cX9_brings 153 = .ok (.iload 4, 2) := by decide +kernel
theorem dX9_brings_155 : decode cX9_brings 155 = .ok (.iadd, 1) := by decide +kernel
theorem dX9_brings_156 : decode cX9_brings 156 = .ok (.iaload, 1) := by decide +kernel
theorem dX9_brings_157 : decode cX9_brings 157 = .ok (.imul, 1) := by decide +kernel
theorem dX9_brings_158 : decode cX9_brings 158 = .ok (.iadd, 1) := by decide +kernel
theorem dX9_brings_159 : decode cX9_brings 159 = .ok (.iastore, 1) := by decide +kernel
theorem dX9_brings_160 : decode cX9_brings 160 = .ok (.aload_n 0, 1) := by decide +kernel
theorem dX9_brings_161 : decode cX9_brings 161 = .ok (.getfield 145, 3) := by decide +kernel
theorem dX9_brings_164 : decode cX9_brings 164 = .ok (.iload_n 2, 1) := by decide +kernel
theorem dX9_brings_165 : decode cX9_brings 165 = .ok (.dup2, 1) := by decide +kernel
theorem dX9_brings_166 : decode cX9_brings 166 = .ok (.iaload, 1) := by decide +kernel
theorem dX9_brings_167 : decode cX9_brings 167 = .ok (.iconst 2, 1) := by decide +kernel
theorem dX9_brings_168 : decode cX9_brings 168 = .ok (.aload_n 0, 1) := by decide +kernel
theorem dX9_brings_169 : decode cX9_brings 169 = .ok (.getfield 151, 3) := by decide +kernel
theorem dX9_brings_172 : decode cX9_brings 172 = .ok (.bipush 12, 2) := by decide +kernel
theorem dX9_brings_174 : decode cX9_brings 174 = .ok (.iload_n 3, 1) := by decide +kernel
theorem dX9_brings_175 : decode cX9_brings 175 = .ok (.imul, 1) := by decide +kernel
theorem dX9_brings_176 : decode cX9_brings 176 = .ok (.iload 4, 2) := by decide +kernel
theorem dX9_brings_178 : decode cX9_brings 178 = .ok (.iadd, 1) := by decide +kernel
theorem dX9_brings_179 : decode cX9_brings 179 = .ok (.iaload, 1) := by decide +kernel
theorem dX9_brings_180 : decode cX9_brings 180 = .ok (.imul, 1) := by decide +kernel
theorem dX9_brings_181 : decode cX9_brings 181 = .ok (.iadd, 1) := by decide +kernel
theorem dX9_brings_182 : decode cX9_brings 182 = .ok (.iastore, 1) := by decide +kernel
theorem dX9_brings_183 : decode cX9_brings 183 = .ok (.aload_n 0, 1) := by decide +kernel
theorem dX9_brings_184 : decode cX9_brings 184 = .ok (.getfield 112, 3) := by decide +kernel
theorem dX9_brings_187 : decode cX9_brings 187 = .ok (.iload 4, 2) := by decide +kernel
theorem dX9_brings_189 : decode cX9_brings 189 = .ok (.dup2, 1) := by decide +kernel
theorem dX9_brings_190 : decode cX9_brings 190 = .ok (.iaload, 1) := by decide +kernel
theorem dX9_brings_191 : decode cX9_brings 191 = .ok (.iconst 1, 1) := by decide +kernel
theorem dX9_brings_192 : decode cX9_brings 192 = .ok (.iadd, 1) := by decide +kernel
theorem dX9_brings_193 : decode cX9_brings 193 = .ok (.iastore, 1) := by decide +kernel
theorem dX9_brings_194 : decode cX9_brings 194 = .ok (.iinc 1 1, 3) := by decide +kernel
theorem dX9_brings_197 : decode cX9_brings 197 = .ok (.goto (-172), 3) := by decide +kernel
theorem dX9_brings_200 : decode cX9_brings 200 = .ok (.return_, 1) := by decide +kernel
theorem dX9_gives_0 : decode cX9_gives 0 = .ok (.iconst 0, 1) := by decide +kernel
theorem dX9_gives_1 : decode cX9_gives 1 = .ok (.istore_n 2, 1) := by decide +kernel
theorem dX9_gives_2 : decode cX9_gives 2 = .ok (.iconst 0, 1) := by decide +kernel
theorem dX9_gives_3 : decode cX9_gives 3 = .ok (.istore_n 3, 1) := by decide +kernel
theorem dX9_gives_4 : decode cX9_gives 4 = .ok (.iload_n 3, 1) := by decide +kernel
theorem dX9_gives_5 : decode cX9_gives 5 = .ok (.aload_n 0, 1) := by decide +kernel
theorem dX9_gives_6 : decode cX9_gives 6 = .ok (.getfield 287, 3) := by decide +kernel
theorem dX9_gives_9 : decode cX9_gives 9 = .ok (.if_icmp .ge 155, 3) := by decide +kernel
theorem dX9_gives_12 : decode cX9_gives 12 = .ok (.aload_n 0, 1) := by decide +kernel
theorem dX9_gives_13 : decode cX9_gives 13 = .ok (.iload_n 3, 1) := by decide +kernel
theorem dX9_gives_14 : decode cX9_gives 14 = .ok (.iload_n 1, 1) := by decide +kernel
theorem dX9_gives_15 : decode cX9_gives 15 = .ok (.invokevirtual 315, 3) := by decide +kernel
theorem dX9_gives_18 : decode cX9_gives 18 = .ok (.istore 4, 2) := by decide +kernel
theorem dX9_gives_20 : decode cX9_gives 20 = .ok (.aload_n 0, 1) := by decide +kernel
theorem dX9_gives_21 : decode cX9_gives 21 = .ok (.getfield 118, 3) := by decide +kernel
theorem dX9_gives_24 : decode cX9_gives 24 = .ok (.iload_n 3, 1) := by decide +kernel
theorem dX9_gives_25 : decode cX9_gives 25 = .ok (.aload_n 0, 1) := by decide +kernel
theorem dX9_gives_26 : decode cX9_gives 26 = .ok (.getfield 100, 3) := by decide +kernel
theorem dX9_gives_29 : decode cX9_gives 29 = .ok (.iload_n 3, 1) := by decide +kernel
theorem dX9_gives_30 : decode cX9_gives 30 = .ok (.iaload, 1) := by decide +kernel
theorem dX9_gives_31 : decode cX9_gives 31 = .ok (.iload 4, 2) := by decide +kernel
theorem dX9_gives_33 : decode cX9_gives 33 = .ok (.if_icmp .ge 7, 3) := by decide +kernel
theorem dX9_gives_36 : decode cX9_gives 36 = .ok (.iconst 1, 1) := by decide +kernel
theorem dX9_gives_37 : decode cX9_gives 37 = .ok (.goto 4, 3) := by decide +kernel
theorem dX9_gives_40 : decode cX9_gives 40 = .ok (.iconst 0, 1) := by decide +kernel
theorem dX9_gives_41 : decode cX9_gives 41 = .ok (.bastore, 1) := by decide +kernel
theorem dX9_gives_42 : decode cX9_gives 42 = .ok (.iload 4, 2) := by decide +kernel
theorem dX9_gives_44 : decode cX9_gives 44 = .ok (.aload_n 0, 1) := by decide +kernel
theorem dX9_gives_45 : decode cX9_gives 45 = .ok (.getfield 100, 3) := by decide +kernel
theorem dX9_gives_48 : decode cX9_gives 48 = .ok (.iload_n 3, 1) := by decide +kernel
theorem dX9_gives_49 : decode cX9_gives 49 = .ok (.iaload, 1) := by decide +kernel
theorem dX9_gives_50 : decode cX9_gives 50 = .ok (.invokestatic 325, 3) := by decide +kernel
theorem dX9_gives_53 : decode cX9_gives 53 = .ok (.istore 5, 2) := by decide +kernel
theorem dX9_gives_55 : decode cX9_gives 55 = .ok (.aload_n 0, 1) := by decide +kernel
theorem dX9_gives_56 : decode cX9_gives 56 = .ok (.getfield 100, 3) := by decide +kernel
theorem dX9_gives_59 : decode cX9_gives 59 = .ok (.iload_n 3, 1) := by decide +kernel
theorem dX9_gives_60 : decode cX9_gives 60 = .ok (.dup2, 1) := by decide +kernel
theorem dX9_gives_61 : decode cX9_gives 61 = .ok (.iaload, 1) := by decide +kernel
theorem dX9_gives_62 : decode cX9_gives 62 = .ok (.iload 5, 2) := by decide +kernel
theorem dX9_gives_64 : decode cX9_gives 64 = .ok (.isub, 1) := by decide +kernel
theorem dX9_gives_65 : decode cX9_gives 65 = .ok (.iastore, 1) := by decide +kernel
theorem dX9_gives_66 : decode cX9_gives 66 = .ok (.aload_n 0, 1) := by decide +kernel
theorem dX9_gives_67 : decode cX9_gives 67 = .ok (.getfield 115, 3) := by decide +kernel
theorem dX9_gives_70 : decode cX9_gives 70 = .ok (.sipush 400, 3) := by decide +kernel
theorem dX9_gives_73 : decode cX9_gives 73 = .ok (.iload_n 3, 1) := by decide +kernel
theorem dX9_gives_74 : decode cX9_gives 74 = .ok (.imul, 1) := by decide +kernel
theorem dX9_gives_75 : decode cX9_gives 75 = .ok (.iload_n 1, 1) := by decide +kernel
theorem dX9_gives_76 : decode cX9_gives 76 = .ok (.iadd, 1) := by decide +kernel
theorem dX9_gives_77 : decode cX9_gives 77 = .ok (.iload 5, 2) := by decide +kernel
theorem dX9_gives_79 : decode cX9_gives 79 = .ok (.iastore, 1) := by decide +kernel
theorem dX9_gives_80 : decode cX9_gives 80 = .ok (.aload_n 0, 1) := by decide +kernel
theorem dX9_gives_81 : decode cX9_gives 81 = .ok (.dup, 1) := by decide +kernel
theorem dX9_gives_82 : decode cX9_gives 82 = .ok (.getfield 346, 3) := by decide +kernel
theorem dX9_gives_85 : decode cX9_gives 85 = .ok (.iload 5, 2) := by decide +kernel
theorem dX9_gives_87 : decode cX9_gives 87 = .ok (.iadd, 1) := by decide +kernel
theorem dX9_gives_88 : decode cX9_gives 88 = .ok (.putfield 346, 3) := by decide +kernel
theorem dX9_gives_91 : decode cX9_gives 91 = .ok (.aload_n 0, 1) := by decide +kernel
theorem dX9_gives_92 : decode cX9_gives 92 = .ok (.getfield 106, 3) := by decide +kernel
theorem dX9_gives_95 : decode cX9_gives 95 = .ok (.iload_n 3, 1) := by decide +kernel
theorem dX9_gives_96 : decode cX9_gives 96 = .ok (.aload_n 0, 1) := by decide +kernel
theorem dX9_gives_97 : decode cX9_gives 97 = .ok (.getfield 118, 3) := by decide +kernel
theorem dX9_gives_100 : decode cX9_gives 100 = .ok (.iload_n 3, 1) := by decide +kernel
theorem dX9_gives_101 : decode cX9_gives 101 = .ok (.baload, 1) := by decide +kernel
theorem dX9_gives_102 : decode cX9_gives 102 = .ok (.ifCond .eq 14, 3) := by decide +kernel
theorem dX9_gives_105 : decode cX9_gives 105 = .ok (.aload_n 0, 1) := by decide +kernel
theorem dX9_gives_106 : decode cX9_gives 106 = .ok (.getfield 106, 3) := by decide +kernel
theorem dX9_gives_109 : decode cX9_gives 109 = .ok (.iload_n 3, 1) := by decide +kernel
theorem dX9_gives_110 : decode cX9_gives 110 = .ok (.iaload, 1) := by decide +kernel
theorem dX9_gives_111 : decode cX9_gives 111 = .ok (.iconst 1, 1) := by decide +kernel
theorem dX9_gives_112 : decode cX9_gives 112 = .ok (.iadd, 1) := by decide +kernel
theorem dX9_gives_113 : decode cX9_gives 113 = .ok (.goto 4, 3) := by decide +kernel
theorem dX9_gives_116 : decode cX9_gives 116 = .ok (.iconst 0, 1) := by decide +kernel
theorem dX9_gives_117 : decode cX9_gives 117 = .ok (.iastore, 1) := by decide +kernel
theorem dX9_gives_118 : decode cX9_gives 118 = .ok (.aload_n 0, 1) := by decide +kernel
theorem dX9_gives_119 : decode cX9_gives 119 = .ok (.getfield 109, 3) := by decide +kernel
theorem dX9_gives_122 : decode cX9_gives 122 = .ok (.iload_n 3, 1) := by decide +kernel
theorem dX9_gives_123 : decode cX9_gives 123 = .ok (.dup2, 1) := by decide +kernel
theorem dX9_gives_124 : decode cX9_gives 124 = .ok (.iaload, 1) := by decide +kernel
theorem dX9_gives_125 : decode cX9_gives 125 = .ok (.aload_n 0, 1) := by decide +kernel
theorem dX9_gives_126 : decode cX9_gives 126 = .ok (.getfield 118, 3) := by decide +kernel
theorem dX9_gives_129 : decode cX9_gives 129 = .ok (.iload_n 3, 1) := by decide +kernel
theorem dX9_gives_130 : decode cX9_gives 130 = .ok (.baload, 1) := by decide +kernel
theorem dX9_gives_131 : decode cX9_gives 131 = .ok (.ifCond .eq 7, 3) := by decide +kernel
theorem dX9_gives_134 : decode cX9_gives 134 = .ok (.iconst 1, 1) := by decide +kernel
theorem dX9_gives_135 : decode cX9_gives 135 = .ok (.goto 4, 3) := by decide +kernel
theorem dX9_gives_138 : decode cX9_gives 138 = .ok (.iconst 0, 1) := by decide +kernel
theorem dX9_gives_139 : decode cX9_gives 139 = .ok (.iadd, 1) := by decide +kernel
theorem dX9_gives_140 : decode cX9_gives 140 = .ok (.iastore, 1) := by decide +kernel
theorem dX9_gives_141 : decode cX9_gives 141 = .ok (.iload_n 2, 1) := by decide +kernel
theorem dX9_gives_142 : decode cX9_gives 142 = .ok (.aload_n 0, 1) := by decide +kernel
theorem dX9_gives_143 : decode cX9_gives 143 = .ok (.getfield 118, 3) := by decide +kernel
theorem dX9_gives_146 : decode cX9_gives 146 = .ok (.iload_n 3, 1) := by decide +kernel
theorem dX9_gives_147 : decode cX9_gives 147 = .ok (.baload, 1) := by decide +kernel
theorem dX9_gives_148 : decode cX9_gives 148 = .ok (.ifCond .eq 7, 3) := by decide +kernel
theorem dX9_gives_151 : decode cX9_gives 151 = .ok (.iconst 1, 1) := by decide +kernel
theorem dX9_gives_152 : decode cX9_gives 152 = .ok (.goto 4, 3) := by decide +kernel
theorem dX9_gives_155 : decode cX9_gives 155 = .ok (.iconst 0, 1) := by decide +kernel
theorem dX9_gives_156 : decode cX9_gives 156 = .ok (.iadd, 1) := by decide +kernel
theorem dX9_gives_157 : decode cX9_gives 157 = .ok (.istore_n 2, 1) := by decide +kernel
theorem dX9_gives_158 : decode cX9_gives 158 = .ok (.iinc 3 1, 3) := by decide +kernel
theorem dX9_gives_161 : decode cX9_gives 161 = .ok (.goto (-157), 3) := by decide +kernel
theorem dX9_gives_164 : decode cX9_gives 164 = .ok (.aload_n 0, 1) := by decide +kernel
theorem dX9_gives_165 : decode cX9_gives 165 = .ok (.iload_n 2, 1) := by decide +kernel
theorem dX9_gives_166 : decode cX9_gives 166 = .ok (.putfield 305, 3) := by decide +kernel
theorem dX9_gives_169 : decode cX9_gives 169 = .ok (.return_, 1) := by decide +kernel
theorem dX9_days_0 : decode cX9_days 0 = .ok (.aload_n 0, 1) := by decide +kernel
theorem dX9_days_1 : decode cX9_days 1 = .ok (.iconst 0, 1) := by decide +kernel
theorem dX9_days_2 : decode cX9_days 2 = .ok (.putfield 1, 3) := by decide +kernel
theorem dX9_days_5 : decode cX9_days 5 = .ok (.iload_n 1, 1) := by decide +kernel
theorem dX9_days_6 : decode cX9_days 6 = .ok (.ifCond .lt 21, 3) := by decide +kernel
theorem dX9_days_9 : decode cX9_days 9 = .ok (.iload_n 1, 1) := by decide +kernel
theorem dX9_days_10 : decode cX9_days 10 = .ok (.bipush 30, 2) := by decide +kernel
theorem dX9_days_12 : decode cX9_days 12 = .ok (.if_icmp .gt 15, 3) := by decide +kernel
theorem dX9_days_15 : decode cX9_days 15 = .ok (.aload_n 0, 1) := by decide +kernel
theorem dX9_days_16 : decode cX9_days 16 = .ok (.getfield 312, 3) := by decide +kernel
theorem dX9_days_19 : decode cX9_days 19 = .ok (.iload_n 1, 1) := by decide +kernel
theorem dX9_days_20 : decode cX9_days 20 = .ok (.iadd, 1) := by decide +kernel
theorem dX9_days_21 : decode cX9_days 21 = .ok (.sipush 400, 3) := by decide +kernel
theorem dX9_days_24 : decode cX9_days 24 = .ok (.if_icmp .lt 5, 3) := by decide +kernel
theorem dX9_days_27 : decode cX9_days 27 = .ok (.iconst (-1), 1) := by decide +kernel
theorem dX9_days_28 : decode cX9_days 28 = .ok (.ireturn, 1) := by decide +kernel
theorem dX9_days_29 : decode cX9_days 29 = .ok (.iconst 0, 1) := by decide +kernel
theorem dX9_days_30 : decode cX9_days 30 = .ok (.istore_n 2, 1) := by decide +kernel
theorem dX9_days_31 : decode cX9_days 31 = .ok (.iload_n 2, 1) := by decide +kernel
theorem dX9_days_32 : decode cX9_days 32 = .ok (.iload_n 1, 1) := by decide +kernel
theorem dX9_days_33 : decode cX9_days 33 = .ok (.if_icmp .ge 47, 3) := by decide +kernel
theorem dX9_days_36 : decode cX9_days 36 = .ok (.aload_n 0, 1) := by decide +kernel
theorem dX9_days_37 : decode cX9_days 37 = .ok (.invokevirtual 349, 3) := by decide +kernel
theorem dX9_days_40 : decode cX9_days 40 = .ok (.aload_n 0, 1) := by decide +kernel
theorem dX9_days_41 : decode cX9_days 41 = .ok (.aload_n 0, 1) := by decide +kernel
theorem dX9_days_42 : decode cX9_days 42 = .ok (.getfield 312, 3) := by decide +kernel
theorem dX9_days_45 : decode cX9_days 45 = .ok (.iconst 1, 1) := by decide +kernel
theorem dX9_days_46 : decode cX9_days 46 = .ok (.iadd, 1) := by decide +kernel
theorem dX9_days_47 : decode cX9_days 47 = .ok (.invokevirtual 343, 3) := by decide +kernel
theorem dX9_days_50 : decode cX9_days 50 = .ok (.aload_n 0, 1) := by decide +kernel
theorem dX9_days_51 : decode cX9_days 51 = .ok (.invokevirtual 352, 3) := by decide +kernel
theorem dX9_days_54 : decode cX9_days 54 = .ok (.aload_n 0, 1) := by decide +kernel
theorem dX9_days_55 : decode cX9_days 55 = .ok (.aload_n 0, 1) := by decide +kernel
theorem dX9_days_56 : decode cX9_days 56 = .ok (.getfield 312, 3) := by decide +kernel
theorem dX9_days_59 : decode cX9_days 59 = .ok (.iconst 1, 1) := by decide +kernel
theorem dX9_days_60 : decode cX9_days 60 = .ok (.iadd, 1) := by decide +kernel
theorem dX9_days_61 : decode cX9_days 61 = .ok (.invokevirtual 355, 3) := by decide +kernel
theorem dX9_days_64 : decode cX9_days 64 = .ok (.aload_n 0, 1) := by decide +kernel
theorem dX9_days_65 : decode cX9_days 65 = .ok (.dup, 1) := by decide +kernel
theorem dX9_days_66 : decode cX9_days 66 = .ok (.getfield 312, 3) := by decide +kernel
theorem dX9_days_69 : decode cX9_days 69 = .ok (.iconst 1, 1) := by decide +kernel
theorem dX9_days_70 : decode cX9_days 70 = .ok (.iadd, 1) := by decide +kernel
theorem dX9_days_71 : decode cX9_days 71 = .ok (.putfield 312, 3) := by decide +kernel
theorem dX9_days_74 : decode cX9_days 74 = .ok (.iinc 2 1, 3) := by decide +kernel
theorem dX9_days_77 : decode cX9_days 77 = .ok (.goto (-46), 3) := by decide +kernel
theorem dX9_days_80 : decode cX9_days 80 = .ok (.aload_n 0, 1) := by decide +kernel
theorem dX9_days_81 : decode cX9_days 81 = .ok (.getfield 312, 3) := by decide +kernel
theorem dX9_days_84 : decode cX9_days 84 = .ok (.ireturn, 1) := by decide +kernel
theorem dX9_foretold_0 : decode cX9_foretold 0 = .ok (.aload_n 0, 1) := by decide +kernel
theorem dX9_foretold_1 : decode cX9_foretold 1 = .ok (.iconst 0, 1) := by decide +kernel
theorem dX9_foretold_2 : decode cX9_foretold 2 = .ok (.putfield 1, 3) := by decide +kernel
theorem dX9_foretold_5 : decode cX9_foretold 5 = .ok (.aload_n 0, 1) := by decide +kernel
theorem dX9_foretold_6 : decode cX9_foretold 6 = .ok (.iload_n 1, 1) := by decide +kernel
theorem dX9_foretold_7 : decode cX9_foretold 7 = .ok (.invokevirtual 297, 3) := by decide +kernel
theorem dX9_foretold_10 : decode cX9_foretold 10 = .ok (.ifCond .ne 5, 3) := by decide +kernel
theorem dX9_foretold_13 : decode cX9_foretold 13 = .ok (.iconst (-1), 1) := by decide +kernel
theorem dX9_foretold_14 : decode cX9_foretold 14 = .ok (.ireturn, 1) := by decide +kernel
theorem dX9_foretold_15 : decode cX9_foretold 15 = .ok (.aload_n 0, 1) := by decide +kernel
theorem dX9_foretold_16 : decode cX9_foretold 16 = .ok (.iload_n 1, 1) := by decide +kernel
theorem dX9_foretold_17 : decode cX9_foretold 17 = .ok (.aload_n 0, 1) := by decide +kernel
theorem dX9_foretold_18 : decode cX9_foretold 18 = .ok (.getfield 312, 3) := by decide +kernel
theorem dX9_foretold_21 : decode cX9_foretold 21 = .ok (.iconst 1, 1) := by decide +kernel
theorem dX9_foretold_22 : decode cX9_foretold 22 = .ok (.iadd, 1) := by decide +kernel
theorem dX9_foretold_23 : decode cX9_foretold 23 = .ok (.invokevirtual 315, 3) := by decide +kernel
theorem dX9_foretold_26 : decode cX9_foretold 26 = .ok (.istore_n 2, 1) := by decide +kernel
theorem dX9_foretold_27 : decode cX9_foretold 27 = .ok (.aload_n 0, 1) := by decide +kernel
theorem dX9_foretold_28 : decode cX9_foretold 28 = .ok (.getfield 100, 3) := by decide +kernel
theorem dX9_foretold_31 : decode cX9_foretold 31 = .ok (.iload_n 1, 1) := by decide +kernel
theorem dX9_foretold_32 : decode cX9_foretold 32 = .ok (.iaload, 1) := by decide +kernel
theorem dX9_foretold_33 : decode cX9_foretold 33 = .ok (.istore_n 3, 1) := by decide +kernel
theorem dX9_foretold_34 : decode cX9_foretold 34 = .ok (.aload_n 0, 1) := by decide +kernel
theorem dX9_foretold_35 : decode cX9_foretold 35 = .ok (.getfield 312, 3) := by decide +kernel
theorem dX9_foretold_38 : decode cX9_foretold 38 = .ok (.iconst 1, 1) := by decide +kernel
theorem dX9_foretold_39 : decode cX9_foretold 39 = .ok (.iadd, 1) := by decide +kernel
theorem dX9_foretold_40 : decode cX9_foretold 40 = .ok (.istore 4, 2) := by decide +kernel
theorem dX9_foretold_42 : decode cX9_foretold 42 = .ok (.iload 4, 2) := by decide +kernel
theorem dX9_foretold_44 : decode cX9_foretold 44 = .ok (.aload_n 0, 1) := by decide +kernel
theorem dX9_foretold_45 : decode cX9_foretold 45 = .ok (.getfield 312, 3) := by decide +kernel
theorem dX9_foretold_48 : decode cX9_foretold 48 = .ok (.bipush 60, 2) := by decide +kernel
theorem dX9_foretold_50 : decode cX9_foretold 50 = .ok (.iadd, 1) := by decide +kernel
theorem dX9_foretold_51 : decode cX9_foretold 51 = .ok (.if_icmp .gt 39, 3) := by decide +kernel
theorem dX9_foretold_54 : decode cX9_foretold 54 = .ok (.aload_n 0, 1) := by decide +kernel
theorem dX9_foretold_55 : decode cX9_foretold 55 = .ok (.getfield 97, 3) := by decide +kernel
theorem dX9_foretold_58 : decode cX9_foretold 58 = .ok (.iload_n 1, 1) := by decide +kernel
theorem dX9_foretold_59 : decode cX9_foretold 59 = .ok (.iaload, 1) := by decide +kernel
theorem dX9_foretold_60 : decode cX9_foretold 60 = .ok (.iload_n 3, 1) := by decide +kernel
theorem dX9_foretold_61 : decode cX9_foretold 61 = .ok (.aload_n 0, 1) := by decide +kernel
theorem dX9_foretold_62 : decode cX9_foretold 62 = .ok (.getfield 103, 3) := by decide +kernel
theorem dX9_foretold_65 : decode cX9_foretold 65 = .ok (.iload_n 1, 1) := by decide +kernel
theorem dX9_foretold_66 : decode cX9_foretold 66 = .ok (.iaload, 1) := by decide +kernel
theorem dX9_foretold_67 : decode cX9_foretold 67 = .ok (.iadd, 1) := by decide +kernel
theorem dX9_foretold_68 : decode cX9_foretold 68 = .ok (.invokestatic 325, 3) := by decide +kernel
theorem dX9_foretold_71 : decode cX9_foretold 71 = .ok (.istore_n 3, 1) := by decide +kernel
theorem dX9_foretold_72 : decode cX9_foretold 72 = .ok (.iload_n 3, 1) := by decide +kernel
theorem dX9_foretold_73 : decode cX9_foretold 73 = .ok (.iload_n 2, 1) := by decide +kernel
theorem dX9_foretold_74 : decode cX9_foretold 74 = .ok (.if_icmp .ge 6, 3) := by decide +kernel
theorem dX9_foretold_77 : decode cX9_foretold 77 = .ok (.iload 4, 2) := by decide +kernel
theorem dX9_foretold_79 : decode cX9_foretold 79 = .ok (.ireturn, 1) := by decide +kernel
theorem dX9_foretold_80 : decode cX9_foretold 80 = .ok (.iload_n 3, 1) := by decide +kernel
theorem dX9_foretold_81 : decode cX9_foretold 81 = .ok (.iload_n 2, 1) := by decide +kernel
theorem dX9_foretold_82 : decode cX9_foretold 82 = .ok (.isub, 1) := by decide +kernel
theorem dX9_foretold_83 : decode cX9_foretold 83 = .ok (.istore_n 3, 1) := by decide +kernel
theorem dX9_foretold_84 : decode cX9_foretold 84 = .ok (.iinc 4 1, 3) := by decide +kernel
theorem dX9_foretold_87 : decode cX9_foretold 87 = .ok (.goto (-45), 3) := by decide +kernel
theorem dX9_foretold_90 : decode cX9_foretold 90 = .ok (.iconst (-1), 1) := by decide +kernel
theorem dX9_foretold_91 : decode cX9_foretold 91 = .ok (.ireturn, 1) := by decide +kernel
theorem dX9_bore_0 : decode cX9_bore 0 = .ok (.aload_n 0, 1) := by decide +kernel
theorem dX9_bore_1 : decode cX9_bore 1 = .ok (.iconst 0, 1) := by decide +kernel
theorem dX9_bore_2 : decode cX9_bore 2 = .ok (.putfield 1, 3) := by decide +kernel
theorem dX9_bore_5 : decode cX9_bore 5 = .ok (.aload_n 0, 1) := by decide +kernel
theorem dX9_bore_6 : decode cX9_bore 6 = .ok (.iload_n 1, 1) := by decide +kernel
theorem dX9_bore_7 : decode cX9_bore 7 = .ok (.invokevirtual 297, 3) := by decide +kernel
theorem dX9_bore_10 : decode cX9_bore 10 = .ok (.ifCond .eq 34, 3) := by decide +kernel
theorem dX9_bore_13 : decode cX9_bore 13 = .ok (.iload_n 2, 1) := by decide +kernel
theorem dX9_bore_14 : decode cX9_bore 14 = .ok (.iconst 1, 1) := by decide +kernel
theorem dX9_bore_15 : decode cX9_bore 15 = .ok (.sipush 1000, 3) := by decide +kernel
theorem dX9_bore_18 : decode cX9_bore 18 = .ok (.invokestatic 282, 3) := by decide +kernel
theorem dX9_bore_21 : decode cX9_bore 21 = .ok (.ifCond .eq 23, 3) := by decide +kernel
theorem dX9_bore_24 : decode cX9_bore 24 = .ok (.iload_n 3, 1) := by decide +kernel
theorem dX9_bore_25 : decode cX9_bore 25 = .ok (.iconst 1, 1) := by decide +kernel
theorem dX9_bore_26 : decode cX9_bore 26 = .ok (.sipush 1000, 3) := by decide +kernel
theorem dX9_bore_29 : decode cX9_bore 29 = .ok (.invokestatic 282, 3) := by decide +kernel
theorem dX9_bore_32 : decode cX9_bore 32 = .ok (.ifCond .eq 12, 3) := by decide +kernel
theorem dX9_bore_35 : decode cX9_bore 35 = .ok (.aload_n 0, 1) := by decide +kernel
theorem dX9_bore_36 : decode cX9_bore 36 = .ok (.getfield 358, 3) := by decide +kernel
theorem dX9_bore_39 : decode cX9_bore 39 = .ok (.bipush 10, 2) := by decide +kernel
theorem dX9_bore_41 : decode cX9_bore 41 = .ok (.if_icmp .ne 5, 3) := by decide +kernel
theorem dX9_bore_44 : decode cX9_bore 44 = .ok (.iconst (-1), 1) := by decide +kernel
theorem dX9_bore_45 : decode cX9_bore 45 = .ok (.ireturn, 1) := by decide +kernel
theorem dX9_bore_46 : decode cX9_bore 46 = .ok (.aload_n 0, 1) := by decide +kernel
theorem dX9_bore_47 : decode cX9_bore 47 = .ok (.getfield 172, 3) := by decide +kernel
theorem dX9_bore_50 : decode cX9_bore 50 = .ok (.aload_n 0, 1) := by decide +kernel
theorem dX9_bore_51 : decode cX9_bore 51 = .ok (.getfield 358, 3) := by decide +kernel
theorem dX9_bore_54 : decode cX9_bore 54 = .ok (.iload_n 1, 1) := by decide +kernel
theorem dX9_bore_55 : decode cX9_bore 55 = .ok (.iastore, 1) := by decide +kernel
theorem dX9_bore_56 : decode cX9_bore 56 = .ok (.aload_n 0, 1) := by decide +kernel
theorem dX9_bore_57 : decode cX9_bore 57 = .ok (.getfield 175, 3) := by decide +kernel
theorem dX9_bore_60 : decode cX9_bore 60 = .ok (.aload_n 0, 1) := by decide +kernel
theorem dX9_bore_61 : decode cX9_bore 61 = .ok (.getfield 358, 3) := by decide +kernel
theorem dX9_bore_64 : decode cX9_bore 64 = .ok (.iload_n 2, 1) := by decide +kernel
theorem dX9_bore_65 : decode cX9_bore 65 = .ok (.iastore, 1) := by decide +kernel
theorem dX9_bore_66 : decode cX9_bore 66 = .ok (.aload_n 0, 1) := by decide +kernel
theorem dX9_bore_67 : decode cX9_bore 67 = .ok (.getfield 178, 3) := by decide +kernel
theorem dX9_bore_70 : decode cX9_bore 70 = .ok (.aload_n 0, 1) := by decide +kernel
theorem dX9_bore_71 : decode cX9_bore 71 = .ok (.getfield 358, 3) := by decide +kernel
theorem dX9_bore_74 : decode cX9_bore 74 = .ok (.iload_n 3, 1) := by decide +kernel
theorem dX9_bore_75 : decode cX9_bore 75 = .ok (.iastore, 1) := by decide +kernel
theorem dX9_bore_76 : decode cX9_bore 76 = .ok (.aload_n 0, 1) := by decide +kernel
theorem dX9_bore_77 : decode cX9_bore 77 = .ok (.dup, 1) := by decide +kernel
theorem dX9_bore_78 : decode cX9_bore 78 = .ok (.getfield 358, 3) := by decide +kernel
theorem dX9_bore_81 : decode cX9_bore 81 = .ok (.iconst 1, 1) := by decide +kernel
theorem dX9_bore_82 : decode cX9_bore 82 = .ok (.iadd, 1) := by decide +kernel
theorem dX9_bore_83 : decode cX9_bore 83 = .ok (.putfield 358, 3) := by decide +kernel
theorem dX9_bore_86 : decode cX9_bore 86 = .ok (.aload_n 0, 1) := by decide +kernel
theorem dX9_bore_87 : decode cX9_bore 87 = .ok (.getfield 358, 3) := by decide +kernel
theorem dX9_bore_90 : decode cX9_bore 90 = .ok (.iconst 1, 1) := by decide +kernel
theorem dX9_bore_91 : decode cX9_bore 91 = .ok (.isub, 1) := by decide +kernel
theorem dX9_bore_92 : decode cX9_bore 92 = .ok (.ireturn, 1) := by decide +kernel
theorem dX9_best_0 : decode cX9_best 0 = .ok (.aload_n 0, 1) := by decide +kernel
theorem dX9_best_1 : decode cX9_best 1 = .ok (.iconst 0, 1) := by decide +kernel
theorem dX9_best_2 : decode cX9_best 2 = .ok (.putfield 1, 3) := by decide +kernel
theorem dX9_best_5 : decode cX9_best 5 = .ok (.iload_n 1, 1) := by decide +kernel
theorem dX9_best_6 : decode cX9_best 6 = .ok (.iconst 0, 1) := by decide +kernel
theorem dX9_best_7 : decode cX9_best 7 = .ok (.sipush 9999, 3) := by decide +kernel
theorem dX9_best_10 : decode cX9_best 10 = .ok (.invokestatic 282, 3) := by decide +kernel
theorem dX9_best_13 : decode cX9_best 13 = .ok (.ifCond .ne 5, 3) := by decide +kernel
theorem dX9_best_16 : decode cX9_best 16 = .ok (.iconst (-1), 1) := by decide +kernel
theorem dX9_best_17 : decode cX9_best 17 = .ok (.ireturn, 1) := by decide +kernel
theorem dX9_best_18 : decode cX9_best 18 = .ok (.iconst 0, 1) := by decide +kernel
theorem dX9_best_19 : decode cX9_best 19 = .ok (.istore_n 2, 1) := by decide +kernel
theorem dX9_best_20 : decode cX9_best 20 = .ok (.iconst 0, 1) := by decide +kernel
theorem dX9_best_21 : decode cX9_best 21 = .ok (.istore_n 3, 1) := by decide +kernel
theorem dX9_best_22 : decode cX9_best 22 = .ok (.iconst 0, 1) := by decide +kernel
theorem dX9_best_23 : decode cX9_best 23 = .ok (.istore 4, 2) := by decide +kernel
theorem dX9_best_25 : decode cX9_best 25 = .ok (.iconst 1, 1) := by decide +kernel
theorem dX9_best_26 : decode cX9_best 26 = .ok (.istore 5, 2) := by decide +kernel
theorem dX9_best_28 : decode cX9_best 28 = .ok (.iload 5, 2) := by decide +kernel
theorem dX9_best_30 : decode cX9_best 30 = .ok (.iconst 1, 1) := by decide +kernel
theorem dX9_best_31 : decode cX9_best 31 = .ok (.aload_n 0, 1) := by decide +kernel
theorem dX9_best_32 : decode cX9_best 32 = .ok (.getfield 358, 3) := by decide +kernel
theorem dX9_best_35 : decode cX9_best 35 = .ok (.ishl, 1) := by decide +kernel
theorem dX9_best_36 : decode cX9_best 36 = .ok (.if_icmp .ge 146, 3) := by decide +kernel
theorem dX9_best_39 : decode cX9_best 39 = .ok (.iconst 0, 1) := by decide +kernel
theorem dX9_best_40 : decode cX9_best 40 = .ok (.istore 6, 2) := by decide +kernel
theorem dX9_best_42 : decode cX9_best 42 = .ok (.iconst 0, 1) := by decide +kernel
theorem dX9_best_43 : decode cX9_best 43 = .ok (.istore 7, 2) := by decide +kernel
theorem dX9_best_45 : decode cX9_best 45 = .ok (.iconst 1, 1) := by decide +kernel
theorem dX9_best_46 : decode cX9_best 46 = .ok (.istore 8, 2) := by decide +kernel
theorem dX9_best_48 : decode cX9_best 48 = .ok (.iconst 0, 1) := by decide +kernel
theorem dX9_best_49 : decode cX9_best 49 = .ok (.istore 9, 2) := by decide +kernel
theorem dX9_best_51 : decode cX9_best 51 = .ok (.iload 9, 2) := by decide +kernel
theorem dX9_best_53 : decode cX9_best 53 = .ok (.aload_n 0, 1) := by decide +kernel
theorem dX9_best_54 : decode cX9_best 54 = .ok (.getfield 358, 3) := by decide +kernel
theorem dX9_best_57 : decode cX9_best 57 = .ok (.if_icmp .ge 79, 3) := by decide +kernel
theorem dX9_best_60 : decode cX9_best 60 = .ok (.iload 5, 2) := by decide +kernel
theorem dX9_best_62 : decode cX9_best 62 = .ok (.iload 9, 2) := by decide +kernel
theorem dX9_best_64 : decode cX9_best 64 = .ok (.ishr, 1) := by decide +kernel
theorem dX9_best_65 : decode cX9_best 65 = .ok (.iconst 1, 1) := by decide +kernel
theorem dX9_best_66 : decode cX9_best 66 = .ok (.iand, 1) := by decide +kernel
theorem dX9_best_67 : decode cX9_best 67 = .ok (.iconst 1, 1) := by decide +kernel
theorem dX9_best_68 : decode cX9_best 68 = .ok (.if_icmp .ne 62, 3) := by decide +kernel
theorem dX9_best_71 : decode cX9_best 71 = .ok (.iload 6, 2) := by decide +kernel
theorem dX9_best_73 : decode cX9_best 73 = .ok (.aload_n 0, 1) := by decide +kernel
theorem dX9_best_74 : decode cX9_best 74 = .ok (.getfield 175, 3) := by decide +kernel
theorem dX9_best_77 : decode cX9_best 77 = .ok (.iload 9, 2) := by decide +kernel
theorem dX9_best_79 : decode cX9_best 79 = .ok (.iaload, 1) := by decide +kernel
theorem dX9_best_80 : decode cX9_best 80 = .ok (.aload_n 0, 1) := by decide +kernel
theorem dX9_best_81 : decode cX9_best 81 = .ok (.getfield 91, 3) := by decide +kernel
theorem dX9_best_84 : decode cX9_best 84 = .ok (.aload_n 0, 1) := by decide +kernel
theorem dX9_best_85 : decode cX9_best 85 = .ok (.getfield 172, 3) := by decide +kernel
theorem dX9_best_88 : decode cX9_best 88 = .ok (.iload 9, 2) := by decide +kernel
theorem dX9_best_90 : decode cX9_best 90 = .ok (.iaload, 1) := by decide +kernel
theorem dX9_best_91 : decode cX9_best 91 = .ok (.iaload, 1) := by decide +kernel
theorem dX9_best_92 : decode cX9_best 92 = .ok (.imul, 1) := by decide +kernel
theorem dX9_best_93 : decode cX9_best 93 = .ok (.iadd, 1) := by decide +kernel
theorem dX9_best_94 : decode cX9_best 94 = .ok (.istore 6, 2) := by decide +kernel
theorem dX9_best_96 : decode cX9_best 96 = .ok (.iload 7, 2) := by decide +kernel
theorem dX9_best_98 : decode cX9_best 98 = .ok (.aload_n 0, 1) := by decide +kernel
theorem dX9_best_99 : decode cX9_best 99 = .ok (.getfield 178, 3) := by decide +kernel
theorem dX9_best_102 : decode cX9_best 102 = .ok (.iload 9, 2) := by decide +kernel
theorem dX9_best_104 : decode cX9_best 104 = .ok (.iaload, 1) := by decide +kernel
theorem dX9_best_105 : decode cX9_best 105 = .ok (.iadd, 1) := by decide +kernel
theorem dX9_best_106 : decode cX9_best 106 = .ok (.istore 7, 2) := by decide +kernel
theorem dX9_best_108 : decode cX9_best 108 = .ok (.iload 8, 2) := by decide +kernel
theorem dX9_best_110 : decode cX9_best 110 = .ok (.ifCond .eq 17, 3) := by decide +kernel
theorem dX9_best_113 : decode cX9_best 113 = .ok (.aload_n 0, 1) := by decide +kernel
theorem dX9_best_114 : decode cX9_best 114 = .ok (.getfield 181, 3) := by decide +kernel
theorem dX9_best_117 : decode cX9_best 117 = .ok (.iload 9, 2) := by decide +kernel
theorem dX9_best_119 : decode cX9_best 119 = .ok (.baload, 1) := by decide +kernel
theorem dX9_best_120 : decode cX9_best 120 = .ok (.ifCond .ne 7, 3) := by decide +kernel
theorem dX9_best_123 : decode cX9_best 123 = .ok (.iconst 1, 1) := by decide +kernel
theorem dX9_best_124 : decode cX9_best 124 = .ok (.goto 4, 3) := by decide +kernel
theorem dX9_best_127 : decode cX9_best 127 = .ok (.iconst 0, 1) := by decide +kernel
theorem dX9_best_128 : decode cX9_best 128 = .ok (.istore 8, 2) := by decide +kernel
theorem dX9_best_130 : decode cX9_best 130 = .ok (.iinc 9 1, 3) := by decide +kernel
theorem dX9_best_133 : decode cX9_best 133 = .ok (.goto (-82), 3) := by decide +kernel
theorem dX9_best_136 : decode cX9_best 136 = .ok (.iload 8, 2) := by decide +kernel
theorem dX9_best_138 : decode cX9_best 138 = .ok (.ifCond .eq 38, 3) := by decide +kernel
theorem dX9_best_141 : decode cX9_best 141 = .ok (.iload 7, 2) := by decide +kernel
theorem dX9_best_143 : decode cX9_best 143 = .ok (.iload_n 1, 1) := by decide +kernel
theorem dX9_best_144 : decode cX9_best 144 = .ok (.if_icmp .gt 32, 3) := by decide +kernel
theorem dX9_best_147 : decode cX9_best 147 = .ok (.iload 6, 2) := by decide +kernel
theorem dX9_best_149 : decode cX9_best 149 = .ok (.iload_n 3, 1) := by decide +kernel
theorem dX9_best_150 : decode cX9_best 150 = .ok (.if_icmp .gt 16, 3) := by decide +kernel
theorem dX9_best_153 : decode cX9_best 153 = .ok (.iload 6, 2) := by decide +kernel
theorem dX9_best_155 : decode cX9_best 155 = .ok (.iload_n 3, 1) := by decide +kernel
theorem dX9_best_156 : decode cX9_best 156 = .ok (.if_icmp .ne 20, 3) := by decide +kernel
theorem dX9_best_159 : decode cX9_best 159 = .ok (.iload 7, 2) := by decide +kernel
theorem dX9_best_161 : decode cX9_best 161 = .ok (.iload 4, 2) := by decide +kernel
theorem dX9_best_163 : decode cX9_best 163 = .ok (.if_icmp .ge 13, 3) := by decide +kernel
theorem dX9_best_166 : decode cX9_best 166 = .ok (.iload 5, 2) := by decide +kernel
theorem dX9_best_168 : decode cX9_best 168 = .ok (.istore_n 2, 1) := by decide +kernel
theorem dX9_best_169 : decode cX9_best 169 = .ok (.iload 6, 2) := by decide +kernel
theorem dX9_best_171 : decode cX9_best 171 = .ok (.istore_n 3, 1) := by decide +kernel
theorem dX9_best_172 : decode cX9_best 172 = .ok (.iload 7, 2) := by decide +kernel
theorem dX9_best_174 : decode cX9_best 174 = .ok (.istore 4, 2) := by decide +kernel
theorem dX9_best_176 : decode cX9_best 176 = .ok (.iinc 5 1, 3) := by decide +kernel
theorem dX9_best_179 : decode cX9_best 179 = .ok (.goto (-151), 3) := by decide +kernel
theorem dX9_best_182 : decode cX9_best 182 = .ok (.iload_n 2, 1) := by decide +kernel
theorem dX9_best_183 : decode cX9_best 183 = .ok (.ireturn, 1) := by decide +kernel
theorem dX9_drill_0 : decode cX9_drill 0 = .ok (.aload_n 0, 1) := by decide +kernel
theorem dX9_drill_1 : decode cX9_drill 1 = .ok (.iconst 0, 1) := by decide +kernel
theorem dX9_drill_2 : decode cX9_drill 2 = .ok (.putfield 1, 3) := by decide +kernel
theorem dX9_drill_5 : decode cX9_drill 5 = .ok (.iload_n 1, 1) := by decide +kernel
theorem dX9_drill_6 : decode cX9_drill 6 = .ok (.ifCond .lt 31, 3) := by decide +kernel
theorem dX9_drill_9 : decode cX9_drill 9 = .ok (.iload_n 1, 1) := by decide +kernel
theorem dX9_drill_10 : decode cX9_drill 10 = .ok (.aload_n 0, 1) := by decide +kernel
theorem dX9_drill_11 : decode cX9_drill 11 = .ok (.getfield 358, 3) := by decide +kernel
theorem dX9_drill_14 : decode cX9_drill 14 = .ok (.if_icmp .ge 23, 3) := by decide +kernel
theorem dX9_drill_17 : decode cX9_drill 17 = .ok (.aload_n 0, 1) := by decide +kernel
theorem dX9_drill_18 : decode cX9_drill 18 = .ok (.getfield 181, 3) := by decide +kernel
theorem dX9_drill_21 : decode cX9_drill 21 = .ok (.iload_n 1, 1) := by decide +kernel
theorem dX9_drill_22 : decode cX9_drill 22 = .ok (.baload, 1) := by decide +kernel
theorem dX9_drill_23 : decode cX9_drill 23 = .ok (.ifCond .ne 14, 3) := by decide +kernel
theorem dX9_drill_26 : decode cX9_drill 26 = .ok (.iload_n 2, 1) := by decide +kernel
theorem dX9_drill_27 : decode cX9_drill 27 = .ok (.iconst 0, 1) := by decide +kernel
theorem dX9_drill_28 : decode cX9_drill 28 = .ok (.sipush 5000, 3) := by decide +kernel
theorem dX9_drill_31 : decode cX9_drill 31 = .ok (.invokestatic 282, 3) := by decide +kernel
theorem dX9_drill_34 : decode cX9_drill 34 = .ok (.ifCond .ne 5, 3) := by decide +kernel
theorem dX9_drill_37 : decode cX9_drill 37 = .ok (.iconst 0, 1) := by decide +kernel
theorem dX9_drill_38 : decode cX9_drill 38 = .ok (.ireturn, 1) := by decide +kernel
theorem dX9_drill_39 : decode cX9_drill 39 = .ok (.aload_n 0, 1) := by decide +kernel
theorem dX9_drill_40 : decode cX9_drill 40 = .ok (.getfield 181, 3) := by decide +kernel
theorem dX9_drill_43 : decode cX9_drill 43 = .ok (.iload_n 1, 1) := by decide +kernel
theorem dX9_drill_44 : decode cX9_drill 44 = .ok (.iconst 1, 1) := by decide +kernel
theorem dX9_drill_45 : decode cX9_drill 45 = .ok (.bastore, 1) := by decide +kernel
theorem dX9_drill_46 : decode cX9_drill 46 = .ok (.aload_n 0, 1) := by decide +kernel
theorem dX9_drill_47 : decode cX9_drill 47 = .ok (.getfield 103, 3) := by decide +kernel
theorem dX9_drill_50 : decode cX9_drill 50 = .ok (.aload_n 0, 1) := by decide +kernel
theorem dX9_drill_51 : decode cX9_drill 51 = .ok (.getfield 172, 3) := by decide +kernel
theorem dX9_drill_54 : decode cX9_drill 54 = .ok (.iload_n 1, 1) := by decide +kernel
theorem dX9_drill_55 : decode cX9_drill 55 = .ok (.iaload, 1) := by decide +kernel
theorem dX9_drill_56 : decode cX9_drill 56 = .ok (.dup2, 1) := by decide +kernel
theorem dX9_drill_57 : decode cX9_drill 57 = .ok (.iaload, 1) := by decide +kernel
theorem dX9_drill_58 : decode cX9_drill 58 = .ok (.iload_n 2, 1) := by decide +kernel
theorem dX9_drill_59 : decode cX9_drill 59 = .ok (.iadd, 1) := by decide +kernel
theorem dX9_drill_60 : decode cX9_drill 60 = .ok (.iastore, 1) := by decide +kernel
theorem dX9_drill_61 : decode cX9_drill 61 = .ok (.iconst 1, 1) := by decide +kernel
theorem dX9_drill_62 : decode cX9_drill 62 = .ok (.ireturn, 1) := by decide +kernel
theorem dX9_dip_0 : decode cX9_dip 0 = .ok (.aload_n 0, 1) := by decide +kernel
theorem dX9_dip_1 : decode cX9_dip 1 = .ok (.iconst 0, 1) := by decide +kernel
theorem dX9_dip_2 : decode cX9_dip 2 = .ok (.putfield 1, 3) := by decide +kernel
theorem dX9_dip_5 : decode cX9_dip 5 = .ok (.iload_n 1, 1) := by decide +kernel
theorem dX9_dip_6 : decode cX9_dip 6 = .ok (.ifCond .lt 54, 3) := by decide +kernel
theorem dX9_dip_9 : decode cX9_dip 9 = .ok (.iload_n 1, 1) := by decide +kernel
theorem dX9_dip_10 : decode cX9_dip 10 = .ok (.aload_n 0, 1) := by decide +kernel
theorem dX9_dip_11 : decode cX9_dip 11 = .ok (.getfield 294, 3) := by decide +kernel
theorem dX9_dip_14 : decode cX9_dip 14 = .ok (.if_icmp .ge 46, 3) := by decide +kernel
theorem dX9_dip_17 : decode cX9_dip 17 = .ok (.iload_n 2, 1) := by decide +kernel
theorem dX9_dip_18 : decode cX9_dip 18 = .ok (.iconst 0, 1) := by decide +kernel
theorem dX9_dip_19 : decode cX9_dip 19 = .ok (.sipush 20000, 3) := by decide +kernel
theorem dX9_dip_22 : decode cX9_dip 22 = .ok (.invokestatic 282, 3) := by decide +kernel
theorem dX9_dip_25 : decode cX9_dip 25 = .ok (.ifCond .eq 35, 3) := by decide +kernel
theorem dX9_dip_28 : decode cX9_dip 28 = .ok (.iload_n 3, 1) := by decide +kernel
theorem dX9_dip_29 : decode cX9_dip 29 = .ok (.iconst 0, 1) := by decide +kernel
theorem dX9_dip_30 : decode cX9_dip 30 = .ok (.sipush 20000, 3) := by decide +kernel
theorem dX9_dip_33 : decode cX9_dip 33 = .ok (.invokestatic 282, 3) := by decide +kernel
theorem dX9_dip_36 : decode cX9_dip 36 = .ok (.ifCond .eq 24, 3) := by decide +kernel
theorem dX9_dip_39 : decode cX9_dip 39 = .ok (.iload 4, 2) := by decide +kernel
theorem dX9_dip_41 : decode cX9_dip 41 = .ok (.iconst 0, 1) := by decide +kernel
theorem dX9_dip_42 : decode cX9_dip 42 = .ok (.sipush 2000, 3) := by decide +kernel
theorem dX9_dip_45 : decode cX9_dip 45 = .ok (.invokestatic 282, 3) := by decide +kernel
theorem dX9_dip_48 : decode cX9_dip 48 = .ok (.ifCond .eq 12, 3) := by decide +kernel
theorem dX9_dip_51 : decode cX9_dip 51 = .ok (.aload_n 0, 1) := by decide +kernel
theorem dX9_dip_52 : decode cX9_dip 52 = .ok (.getfield 361, 3) := by decide +kernel
theorem dX9_dip_55 : decode cX9_dip 55 = .ok (.bipush 100, 2) := by decide +kernel
theorem dX9_dip_57 : decode cX9_dip 57 = .ok (.if_icmp .ne 5, 3) := by decide +kernel
theorem dX9_dip_60 : decode cX9_dip 60 = .ok (.iconst (-1), 1) := by decide +kernel
theorem dX9_dip_61 : decode cX9_dip 61 = .ok (.ireturn, 1) := by decide +kernel
theorem dX9_dip_62 : decode cX9_dip 62 = .ok (.aload_n 0, 1) := by decide +kernel
theorem dX9_dip_63 : decode cX9_dip 63 = .ok (.getfield 187, 3) := by decide +kernel
theorem dX9_dip_66 : decode cX9_dip 66 = .ok (.iload_n 1, 1) := by decide +kernel
theorem dX9_dip_67 : decode cX9_dip 67 = .ok (.dup2, 1) := by decide +kernel
theorem dX9_dip_68 : decode cX9_dip 68 = .ok (.iaload, 1) := by decide +kernel
theorem dX9_dip_69 : decode cX9_dip 69 = .ok (.iload_n 2, 1) := by decide +kernel
theorem dX9_dip_70 : decode cX9_dip 70 = .ok (.iload_n 3, 1) := by decide +kernel
theorem dX9_dip_71 : decode cX9_dip 71 = .ok (.isub, 1) := by decide +kernel
theorem dX9_dip_72 : decode cX9_dip 72 = .ok (.iadd, 1) := by decide +kernel
theorem dX9_dip_73 : decode cX9_dip 73 = .ok (.iastore, 1) := by decide +kernel
theorem dX9_dip_74 : decode cX9_dip 74 = .ok (.aload_n 0, 1) := by decide +kernel
theorem dX9_dip_75 : decode cX9_dip 75 = .ok (.getfield 190, 3) := by decide +kernel
theorem dX9_dip_78 : decode cX9_dip 78 = .ok (.iload_n 1, 1) := by decide +kernel
theorem dX9_dip_79 : decode cX9_dip 79 = .ok (.dup2, 1) := by decide +kernel
theorem dX9_dip_80 : decode cX9_dip 80 = .ok (.iaload, 1) := by decide +kernel
theorem dX9_dip_81 : decode cX9_dip 81 = .ok (.iload 4, 2) := by decide +kernel
theorem dX9_dip_83 : decode cX9_dip 83 = .ok (.iadd, 1) := by decide +kernel
theorem dX9_dip_84 : decode cX9_dip 84 = .ok (.iastore, 1) := by decide +kernel
theorem dX9_dip_85 : decode cX9_dip 85 = .ok (.aload_n 0, 1) := by decide +kernel
theorem dX9_dip_86 : decode cX9_dip 86 = .ok (.getfield 184, 3) := by decide +kernel
theorem dX9_dip_89 : decode cX9_dip 89 = .ok (.iload_n 1, 1) := by decide +kernel
theorem dX9_dip_90 : decode cX9_dip 90 = .ok (.dup2, 1) := by decide +kernel
theorem dX9_dip_91 : decode cX9_dip 91 = .ok (.iaload, 1) := by decide +kernel
theorem dX9_dip_92 : decode cX9_dip 92 = .ok (.iconst 1, 1) := by decide +kernel
theorem dX9_dip_93 : decode cX9_dip 93 = .ok (.iadd, 1) := by decide +kernel
theorem dX9_dip_94 : decode cX9_dip 94 = .ok (.iastore, 1) := by decide +kernel
theorem dX9_dip_95 : decode cX9_dip 95 = .ok (.aload_n 0, 1) := by decide +kernel
theorem dX9_dip_96 : decode cX9_dip 96 = .ok (.dup, 1) := by decide +kernel
theorem dX9_dip_97 : decode cX9_dip 97 = .ok (.getfield 361, 3) := by decide +kernel
theorem dX9_dip_100 : decode cX9_dip 100 = .ok (.iconst 1, 1) := by decide +kernel
theorem dX9_dip_101 : decode cX9_dip 101 = .ok (.iadd, 1) := by decide +kernel
theorem dX9_dip_102 : decode cX9_dip 102 = .ok (.putfield 361, 3) := by decide +kernel
theorem dX9_dip_105 : decode cX9_dip 105 = .ok (.aload_n 0, 1) := by decide +kernel
theorem dX9_dip_106 : decode cX9_dip 106 = .ok (.getfield 184, 3) := by decide +kernel
theorem dX9_dip_109 : decode cX9_dip 109 = .ok (.iload_n 1, 1) := by decide +kernel
theorem dX9_dip_110 : decode cX9_dip 110 = .ok (.iaload, 1) := by decide +kernel
theorem dX9_dip_111 : decode cX9_dip 111 = .ok (.ireturn, 1) := by decide +kernel
theorem dX9_isShort_0 : decode cX9_isShort 0 = .ok (.aload_n 0, 1) := by decide +kernel
theorem dX9_isShort_1 : decode cX9_isShort 1 = .ok (.iconst 0, 1) := by decide +kernel
theorem dX9_isShort_2 : decode cX9_isShort 2 = .ok (.putfield 1, 3) := by decide +kernel
theorem dX9_isShort_5 : decode cX9_isShort 5 = .ok (.iload_n 1, 1) := by decide +kernel
theorem dX9_isShort_6 : decode cX9_isShort 6 = .ok (.ifCond .lt 11, 3) := by decide +kernel
theorem dX9_isShort_9 : decode cX9_isShort 9 = .ok (.iload_n 1, 1) := by decide +kernel
theorem dX9_isShort_10 : decode cX9_isShort 10 = .ok (.aload_n 0, 1) := by decide +kernel
theorem dX9_isShort_11 : decode cX9_isShort 11 = .ok (.getfield 294, 3) := by decide +kernel
theorem dX9_isShort_14 : decode cX9_isShort 14 = .ok (.if_icmp .lt 7, 3) := by decide +kernel
theorem dX9_isShort_17 : decode cX9_isShort 17 = .ok (.iconst (-1), 1) := by decide +kernel
theorem dX9_isShort_18 : decode cX9_isShort 18 = .ok (.goto 33, 3) := by decide +kernel
theorem dX9_isShort_21 : decode cX9_isShort 21 = .ok (.aload_n 0, 1) := by decide +kernel
theorem dX9_isShort_22 : decode cX9_isShort 22 = .ok (.getfield 184, 3) := by decide +kernel
theorem dX9_isShort_25 : decode cX9_isShort 25 = .ok (.iload_n 1, 1) := by decide +kernel
theorem dX9_isShort_26 : decode cX9_isShort 26 = .ok (.iaload, 1) := by decide +kernel
theorem dX9_isShort_27 : decode cX9_isShort 27 = .ok (.iconst 3, 1) := by decide +kernel
theorem dX9_isShort_28 : decode cX9_isShort 28 = .ok (.if_icmp .lt 22, 3) := by decide +kernel
theorem dX9_isShort_31 : decode cX9_isShort 31 = .ok (.aload_n 0, 1) := by decide +kernel
theorem dX9_isShort_32 : decode cX9_isShort 32 = .ok (.getfield 187, 3) := by decide +kernel
theorem dX9_isShort_35 : decode cX9_isShort 35 = .ok (.iload_n 1, 1) := by decide +kernel
theorem dX9_isShort_36 : decode cX9_isShort 36 = .ok (.iaload, 1) := by decide +kernel
theorem dX9_isShort_37 : decode cX9_isShort 37 = .ok (.aload_n 0, 1) := by decide +kernel
theorem dX9_isShort_38 : decode cX9_isShort 38 = .ok (.getfield 190, 3) := by decide +kernel
theorem dX9_isShort_41 : decode cX9_isShort 41 = .ok (.iload_n 1, 1) := by decide +kernel
theorem dX9_isShort_42 : decode cX9_isShort 42 = .ok (.iaload, 1) := by decide +kernel
theorem dX9_isShort_43 : decode cX9_isShort 43 = .ok (.if_icmp .le 7, 3) := by decide +kernel
theorem dX9_isShort_46 : decode cX9_isShort 46 = .ok (.iconst 1, 1) := by decide +kernel
theorem dX9_isShort_47 : decode cX9_isShort 47 = .ok (.goto 4, 3) := by decide +kernel
theorem dX9_isShort_50 : decode cX9_isShort 50 = .ok (.iconst 0, 1) := by decide +kernel
theorem dX9_isShort_51 : decode cX9_isShort 51 = .ok (.ireturn, 1) := by decide +kernel
theorem dX9_share_0 : decode cX9_share 0 = .ok (.aload_n 0, 1) := by decide +kernel
theorem dX9_share_1 : decode cX9_share 1 = .ok (.iconst 0, 1) := by decide +kernel
theorem dX9_share_2 : decode cX9_share 2 = .ok (.putfield 1, 3) := by decide +kernel
theorem dX9_share_5 : decode cX9_share 5 = .ok (.aload_n 0, 1) := by decide +kernel
theorem dX9_share_6 : decode cX9_share 6 = .ok (.iload_n 1, 1) := by decide +kernel
theorem dX9_share_7 : decode cX9_share 7 = .ok (.invokevirtual 297, 3) := by decide +kernel
theorem dX9_share_10 : decode cX9_share 10 = .ok (.ifCond .ne 5, 3) := by decide +kernel
theorem dX9_share_13 : decode cX9_share 13 = .ok (.iconst (-1), 1) := by decide +kernel
theorem dX9_share_14 : decode cX9_share 14 = .ok (.ireturn, 1) := by decide +kernel
theorem dX9_share_15 : decode cX9_share 15 = .ok (.bipush 7, 2) := by decide +kernel
theorem dX9_share_17 : decode cX9_share 17 = .ok (.aload_n 0, 1) := by decide +kernel
theorem dX9_share_18 : decode cX9_share 18 = .ok (.getfield 312, 3) := by decide +kernel
theorem dX9_share_21 : decode cX9_share 21 = .ok (.invokestatic 325, 3) := by decide +kernel
theorem dX9_share_24 : decode cX9_share 24 = .ok (.istore_n 2, 1) := by decide +kernel
theorem dX9_share_25 : decode cX9_share 25 = .ok (.lconst 0, 1) := by decide +kernel
theorem dX9_share_26 : decode cX9_share 26 = .ok (.lstore_n 3, 1) := by decide +kernel
theorem dX9_share_27 : decode cX9_share 27 = .ok (.aload_n 0, 1) := by decide +kernel
theorem dX9_share_28 : decode cX9_share 28 = .ok (.getfield 312, 3) := by decide +kernel
theorem dX9_share_31 : decode cX9_share 31 = .ok (.iload_n 2, 1) := by decide +kernel
theorem dX9_share_32 : decode cX9_share 32 = .ok (.isub, 1) := by decide +kernel
theorem dX9_share_33 : decode cX9_share 33 = .ok (.iconst 1, 1) := by decide +kernel
theorem dX9_share_34 : decode cX9_share 34 = .ok (.iadd, 1) := by decide +kernel
theorem dX9_share_35 : decode cX9_share 35 = .ok (.istore 5, 2) := by decide +kernel
theorem dX9_share_37 : decode cX9_share 37 = .ok (.iload 5, 2) := by decide +kernel
theorem dX9_share_39 : decode cX9_share 39 = .ok (.aload_n 0, 1) := by decide +kernel
theorem dX9_share_40 : decode cX9_share 40 = .ok (.getfield 312, 3) := by decide +kernel
theorem dX9_share_43 : decode cX9_share 43 = .ok (.if_icmp .gt 26, 3) := by decide +kernel
theorem dX9_share_46 : decode cX9_share 46 = .ok (.lload_n 3, 1) := by decide +kernel
theorem dX9_share_47 : decode cX9_share 47 = .ok (.aload_n 0, 1) := by decide +kernel
theorem dX9_share_48 : decode cX9_share 48 = .ok (.getfield 115, 3) := by decide +kernel
theorem dX9_share_51 : decode cX9_share 51 = .ok (.sipush 400, 3) := by decide +kernel
theorem dX9_share_54 : decode cX9_share 54 = .ok (.iload_n 1, 1) := by decide +kernel
theorem dX9_share_55 : decode cX9_share 55 = .ok (.imul, 1) := by decide +kernel
theorem dX9_share_56 : decode cX9_share 56 = .ok (.iload 5, 2) := by decide +kernel
theorem dX9_share_58 : decode cX9_share 58 = .ok (.iadd, 1) := by decide +kernel
theorem dX9_share_59 : decode cX9_share 59 = .ok (.iaload, 1) := by decide +kernel
theorem dX9_share_60 : decode cX9_share 60 = .ok (.i2l, 1) := by decide +kernel
theorem dX9_share_61 : decode cX9_share 61 = .ok (.ladd, 1) := by decide +kernel
theorem dX9_share_62 : decode cX9_share 62 = .ok (.lstore_n 3, 1) := by decide +kernel
theorem dX9_share_63 : decode cX9_share 63 = .ok (.iinc 5 1, 3) := by decide +kernel
theorem dX9_share_66 : decode cX9_share 66 = .ok (.goto (-29), 3) := by decide +kernel
theorem dX9_share_69 : decode cX9_share 69 = .ok (.iload_n 2, 1) := by decide +kernel
theorem dX9_share_70 : decode cX9_share 70 = .ok (.ifCond .ne 7, 3) := by decide +kernel
theorem dX9_share_73 : decode cX9_share 73 = .ok (.iconst 0, 1) := by decide +kernel
theorem dX9_share_74 : decode cX9_share 74 = .ok (.goto 20, 3) := by decide +kernel
theorem dX9_share_77 : decode cX9_share 77 = .ok (.lload_n 3, 1) := by decide +kernel
theorem dX9_share_78 : decode cX9_share 78 = .ok (.ldc2_w 303, 3) := by decide +kernel
theorem dX9_share_81 : decode cX9_share 81 = .ok (.lmul, 1) := by decide +kernel
theorem dX9_share_82 : decode cX9_share 82 = .ok (.aload_n 0, 1) := by decide +kernel
theorem dX9_share_83 : decode cX9_share 83 = .ok (.getfield 91, 3) := by decide +kernel
theorem dX9_share_86 : decode cX9_share 86 = .ok (.iload_n 1, 1) := by decide +kernel
theorem dX9_share_87 : decode cX9_share 87 = .ok (.iaload, 1) := by decide +kernel
theorem dX9_share_88 : decode cX9_share 88 = .ok (.i2l, 1) := by decide +kernel
theorem dX9_share_89 : decode cX9_share 89 = .ok (.iload_n 2, 1) := by decide +kernel
theorem dX9_share_90 : decode cX9_share 90 = .ok (.i2l, 1) := by decide +kernel
theorem dX9_share_91 : decode cX9_share 91 = .ok (.lmul, 1) := by decide +kernel
theorem dX9_share_92 : decode cX9_share 92 = .ok (.ldiv, 1) := by decide +kernel
theorem dX9_share_93 : decode cX9_share 93 = .ok (.l2i, 1) := by decide +kernel
theorem dX9_share_94 : decode cX9_share 94 = .ok (.ireturn, 1) := by decide +kernel
theorem dX9_look_0 : decode cX9_look 0 = .ok (.aload_n 0, 1) := by decide +kernel
theorem dX9_look_1 : decode cX9_look 1 = .ok (.aload_n 0, 1) := by decide +kernel
theorem dX9_look_2 : decode cX9_look 2 = .ok (.iload_n 1, 1) := by decide +kernel
theorem dX9_look_3 : decode cX9_look 3 = .ok (.invokevirtual 297, 3) := by decide +kernel
theorem dX9_look_6 : decode cX9_look 6 = .ok (.ifCond .eq 17, 3) := by decide +kernel
theorem dX9_look_9 : decode cX9_look 9 = .ok (.iload_n 2, 1) := by decide +kernel
theorem dX9_look_10 : decode cX9_look 10 = .ok (.ifCond .lt 13, 3) := by decide +kernel
theorem dX9_look_13 : decode cX9_look 13 = .ok (.iload_n 2, 1) := by decide +kernel
theorem dX9_look_14 : decode cX9_look 14 = .ok (.bipush 8, 2) := by decide +kernel
theorem dX9_look_16 : decode cX9_look 16 = .ok (.if_icmp .gt 7, 3) := by decide +kernel
theorem dX9_look_19 : decode cX9_look 19 = .ok (.iconst 0, 1) := by decide +kernel
theorem dX9_look_20 : decode cX9_look 20 = .ok (.goto 4, 3) := by decide +kernel
theorem dX9_look_23 : decode cX9_look 23 = .ok (.iconst 1, 1) := by decide +kernel
theorem dX9_look_24 : decode cX9_look 24 = .ok (.putfield 1, 3) := by decide +kernel
theorem dX9_look_27 : decode cX9_look 27 = .ok (.aload_n 0, 1) := by decide +kernel
theorem dX9_look_28 : decode cX9_look 28 = .ok (.getfield 1, 3) := by decide +kernel
theorem dX9_look_31 : decode cX9_look 31 = .ok (.ifCond .le 5, 3) := by decide +kernel
theorem dX9_look_34 : decode cX9_look 34 = .ok (.iconst 0, 1) := by decide +kernel
theorem dX9_look_35 : decode cX9_look 35 = .ok (.ireturn, 1) := by decide +kernel
theorem dX9_look_36 : decode cX9_look 36 = .ok (.iload_n 2, 1) := by decide +kernel
theorem dX9_look_37 : decode cX9_look 37 = .ok (.tableswitch 120 0 7 #[47, 54, 61, 68, 75, 91, 106, 113], 47) := by decide +kernel
theorem dX9_look_84 : decode cX9_look 84 = .ok (.aload_n 0, 1) := by decide +kernel
theorem dX9_look_85 : decode cX9_look 85 = .ok (.getfield 91, 3) := by decide +kernel
theorem dX9_look_88 : decode cX9_look 88 = .ok (.iload_n 1, 1) := by decide +kernel
theorem dX9_look_89 : decode cX9_look 89 = .ok (.iaload, 1) := by decide +kernel
theorem dX9_look_90 : decode cX9_look 90 = .ok (.ireturn, 1) := by decide +kernel
theorem dX9_look_91 : decode cX9_look 91 = .ok (.aload_n 0, 1) := by decide +kernel
theorem dX9_look_92 : decode cX9_look 92 = .ok (.getfield 94, 3) := by decide +kernel
theorem dX9_look_95 : decode cX9_look 95 = .ok (.iload_n 1, 1) := by decide +kernel
theorem dX9_look_96 : decode cX9_look 96 = .ok (.iaload, 1) := by decide +kernel
theorem dX9_look_97 : decode cX9_look 97 = .ok (.ireturn, 1) := by decide +kernel
theorem dX9_look_98 : decode cX9_look 98 = .ok (.aload_n 0, 1) := by decide +kernel
theorem dX9_look_99 : decode cX9_look 99 = .ok (.getfield 100, 3) := by decide +kernel
theorem dX9_look_102 : decode cX9_look 102 = .ok (.iload_n 1, 1) := by decide +kernel
theorem dX9_look_103 : decode cX9_look 103 = .ok (.iaload, 1) := by decide +kernel
theorem dX9_look_104 : decode cX9_look 104 = .ok (.ireturn, 1) := by decide +kernel
theorem dX9_look_105 : decode cX9_look 105 = .ok (.aload_n 0, 1) := by decide +kernel
theorem dX9_look_106 : decode cX9_look 106 = .ok (.getfield 103, 3) := by decide +kernel
theorem dX9_look_109 : decode cX9_look 109 = .ok (.iload_n 1, 1) := by decide +kernel
theorem dX9_look_110 : decode cX9_look 110 = .ok (.iaload, 1) := by decide +kernel
theorem dX9_look_111 : decode cX9_look 111 = .ok (.ireturn, 1) := by decide +kernel
theorem dX9_look_112 : decode cX9_look 112 = .ok (.aload_n 0, 1) := by decide +kernel
theorem dX9_look_113 : decode cX9_look 113 = .ok (.getfield 115, 3) := by decide +kernel
theorem dX9_look_116 : decode cX9_look 116 = .ok (.sipush 400, 3) := by decide +kernel
theorem dX9_look_119 : decode cX9_look 119 = .ok (.iload_n 1, 1) := by decide +kernel
theorem dX9_look_120 : decode cX9_look 120 = .ok (.imul, 1) := by decide +kernel
theorem dX9_look_121 : decode cX9_look 121 = .ok (.aload_n 0, 1) := by decide +kernel
theorem dX9_look_122 : decode cX9_look 122 = .ok (.getfield 312, 3) := by decide +kernel
theorem dX9_look_125 : decode cX9_look 125 = .ok (.iadd, 1) := by decide +kernel
theorem dX9_look_126 : decode cX9_look 126 = .ok (.iaload, 1) := by decide +kernel
theorem dX9_look_127 : decode cX9_look 127 = .ok (.ireturn, 1) := by decide +kernel
theorem dX9_look_128 : decode cX9_look 128 = .ok (.aload_n 0, 1) := by decide +kernel
theorem dX9_look_129 : decode cX9_look 129 = .ok (.getfield 118, 3) := by decide +kernel
theorem dX9_look_132 : decode cX9_look 132 = .ok (.iload_n 1, 1) := by decide +kernel
theorem dX9_look_133 : decode cX9_look 133 = .ok (.baload, 1) := by decide +kernel
theorem dX9_look_134 : decode cX9_look 134 = .ok (.ifCond .eq 7, 3) := by decide +kernel
theorem dX9_look_137 : decode cX9_look 137 = .ok (.iconst 1, 1) := by decide +kernel
theorem dX9_look_138 : decode cX9_look 138 = .ok (.goto 4, 3) := by decide +kernel
theorem dX9_look_141 : decode cX9_look 141 = .ok (.iconst 0, 1) := by decide +kernel
theorem dX9_look_142 : decode cX9_look 142 = .ok (.ireturn, 1) := by decide +kernel
theorem dX9_look_143 : decode cX9_look 143 = .ok (.aload_n 0, 1) := by decide +kernel
theorem dX9_look_144 : decode cX9_look 144 = .ok (.getfield 106, 3) := by decide +kernel
theorem dX9_look_147 : decode cX9_look 147 = .ok (.iload_n 1, 1) := by decide +kernel
theorem dX9_look_148 : decode cX9_look 148 = .ok (.iaload, 1) := by decide +kernel
theorem dX9_look_149 : decode cX9_look 149 = .ok (.ireturn, 1) := by decide +kernel
theorem dX9_look_150 : decode cX9_look 150 = .ok (.aload_n 0, 1) := by decide +kernel
theorem dX9_look_151 : decode cX9_look 151 = .ok (.getfield 109, 3) := by decide +kernel
theorem dX9_look_154 : decode cX9_look 154 = .ok (.iload_n 1, 1) := by decide +kernel
theorem dX9_look_155 : decode cX9_look 155 = .ok (.iaload, 1) := by decide +kernel
theorem dX9_look_156 : decode cX9_look 156 = .ok (.ireturn, 1) := by decide +kernel
theorem dX9_look_157 : decode cX9_look 157 = .ok (.aload_n 0, 1) := by decide +kernel
theorem dX9_look_158 : decode cX9_look 158 = .ok (.getfield 112, 3) := by decide +kernel
theorem dX9_look_161 : decode cX9_look 161 = .ok (.iload_n 1, 1) := by decide +kernel
theorem dX9_look_162 : decode cX9_look 162 = .ok (.iaload, 1) := by decide +kernel
theorem dX9_look_163 : decode cX9_look 163 = .ok (.ireturn, 1) := by decide +kernel
theorem dX9_flows_0 : decode cX9_flows 0 = .ok (.aload_n 0, 1) := by decide +kernel
theorem dX9_flows_1 : decode cX9_flows 1 = .ok (.iconst 0, 1) := by decide +kernel
theorem dX9_flows_2 : decode cX9_flows 2 = .ok (.putfield 1, 3) := by decide +kernel
theorem dX9_flows_5 : decode cX9_flows 5 = .ok (.iload_n 1, 1) := by decide +kernel
theorem dX9_flows_6 : decode cX9_flows 6 = .ok (.ifCond .lt 11, 3) := by decide +kernel
theorem dX9_flows_9 : decode cX9_flows 9 = .ok (.iload_n 1, 1) := by decide +kernel
theorem dX9_flows_10 : decode cX9_flows 10 = .ok (.aload_n 0, 1) := by decide +kernel
theorem dX9_flows_11 : decode cX9_flows 11 = .ok (.getfield 291, 3) := by decide +kernel
theorem dX9_flows_14 : decode cX9_flows 14 = .ok (.if_icmp .lt 7, 3) := by decide +kernel
theorem dX9_flows_17 : decode cX9_flows 17 = .ok (.iconst (-1), 1) := by decide +kernel
theorem dX9_flows_18 : decode cX9_flows 18 = .ok (.goto 31, 3) := by decide +kernel
theorem dX9_flows_21 : decode cX9_flows 21 = .ok (.iload_n 2, 1) := by decide +kernel
theorem dX9_flows_22 : decode cX9_flows 22 = .ok (.ifCond .ne 12, 3) := by decide +kernel
theorem dX9_flows_25 : decode cX9_flows 25 = .ok (.aload_n 0, 1) := by decide +kernel
theorem dX9_flows_26 : decode cX9_flows 26 = .ok (.getfield 121, 3) := by decide +kernel
theorem dX9_flows_29 : decode cX9_flows 29 = .ok (.iload_n 1, 1) := by decide +kernel
theorem dX9_flows_30 : decode cX9_flows 30 = .ok (.iaload, 1) := by decide +kernel
theorem dX9_flows_31 : decode cX9_flows 31 = .ok (.goto 18, 3) := by decide +kernel
theorem dX9_flows_34 : decode cX9_flows 34 = .ok (.iload_n 2, 1) := by decide +kernel
theorem dX9_flows_35 : decode cX9_flows 35 = .ok (.iconst 1, 1) := by decide +kernel
theorem dX9_flows_36 : decode cX9_flows 36 = .ok (.if_icmp .ne 12, 3) := by decide +kernel
theorem dX9_flows_39 : decode cX9_flows 39 = .ok (.aload_n 0, 1) := by decide +kernel
theorem dX9_flows_40 : decode cX9_flows 40 = .ok (.getfield 127, 3) := by decide +kernel
theorem dX9_flows_43 : decode cX9_flows 43 = .ok (.iload_n 1, 1) := by decide +kernel
theorem dX9_flows_44 : decode cX9_flows 44 = .ok (.iaload, 1) := by decide +kernel
theorem dX9_flows_45 : decode cX9_flows 45 = .ok (.goto 4, 3) := by decide +kernel
theorem dX9_flows_48 : decode cX9_flows 48 = .ok (.iconst (-1), 1) := by decide +kernel
theorem dX9_flows_49 : decode cX9_flows 49 = .ok (.ireturn, 1) := by decide +kernel
theorem dX9_goes_0 : decode cX9_goes 0 = .ok (.aload_n 0, 1) := by decide +kernel
theorem dX9_goes_1 : decode cX9_goes 1 = .ok (.iconst 0, 1) := by decide +kernel
theorem dX9_goes_2 : decode cX9_goes 2 = .ok (.putfield 1, 3) := by decide +kernel
theorem dX9_goes_5 : decode cX9_goes 5 = .ok (.iload_n 1, 1) := by decide +kernel
theorem dX9_goes_6 : decode cX9_goes 6 = .ok (.ifCond .lt 11, 3) := by decide +kernel
theorem dX9_goes_9 : decode cX9_goes 9 = .ok (.iload_n 1, 1) := by decide +kernel
theorem dX9_goes_10 : decode cX9_goes 10 = .ok (.aload_n 0, 1) := by decide +kernel
theorem dX9_goes_11 : decode cX9_goes 11 = .ok (.getfield 294, 3) := by decide +kernel
theorem dX9_goes_14 : decode cX9_goes 14 = .ok (.if_icmp .lt 7, 3) := by decide +kernel
theorem dX9_goes_17 : decode cX9_goes 17 = .ok (.iconst (-1), 1) := by decide +kernel
theorem dX9_goes_18 : decode cX9_goes 18 = .ok (.goto 45, 3) := by decide +kernel
theorem dX9_goes_21 : decode cX9_goes 21 = .ok (.iload_n 2, 1) := by decide +kernel
theorem dX9_goes_22 : decode cX9_goes 22 = .ok (.ifCond .ne 12, 3) := by decide +kernel
theorem dX9_goes_25 : decode cX9_goes 25 = .ok (.aload_n 0, 1) := by decide +kernel
theorem dX9_goes_26 : decode cX9_goes 26 = .ok (.getfield 142, 3) := by decide +kernel
theorem dX9_goes_29 : decode cX9_goes 29 = .ok (.iload_n 1, 1) := by decide +kernel
theorem dX9_goes_30 : decode cX9_goes 30 = .ok (.iaload, 1) := by decide +kernel
theorem dX9_goes_31 : decode cX9_goes 31 = .ok (.goto 32, 3) := by decide +kernel
theorem dX9_goes_34 : decode cX9_goes 34 = .ok (.iload_n 2, 1) := by decide +kernel
theorem dX9_goes_35 : decode cX9_goes 35 = .ok (.iconst 1, 1) := by decide +kernel
theorem dX9_goes_36 : decode cX9_goes 36 = .ok (.if_icmp .ne 12, 3) := by decide +kernel
theorem dX9_goes_39 : decode cX9_goes 39 = .ok (.aload_n 0, 1) := by decide +kernel
theorem dX9_goes_40 : decode cX9_goes 40 = .ok (.getfield 145, 3) := by decide +kernel
theorem dX9_goes_43 : decode cX9_goes 43 = .ok (.iload_n 1, 1) := by decide +kernel
theorem dX9_goes_44 : decode cX9_goes 44 = .ok (.iaload, 1) := by decide +kernel
theorem dX9_goes_45 : decode cX9_goes 45 = .ok (.goto 18, 3) := by decide +kernel
theorem dX9_goes_48 : decode cX9_goes 48 = .ok (.iload_n 2, 1) := by decide +kernel
theorem dX9_goes_49 : decode cX9_goes 49 = .ok (.iconst 2, 1) := by decide +kernel
theorem dX9_goes_50 : decode cX9_goes 50 = .ok (.if_icmp .ne 12, 3) := by decide +kernel
theorem dX9_goes_53 : decode cX9_goes 53 = .ok (.aload_n 0, 1) := by decide +kernel
theorem dX9_goes_54 : decode cX9_goes 54 = .ok (.getfield 148, 3) := by decide +kernel
theorem dX9_goes_57 : decode cX9_goes 57 = .ok (.iload_n 1, 1) := by decide +kernel
theorem dX9_goes_58 : decode cX9_goes 58 = .ok (.iaload, 1) := by decide +kernel
theorem dX9_goes_59 : decode cX9_goes 59 = .ok (.goto 4, 3) := by decide +kernel
theorem dX9_goes_62 : decode cX9_goes 62 = .ok (.iconst (-1), 1) := by decide +kernel
theorem dX9_goes_63 : decode cX9_goes 63 = .ok (.ireturn, 1) := by decide +kernel
theorem dX9_count_0 : decode cX9_count 0 = .ok (.aload_n 0, 1) := by decide +kernel
theorem dX9_count_1 : decode cX9_count 1 = .ok (.iconst 0, 1) := by decide +kernel
theorem dX9_count_2 : decode cX9_count 2 = .ok (.putfield 1, 3) := by decide +kernel
theorem dX9_count_5 : decode cX9_count 5 = .ok (.iload_n 1, 1) := by decide +kernel
theorem dX9_count_6 : decode cX9_count 6 = .ok (.tableswitch 109 0 9 #[54, 59, 64, 69, 74, 79, 84, 89, 94, 104], 54) := by decide +kernel
theorem dX9_count_60 : decode cX9_count 60 = .ok (.aload_n 0, 1) := by decide +kernel
theorem dX9_count_61 : decode cX9_count 61 = .ok (.getfield 287, 3) := by decide +kernel
theorem dX9_count_64 : decode cX9_count 64 = .ok (.ireturn, 1) := by decide +kernel
theorem dX9_count_65 : decode cX9_count 65 = .ok (.aload_n 0, 1) := by decide +kernel
theorem dX9_count_66 : decode cX9_count 66 = .ok (.getfield 291, 3) := by decide +kernel
theorem dX9_count_69 : decode cX9_count 69 = .ok (.ireturn, 1) := by decide +kernel
theorem dX9_count_70 : decode cX9_count 70 = .ok (.aload_n 0, 1) := by decide +kernel
theorem dX9_count_71 : decode cX9_count 71 = .ok (.getfield 294, 3) := by decide +kernel
theorem dX9_count_74 : decode cX9_count 74 = .ok (.ireturn, 1) := by decide +kernel
theorem dX9_count_75 : decode cX9_count 75 = .ok (.aload_n 0, 1) := by decide +kernel
theorem dX9_count_76 : decode cX9_count 76 = .ok (.getfield 312, 3) := by decide +kernel
theorem dX9_count_79 : decode cX9_count 79 = .ok (.ireturn, 1) := by decide +kernel
theorem dX9_count_80 : decode cX9_count 80 = .ok (.aload_n 0, 1) := by decide +kernel
theorem dX9_count_81 : decode cX9_count 81 = .ok (.getfield 305, 3) := by decide +kernel
theorem dX9_count_84 : decode cX9_count 84 = .ok (.ireturn, 1) := by decide +kernel
theorem dX9_count_85 : decode cX9_count 85 = .ok (.aload_n 0, 1) := by decide +kernel
theorem dX9_count_86 : decode cX9_count 86 = .ok (.getfield 346, 3) := by decide +kernel
theorem dX9_count_89 : decode cX9_count 89 = .ok (.ireturn, 1) := by decide +kernel
theorem dX9_count_90 : decode cX9_count 90 = .ok (.aload_n 0, 1) := by decide +kernel
