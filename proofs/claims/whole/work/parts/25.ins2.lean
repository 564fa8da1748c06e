/-! THE SMALL MACHINE: instructions, part 2 (by program, wip/gen/gen24.py) -/
theorem i163_176 : am_ins 163 176 = some (.invokestatic 209) := by decide +kernel
theorem i163_179 : am_ins 163 179 = some (.aload_n 0) := by decide +kernel
theorem i163_180 : am_ins 163 180 = some (.getfield 42) := by decide +kernel
theorem i163_183 : am_ins 163 183 = some (.aload_n 0) := by decide +kernel
theorem i163_184 : am_ins 163 184 = some (.getfield 22) := by decide +kernel
theorem i163_187 : am_ins 163 187 = some (.invokestatic 209) := by decide +kernel
theorem i163_190 : am_ins 163 190 = some (.aload_n 0) := by decide +kernel
theorem i163_191 : am_ins 163 191 = some (.iconst 0) := by decide +kernel
theorem i163_192 : am_ins 163 192 = some (.putfield 213) := by decide +kernel
theorem i163_195 : am_ins 163 195 = some (.aload_n 0) := by decide +kernel
theorem i163_196 : am_ins 163 196 = some (.getfield 28) := by decide +kernel
theorem i163_199 : am_ins 163 199 = some (.iconst 0) := by decide +kernel
theorem i163_200 : am_ins 163 200 = some (.iconst 0) := by decide +kernel
theorem i163_201 : am_ins 163 201 = some (.bastore) := by decide +kernel
theorem i163_202 : am_ins 163 202 = some (.aload_n 0) := by decide +kernel
theorem i163_203 : am_ins 163 203 = some (.getfield 28) := by decide +kernel
theorem i163_206 : am_ins 163 206 = some (.iconst 1) := by decide +kernel
theorem i163_207 : am_ins 163 207 = some (.iconst 0) := by decide +kernel
theorem i163_208 : am_ins 163 208 = some (.bastore) := by decide +kernel
theorem i163_209 : am_ins 163 209 = some (.aload_n 0) := by decide +kernel
theorem i163_210 : am_ins 163 210 = some (.getfield 22) := by decide +kernel
theorem i163_213 : am_ins 163 213 = some (.iconst 3) := by decide +kernel
theorem i163_214 : am_ins 163 214 = some (.iaload) := by decide +kernel
theorem i163_215 : am_ins 163 215 = some (.ireturn) := by decide +kernel
theorem i164_0 : am_ins 164 0 = some (.iload_n 0) := by decide +kernel
theorem i164_1 : am_ins 164 1 = some (.iload_n 1) := by decide +kernel
theorem i164_2 : am_ins 164 2 = some (.if_icmp .lt 12) := by decide +kernel
theorem i164_5 : am_ins 164 5 = some (.iload_n 0) := by decide +kernel
theorem i164_6 : am_ins 164 6 = some (.iload_n 2) := by decide +kernel
theorem i164_7 : am_ins 164 7 = some (.if_icmp .gt 7) := by decide +kernel
theorem i164_10 : am_ins 164 10 = some (.iconst 1) := by decide +kernel
theorem i164_11 : am_ins 164 11 = some (.goto 4) := by decide +kernel
theorem i164_14 : am_ins 164 14 = some (.iconst 0) := by decide +kernel
theorem i164_15 : am_ins 164 15 = some (.ireturn) := by decide +kernel
theorem i165_0 : am_ins 165 0 = some (.aload_n 0) := by decide +kernel
theorem i165_1 : am_ins 165 1 = some (.getfield 63) := by decide +kernel
theorem i165_4 : am_ins 165 4 = some (.ifCond .ne 12) := by decide +kernel
theorem i165_7 : am_ins 165 7 = some (.iload_n 1) := by decide +kernel
theorem i165_8 : am_ins 165 8 = some (.ifCond .eq 8) := by decide +kernel
theorem i165_11 : am_ins 165 11 = some (.aload_n 0) := by decide +kernel
theorem i165_12 : am_ins 165 12 = some (.iload_n 2) := by decide +kernel
theorem i165_13 : am_ins 165 13 = some (.putfield 63) := by decide +kernel
theorem i165_16 : am_ins 165 16 = some (.aload_n 0) := by decide +kernel
theorem i165_17 : am_ins 165 17 = some (.getfield 63) := by decide +kernel
theorem i165_20 : am_ins 165 20 = some (.ifCond .eq 7) := by decide +kernel
theorem i165_23 : am_ins 165 23 = some (.iconst 1) := by decide +kernel
theorem i165_24 : am_ins 165 24 = some (.goto 4) := by decide +kernel
theorem i165_27 : am_ins 165 27 = some (.iconst 0) := by decide +kernel
theorem i165_28 : am_ins 165 28 = some (.ireturn) := by decide +kernel
theorem i166_0 : am_ins 166 0 = some (.aload_n 0) := by decide +kernel
theorem i166_1 : am_ins 166 1 = some (.iload_n 1) := by decide +kernel
theorem i166_2 : am_ins 166 2 = some (.putfield 80) := by decide +kernel
theorem i166_5 : am_ins 166 5 = some (.aload_n 0) := by decide +kernel
theorem i166_6 : am_ins 166 6 = some (.iconst 0) := by decide +kernel
theorem i166_7 : am_ins 166 7 = some (.putfield 83) := by decide +kernel
theorem i166_10 : am_ins 166 10 = some (.aload_n 0) := by decide +kernel
theorem i166_11 : am_ins 166 11 = some (.iconst 0) := by decide +kernel
theorem i166_12 : am_ins 166 12 = some (.putfield 106) := by decide +kernel
theorem i166_15 : am_ins 166 15 = some (.aload_n 0) := by decide +kernel
theorem i166_16 : am_ins 166 16 = some (.iconst (-1)) := by decide +kernel
theorem i166_17 : am_ins 166 17 = some (.putfield 109) := by decide +kernel
theorem i166_20 : am_ins 166 20 = some (.aload_n 0) := by decide +kernel
theorem i166_21 : am_ins 166 21 = some (.iconst 0) := by decide +kernel
theorem i166_22 : am_ins 166 22 = some (.putfield 148) := by decide +kernel
theorem i166_25 : am_ins 166 25 = some (.aload_n 0) := by decide +kernel
theorem i166_26 : am_ins 166 26 = some (.iconst 0) := by decide +kernel
theorem i166_27 : am_ins 166 27 = some (.putfield 158) := by decide +kernel
theorem i166_30 : am_ins 166 30 = some (.iconst 0) := by decide +kernel
theorem i166_31 : am_ins 166 31 = some (.istore_n 2) := by decide +kernel
theorem i166_32 : am_ins 166 32 = some (.iload_n 2) := by decide +kernel
theorem i166_33 : am_ins 166 33 = some (.sipush 983) := by decide +kernel
theorem i166_36 : am_ins 166 36 = some (.if_icmp .ge 16) := by decide +kernel
theorem i166_39 : am_ins 166 39 = some (.aload_n 0) := by decide +kernel
theorem i166_40 : am_ins 166 40 = some (.getfield 42) := by decide +kernel
theorem i166_43 : am_ins 166 43 = some (.iload_n 2) := by decide +kernel
theorem i166_44 : am_ins 166 44 = some (.iconst 0) := by decide +kernel
theorem i166_45 : am_ins 166 45 = some (.iastore) := by decide +kernel
theorem i166_46 : am_ins 166 46 = some (.iinc 2 1) := by decide +kernel
theorem i166_49 : am_ins 166 49 = some (.goto (-17)) := by decide +kernel
theorem i166_52 : am_ins 166 52 = some (.aload_n 0) := by decide +kernel
theorem i166_53 : am_ins 166 53 = some (.invokevirtual 116) := by decide +kernel
theorem i166_56 : am_ins 166 56 = some (.aload_n 0) := by decide +kernel
theorem i166_57 : am_ins 166 57 = some (.ldc 180) := by decide +kernel
theorem i166_59 : am_ins 166 59 = some (.invokevirtual 182) := by decide +kernel
theorem i166_62 : am_ins 166 62 = some (.aload_n 0) := by decide +kernel
theorem i166_63 : am_ins 166 63 = some (.ldc 186) := by decide +kernel
theorem i166_65 : am_ins 166 65 = some (.invokevirtual 182) := by decide +kernel
theorem i166_68 : am_ins 166 68 = some (.aload_n 0) := by decide +kernel
theorem i166_69 : am_ins 166 69 = some (.getfield 42) := by decide +kernel
theorem i166_72 : am_ins 166 72 = some (.iconst 1) := by decide +kernel
theorem i166_73 : am_ins 166 73 = some (.aload_n 0) := by decide +kernel
theorem i166_74 : am_ins 166 74 = some (.iconst 0) := by decide +kernel
theorem i166_75 : am_ins 166 75 = some (.bipush 9) := by decide +kernel
theorem i166_77 : am_ins 166 77 = some (.invokevirtual 151) := by decide +kernel
theorem i166_80 : am_ins 166 80 = some (.iastore) := by decide +kernel
theorem i166_81 : am_ins 166 81 = some (.aload_n 0) := by decide +kernel
theorem i166_82 : am_ins 166 82 = some (.ldc 188) := by decide +kernel
theorem i166_84 : am_ins 166 84 = some (.invokevirtual 182) := by decide +kernel
theorem i166_87 : am_ins 166 87 = some (.aload_n 0) := by decide +kernel
theorem i166_88 : am_ins 166 88 = some (.getfield 42) := by decide +kernel
theorem i166_91 : am_ins 166 91 = some (.iconst 2) := by decide +kernel
theorem i166_92 : am_ins 166 92 = some (.aload_n 0) := by decide +kernel
theorem i166_93 : am_ins 166 93 = some (.iconst 1) := by decide +kernel
theorem i166_94 : am_ins 166 94 = some (.sipush 200) := by decide +kernel
theorem i166_97 : am_ins 166 97 = some (.invokevirtual 151) := by decide +kernel
theorem i166_100 : am_ins 166 100 = some (.iastore) := by decide +kernel
theorem i166_101 : am_ins 166 101 = some (.aload_n 0) := by decide +kernel
theorem i166_102 : am_ins 166 102 = some (.getfield 106) := by decide +kernel
theorem i166_105 : am_ins 166 105 = some (.ifCond .ne 22) := by decide +kernel
theorem i166_108 : am_ins 166 108 = some (.aload_n 0) := by decide +kernel
theorem i166_109 : am_ins 166 109 = some (.getfield 93) := by decide +kernel
theorem i166_112 : am_ins 166 112 = some (.iconst 3) := by decide +kernel
theorem i166_113 : am_ins 166 113 = some (.if_icmp .ne 14) := by decide +kernel
theorem i166_116 : am_ins 166 116 = some (.aload_n 0) := by decide +kernel
theorem i166_117 : am_ins 166 117 = some (.invokevirtual 116) := by decide +kernel
theorem i166_120 : am_ins 166 120 = some (.aload_n 0) := by decide +kernel
theorem i166_121 : am_ins 166 121 = some (.invokevirtual 190) := by decide +kernel
theorem i166_124 : am_ins 166 124 = some (.goto (-23)) := by decide +kernel
theorem i166_127 : am_ins 166 127 = some (.aload_n 0) := by decide +kernel
theorem i166_128 : am_ins 166 128 = some (.aload_n 0) := by decide +kernel
theorem i166_129 : am_ins 166 129 = some (.getfield 93) := by decide +kernel
theorem i166_132 : am_ins 166 132 = some (.ifCond .eq 7) := by decide +kernel
theorem i166_135 : am_ins 166 135 = some (.iconst 1) := by decide +kernel
theorem i166_136 : am_ins 166 136 = some (.goto 4) := by decide +kernel
theorem i166_139 : am_ins 166 139 = some (.iconst 0) := by decide +kernel
theorem i166_140 : am_ins 166 140 = some (.iconst 1) := by decide +kernel
theorem i166_141 : am_ins 166 141 = some (.invokevirtual 133) := by decide +kernel
theorem i166_144 : am_ins 166 144 = some (.return_) := by decide +kernel
theorem i167_0 : am_ins 167 0 = some (.aload_n 0) := by decide +kernel
theorem i167_1 : am_ins 167 1 = some (.aload_n 0) := by decide +kernel
theorem i167_2 : am_ins 167 2 = some (.getfield 83) := by decide +kernel
theorem i167_5 : am_ins 167 5 = some (.invokevirtual 86) := by decide +kernel
theorem i167_8 : am_ins 167 8 = some (.bipush 32) := by decide +kernel
theorem i167_10 : am_ins 167 10 = some (.if_icmp .ne 16) := by decide +kernel
theorem i167_13 : am_ins 167 13 = some (.aload_n 0) := by decide +kernel
theorem i167_14 : am_ins 167 14 = some (.dup) := by decide +kernel
theorem i167_15 : am_ins 167 15 = some (.getfield 83) := by decide +kernel
theorem i167_18 : am_ins 167 18 = some (.iconst 1) := by decide +kernel
theorem i167_19 : am_ins 167 19 = some (.iadd) := by decide +kernel
theorem i167_20 : am_ins 167 20 = some (.putfield 83) := by decide +kernel
theorem i167_23 : am_ins 167 23 = some (.goto (-23)) := by decide +kernel
theorem i167_26 : am_ins 167 26 = some (.aload_n 0) := by decide +kernel
theorem i167_27 : am_ins 167 27 = some (.aload_n 0) := by decide +kernel
theorem i167_28 : am_ins 167 28 = some (.getfield 83) := by decide +kernel
theorem i167_31 : am_ins 167 31 = some (.putfield 90) := by decide +kernel
theorem i167_34 : am_ins 167 34 = some (.aload_n 0) := by decide +kernel
theorem i167_35 : am_ins 167 35 = some (.aload_n 0) := by decide +kernel
theorem i167_36 : am_ins 167 36 = some (.getfield 83) := by decide +kernel
theorem i167_39 : am_ins 167 39 = some (.invokevirtual 86) := by decide +kernel
theorem i167_42 : am_ins 167 42 = some (.istore_n 1) := by decide +kernel
theorem i167_43 : am_ins 167 43 = some (.iload_n 1) := by decide +kernel
theorem i167_44 : am_ins 167 44 = some (.iconst (-1)) := by decide +kernel
theorem i167_45 : am_ins 167 45 = some (.if_icmp .ne 11) := by decide +kernel
theorem i167_48 : am_ins 167 48 = some (.aload_n 0) := by decide +kernel
theorem i167_49 : am_ins 167 49 = some (.iconst 0) := by decide +kernel
theorem i167_50 : am_ins 167 50 = some (.putfield 93) := by decide +kernel
theorem i167_53 : am_ins 167 53 = some (.goto 192) := by decide +kernel
theorem i167_56 : am_ins 167 56 = some (.iload_n 1) := by decide +kernel
theorem i167_57 : am_ins 167 57 = some (.invokestatic 96) := by decide +kernel
theorem i167_60 : am_ins 167 60 = some (.ifCond .eq 56) := by decide +kernel
theorem i167_63 : am_ins 167 63 = some (.aload_n 0) := by decide +kernel
theorem i167_64 : am_ins 167 64 = some (.aload_n 0) := by decide +kernel
theorem i167_65 : am_ins 167 65 = some (.getfield 83) := by decide +kernel
theorem i167_68 : am_ins 167 68 = some (.invokevirtual 86) := by decide +kernel
theorem i167_71 : am_ins 167 71 = some (.invokestatic 96) := by decide +kernel
theorem i167_74 : am_ins 167 74 = some (.ifCond .eq 16) := by decide +kernel
theorem i167_77 : am_ins 167 77 = some (.aload_n 0) := by decide +kernel
theorem i167_78 : am_ins 167 78 = some (.dup) := by decide +kernel
theorem i167_79 : am_ins 167 79 = some (.getfield 83) := by decide +kernel
theorem i167_82 : am_ins 167 82 = some (.iconst 1) := by decide +kernel
theorem i167_83 : am_ins 167 83 = some (.iadd) := by decide +kernel
theorem i167_84 : am_ins 167 84 = some (.putfield 83) := by decide +kernel
theorem i167_87 : am_ins 167 87 = some (.goto (-24)) := by decide +kernel
theorem i167_90 : am_ins 167 90 = some (.aload_n 0) := by decide +kernel
theorem i167_91 : am_ins 167 91 = some (.aload_n 0) := by decide +kernel
theorem i167_92 : am_ins 167 92 = some (.getfield 83) := by decide +kernel
theorem i167_95 : am_ins 167 95 = some (.aload_n 0) := by decide +kernel
theorem i167_96 : am_ins 167 96 = some (.getfield 90) := by decide +kernel
theorem i167_99 : am_ins 167 99 = some (.isub) := by decide +kernel
theorem i167_100 : am_ins 167 100 = some (.bipush 8) := by decide +kernel
theorem i167_102 : am_ins 167 102 = some (.if_icmp .le 7) := by decide +kernel
theorem i167_105 : am_ins 167 105 = some (.iconst 4) := by decide +kernel
theorem i167_106 : am_ins 167 106 = some (.goto 4) := by decide +kernel
theorem i167_109 : am_ins 167 109 = some (.iconst 1) := by decide +kernel
theorem i167_110 : am_ins 167 110 = some (.putfield 93) := by decide +kernel
theorem i167_113 : am_ins 167 113 = some (.goto 132) := by decide +kernel
theorem i167_116 : am_ins 167 116 = some (.iload_n 1) := by decide +kernel
theorem i167_117 : am_ins 167 117 = some (.invokestatic 100) := by decide +kernel
theorem i167_120 : am_ins 167 120 = some (.ifCond .eq 100) := by decide +kernel
theorem i167_123 : am_ins 167 123 = some (.aload_n 0) := by decide +kernel
theorem i167_124 : am_ins 167 124 = some (.iconst 0) := by decide +kernel
theorem i167_125 : am_ins 167 125 = some (.putfield 103) := by decide +kernel
theorem i167_128 : am_ins 167 128 = some (.aload_n 0) := by decide +kernel
theorem i167_129 : am_ins 167 129 = some (.aload_n 0) := by decide +kernel
theorem i167_130 : am_ins 167 130 = some (.getfield 83) := by decide +kernel
theorem i167_133 : am_ins 167 133 = some (.invokevirtual 86) := by decide +kernel
theorem i167_136 : am_ins 167 136 = some (.invokestatic 100) := by decide +kernel
theorem i167_139 : am_ins 167 139 = some (.ifCond .eq 56) := by decide +kernel
theorem i167_142 : am_ins 167 142 = some (.aload_n 0) := by decide +kernel
theorem i167_143 : am_ins 167 143 = some (.aload_n 0) := by decide +kernel
theorem i167_144 : am_ins 167 144 = some (.getfield 83) := by decide +kernel
theorem i167_147 : am_ins 167 147 = some (.aload_n 0) := by decide +kernel
theorem i167_148 : am_ins 167 148 = some (.getfield 90) := by decide +kernel
theorem i167_151 : am_ins 167 151 = some (.isub) := by decide +kernel
theorem i167_152 : am_ins 167 152 = some (.iconst 3) := by decide +kernel
theorem i167_153 : am_ins 167 153 = some (.if_icmp .ge 25) := by decide +kernel
theorem i167_156 : am_ins 167 156 = some (.bipush 10) := by decide +kernel
theorem i167_158 : am_ins 167 158 = some (.aload_n 0) := by decide +kernel
theorem i167_159 : am_ins 167 159 = some (.getfield 103) := by decide +kernel
theorem i167_162 : am_ins 167 162 = some (.imul) := by decide +kernel
theorem i167_163 : am_ins 167 163 = some (.aload_n 0) := by decide +kernel
theorem i167_164 : am_ins 167 164 = some (.aload_n 0) := by decide +kernel
theorem i167_165 : am_ins 167 165 = some (.getfield 83) := by decide +kernel
theorem i167_168 : am_ins 167 168 = some (.invokevirtual 86) := by decide +kernel
theorem i167_171 : am_ins 167 171 = some (.iadd) := by decide +kernel
theorem i167_172 : am_ins 167 172 = some (.bipush 48) := by decide +kernel
theorem i167_174 : am_ins 167 174 = some (.isub) := by decide +kernel
theorem i167_175 : am_ins 167 175 = some (.goto 4) := by decide +kernel
theorem i167_178 : am_ins 167 178 = some (.iconst 0) := by decide +kernel
theorem i167_179 : am_ins 167 179 = some (.putfield 103) := by decide +kernel
theorem i167_182 : am_ins 167 182 = some (.aload_n 0) := by decide +kernel
theorem i167_183 : am_ins 167 183 = some (.dup) := by decide +kernel
theorem i167_184 : am_ins 167 184 = some (.getfield 83) := by decide +kernel
theorem i167_187 : am_ins 167 187 = some (.iconst 1) := by decide +kernel
theorem i167_188 : am_ins 167 188 = some (.iadd) := by decide +kernel
theorem i167_189 : am_ins 167 189 = some (.putfield 83) := by decide +kernel
theorem i167_192 : am_ins 167 192 = some (.goto (-64)) := by decide +kernel
theorem i167_195 : am_ins 167 195 = some (.aload_n 0) := by decide +kernel
theorem i167_196 : am_ins 167 196 = some (.aload_n 0) := by decide +kernel
theorem i167_197 : am_ins 167 197 = some (.getfield 83) := by decide +kernel
theorem i167_200 : am_ins 167 200 = some (.aload_n 0) := by decide +kernel
theorem i167_201 : am_ins 167 201 = some (.getfield 90) := by decide +kernel
theorem i167_204 : am_ins 167 204 = some (.isub) := by decide +kernel
theorem i167_205 : am_ins 167 205 = some (.iconst 3) := by decide +kernel
theorem i167_206 : am_ins 167 206 = some (.if_icmp .le 7) := by decide +kernel
theorem i167_209 : am_ins 167 209 = some (.iconst 4) := by decide +kernel
theorem i167_210 : am_ins 167 210 = some (.goto 4) := by decide +kernel
theorem i167_213 : am_ins 167 213 = some (.iconst 2) := by decide +kernel
theorem i167_214 : am_ins 167 214 = some (.putfield 93) := by decide +kernel
theorem i167_217 : am_ins 167 217 = some (.goto 28) := by decide +kernel
theorem i167_220 : am_ins 167 220 = some (.aload_n 0) := by decide +kernel
theorem i167_221 : am_ins 167 221 = some (.iload_n 1) := by decide +kernel
theorem i167_222 : am_ins 167 222 = some (.bipush 59) := by decide +kernel
theorem i167_224 : am_ins 167 224 = some (.if_icmp .ne 7) := by decide +kernel
theorem i167_227 : am_ins 167 227 = some (.iconst 3) := by decide +kernel
theorem i167_228 : am_ins 167 228 = some (.goto 4) := by decide +kernel
theorem i167_231 : am_ins 167 231 = some (.iconst 4) := by decide +kernel
theorem i167_232 : am_ins 167 232 = some (.putfield 93) := by decide +kernel
theorem i167_235 : am_ins 167 235 = some (.aload_n 0) := by decide +kernel
theorem i167_236 : am_ins 167 236 = some (.dup) := by decide +kernel
theorem i167_237 : am_ins 167 237 = some (.getfield 83) := by decide +kernel
theorem i167_240 : am_ins 167 240 = some (.iconst 1) := by decide +kernel
theorem i167_241 : am_ins 167 241 = some (.iadd) := by decide +kernel
theorem i167_242 : am_ins 167 242 = some (.putfield 83) := by decide +kernel
theorem i167_245 : am_ins 167 245 = some (.return_) := by decide +kernel
theorem i168_0 : am_ins 168 0 = some (.iload_n 1) := by decide +kernel
theorem i168_1 : am_ins 168 1 = some (.aload_n 0) := by decide +kernel
theorem i168_2 : am_ins 168 2 = some (.getfield 80) := by decide +kernel
theorem i168_5 : am_ins 168 5 = some (.if_icmp .ge 12) := by decide +kernel
theorem i168_8 : am_ins 168 8 = some (.aload_n 0) := by decide +kernel
theorem i168_9 : am_ins 168 9 = some (.getfield 32) := by decide +kernel
theorem i168_12 : am_ins 168 12 = some (.iload_n 1) := by decide +kernel
theorem i168_13 : am_ins 168 13 = some (.iaload) := by decide +kernel
theorem i168_14 : am_ins 168 14 = some (.goto 4) := by decide +kernel
theorem i168_17 : am_ins 168 17 = some (.iconst (-1)) := by decide +kernel
theorem i168_18 : am_ins 168 18 = some (.ireturn) := by decide +kernel
theorem i169_0 : am_ins 169 0 = some (.iload_n 0) := by decide +kernel
theorem i169_1 : am_ins 169 1 = some (.bipush 97) := by decide +kernel
theorem i169_3 : am_ins 169 3 = some (.if_icmp .lt 13) := by decide +kernel
theorem i169_6 : am_ins 169 6 = some (.iload_n 0) := by decide +kernel
theorem i169_7 : am_ins 169 7 = some (.bipush 122) := by decide +kernel
theorem i169_9 : am_ins 169 9 = some (.if_icmp .gt 7) := by decide +kernel
theorem i169_12 : am_ins 169 12 = some (.iconst 1) := by decide +kernel
theorem i169_13 : am_ins 169 13 = some (.goto 4) := by decide +kernel
theorem i169_16 : am_ins 169 16 = some (.iconst 0) := by decide +kernel
theorem i169_17 : am_ins 169 17 = some (.ireturn) := by decide +kernel
theorem i170_0 : am_ins 170 0 = some (.iload_n 0) := by decide +kernel
theorem i170_1 : am_ins 170 1 = some (.bipush 48) := by decide +kernel
theorem i170_3 : am_ins 170 3 = some (.if_icmp .lt 13) := by decide +kernel
theorem i170_6 : am_ins 170 6 = some (.iload_n 0) := by decide +kernel
theorem i170_7 : am_ins 170 7 = some (.bipush 57) := by decide +kernel
theorem i170_9 : am_ins 170 9 = some (.if_icmp .gt 7) := by decide +kernel
theorem i170_12 : am_ins 170 12 = some (.iconst 1) := by decide +kernel
theorem i170_13 : am_ins 170 13 = some (.goto 4) := by decide +kernel
theorem i170_16 : am_ins 170 16 = some (.iconst 0) := by decide +kernel
theorem i170_17 : am_ins 170 17 = some (.ireturn) := by decide +kernel
theorem i171_0 : am_ins 171 0 = some (.aload_n 0) := by decide +kernel
theorem i171_1 : am_ins 171 1 = some (.aload_n 0) := by decide +kernel
theorem i171_2 : am_ins 171 2 = some (.aload_n 1) := by decide +kernel
theorem i171_3 : am_ins 171 3 = some (.invokevirtual 129) := by decide +kernel
theorem i171_6 : am_ins 171 6 = some (.ifCond .ne 7) := by decide +kernel
theorem i171_9 : am_ins 171 9 = some (.iconst 1) := by decide +kernel
theorem i171_10 : am_ins 171 10 = some (.goto 4) := by decide +kernel
theorem i171_13 : am_ins 171 13 = some (.iconst 0) := by decide +kernel
theorem i171_14 : am_ins 171 14 = some (.iconst 1) := by decide +kernel
theorem i171_15 : am_ins 171 15 = some (.invokevirtual 133) := by decide +kernel
theorem i171_18 : am_ins 171 18 = some (.aload_n 0) := by decide +kernel
theorem i171_19 : am_ins 171 19 = some (.invokevirtual 137) := by decide +kernel
theorem i171_22 : am_ins 171 22 = some (.return_) := by decide +kernel
theorem i172_0 : am_ins 172 0 = some (.aload_n 0) := by decide +kernel
theorem i172_1 : am_ins 172 1 = some (.getfield 106) := by decide +kernel
theorem i172_4 : am_ins 172 4 = some (.ifCond .ne 27) := by decide +kernel
theorem i172_7 : am_ins 172 7 = some (.aload_n 0) := by decide +kernel
theorem i172_8 : am_ins 172 8 = some (.getfield 93) := by decide +kernel
theorem i172_11 : am_ins 172 11 = some (.iconst 1) := by decide +kernel
theorem i172_12 : am_ins 172 12 = some (.if_icmp .ne 19) := by decide +kernel
theorem i172_15 : am_ins 172 15 = some (.aload_n 0) := by decide +kernel
theorem i172_16 : am_ins 172 16 = some (.getfield 83) := by decide +kernel
theorem i172_19 : am_ins 172 19 = some (.aload_n 0) := by decide +kernel
theorem i172_20 : am_ins 172 20 = some (.getfield 90) := by decide +kernel
theorem i172_23 : am_ins 172 23 = some (.isub) := by decide +kernel
theorem i172_24 : am_ins 172 24 = some (.aload_n 1) := by decide +kernel
theorem i172_25 : am_ins 172 25 = some (.invokevirtual 119) := by decide +kernel
theorem i172_28 : am_ins 172 28 = some (.if_icmp .eq 5) := by decide +kernel
theorem i172_31 : am_ins 172 31 = some (.iconst 0) := by decide +kernel
theorem i172_32 : am_ins 172 32 = some (.ireturn) := by decide +kernel
theorem i172_33 : am_ins 172 33 = some (.iconst 0) := by decide +kernel
theorem i172_34 : am_ins 172 34 = some (.istore_n 2) := by decide +kernel
theorem i172_35 : am_ins 172 35 = some (.iload_n 2) := by decide +kernel
theorem i172_36 : am_ins 172 36 = some (.aload_n 1) := by decide +kernel
theorem i172_37 : am_ins 172 37 = some (.invokevirtual 119) := by decide +kernel
theorem i172_40 : am_ins 172 40 = some (.if_icmp .ge 29) := by decide +kernel
theorem i172_43 : am_ins 172 43 = some (.aload_n 0) := by decide +kernel
theorem i172_44 : am_ins 172 44 = some (.aload_n 0) := by decide +kernel
theorem i172_45 : am_ins 172 45 = some (.getfield 90) := by decide +kernel
theorem i172_48 : am_ins 172 48 = some (.iload_n 2) := by decide +kernel
theorem i172_49 : am_ins 172 49 = some (.iadd) := by decide +kernel
theorem i172_50 : am_ins 172 50 = some (.invokevirtual 86) := by decide +kernel
theorem i172_53 : am_ins 172 53 = some (.aload_n 1) := by decide +kernel
theorem i172_54 : am_ins 172 54 = some (.iload_n 2) := by decide +kernel
theorem i172_55 : am_ins 172 55 = some (.invokevirtual 125) := by decide +kernel
theorem i172_58 : am_ins 172 58 = some (.if_icmp .eq 5) := by decide +kernel
theorem i172_61 : am_ins 172 61 = some (.iconst 0) := by decide +kernel
theorem i172_62 : am_ins 172 62 = some (.ireturn) := by decide +kernel
theorem i172_63 : am_ins 172 63 = some (.iinc 2 1) := by decide +kernel
theorem i172_66 : am_ins 172 66 = some (.goto (-31)) := by decide +kernel
theorem i172_69 : am_ins 172 69 = some (.iconst 1) := by decide +kernel
theorem i172_70 : am_ins 172 70 = some (.ireturn) := by decide +kernel
theorem i173_0 : am_ins 173 0 = some (.iload_n 1) := by decide +kernel
theorem i173_1 : am_ins 173 1 = some (.ifCond .eq 8) := by decide +kernel
theorem i173_4 : am_ins 173 4 = some (.aload_n 0) := by decide +kernel
theorem i173_5 : am_ins 173 5 = some (.iload_n 2) := by decide +kernel
theorem i173_6 : am_ins 173 6 = some (.invokevirtual 112) := by decide +kernel
theorem i173_9 : am_ins 173 9 = some (.return_) := by decide +kernel
theorem i174_0 : am_ins 174 0 = some (.aload_n 0) := by decide +kernel
theorem i174_1 : am_ins 174 1 = some (.getfield 106) := by decide +kernel
theorem i174_4 : am_ins 174 4 = some (.ifCond .ne 16) := by decide +kernel
theorem i174_7 : am_ins 174 7 = some (.aload_n 0) := by decide +kernel
theorem i174_8 : am_ins 174 8 = some (.iload_n 1) := by decide +kernel
theorem i174_9 : am_ins 174 9 = some (.putfield 106) := by decide +kernel
theorem i174_12 : am_ins 174 12 = some (.aload_n 0) := by decide +kernel
theorem i174_13 : am_ins 174 13 = some (.aload_n 0) := by decide +kernel
theorem i174_14 : am_ins 174 14 = some (.getfield 90) := by decide +kernel
theorem i174_17 : am_ins 174 17 = some (.putfield 109) := by decide +kernel
theorem i174_20 : am_ins 174 20 = some (.return_) := by decide +kernel
theorem i175_0 : am_ins 175 0 = some (.aload_n 0) := by decide +kernel
theorem i175_1 : am_ins 175 1 = some (.getfield 106) := by decide +kernel
theorem i175_4 : am_ins 175 4 = some (.ifCond .ne 7) := by decide +kernel
theorem i175_7 : am_ins 175 7 = some (.aload_n 0) := by decide +kernel
theorem i175_8 : am_ins 175 8 = some (.invokevirtual 116) := by decide +kernel
theorem i175_11 : am_ins 175 11 = some (.return_) := by decide +kernel
theorem i176_0 : am_ins 176 0 = some (.aload_n 0) := by decide +kernel
theorem i176_1 : am_ins 176 1 = some (.iload_n 1) := by decide +kernel
theorem i176_2 : am_ins 176 2 = some (.iload_n 2) := by decide +kernel
theorem i176_3 : am_ins 176 3 = some (.invokevirtual 144) := by decide +kernel
theorem i176_6 : am_ins 176 6 = some (.istore_n 3) := by decide +kernel
theorem i176_7 : am_ins 176 7 = some (.aload_n 0) := by decide +kernel
theorem i176_8 : am_ins 176 8 = some (.invokevirtual 137) := by decide +kernel
theorem i176_11 : am_ins 176 11 = some (.iload_n 3) := by decide +kernel
theorem i176_12 : am_ins 176 12 = some (.ireturn) := by decide +kernel
theorem i177_0 : am_ins 177 0 = some (.aload_n 0) := by decide +kernel
theorem i177_1 : am_ins 177 1 = some (.getfield 93) := by decide +kernel
theorem i177_4 : am_ins 177 4 = some (.iconst 2) := by decide +kernel
theorem i177_5 : am_ins 177 5 = some (.if_icmp .eq 11) := by decide +kernel
theorem i177_8 : am_ins 177 8 = some (.aload_n 0) := by decide +kernel
theorem i177_9 : am_ins 177 9 = some (.iconst 1) := by decide +kernel
theorem i177_10 : am_ins 177 10 = some (.invokevirtual 112) := by decide +kernel
theorem i177_13 : am_ins 177 13 = some (.goto 20) := by decide +kernel
theorem i177_16 : am_ins 177 16 = some (.aload_n 0) := by decide +kernel
theorem i177_17 : am_ins 177 17 = some (.getfield 103) := by decide +kernel
theorem i177_20 : am_ins 177 20 = some (.iload_n 1) := by decide +kernel
theorem i177_21 : am_ins 177 21 = some (.iload_n 2) := by decide +kernel
theorem i177_22 : am_ins 177 22 = some (.invokestatic 140) := by decide +kernel
theorem i177_25 : am_ins 177 25 = some (.ifCond .ne 8) := by decide +kernel
theorem i177_28 : am_ins 177 28 = some (.aload_n 0) := by decide +kernel
theorem i177_29 : am_ins 177 29 = some (.iconst 2) := by decide +kernel
theorem i177_30 : am_ins 177 30 = some (.invokevirtual 112) := by decide +kernel
theorem i177_33 : am_ins 177 33 = some (.aload_n 0) := by decide +kernel
theorem i177_34 : am_ins 177 34 = some (.getfield 106) := by decide +kernel
theorem i177_37 : am_ins 177 37 = some (.ifCond .eq 7) := by decide +kernel
theorem i177_40 : am_ins 177 40 = some (.iload_n 1) := by decide +kernel
theorem i177_41 : am_ins 177 41 = some (.goto 7) := by decide +kernel
theorem i177_44 : am_ins 177 44 = some (.aload_n 0) := by decide +kernel
theorem i177_45 : am_ins 177 45 = some (.getfield 103) := by decide +kernel
theorem i177_48 : am_ins 177 48 = some (.ireturn) := by decide +kernel
theorem i178_0 : am_ins 178 0 = some (.aload_n 0) := by decide +kernel
theorem i178_1 : am_ins 178 1 = some (.ldc 161) := by decide +kernel
theorem i178_3 : am_ins 178 3 = some (.invokevirtual 129) := by decide +kernel
theorem i178_6 : am_ins 178 6 = some (.ifCond .eq 10) := by decide +kernel
theorem i178_9 : am_ins 178 9 = some (.aload_n 0) := by decide +kernel
theorem i178_10 : am_ins 178 10 = some (.invokevirtual 163) := by decide +kernel
theorem i178_13 : am_ins 178 13 = some (.goto 56) := by decide +kernel
theorem i178_16 : am_ins 178 16 = some (.aload_n 0) := by decide +kernel
theorem i178_17 : am_ins 178 17 = some (.ldc 166) := by decide +kernel
theorem i178_19 : am_ins 178 19 = some (.invokevirtual 129) := by decide +kernel
theorem i178_22 : am_ins 178 22 = some (.ifCond .eq 10) := by decide +kernel
theorem i178_25 : am_ins 178 25 = some (.aload_n 0) := by decide +kernel
theorem i178_26 : am_ins 178 26 = some (.invokevirtual 168) := by decide +kernel
theorem i178_29 : am_ins 178 29 = some (.goto 40) := by decide +kernel
theorem i178_32 : am_ins 178 32 = some (.aload_n 0) := by decide +kernel
theorem i178_33 : am_ins 178 33 = some (.ldc 171) := by decide +kernel
theorem i178_35 : am_ins 178 35 = some (.invokevirtual 129) := by decide +kernel
theorem i178_38 : am_ins 178 38 = some (.ifCond .eq 10) := by decide +kernel
theorem i178_41 : am_ins 178 41 = some (.aload_n 0) := by decide +kernel
theorem i178_42 : am_ins 178 42 = some (.invokevirtual 173) := by decide +kernel
theorem i178_45 : am_ins 178 45 = some (.goto 24) := by decide +kernel
theorem i178_48 : am_ins 178 48 = some (.aload_n 0) := by decide +kernel
theorem i178_49 : am_ins 178 49 = some (.ldc 176) := by decide +kernel
theorem i178_51 : am_ins 178 51 = some (.invokevirtual 129) := by decide +kernel
theorem i178_54 : am_ins 178 54 = some (.ifCond .eq 10) := by decide +kernel
theorem i178_57 : am_ins 178 57 = some (.aload_n 0) := by decide +kernel
theorem i178_58 : am_ins 178 58 = some (.invokevirtual 177) := by decide +kernel
theorem i178_61 : am_ins 178 61 = some (.goto 8) := by decide +kernel
theorem i178_64 : am_ins 178 64 = some (.aload_n 0) := by decide +kernel
theorem i178_65 : am_ins 178 65 = some (.iconst 1) := by decide +kernel
theorem i178_66 : am_ins 178 66 = some (.invokevirtual 112) := by decide +kernel
theorem i178_69 : am_ins 178 69 = some (.return_) := by decide +kernel
theorem i179_0 : am_ins 179 0 = some (.aload_n 0) := by decide +kernel
theorem i179_1 : am_ins 179 1 = some (.aload_n 0) := by decide +kernel
theorem i179_2 : am_ins 179 2 = some (.getfield 148) := by decide +kernel
theorem i179_5 : am_ins 179 5 = some (.iconst 4) := by decide +kernel
theorem i179_6 : am_ins 179 6 = some (.if_icmp .ne 7) := by decide +kernel
theorem i179_9 : am_ins 179 9 = some (.iconst 1) := by decide +kernel
theorem i179_10 : am_ins 179 10 = some (.goto 4) := by decide +kernel
theorem i179_13 : am_ins 179 13 = some (.iconst 0) := by decide +kernel
theorem i179_14 : am_ins 179 14 = some (.iconst 4) := by decide +kernel
theorem i179_15 : am_ins 179 15 = some (.invokevirtual 133) := by decide +kernel
theorem i179_18 : am_ins 179 18 = some (.aload_n 0) := by decide +kernel
theorem i179_19 : am_ins 179 19 = some (.invokevirtual 137) := by decide +kernel
theorem i179_22 : am_ins 179 22 = some (.aload_n 0) := by decide +kernel
theorem i179_23 : am_ins 179 23 = some (.iconst 1) := by decide +kernel
theorem i179_24 : am_ins 179 24 = some (.sipush 200) := by decide +kernel
theorem i179_27 : am_ins 179 27 = some (.invokevirtual 151) := by decide +kernel
theorem i179_30 : am_ins 179 30 = some (.istore_n 1) := by decide +kernel
theorem i179_31 : am_ins 179 31 = some (.aload_n 0) := by decide +kernel
theorem i179_32 : am_ins 179 32 = some (.iconst 1) := by decide +kernel
theorem i179_33 : am_ins 179 33 = some (.bipush 99) := by decide +kernel
theorem i179_35 : am_ins 179 35 = some (.invokevirtual 144) := by decide +kernel
theorem i179_38 : am_ins 179 38 = some (.istore_n 2) := by decide +kernel
theorem i179_39 : am_ins 179 39 = some (.iconst 0) := by decide +kernel
theorem i179_40 : am_ins 179 40 = some (.istore_n 3) := by decide +kernel
theorem i179_41 : am_ins 179 41 = some (.iload_n 3) := by decide +kernel
theorem i179_42 : am_ins 179 42 = some (.aload_n 0) := by decide +kernel
theorem i179_43 : am_ins 179 43 = some (.getfield 148) := by decide +kernel
theorem i179_46 : am_ins 179 46 = some (.if_icmp .ge 39) := by decide +kernel
theorem i179_49 : am_ins 179 49 = some (.aload_n 0) := by decide +kernel
theorem i179_50 : am_ins 179 50 = some (.aload_n 0) := by decide +kernel
theorem i179_51 : am_ins 179 51 = some (.getfield 45) := by decide +kernel
theorem i179_54 : am_ins 179 54 = some (.iload_n 3) := by decide +kernel
theorem i179_55 : am_ins 179 55 = some (.iaload) := by decide +kernel
theorem i179_56 : am_ins 179 56 = some (.iload_n 1) := by decide +kernel
theorem i179_57 : am_ins 179 57 = some (.if_icmp .ne 17) := by decide +kernel
theorem i179_60 : am_ins 179 60 = some (.aload_n 0) := by decide +kernel
theorem i179_61 : am_ins 179 61 = some (.getfield 48) := by decide +kernel
theorem i179_64 : am_ins 179 64 = some (.iload_n 3) := by decide +kernel
theorem i179_65 : am_ins 179 65 = some (.iaload) := by decide +kernel
theorem i179_66 : am_ins 179 66 = some (.iload_n 2) := by decide +kernel
theorem i179_67 : am_ins 179 67 = some (.if_icmp .ne 7) := by decide +kernel
theorem i179_70 : am_ins 179 70 = some (.iconst 1) := by decide +kernel
theorem i179_71 : am_ins 179 71 = some (.goto 4) := by decide +kernel
theorem i179_74 : am_ins 179 74 = some (.iconst 0) := by decide +kernel
theorem i179_75 : am_ins 179 75 = some (.iconst 3) := by decide +kernel
theorem i179_76 : am_ins 179 76 = some (.invokevirtual 133) := by decide +kernel
theorem i179_79 : am_ins 179 79 = some (.iinc 3 1) := by decide +kernel
theorem i179_82 : am_ins 179 82 = some (.goto (-41)) := by decide +kernel
theorem i179_85 : am_ins 179 85 = some (.aload_n 0) := by decide +kernel
theorem i179_86 : am_ins 179 86 = some (.invokevirtual 137) := by decide +kernel
theorem i179_89 : am_ins 179 89 = some (.aload_n 0) := by decide +kernel
theorem i179_90 : am_ins 179 90 = some (.getfield 106) := by decide +kernel
theorem i179_93 : am_ins 179 93 = some (.ifCond .ne 33) := by decide +kernel
theorem i179_96 : am_ins 179 96 = some (.aload_n 0) := by decide +kernel
theorem i179_97 : am_ins 179 97 = some (.getfield 45) := by decide +kernel
theorem i179_100 : am_ins 179 100 = some (.aload_n 0) := by decide +kernel
theorem i179_101 : am_ins 179 101 = some (.getfield 148) := by decide +kernel
theorem i179_104 : am_ins 179 104 = some (.iload_n 1) := by decide +kernel
theorem i179_105 : am_ins 179 105 = some (.iastore) := by decide +kernel
theorem i179_106 : am_ins 179 106 = some (.aload_n 0) := by decide +kernel
theorem i179_107 : am_ins 179 107 = some (.getfield 48) := by decide +kernel
theorem i179_110 : am_ins 179 110 = some (.aload_n 0) := by decide +kernel
theorem i179_111 : am_ins 179 111 = some (.getfield 148) := by decide +kernel
theorem i179_114 : am_ins 179 114 = some (.iload_n 2) := by decide +kernel
theorem i179_115 : am_ins 179 115 = some (.iastore) := by decide +kernel
theorem i179_116 : am_ins 179 116 = some (.aload_n 0) := by decide +kernel
theorem i179_117 : am_ins 179 117 = some (.dup) := by decide +kernel
theorem i179_118 : am_ins 179 118 = some (.getfield 148) := by decide +kernel
theorem i179_121 : am_ins 179 121 = some (.iconst 1) := by decide +kernel
theorem i179_122 : am_ins 179 122 = some (.iadd) := by decide +kernel
theorem i179_123 : am_ins 179 123 = some (.putfield 148) := by decide +kernel
theorem i179_126 : am_ins 179 126 = some (.return_) := by decide +kernel
theorem i180_0 : am_ins 180 0 = some (.aload_n 0) := by decide +kernel
theorem i180_1 : am_ins 180 1 = some (.invokevirtual 137) := by decide +kernel
theorem i180_4 : am_ins 180 4 = some (.aload_n 0) := by decide +kernel
theorem i180_5 : am_ins 180 5 = some (.iconst 0) := by decide +kernel
theorem i180_6 : am_ins 180 6 = some (.aload_n 0) := by decide +kernel
theorem i180_7 : am_ins 180 7 = some (.getfield 148) := by decide +kernel
theorem i180_10 : am_ins 180 10 = some (.iconst 1) := by decide +kernel
theorem i180_11 : am_ins 180 11 = some (.isub) := by decide +kernel
theorem i180_12 : am_ins 180 12 = some (.invokevirtual 151) := by decide +kernel
theorem i180_15 : am_ins 180 15 = some (.istore_n 1) := by decide +kernel
theorem i180_16 : am_ins 180 16 = some (.aload_n 0) := by decide +kernel
theorem i180_17 : am_ins 180 17 = some (.iconst 1) := by decide +kernel
theorem i180_18 : am_ins 180 18 = some (.bipush 9) := by decide +kernel
theorem i180_20 : am_ins 180 20 = some (.invokevirtual 144) := by decide +kernel
theorem i180_23 : am_ins 180 23 = some (.istore_n 2) := by decide +kernel
theorem i180_24 : am_ins 180 24 = some (.aload_n 0) := by decide +kernel
theorem i180_25 : am_ins 180 25 = some (.aload_n 0) := by decide +kernel
theorem i180_26 : am_ins 180 26 = some (.getfield 42) := by decide +kernel
theorem i180_29 : am_ins 180 29 = some (.iconst 3) := by decide +kernel
theorem i180_30 : am_ins 180 30 = some (.iaload) := by decide +kernel
theorem i180_31 : am_ins 180 31 = some (.iload_n 2) := by decide +kernel
theorem i180_32 : am_ins 180 32 = some (.iadd) := by decide +kernel
theorem i180_33 : am_ins 180 33 = some (.bipush 24) := by decide +kernel
theorem i180_35 : am_ins 180 35 = some (.if_icmp .le 7) := by decide +kernel
theorem i180_38 : am_ins 180 38 = some (.iconst 1) := by decide +kernel
theorem i180_39 : am_ins 180 39 = some (.goto 4) := by decide +kernel
theorem i180_42 : am_ins 180 42 = some (.iconst 0) := by decide +kernel
theorem i180_43 : am_ins 180 43 = some (.iconst 4) := by decide +kernel
theorem i180_44 : am_ins 180 44 = some (.invokevirtual 133) := by decide +kernel
theorem i180_47 : am_ins 180 47 = some (.aload_n 0) := by decide +kernel
theorem i180_48 : am_ins 180 48 = some (.invokevirtual 137) := by decide +kernel
theorem i180_51 : am_ins 180 51 = some (.iconst 0) := by decide +kernel
theorem i180_52 : am_ins 180 52 = some (.istore_n 3) := by decide +kernel
theorem i180_53 : am_ins 180 53 = some (.iload_n 3) := by decide +kernel
theorem i180_54 : am_ins 180 54 = some (.iload_n 2) := by decide +kernel
theorem i180_55 : am_ins 180 55 = some (.if_icmp .ge 61) := by decide +kernel
theorem i180_58 : am_ins 180 58 = some (.aload_n 0) := by decide +kernel
theorem i180_59 : am_ins 180 59 = some (.getfield 106) := by decide +kernel
theorem i180_62 : am_ins 180 62 = some (.ifCond .ne 54) := by decide +kernel
theorem i180_65 : am_ins 180 65 = some (.aload_n 0) := by decide +kernel
theorem i180_66 : am_ins 180 66 = some (.getfield 42) := by decide +kernel
theorem i180_69 : am_ins 180 69 = some (.bipush 14) := by decide +kernel
theorem i180_71 : am_ins 180 71 = some (.aload_n 0) := by decide +kernel
theorem i180_72 : am_ins 180 72 = some (.getfield 42) := by decide +kernel
theorem i180_75 : am_ins 180 75 = some (.iconst 3) := by decide +kernel
theorem i180_76 : am_ins 180 76 = some (.iaload) := by decide +kernel
theorem i180_77 : am_ins 180 77 = some (.iadd) := by decide +kernel
theorem i180_78 : am_ins 180 78 = some (.iload_n 1) := by decide +kernel
theorem i180_79 : am_ins 180 79 = some (.iastore) := by decide +kernel
theorem i180_80 : am_ins 180 80 = some (.aload_n 0) := by decide +kernel
theorem i180_81 : am_ins 180 81 = some (.getfield 42) := by decide +kernel
theorem i180_84 : am_ins 180 84 = some (.bipush 94) := by decide +kernel
theorem i180_86 : am_ins 180 86 = some (.aload_n 0) := by decide +kernel
theorem i180_87 : am_ins 180 87 = some (.getfield 42) := by decide +kernel
theorem i180_90 : am_ins 180 90 = some (.iconst 3) := by decide +kernel
theorem i180_91 : am_ins 180 91 = some (.iaload) := by decide +kernel
theorem i180_92 : am_ins 180 92 = some (.iadd) := by decide +kernel
theorem i180_93 : am_ins 180 93 = some (.aload_n 0) := by decide +kernel
theorem i180_94 : am_ins 180 94 = some (.getfield 45) := by decide +kernel
theorem i180_97 : am_ins 180 97 = some (.iload_n 1) := by decide +kernel
theorem i180_98 : am_ins 180 98 = some (.iaload) := by decide +kernel
theorem i180_99 : am_ins 180 99 = some (.iastore) := by decide +kernel
theorem i180_100 : am_ins 180 100 = some (.aload_n 0) := by decide +kernel
theorem i180_101 : am_ins 180 101 = some (.getfield 42) := by decide +kernel
theorem i180_104 : am_ins 180 104 = some (.iconst 3) := by decide +kernel
theorem i180_105 : am_ins 180 105 = some (.dup2) := by decide +kernel
theorem i180_106 : am_ins 180 106 = some (.iaload) := by decide +kernel
theorem i180_107 : am_ins 180 107 = some (.iconst 1) := by decide +kernel
theorem i180_108 : am_ins 180 108 = some (.iadd) := by decide +kernel
theorem i180_109 : am_ins 180 109 = some (.iastore) := by decide +kernel
theorem i180_110 : am_ins 180 110 = some (.iinc 3 1) := by decide +kernel
theorem i180_113 : am_ins 180 113 = some (.goto (-60)) := by decide +kernel
theorem i180_116 : am_ins 180 116 = some (.return_) := by decide +kernel
theorem i181_0 : am_ins 181 0 = some (.aload_n 0) := by decide +kernel
theorem i181_1 : am_ins 181 1 = some (.aload_n 0) := by decide +kernel
theorem i181_2 : am_ins 181 2 = some (.getfield 42) := by decide +kernel
theorem i181_5 : am_ins 181 5 = some (.iconst 4) := by decide +kernel
theorem i181_6 : am_ins 181 6 = some (.iaload) := by decide +kernel
theorem i181_7 : am_ins 181 7 = some (.bipush 12) := by decide +kernel
theorem i181_9 : am_ins 181 9 = some (.if_icmp .ne 7) := by decide +kernel
theorem i181_12 : am_ins 181 12 = some (.iconst 1) := by decide +kernel
theorem i181_13 : am_ins 181 13 = some (.goto 4) := by decide +kernel
theorem i181_16 : am_ins 181 16 = some (.iconst 0) := by decide +kernel
theorem i181_17 : am_ins 181 17 = some (.iconst 4) := by decide +kernel
theorem i181_18 : am_ins 181 18 = some (.invokevirtual 133) := by decide +kernel
theorem i181_21 : am_ins 181 21 = some (.aload_n 0) := by decide +kernel
theorem i181_22 : am_ins 181 22 = some (.invokevirtual 137) := by decide +kernel
theorem i181_25 : am_ins 181 25 = some (.aload_n 0) := by decide +kernel
theorem i181_26 : am_ins 181 26 = some (.iconst 1) := by decide +kernel
theorem i181_27 : am_ins 181 27 = some (.sipush 200) := by decide +kernel
theorem i181_30 : am_ins 181 30 = some (.invokevirtual 151) := by decide +kernel
theorem i181_33 : am_ins 181 33 = some (.istore_n 1) := by decide +kernel
theorem i181_34 : am_ins 181 34 = some (.aload_n 0) := by decide +kernel
theorem i181_35 : am_ins 181 35 = some (.iconst 1) := by decide +kernel
theorem i181_36 : am_ins 181 36 = some (.bipush 9) := by decide +kernel
theorem i181_38 : am_ins 181 38 = some (.invokevirtual 151) := by decide +kernel
theorem i181_41 : am_ins 181 41 = some (.istore_n 2) := by decide +kernel
theorem i181_42 : am_ins 181 42 = some (.aload_n 0) := by decide +kernel
theorem i181_43 : am_ins 181 43 = some (.iconst 0) := by decide +kernel
theorem i181_44 : am_ins 181 44 = some (.bipush 99) := by decide +kernel
theorem i181_46 : am_ins 181 46 = some (.invokevirtual 151) := by decide +kernel
theorem i181_49 : am_ins 181 49 = some (.istore_n 3) := by decide +kernel
theorem i181_50 : am_ins 181 50 = some (.aload_n 0) := by decide +kernel
theorem i181_51 : am_ins 181 51 = some (.iconst 0) := by decide +kernel
theorem i181_52 : am_ins 181 52 = some (.bipush 99) := by decide +kernel
theorem i181_54 : am_ins 181 54 = some (.invokevirtual 151) := by decide +kernel
theorem i181_57 : am_ins 181 57 = some (.istore 4) := by decide +kernel
theorem i181_59 : am_ins 181 59 = some (.aload_n 0) := by decide +kernel
theorem i181_60 : am_ins 181 60 = some (.getfield 106) := by decide +kernel
theorem i181_63 : am_ins 181 63 = some (.ifCond .ne 15) := by decide +kernel
theorem i181_66 : am_ins 181 66 = some (.aload_n 0) := by decide +kernel
theorem i181_67 : am_ins 181 67 = some (.getfield 42) := by decide +kernel
theorem i181_70 : am_ins 181 70 = some (.iload_n 1) := by decide +kernel
theorem i181_71 : am_ins 181 71 = some (.iload_n 2) := by decide +kernel
theorem i181_72 : am_ins 181 72 = some (.iload_n 3) := by decide +kernel
theorem i181_73 : am_ins 181 73 = some (.iload 4) := by decide +kernel
theorem i181_75 : am_ins 181 75 = some (.invokestatic 154) := by decide +kernel
theorem i181_78 : am_ins 181 78 = some (.return_) := by decide +kernel
theorem i182_0 : am_ins 182 0 = some (.sipush 414) := by decide +kernel
theorem i182_3 : am_ins 182 3 = some (.bipush 8) := by decide +kernel
theorem i182_5 : am_ins 182 5 = some (.aload_n 0) := by decide +kernel
theorem i182_6 : am_ins 182 6 = some (.iconst 4) := by decide +kernel
theorem i182_7 : am_ins 182 7 = some (.iaload) := by decide +kernel
theorem i182_8 : am_ins 182 8 = some (.imul) := by decide +kernel
theorem i182_9 : am_ins 182 9 = some (.iadd) := by decide +kernel
theorem i182_10 : am_ins 182 10 = some (.istore 5) := by decide +kernel
theorem i182_12 : am_ins 182 12 = some (.aload_n 0) := by decide +kernel
theorem i182_13 : am_ins 182 13 = some (.iload 5) := by decide +kernel
theorem i182_15 : am_ins 182 15 = some (.iconst 0) := by decide +kernel
theorem i182_16 : am_ins 182 16 = some (.iadd) := by decide +kernel
theorem i182_17 : am_ins 182 17 = some (.iload_n 1) := by decide +kernel
theorem i182_18 : am_ins 182 18 = some (.iastore) := by decide +kernel
theorem i182_19 : am_ins 182 19 = some (.aload_n 0) := by decide +kernel
theorem i182_20 : am_ins 182 20 = some (.iload 5) := by decide +kernel
theorem i182_22 : am_ins 182 22 = some (.iconst 1) := by decide +kernel
theorem i182_23 : am_ins 182 23 = some (.iadd) := by decide +kernel
theorem i182_24 : am_ins 182 24 = some (.iload_n 2) := by decide +kernel
theorem i182_25 : am_ins 182 25 = some (.iastore) := by decide +kernel
theorem i182_26 : am_ins 182 26 = some (.aload_n 0) := by decide +kernel
theorem i182_27 : am_ins 182 27 = some (.iload 5) := by decide +kernel
theorem i182_29 : am_ins 182 29 = some (.iconst 2) := by decide +kernel
theorem i182_30 : am_ins 182 30 = some (.iadd) := by decide +kernel
theorem i182_31 : am_ins 182 31 = some (.iload_n 3) := by decide +kernel
theorem i182_32 : am_ins 182 32 = some (.iastore) := by decide +kernel
theorem i182_33 : am_ins 182 33 = some (.aload_n 0) := by decide +kernel
theorem i182_34 : am_ins 182 34 = some (.iload 5) := by decide +kernel
theorem i182_36 : am_ins 182 36 = some (.iconst 3) := by decide +kernel
theorem i182_37 : am_ins 182 37 = some (.iadd) := by decide +kernel
theorem i182_38 : am_ins 182 38 = some (.iload 4) := by decide +kernel
theorem i182_40 : am_ins 182 40 = some (.iastore) := by decide +kernel
theorem i182_41 : am_ins 182 41 = some (.aload_n 0) := by decide +kernel
theorem i182_42 : am_ins 182 42 = some (.iload 5) := by decide +kernel
theorem i182_44 : am_ins 182 44 = some (.iconst 4) := by decide +kernel
theorem i182_45 : am_ins 182 45 = some (.iadd) := by decide +kernel
theorem i182_46 : am_ins 182 46 = some (.iload_n 2) := by decide +kernel
theorem i182_47 : am_ins 182 47 = some (.iastore) := by decide +kernel
theorem i182_48 : am_ins 182 48 = some (.aload_n 0) := by decide +kernel
theorem i182_49 : am_ins 182 49 = some (.iload 5) := by decide +kernel
theorem i182_51 : am_ins 182 51 = some (.iconst 5) := by decide +kernel
theorem i182_52 : am_ins 182 52 = some (.iadd) := by decide +kernel
theorem i182_53 : am_ins 182 53 = some (.iconst 0) := by decide +kernel
theorem i182_54 : am_ins 182 54 = some (.iastore) := by decide +kernel
theorem i182_55 : am_ins 182 55 = some (.aload_n 0) := by decide +kernel
theorem i182_56 : am_ins 182 56 = some (.iload 5) := by decide +kernel
theorem i182_58 : am_ins 182 58 = some (.bipush 6) := by decide +kernel
theorem i182_60 : am_ins 182 60 = some (.iadd) := by decide +kernel
theorem i182_61 : am_ins 182 61 = some (.iconst 0) := by decide +kernel
theorem i182_62 : am_ins 182 62 = some (.iastore) := by decide +kernel
theorem i182_63 : am_ins 182 63 = some (.aload_n 0) := by decide +kernel
theorem i182_64 : am_ins 182 64 = some (.iload 5) := by decide +kernel
theorem i182_66 : am_ins 182 66 = some (.bipush 7) := by decide +kernel
theorem i182_68 : am_ins 182 68 = some (.iadd) := by decide +kernel
theorem i182_69 : am_ins 182 69 = some (.iconst 0) := by decide +kernel
theorem i182_70 : am_ins 182 70 = some (.iastore) := by decide +kernel
theorem i182_71 : am_ins 182 71 = some (.aload_n 0) := by decide +kernel
theorem i182_72 : am_ins 182 72 = some (.iconst 4) := by decide +kernel
theorem i182_73 : am_ins 182 73 = some (.dup2) := by decide +kernel
theorem i182_74 : am_ins 182 74 = some (.iaload) := by decide +kernel
theorem i182_75 : am_ins 182 75 = some (.iconst 1) := by decide +kernel
theorem i182_76 : am_ins 182 76 = some (.iadd) := by decide +kernel
theorem i182_77 : am_ins 182 77 = some (.iastore) := by decide +kernel
theorem i182_78 : am_ins 182 78 = some (.return_) := by decide +kernel
theorem i183_0 : am_ins 183 0 = some (.aload_n 0) := by decide +kernel
theorem i183_1 : am_ins 183 1 = some (.aload_n 0) := by decide +kernel
theorem i183_2 : am_ins 183 2 = some (.getfield 158) := by decide +kernel
theorem i183_5 : am_ins 183 5 = some (.bipush 6) := by decide +kernel
theorem i183_7 : am_ins 183 7 = some (.if_icmp .ne 7) := by decide +kernel
theorem i183_10 : am_ins 183 10 = some (.iconst 1) := by decide +kernel
theorem i183_11 : am_ins 183 11 = some (.goto 4) := by decide +kernel
theorem i183_14 : am_ins 183 14 = some (.iconst 0) := by decide +kernel
theorem i183_15 : am_ins 183 15 = some (.iconst 4) := by decide +kernel
theorem i183_16 : am_ins 183 16 = some (.invokevirtual 133) := by decide +kernel
theorem i183_19 : am_ins 183 19 = some (.aload_n 0) := by decide +kernel
theorem i183_20 : am_ins 183 20 = some (.invokevirtual 137) := by decide +kernel
theorem i183_23 : am_ins 183 23 = some (.iconst 0) := by decide +kernel
theorem i183_24 : am_ins 183 24 = some (.istore_n 1) := by decide +kernel
theorem i183_25 : am_ins 183 25 = some (.aload_n 0) := by decide +kernel
theorem i183_26 : am_ins 183 26 = some (.getfield 106) := by decide +kernel
theorem i183_29 : am_ins 183 29 = some (.ifCond .ne 72) := by decide +kernel
theorem i183_32 : am_ins 183 32 = some (.iload_n 1) := by decide +kernel
theorem i183_33 : am_ins 183 33 = some (.ifCond .eq 11) := by decide +kernel
theorem i183_36 : am_ins 183 36 = some (.aload_n 0) := by decide +kernel
theorem i183_37 : am_ins 183 37 = some (.getfield 93) := by decide +kernel
theorem i183_40 : am_ins 183 40 = some (.iconst 2) := by decide +kernel
theorem i183_41 : am_ins 183 41 = some (.if_icmp .ne 60) := by decide +kernel
theorem i183_44 : am_ins 183 44 = some (.aload_n 0) := by decide +kernel
theorem i183_45 : am_ins 183 45 = some (.iconst 1) := by decide +kernel
theorem i183_46 : am_ins 183 46 = some (.sipush 200) := by decide +kernel
theorem i183_49 : am_ins 183 49 = some (.invokevirtual 144) := by decide +kernel
theorem i183_52 : am_ins 183 52 = some (.istore_n 2) := by decide +kernel
theorem i183_53 : am_ins 183 53 = some (.aload_n 0) := by decide +kernel
theorem i183_54 : am_ins 183 54 = some (.iload_n 1) := by decide +kernel
theorem i183_55 : am_ins 183 55 = some (.bipush 6) := by decide +kernel
theorem i183_57 : am_ins 183 57 = some (.if_icmp .ne 7) := by decide +kernel
theorem i183_60 : am_ins 183 60 = some (.iconst 1) := by decide +kernel
theorem i183_61 : am_ins 183 61 = some (.goto 4) := by decide +kernel
theorem i183_64 : am_ins 183 64 = some (.iconst 0) := by decide +kernel
theorem i183_65 : am_ins 183 65 = some (.iconst 4) := by decide +kernel
theorem i183_66 : am_ins 183 66 = some (.invokevirtual 133) := by decide +kernel
theorem i183_69 : am_ins 183 69 = some (.aload_n 0) := by decide +kernel
theorem i183_70 : am_ins 183 70 = some (.getfield 106) := by decide +kernel
theorem i183_73 : am_ins 183 73 = some (.ifCond .ne 18) := by decide +kernel
theorem i183_76 : am_ins 183 76 = some (.aload_n 0) := by decide +kernel
theorem i183_77 : am_ins 183 77 = some (.getfield 54) := by decide +kernel
theorem i183_80 : am_ins 183 80 = some (.bipush 6) := by decide +kernel
theorem i183_82 : am_ins 183 82 = some (.aload_n 0) := by decide +kernel
theorem i183_83 : am_ins 183 83 = some (.getfield 158) := by decide +kernel
theorem i183_86 : am_ins 183 86 = some (.imul) := by decide +kernel
theorem i183_87 : am_ins 183 87 = some (.iload_n 1) := by decide +kernel
theorem i183_88 : am_ins 183 88 = some (.iadd) := by decide +kernel
theorem i183_89 : am_ins 183 89 = some (.iload_n 2) := by decide +kernel
theorem i183_90 : am_ins 183 90 = some (.iastore) := by decide +kernel
theorem i183_91 : am_ins 183 91 = some (.aload_n 0) := by decide +kernel
theorem i183_92 : am_ins 183 92 = some (.invokevirtual 137) := by decide +kernel
theorem i183_95 : am_ins 183 95 = some (.iinc 1 1) := by decide +kernel
theorem i183_98 : am_ins 183 98 = some (.goto (-73)) := by decide +kernel
theorem i183_101 : am_ins 183 101 = some (.aload_n 0) := by decide +kernel
theorem i183_102 : am_ins 183 102 = some (.getfield 106) := by decide +kernel
theorem i183_105 : am_ins 183 105 = some (.ifCond .ne 23) := by decide +kernel
theorem i183_108 : am_ins 183 108 = some (.aload_n 0) := by decide +kernel
theorem i183_109 : am_ins 183 109 = some (.getfield 51) := by decide +kernel
theorem i183_112 : am_ins 183 112 = some (.aload_n 0) := by decide +kernel
theorem i183_113 : am_ins 183 113 = some (.getfield 158) := by decide +kernel
theorem i183_116 : am_ins 183 116 = some (.iload_n 1) := by decide +kernel
theorem i183_117 : am_ins 183 117 = some (.iastore) := by decide +kernel
theorem i183_118 : am_ins 183 118 = some (.aload_n 0) := by decide +kernel
theorem i183_119 : am_ins 183 119 = some (.dup) := by decide +kernel
theorem i183_120 : am_ins 183 120 = some (.getfield 158) := by decide +kernel
theorem i183_123 : am_ins 183 123 = some (.iconst 1) := by decide +kernel
theorem i183_124 : am_ins 183 124 = some (.iadd) := by decide +kernel
theorem i183_125 : am_ins 183 125 = some (.putfield 158) := by decide +kernel
theorem i183_128 : am_ins 183 128 = some (.return_) := by decide +kernel
theorem i184_0 : am_ins 184 0 = some (.iconst 0) := by decide +kernel
theorem i184_1 : am_ins 184 1 = some (.istore_n 2) := by decide +kernel
theorem i184_2 : am_ins 184 2 = some (.iconst 0) := by decide +kernel
theorem i184_3 : am_ins 184 3 = some (.istore_n 3) := by decide +kernel
theorem i184_4 : am_ins 184 4 = some (.iload_n 3) := by decide +kernel
theorem i184_5 : am_ins 184 5 = some (.iload_n 1) := by decide +kernel
theorem i184_6 : am_ins 184 6 = some (.if_icmp .ge 31) := by decide +kernel
theorem i184_9 : am_ins 184 9 = some (.iload_n 2) := by decide +kernel
theorem i184_10 : am_ins 184 10 = some (.aload_n 0) := by decide +kernel
theorem i184_11 : am_ins 184 11 = some (.getfield 32) := by decide +kernel
theorem i184_14 : am_ins 184 14 = some (.iload_n 3) := by decide +kernel
theorem i184_15 : am_ins 184 15 = some (.iaload) := by decide +kernel
theorem i184_16 : am_ins 184 16 = some (.bipush 59) := by decide +kernel
theorem i184_18 : am_ins 184 18 = some (.if_icmp .ne 7) := by decide +kernel
theorem i184_21 : am_ins 184 21 = some (.iconst 1) := by decide +kernel
theorem i184_22 : am_ins 184 22 = some (.goto 4) := by decide +kernel
theorem i184_25 : am_ins 184 25 = some (.iconst 0) := by decide +kernel
theorem i184_26 : am_ins 184 26 = some (.invokestatic 193) := by decide +kernel
theorem i184_29 : am_ins 184 29 = some (.iadd) := by decide +kernel
theorem i184_30 : am_ins 184 30 = some (.istore_n 2) := by decide +kernel
theorem i184_31 : am_ins 184 31 = some (.iinc 3 1) := by decide +kernel
theorem i184_34 : am_ins 184 34 = some (.goto (-30)) := by decide +kernel
theorem i184_37 : am_ins 184 37 = some (.iload_n 2) := by decide +kernel
theorem i184_38 : am_ins 184 38 = some (.ireturn) := by decide +kernel
theorem i185_0 : am_ins 185 0 = some (.iload_n 0) := by decide +kernel
theorem i185_1 : am_ins 185 1 = some (.ifCond .eq 7) := by decide +kernel
theorem i185_4 : am_ins 185 4 = some (.iconst 1) := by decide +kernel
theorem i185_5 : am_ins 185 5 = some (.goto 4) := by decide +kernel
theorem i185_8 : am_ins 185 8 = some (.iconst 0) := by decide +kernel
theorem i185_9 : am_ins 185 9 = some (.ireturn) := by decide +kernel
theorem i186_0 : am_ins 186 0 = some (.iconst 0) := by decide +kernel
theorem i186_1 : am_ins 186 1 = some (.istore_n 2) := by decide +kernel
theorem i186_2 : am_ins 186 2 = some (.iload_n 2) := by decide +kernel
theorem i186_3 : am_ins 186 3 = some (.aload_n 1) := by decide +kernel
theorem i186_4 : am_ins 186 4 = some (.arraylength) := by decide +kernel
theorem i186_5 : am_ins 186 5 = some (.if_icmp .ge 15) := by decide +kernel
theorem i186_8 : am_ins 186 8 = some (.aload_n 1) := by decide +kernel
theorem i186_9 : am_ins 186 9 = some (.iload_n 2) := by decide +kernel
theorem i186_10 : am_ins 186 10 = some (.aload_n 0) := by decide +kernel
theorem i186_11 : am_ins 186 11 = some (.iload_n 2) := by decide +kernel
theorem i186_12 : am_ins 186 12 = some (.iaload) := by decide +kernel
theorem i186_13 : am_ins 186 13 = some (.iastore) := by decide +kernel
theorem i186_14 : am_ins 186 14 = some (.iinc 2 1) := by decide +kernel
theorem i186_17 : am_ins 186 17 = some (.goto (-15)) := by decide +kernel
theorem i186_20 : am_ins 186 20 = some (.return_) := by decide +kernel
theorem i187_0 : am_ins 187 0 = some (.aload_n 0) := by decide +kernel
theorem i187_1 : am_ins 187 1 = some (.invokevirtual 216) := by decide +kernel
theorem i187_4 : am_ins 187 4 = some (.ifCond .ne 26) := by decide +kernel
theorem i187_7 : am_ins 187 7 = some (.aload_n 0) := by decide +kernel
theorem i187_8 : am_ins 187 8 = some (.iload_n 1) := by decide +kernel
theorem i187_9 : am_ins 187 9 = some (.iconst 0) := by decide +kernel
theorem i187_10 : am_ins 187 10 = some (.bipush 7) := by decide +kernel
theorem i187_12 : am_ins 187 12 = some (.invokestatic 140) := by decide +kernel
theorem i187_15 : am_ins 187 15 = some (.ifCond .ne 7) := by decide +kernel
theorem i187_18 : am_ins 187 18 = some (.iconst 1) := by decide +kernel
theorem i187_19 : am_ins 187 19 = some (.goto 4) := by decide +kernel
theorem i187_22 : am_ins 187 22 = some (.iconst 0) := by decide +kernel
theorem i187_23 : am_ins 187 23 = some (.iconst 2) := by decide +kernel
theorem i187_24 : am_ins 187 24 = some (.invokevirtual 70) := by decide +kernel
theorem i187_27 : am_ins 187 27 = some (.ifCond .eq 5) := by decide +kernel
theorem i187_30 : am_ins 187 30 = some (.iconst 0) := by decide +kernel
theorem i187_31 : am_ins 187 31 = some (.ireturn) := by decide +kernel
theorem i187_32 : am_ins 187 32 = some (.iconst 0) := by decide +kernel
theorem i187_33 : am_ins 187 33 = some (.istore_n 2) := by decide +kernel
theorem i187_34 : am_ins 187 34 = some (.iload_n 1) := by decide +kernel
theorem i187_35 : am_ins 187 35 = some (.tableswitch 132 0 6 #[41, 46, 53, 60, 65, 96, 127]) := by decide +kernel
theorem i187_76 : am_ins 187 76 = some (.aload_n 0) := by decide +kernel
theorem i187_77 : am_ins 187 77 = some (.getfield 203) := by decide +kernel
theorem i187_80 : am_ins 187 80 = some (.ireturn) := by decide +kernel
theorem i187_81 : am_ins 187 81 = some (.aload_n 0) := by decide +kernel
theorem i187_82 : am_ins 187 82 = some (.getfield 22) := by decide +kernel
theorem i187_85 : am_ins 187 85 = some (.iconst 3) := by decide +kernel
theorem i187_86 : am_ins 187 86 = some (.iaload) := by decide +kernel
theorem i187_87 : am_ins 187 87 = some (.ireturn) := by decide +kernel
theorem i187_88 : am_ins 187 88 = some (.aload_n 0) := by decide +kernel
theorem i187_89 : am_ins 187 89 = some (.getfield 22) := by decide +kernel
theorem i187_92 : am_ins 187 92 = some (.iconst 4) := by decide +kernel
theorem i187_93 : am_ins 187 93 = some (.iaload) := by decide +kernel
theorem i187_94 : am_ins 187 94 = some (.ireturn) := by decide +kernel
theorem i187_95 : am_ins 187 95 = some (.aload_n 0) := by decide +kernel
theorem i187_96 : am_ins 187 96 = some (.getfield 206) := by decide +kernel
theorem i187_99 : am_ins 187 99 = some (.ireturn) := by decide +kernel
theorem i187_100 : am_ins 187 100 = some (.iconst 0) := by decide +kernel
theorem i187_101 : am_ins 187 101 = some (.istore_n 3) := by decide +kernel
theorem i187_102 : am_ins 187 102 = some (.iload_n 3) := by decide +kernel
theorem i187_103 : am_ins 187 103 = some (.aload_n 0) := by decide +kernel
theorem i187_104 : am_ins 187 104 = some (.getfield 22) := by decide +kernel
theorem i187_107 : am_ins 187 107 = some (.iconst 3) := by decide +kernel
theorem i187_108 : am_ins 187 108 = some (.iaload) := by decide +kernel
theorem i187_109 : am_ins 187 109 = some (.if_icmp .ge 20) := by decide +kernel
theorem i187_112 : am_ins 187 112 = some (.iload_n 2) := by decide +kernel
theorem i187_113 : am_ins 187 113 = some (.aload_n 0) := by decide +kernel
theorem i187_114 : am_ins 187 114 = some (.iload_n 3) := by decide +kernel
theorem i187_115 : am_ins 187 115 = some (.invokevirtual 229) := by decide +kernel
theorem i187_118 : am_ins 187 118 = some (.invokestatic 193) := by decide +kernel
theorem i187_121 : am_ins 187 121 = some (.iadd) := by decide +kernel
theorem i187_122 : am_ins 187 122 = some (.istore_n 2) := by decide +kernel
theorem i187_123 : am_ins 187 123 = some (.iinc 3 1) := by decide +kernel
theorem i187_126 : am_ins 187 126 = some (.goto (-24)) := by decide +kernel
theorem i187_129 : am_ins 187 129 = some (.iload_n 2) := by decide +kernel
theorem i187_130 : am_ins 187 130 = some (.ireturn) := by decide +kernel
theorem i187_131 : am_ins 187 131 = some (.iconst 0) := by decide +kernel
theorem i187_132 : am_ins 187 132 = some (.istore_n 3) := by decide +kernel
theorem i187_133 : am_ins 187 133 = some (.iload_n 3) := by decide +kernel
theorem i187_134 : am_ins 187 134 = some (.aload_n 0) := by decide +kernel
theorem i187_135 : am_ins 187 135 = some (.getfield 22) := by decide +kernel
theorem i187_138 : am_ins 187 138 = some (.iconst 4) := by decide +kernel
theorem i187_139 : am_ins 187 139 = some (.iaload) := by decide +kernel
theorem i187_140 : am_ins 187 140 = some (.if_icmp .ge 20) := by decide +kernel
theorem i187_143 : am_ins 187 143 = some (.iload_n 2) := by decide +kernel
theorem i187_144 : am_ins 187 144 = some (.aload_n 0) := by decide +kernel
theorem i187_145 : am_ins 187 145 = some (.iload_n 3) := by decide +kernel
theorem i187_146 : am_ins 187 146 = some (.invokevirtual 232) := by decide +kernel
theorem i187_149 : am_ins 187 149 = some (.invokestatic 193) := by decide +kernel
theorem i187_152 : am_ins 187 152 = some (.iadd) := by decide +kernel
theorem i187_153 : am_ins 187 153 = some (.istore_n 2) := by decide +kernel
theorem i187_154 : am_ins 187 154 = some (.iinc 3 1) := by decide +kernel
theorem i187_157 : am_ins 187 157 = some (.goto (-24)) := by decide +kernel
theorem i187_160 : am_ins 187 160 = some (.iload_n 2) := by decide +kernel
theorem i187_161 : am_ins 187 161 = some (.ireturn) := by decide +kernel
theorem i187_162 : am_ins 187 162 = some (.aload_n 0) := by decide +kernel
theorem i187_163 : am_ins 187 163 = some (.invokevirtual 235) := by decide +kernel
theorem i187_166 : am_ins 187 166 = some (.ireturn) := by decide +kernel
theorem i187_167 : am_ins 187 167 = some (.iconst 1) := by decide +kernel
theorem i187_168 : am_ins 187 168 = some (.istore_n 3) := by decide +kernel
theorem i187_169 : am_ins 187 169 = some (.iload_n 3) := by decide +kernel
theorem i187_170 : am_ins 187 170 = some (.sipush 200) := by decide +kernel
theorem i187_173 : am_ins 187 173 = some (.if_icmp .gt 22) := by decide +kernel
theorem i187_176 : am_ins 187 176 = some (.iload_n 2) := by decide +kernel
theorem i187_177 : am_ins 187 177 = some (.aload_n 0) := by decide +kernel
theorem i187_178 : am_ins 187 178 = some (.getfield 22) := by decide +kernel
theorem i187_181 : am_ins 187 181 = some (.sipush 542) := by decide +kernel
theorem i187_184 : am_ins 187 184 = some (.iload_n 3) := by decide +kernel
theorem i187_185 : am_ins 187 185 = some (.iadd) := by decide +kernel
theorem i187_186 : am_ins 187 186 = some (.iaload) := by decide +kernel
theorem i187_187 : am_ins 187 187 = some (.iadd) := by decide +kernel
theorem i187_188 : am_ins 187 188 = some (.istore_n 2) := by decide +kernel
theorem i187_189 : am_ins 187 189 = some (.iinc 3 1) := by decide +kernel
theorem i187_192 : am_ins 187 192 = some (.goto (-23)) := by decide +kernel
theorem i187_195 : am_ins 187 195 = some (.iload_n 2) := by decide +kernel
theorem i187_196 : am_ins 187 196 = some (.ireturn) := by decide +kernel
theorem i188_0 : am_ins 188 0 = some (.aload_n 0) := by decide +kernel
theorem i188_1 : am_ins 188 1 = some (.iconst 0) := by decide +kernel
theorem i188_2 : am_ins 188 2 = some (.putfield 63) := by decide +kernel
theorem i188_5 : am_ins 188 5 = some (.aload_n 0) := by decide +kernel
theorem i188_6 : am_ins 188 6 = some (.aload_n 0) := by decide +kernel
theorem i188_7 : am_ins 188 7 = some (.getfield 66) := by decide +kernel
theorem i188_10 : am_ins 188 10 = some (.ifCond .ne 7) := by decide +kernel
theorem i188_13 : am_ins 188 13 = some (.iconst 1) := by decide +kernel
theorem i188_14 : am_ins 188 14 = some (.goto 4) := by decide +kernel
theorem i188_17 : am_ins 188 17 = some (.iconst 0) := by decide +kernel
theorem i188_18 : am_ins 188 18 = some (.iconst 1) := by decide +kernel
theorem i188_19 : am_ins 188 19 = some (.invokevirtual 70) := by decide +kernel
theorem i188_22 : am_ins 188 22 = some (.ireturn) := by decide +kernel
theorem i189_0 : am_ins 189 0 = some (.aload_n 0) := by decide +kernel
theorem i189_1 : am_ins 189 1 = some (.getfield 22) := by decide +kernel
theorem i189_4 : am_ins 189 4 = some (.sipush 174) := by decide +kernel
theorem i189_7 : am_ins 189 7 = some (.iload_n 1) := by decide +kernel
theorem i189_8 : am_ins 189 8 = some (.iadd) := by decide +kernel
theorem i189_9 : am_ins 189 9 = some (.iaload) := by decide +kernel
theorem i189_10 : am_ins 189 10 = some (.ifCond .ne 7) := by decide +kernel
theorem i189_13 : am_ins 189 13 = some (.iconst 1) := by decide +kernel
theorem i189_14 : am_ins 189 14 = some (.goto 4) := by decide +kernel
theorem i189_17 : am_ins 189 17 = some (.iconst 0) := by decide +kernel
theorem i189_18 : am_ins 189 18 = some (.ireturn) := by decide +kernel
theorem i190_0 : am_ins 190 0 = some (.aload_n 0) := by decide +kernel
theorem i190_1 : am_ins 190 1 = some (.iload_n 1) := by decide +kernel
theorem i190_2 : am_ins 190 2 = some (.iconst 4) := by decide +kernel
theorem i190_3 : am_ins 190 3 = some (.invokevirtual 226) := by decide +kernel
theorem i190_6 : am_ins 190 6 = some (.ifCond .le 7) := by decide +kernel
theorem i190_9 : am_ins 190 9 = some (.iconst 1) := by decide +kernel
theorem i190_10 : am_ins 190 10 = some (.goto 4) := by decide +kernel
theorem i190_13 : am_ins 190 13 = some (.iconst 0) := by decide +kernel
theorem i190_14 : am_ins 190 14 = some (.ireturn) := by decide +kernel
theorem i191_0 : am_ins 191 0 = some (.aload_n 0) := by decide +kernel
theorem i191_1 : am_ins 191 1 = some (.getfield 22) := by decide +kernel
theorem i191_4 : am_ins 191 4 = some (.sipush 414) := by decide +kernel
theorem i191_7 : am_ins 191 7 = some (.bipush 8) := by decide +kernel
theorem i191_9 : am_ins 191 9 = some (.iload_n 1) := by decide +kernel
theorem i191_10 : am_ins 191 10 = some (.imul) := by decide +kernel
theorem i191_11 : am_ins 191 11 = some (.iadd) := by decide +kernel
theorem i191_12 : am_ins 191 12 = some (.iload_n 2) := by decide +kernel
theorem i191_13 : am_ins 191 13 = some (.iadd) := by decide +kernel
theorem i191_14 : am_ins 191 14 = some (.iaload) := by decide +kernel
theorem i191_15 : am_ins 191 15 = some (.ireturn) := by decide +kernel
theorem i192_0 : am_ins 192 0 = some (.iconst 0) := by decide +kernel
theorem i192_1 : am_ins 192 1 = some (.istore_n 1) := by decide +kernel
theorem i192_2 : am_ins 192 2 = some (.iconst 0) := by decide +kernel
theorem i192_3 : am_ins 192 3 = some (.istore_n 2) := by decide +kernel
theorem i192_4 : am_ins 192 4 = some (.iload_n 2) := by decide +kernel
theorem i192_5 : am_ins 192 5 = some (.aload_n 0) := by decide +kernel
theorem i192_6 : am_ins 192 6 = some (.getfield 22) := by decide +kernel
theorem i192_9 : am_ins 192 9 = some (.iconst 4) := by decide +kernel
theorem i192_10 : am_ins 192 10 = some (.iaload) := by decide +kernel
theorem i192_11 : am_ins 192 11 = some (.if_icmp .ge 18) := by decide +kernel
theorem i192_14 : am_ins 192 14 = some (.iload_n 1) := by decide +kernel
theorem i192_15 : am_ins 192 15 = some (.aload_n 0) := by decide +kernel
theorem i192_16 : am_ins 192 16 = some (.iload_n 2) := by decide +kernel
theorem i192_17 : am_ins 192 17 = some (.iconst 4) := by decide +kernel
theorem i192_18 : am_ins 192 18 = some (.invokevirtual 226) := by decide +kernel
theorem i192_21 : am_ins 192 21 = some (.iadd) := by decide +kernel
theorem i192_22 : am_ins 192 22 = some (.istore_n 1) := by decide +kernel
theorem i192_23 : am_ins 192 23 = some (.iinc 2 1) := by decide +kernel
theorem i192_26 : am_ins 192 26 = some (.goto (-22)) := by decide +kernel
theorem i192_29 : am_ins 192 29 = some (.iload_n 1) := by decide +kernel
theorem i192_30 : am_ins 192 30 = some (.ireturn) := by decide +kernel
theorem i193_0 : am_ins 193 0 = some (.aload_n 0) := by decide +kernel
theorem i193_1 : am_ins 193 1 = some (.iload_n 1) := by decide +kernel
theorem i193_2 : am_ins 193 2 = some (.invokevirtual 238) := by decide +kernel
theorem i193_5 : am_ins 193 5 = some (.ifCond .eq 7) := by decide +kernel
theorem i193_8 : am_ins 193 8 = some (.iconst 0) := by decide +kernel
theorem i193_9 : am_ins 193 9 = some (.goto 22) := by decide +kernel
theorem i193_12 : am_ins 193 12 = some (.iload_n 2) := by decide +kernel
theorem i193_13 : am_ins 193 13 = some (.ifCond .eq 12) := by decide +kernel
theorem i193_16 : am_ins 193 16 = some (.aload_n 0) := by decide +kernel
theorem i193_17 : am_ins 193 17 = some (.getfield 13) := by decide +kernel
theorem i193_20 : am_ins 193 20 = some (.iload_n 1) := by decide +kernel
theorem i193_21 : am_ins 193 21 = some (.iaload) := by decide +kernel
theorem i193_22 : am_ins 193 22 = some (.goto 9) := by decide +kernel
theorem i193_25 : am_ins 193 25 = some (.aload_n 0) := by decide +kernel
theorem i193_26 : am_ins 193 26 = some (.getfield 7) := by decide +kernel
theorem i193_29 : am_ins 193 29 = some (.iload_n 1) := by decide +kernel
theorem i193_30 : am_ins 193 30 = some (.iaload) := by decide +kernel
theorem i193_31 : am_ins 193 31 = some (.ireturn) := by decide +kernel
theorem i194_0 : am_ins 194 0 = some (.aload_n 0) := by decide +kernel
theorem i194_1 : am_ins 194 1 = some (.invokevirtual 216) := by decide +kernel
theorem i194_4 : am_ins 194 4 = some (.ifCond .ne 30) := by decide +kernel
theorem i194_7 : am_ins 194 7 = some (.aload_n 0) := by decide +kernel
theorem i194_8 : am_ins 194 8 = some (.iload_n 1) := by decide +kernel
theorem i194_9 : am_ins 194 9 = some (.iconst 0) := by decide +kernel
theorem i194_10 : am_ins 194 10 = some (.aload_n 0) := by decide +kernel
theorem i194_11 : am_ins 194 11 = some (.getfield 203) := by decide +kernel
theorem i194_14 : am_ins 194 14 = some (.iconst 1) := by decide +kernel
theorem i194_15 : am_ins 194 15 = some (.isub) := by decide +kernel
theorem i194_16 : am_ins 194 16 = some (.invokestatic 140) := by decide +kernel
theorem i194_19 : am_ins 194 19 = some (.ifCond .ne 7) := by decide +kernel
theorem i194_22 : am_ins 194 22 = some (.iconst 1) := by decide +kernel
theorem i194_23 : am_ins 194 23 = some (.goto 4) := by decide +kernel
theorem i194_26 : am_ins 194 26 = some (.iconst 0) := by decide +kernel
theorem i194_27 : am_ins 194 27 = some (.iconst 2) := by decide +kernel
theorem i194_28 : am_ins 194 28 = some (.invokevirtual 70) := by decide +kernel
theorem i194_31 : am_ins 194 31 = some (.ifCond .eq 7) := by decide +kernel
theorem i194_34 : am_ins 194 34 = some (.iconst 1) := by decide +kernel
theorem i194_35 : am_ins 194 35 = some (.goto 4) := by decide +kernel
theorem i194_38 : am_ins 194 38 = some (.iconst 0) := by decide +kernel
theorem i194_39 : am_ins 194 39 = some (.ireturn) := by decide +kernel
theorem i195_0 : am_ins 195 0 = some (.aload_n 0) := by decide +kernel
theorem i195_1 : am_ins 195 1 = some (.iload_n 1) := by decide +kernel
theorem i195_2 : am_ins 195 2 = some (.invokevirtual 241) := by decide +kernel
theorem i195_5 : am_ins 195 5 = some (.ifCond .ne 25) := by decide +kernel
theorem i195_8 : am_ins 195 8 = some (.aload_n 0) := by decide +kernel
theorem i195_9 : am_ins 195 9 = some (.iload_n 2) := by decide +kernel
theorem i195_10 : am_ins 195 10 = some (.iconst 0) := by decide +kernel
theorem i195_11 : am_ins 195 11 = some (.iconst 4) := by decide +kernel
theorem i195_12 : am_ins 195 12 = some (.invokestatic 140) := by decide +kernel
theorem i195_15 : am_ins 195 15 = some (.ifCond .ne 7) := by decide +kernel
theorem i195_18 : am_ins 195 18 = some (.iconst 1) := by decide +kernel
theorem i195_19 : am_ins 195 19 = some (.goto 4) := by decide +kernel
theorem i195_22 : am_ins 195 22 = some (.iconst 0) := by decide +kernel
theorem i195_23 : am_ins 195 23 = some (.iconst 3) := by decide +kernel
theorem i195_24 : am_ins 195 24 = some (.invokevirtual 70) := by decide +kernel
theorem i195_27 : am_ins 195 27 = some (.ifCond .eq 7) := by decide +kernel
theorem i195_30 : am_ins 195 30 = some (.iconst 0) := by decide +kernel
theorem i195_31 : am_ins 195 31 = some (.goto 17) := by decide +kernel
theorem i195_34 : am_ins 195 34 = some (.aload_n 0) := by decide +kernel
theorem i195_35 : am_ins 195 35 = some (.getfield 22) := by decide +kernel
theorem i195_38 : am_ins 195 38 = some (.bipush 14) := by decide +kernel
theorem i195_40 : am_ins 195 40 = some (.bipush 80) := by decide +kernel
theorem i195_42 : am_ins 195 42 = some (.iload_n 2) := by decide +kernel
theorem i195_43 : am_ins 195 43 = some (.imul) := by decide +kernel
theorem i195_44 : am_ins 195 44 = some (.iadd) := by decide +kernel
theorem i195_45 : am_ins 195 45 = some (.iload_n 1) := by decide +kernel
theorem i195_46 : am_ins 195 46 = some (.iadd) := by decide +kernel
theorem i195_47 : am_ins 195 47 = some (.iaload) := by decide +kernel
theorem i195_48 : am_ins 195 48 = some (.ireturn) := by decide +kernel
theorem i196_0 : am_ins 196 0 = some (.aload_n 0) := by decide +kernel
theorem i196_1 : am_ins 196 1 = some (.invokevirtual 216) := by decide +kernel
theorem i196_4 : am_ins 196 4 = some (.ifCond .ne 24) := by decide +kernel
theorem i196_7 : am_ins 196 7 = some (.aload_n 0) := by decide +kernel
theorem i196_8 : am_ins 196 8 = some (.aload_n 0) := by decide +kernel
theorem i196_9 : am_ins 196 9 = some (.iload_n 1) := by decide +kernel
theorem i196_10 : am_ins 196 10 = some (.invokevirtual 220) := by decide +kernel
theorem i196_13 : am_ins 196 13 = some (.ifCond .ne 7) := by decide +kernel
theorem i196_16 : am_ins 196 16 = some (.iconst 1) := by decide +kernel
theorem i196_17 : am_ins 196 17 = some (.goto 4) := by decide +kernel
theorem i196_20 : am_ins 196 20 = some (.iconst 0) := by decide +kernel
theorem i196_21 : am_ins 196 21 = some (.iconst 2) := by decide +kernel
theorem i196_22 : am_ins 196 22 = some (.invokevirtual 70) := by decide +kernel
theorem i196_25 : am_ins 196 25 = some (.ifCond .eq 7) := by decide +kernel
theorem i196_28 : am_ins 196 28 = some (.iconst 1) := by decide +kernel
theorem i196_29 : am_ins 196 29 = some (.goto 4) := by decide +kernel
theorem i196_32 : am_ins 196 32 = some (.iconst 0) := by decide +kernel
theorem i196_33 : am_ins 196 33 = some (.ireturn) := by decide +kernel
theorem i197_0 : am_ins 197 0 = some (.iload_n 1) := by decide +kernel
theorem i197_1 : am_ins 197 1 = some (.iconst 0) := by decide +kernel
theorem i197_2 : am_ins 197 2 = some (.aload_n 0) := by decide +kernel
theorem i197_3 : am_ins 197 3 = some (.getfield 22) := by decide +kernel
theorem i197_6 : am_ins 197 6 = some (.iconst 3) := by decide +kernel
theorem i197_7 : am_ins 197 7 = some (.iaload) := by decide +kernel
theorem i197_8 : am_ins 197 8 = some (.iconst 1) := by decide +kernel
theorem i197_9 : am_ins 197 9 = some (.isub) := by decide +kernel
theorem i197_10 : am_ins 197 10 = some (.invokestatic 140) := by decide +kernel
theorem i197_13 : am_ins 197 13 = some (.ireturn) := by decide +kernel
theorem i198_0 : am_ins 198 0 = some (.aload_n 0) := by decide +kernel
theorem i198_1 : am_ins 198 1 = some (.iload_n 1) := by decide +kernel
theorem i198_2 : am_ins 198 2 = some (.invokevirtual 244) := by decide +kernel
theorem i198_5 : am_ins 198 5 = some (.ifCond .ne 26) := by decide +kernel
theorem i198_8 : am_ins 198 8 = some (.aload_n 0) := by decide +kernel
theorem i198_9 : am_ins 198 9 = some (.iload_n 2) := by decide +kernel
theorem i198_10 : am_ins 198 10 = some (.iconst 0) := by decide +kernel
theorem i198_11 : am_ins 198 11 = some (.bipush 7) := by decide +kernel
theorem i198_13 : am_ins 198 13 = some (.invokestatic 140) := by decide +kernel
theorem i198_16 : am_ins 198 16 = some (.ifCond .ne 7) := by decide +kernel
theorem i198_19 : am_ins 198 19 = some (.iconst 1) := by decide +kernel
theorem i198_20 : am_ins 198 20 = some (.goto 4) := by decide +kernel
theorem i198_23 : am_ins 198 23 = some (.iconst 0) := by decide +kernel
theorem i198_24 : am_ins 198 24 = some (.iconst 3) := by decide +kernel
theorem i198_25 : am_ins 198 25 = some (.invokevirtual 70) := by decide +kernel
theorem i198_28 : am_ins 198 28 = some (.ifCond .eq 7) := by decide +kernel
theorem i198_31 : am_ins 198 31 = some (.iconst 0) := by decide +kernel
theorem i198_32 : am_ins 198 32 = some (.goto 9) := by decide +kernel
theorem i198_35 : am_ins 198 35 = some (.aload_n 0) := by decide +kernel
theorem i198_36 : am_ins 198 36 = some (.iload_n 1) := by decide +kernel
theorem i198_37 : am_ins 198 37 = some (.iload_n 2) := by decide +kernel
theorem i198_38 : am_ins 198 38 = some (.invokevirtual 226) := by decide +kernel
theorem i198_41 : am_ins 198 41 = some (.ireturn) := by decide +kernel
theorem i199_0 : am_ins 199 0 = some (.aload_n 0) := by decide +kernel
theorem i199_1 : am_ins 199 1 = some (.invokevirtual 216) := by decide +kernel
theorem i199_4 : am_ins 199 4 = some (.ifCond .ne 32) := by decide +kernel
theorem i199_7 : am_ins 199 7 = some (.aload_n 0) := by decide +kernel
theorem i199_8 : am_ins 199 8 = some (.iload_n 1) := by decide +kernel
theorem i199_9 : am_ins 199 9 = some (.iconst 0) := by decide +kernel
theorem i199_10 : am_ins 199 10 = some (.aload_n 0) := by decide +kernel
theorem i199_11 : am_ins 199 11 = some (.getfield 22) := by decide +kernel
theorem i199_14 : am_ins 199 14 = some (.iconst 4) := by decide +kernel
theorem i199_15 : am_ins 199 15 = some (.iaload) := by decide +kernel
theorem i199_16 : am_ins 199 16 = some (.iconst 1) := by decide +kernel
theorem i199_17 : am_ins 199 17 = some (.isub) := by decide +kernel
theorem i199_18 : am_ins 199 18 = some (.invokestatic 140) := by decide +kernel
theorem i199_21 : am_ins 199 21 = some (.ifCond .ne 7) := by decide +kernel
theorem i199_24 : am_ins 199 24 = some (.iconst 1) := by decide +kernel
theorem i199_25 : am_ins 199 25 = some (.goto 4) := by decide +kernel
theorem i199_28 : am_ins 199 28 = some (.iconst 0) := by decide +kernel
theorem i199_29 : am_ins 199 29 = some (.iconst 2) := by decide +kernel
theorem i199_30 : am_ins 199 30 = some (.invokevirtual 70) := by decide +kernel
theorem i199_33 : am_ins 199 33 = some (.ifCond .eq 7) := by decide +kernel
theorem i199_36 : am_ins 199 36 = some (.iconst 1) := by decide +kernel
theorem i199_37 : am_ins 199 37 = some (.goto 4) := by decide +kernel
theorem i199_40 : am_ins 199 40 = some (.iconst 0) := by decide +kernel
theorem i199_41 : am_ins 199 41 = some (.ireturn) := by decide +kernel
theorem i200_0 : am_ins 200 0 = some (.aload_n 0) := by decide +kernel
theorem i200_1 : am_ins 200 1 = some (.iload_n 1) := by decide +kernel
theorem i200_2 : am_ins 200 2 = some (.invokevirtual 223) := by decide +kernel
theorem i200_5 : am_ins 200 5 = some (.ifCond .eq 7) := by decide +kernel
theorem i200_8 : am_ins 200 8 = some (.iconst 0) := by decide +kernel
theorem i200_9 : am_ins 200 9 = some (.goto 9) := by decide +kernel
theorem i200_12 : am_ins 200 12 = some (.aload_n 0) := by decide +kernel
theorem i200_13 : am_ins 200 13 = some (.getfield 16) := by decide +kernel
theorem i200_16 : am_ins 200 16 = some (.iload_n 1) := by decide +kernel
theorem i200_17 : am_ins 200 17 = some (.iaload) := by decide +kernel
theorem i200_18 : am_ins 200 18 = some (.ireturn) := by decide +kernel
theorem i201_0 : am_ins 201 0 = some (.aload_n 0) := by decide +kernel
theorem i201_1 : am_ins 201 1 = some (.invokevirtual 216) := by decide +kernel
theorem i201_4 : am_ins 201 4 = some (.ifCond .ne 30) := by decide +kernel
theorem i201_7 : am_ins 201 7 = some (.aload_n 0) := by decide +kernel
theorem i201_8 : am_ins 201 8 = some (.iload_n 1) := by decide +kernel
theorem i201_9 : am_ins 201 9 = some (.iconst 0) := by decide +kernel
theorem i201_10 : am_ins 201 10 = some (.aload_n 0) := by decide +kernel
theorem i201_11 : am_ins 201 11 = some (.getfield 206) := by decide +kernel
theorem i201_14 : am_ins 201 14 = some (.iconst 1) := by decide +kernel
theorem i201_15 : am_ins 201 15 = some (.isub) := by decide +kernel
theorem i201_16 : am_ins 201 16 = some (.invokestatic 140) := by decide +kernel
theorem i201_19 : am_ins 201 19 = some (.ifCond .ne 7) := by decide +kernel
theorem i201_22 : am_ins 201 22 = some (.iconst 1) := by decide +kernel
theorem i201_23 : am_ins 201 23 = some (.goto 4) := by decide +kernel
theorem i201_26 : am_ins 201 26 = some (.iconst 0) := by decide +kernel
theorem i201_27 : am_ins 201 27 = some (.iconst 2) := by decide +kernel
theorem i201_28 : am_ins 201 28 = some (.invokevirtual 70) := by decide +kernel
theorem i201_31 : am_ins 201 31 = some (.ifCond .eq 7) := by decide +kernel
theorem i201_34 : am_ins 201 34 = some (.iconst 1) := by decide +kernel
theorem i201_35 : am_ins 201 35 = some (.goto 4) := by decide +kernel
theorem i201_38 : am_ins 201 38 = some (.iconst 0) := by decide +kernel
theorem i201_39 : am_ins 201 39 = some (.ireturn) := by decide +kernel
theorem i202_0 : am_ins 202 0 = some (.aload_n 0) := by decide +kernel
theorem i202_1 : am_ins 202 1 = some (.iload_n 1) := by decide +kernel
theorem i202_2 : am_ins 202 2 = some (.invokevirtual 223) := by decide +kernel
theorem i202_5 : am_ins 202 5 = some (.ifCond .ne 32) := by decide +kernel
theorem i202_8 : am_ins 202 8 = some (.aload_n 0) := by decide +kernel
theorem i202_9 : am_ins 202 9 = some (.iload_n 2) := by decide +kernel
theorem i202_10 : am_ins 202 10 = some (.iconst 0) := by decide +kernel
theorem i202_11 : am_ins 202 11 = some (.aload_n 0) := by decide +kernel
theorem i202_12 : am_ins 202 12 = some (.getfield 16) := by decide +kernel
theorem i202_15 : am_ins 202 15 = some (.iload_n 1) := by decide +kernel
theorem i202_16 : am_ins 202 16 = some (.iaload) := by decide +kernel
theorem i202_17 : am_ins 202 17 = some (.iconst 1) := by decide +kernel
theorem i202_18 : am_ins 202 18 = some (.isub) := by decide +kernel
theorem i202_19 : am_ins 202 19 = some (.invokestatic 140) := by decide +kernel
theorem i202_22 : am_ins 202 22 = some (.ifCond .ne 7) := by decide +kernel
theorem i202_25 : am_ins 202 25 = some (.iconst 1) := by decide +kernel
theorem i202_26 : am_ins 202 26 = some (.goto 4) := by decide +kernel
theorem i202_29 : am_ins 202 29 = some (.iconst 0) := by decide +kernel
theorem i202_30 : am_ins 202 30 = some (.iconst 2) := by decide +kernel
theorem i202_31 : am_ins 202 31 = some (.invokevirtual 70) := by decide +kernel
theorem i202_34 : am_ins 202 34 = some (.ifCond .eq 7) := by decide +kernel
theorem i202_37 : am_ins 202 37 = some (.iconst 0) := by decide +kernel
theorem i202_38 : am_ins 202 38 = some (.goto 14) := by decide +kernel
theorem i202_41 : am_ins 202 41 = some (.aload_n 0) := by decide +kernel
theorem i202_42 : am_ins 202 42 = some (.getfield 19) := by decide +kernel
theorem i202_45 : am_ins 202 45 = some (.bipush 6) := by decide +kernel
theorem i202_47 : am_ins 202 47 = some (.iload_n 1) := by decide +kernel
theorem i202_48 : am_ins 202 48 = some (.imul) := by decide +kernel
theorem i202_49 : am_ins 202 49 = some (.iload_n 2) := by decide +kernel
theorem i202_50 : am_ins 202 50 = some (.iadd) := by decide +kernel
theorem i202_51 : am_ins 202 51 = some (.iaload) := by decide +kernel
theorem i202_52 : am_ins 202 52 = some (.ireturn) := by decide +kernel
theorem i203_0 : am_ins 203 0 = some (.aload_n 0) := by decide +kernel
theorem i203_1 : am_ins 203 1 = some (.invokevirtual 216) := by decide +kernel
theorem i203_4 : am_ins 203 4 = some (.ifCond .ne 25) := by decide +kernel
theorem i203_7 : am_ins 203 7 = some (.aload_n 0) := by decide +kernel
theorem i203_8 : am_ins 203 8 = some (.iload_n 1) := by decide +kernel
theorem i203_9 : am_ins 203 9 = some (.iconst 0) := by decide +kernel
theorem i203_10 : am_ins 203 10 = some (.iconst 1) := by decide +kernel
theorem i203_11 : am_ins 203 11 = some (.invokestatic 140) := by decide +kernel
theorem i203_14 : am_ins 203 14 = some (.ifCond .ne 7) := by decide +kernel
theorem i203_17 : am_ins 203 17 = some (.iconst 1) := by decide +kernel
theorem i203_18 : am_ins 203 18 = some (.goto 4) := by decide +kernel
theorem i203_21 : am_ins 203 21 = some (.iconst 0) := by decide +kernel
theorem i203_22 : am_ins 203 22 = some (.iconst 2) := by decide +kernel
theorem i203_23 : am_ins 203 23 = some (.invokevirtual 70) := by decide +kernel
theorem i203_26 : am_ins 203 26 = some (.ifCond .eq 7) := by decide +kernel
theorem i203_29 : am_ins 203 29 = some (.iconst 0) := by decide +kernel
theorem i203_30 : am_ins 203 30 = some (.goto 11) := by decide +kernel
theorem i203_33 : am_ins 203 33 = some (.aload_n 0) := by decide +kernel
theorem i203_34 : am_ins 203 34 = some (.getfield 22) := by decide +kernel
theorem i203_37 : am_ins 203 37 = some (.iconst 1) := by decide +kernel
theorem i203_38 : am_ins 203 38 = some (.iload_n 1) := by decide +kernel
theorem i203_39 : am_ins 203 39 = some (.iadd) := by decide +kernel
theorem i203_40 : am_ins 203 40 = some (.iaload) := by decide +kernel
theorem i203_41 : am_ins 203 41 = some (.ireturn) := by decide +kernel
theorem i204_0 : am_ins 204 0 = some (.aload_n 0) := by decide +kernel
theorem i204_1 : am_ins 204 1 = some (.invokevirtual 216) := by decide +kernel
theorem i204_4 : am_ins 204 4 = some (.ifCond .eq 7) := by decide +kernel
theorem i204_7 : am_ins 204 7 = some (.iconst 0) := by decide +kernel
theorem i204_8 : am_ins 204 8 = some (.goto 9) := by decide +kernel
theorem i204_11 : am_ins 204 11 = some (.aload_n 0) := by decide +kernel
theorem i204_12 : am_ins 204 12 = some (.getfield 22) := by decide +kernel
theorem i204_15 : am_ins 204 15 = some (.iconst 0) := by decide +kernel
theorem i204_16 : am_ins 204 16 = some (.iaload) := by decide +kernel
theorem i204_17 : am_ins 204 17 = some (.ireturn) := by decide +kernel
theorem i205_0 : am_ins 205 0 = some (.aload_n 0) := by decide +kernel
theorem i205_1 : am_ins 205 1 = some (.iload_n 1) := by decide +kernel
theorem i205_2 : am_ins 205 2 = some (.iconst 2) := by decide +kernel
theorem i205_3 : am_ins 205 3 = some (.invokevirtual 247) := by decide +kernel
theorem i205_6 : am_ins 205 6 = some (.ifCond .eq 7) := by decide +kernel
theorem i205_9 : am_ins 205 9 = some (.iconst 0) := by decide +kernel
theorem i205_10 : am_ins 205 10 = some (.goto 8) := by decide +kernel
theorem i205_13 : am_ins 205 13 = some (.aload_n 0) := by decide +kernel
theorem i205_14 : am_ins 205 14 = some (.iload_n 1) := by decide +kernel
theorem i205_15 : am_ins 205 15 = some (.invokevirtual 251) := by decide +kernel
theorem i205_18 : am_ins 205 18 = some (.ireturn) := by decide +kernel
theorem i206_0 : am_ins 206 0 = some (.aload_n 0) := by decide +kernel
theorem i206_1 : am_ins 206 1 = some (.invokevirtual 216) := by decide +kernel
theorem i206_4 : am_ins 206 4 = some (.ifCond .ne 27) := by decide +kernel
theorem i206_7 : am_ins 206 7 = some (.aload_n 0) := by decide +kernel
theorem i206_8 : am_ins 206 8 = some (.iload_n 1) := by decide +kernel
theorem i206_9 : am_ins 206 9 = some (.iconst 1) := by decide +kernel
theorem i206_10 : am_ins 206 10 = some (.sipush 200) := by decide +kernel
theorem i206_13 : am_ins 206 13 = some (.invokestatic 140) := by decide +kernel
theorem i206_16 : am_ins 206 16 = some (.ifCond .ne 7) := by decide +kernel
theorem i206_19 : am_ins 206 19 = some (.iconst 1) := by decide +kernel
theorem i206_20 : am_ins 206 20 = some (.goto 4) := by decide +kernel
theorem i206_23 : am_ins 206 23 = some (.iconst 0) := by decide +kernel
theorem i206_24 : am_ins 206 24 = some (.iload_n 2) := by decide +kernel
theorem i206_25 : am_ins 206 25 = some (.invokevirtual 70) := by decide +kernel
theorem i206_28 : am_ins 206 28 = some (.ifCond .eq 7) := by decide +kernel
theorem i206_31 : am_ins 206 31 = some (.iconst 1) := by decide +kernel
theorem i206_32 : am_ins 206 32 = some (.goto 4) := by decide +kernel
theorem i206_35 : am_ins 206 35 = some (.iconst 0) := by decide +kernel
theorem i206_36 : am_ins 206 36 = some (.ireturn) := by decide +kernel
theorem i207_0 : am_ins 207 0 = some (.iconst 0) := by decide +kernel
theorem i207_1 : am_ins 207 1 = some (.istore_n 2) := by decide +kernel
theorem i207_2 : am_ins 207 2 = some (.iconst 0) := by decide +kernel
theorem i207_3 : am_ins 207 3 = some (.istore_n 3) := by decide +kernel
theorem i207_4 : am_ins 207 4 = some (.iload_n 3) := by decide +kernel
theorem i207_5 : am_ins 207 5 = some (.aload_n 0) := by decide +kernel
theorem i207_6 : am_ins 207 6 = some (.getfield 22) := by decide +kernel
theorem i207_9 : am_ins 207 9 = some (.iconst 4) := by decide +kernel
theorem i207_10 : am_ins 207 10 = some (.iaload) := by decide +kernel
theorem i207_11 : am_ins 207 11 = some (.if_icmp .ge 32) := by decide +kernel
theorem i207_14 : am_ins 207 14 = some (.iload_n 2) := by decide +kernel
theorem i207_15 : am_ins 207 15 = some (.aload_n 0) := by decide +kernel
theorem i207_16 : am_ins 207 16 = some (.iload_n 3) := by decide +kernel
theorem i207_17 : am_ins 207 17 = some (.iconst 0) := by decide +kernel
theorem i207_18 : am_ins 207 18 = some (.invokevirtual 226) := by decide +kernel
theorem i207_21 : am_ins 207 21 = some (.iload_n 1) := by decide +kernel
theorem i207_22 : am_ins 207 22 = some (.if_icmp .ne 12) := by decide +kernel
theorem i207_25 : am_ins 207 25 = some (.aload_n 0) := by decide +kernel
theorem i207_26 : am_ins 207 26 = some (.iload_n 3) := by decide +kernel
theorem i207_27 : am_ins 207 27 = some (.iconst 4) := by decide +kernel
theorem i207_28 : am_ins 207 28 = some (.invokevirtual 226) := by decide +kernel
theorem i207_31 : am_ins 207 31 = some (.goto 4) := by decide +kernel
theorem i207_34 : am_ins 207 34 = some (.iconst 0) := by decide +kernel
theorem i207_35 : am_ins 207 35 = some (.iadd) := by decide +kernel
theorem i207_36 : am_ins 207 36 = some (.istore_n 2) := by decide +kernel
theorem i207_37 : am_ins 207 37 = some (.iinc 3 1) := by decide +kernel
theorem i207_40 : am_ins 207 40 = some (.goto (-36)) := by decide +kernel
theorem i207_43 : am_ins 207 43 = some (.iload_n 2) := by decide +kernel
theorem i207_44 : am_ins 207 44 = some (.ireturn) := by decide +kernel
theorem i208_0 : am_ins 208 0 = some (.aload_n 0) := by decide +kernel
theorem i208_1 : am_ins 208 1 = some (.iload_n 1) := by decide +kernel
theorem i208_2 : am_ins 208 2 = some (.iconst 2) := by decide +kernel
theorem i208_3 : am_ins 208 3 = some (.invokevirtual 247) := by decide +kernel
theorem i208_6 : am_ins 208 6 = some (.ifCond .eq 7) := by decide +kernel
theorem i208_9 : am_ins 208 9 = some (.iconst 0) := by decide +kernel
theorem i208_10 : am_ins 208 10 = some (.goto 13) := by decide +kernel
theorem i208_13 : am_ins 208 13 = some (.aload_n 0) := by decide +kernel
theorem i208_14 : am_ins 208 14 = some (.getfield 22) := by decide +kernel
theorem i208_17 : am_ins 208 17 = some (.sipush 542) := by decide +kernel
theorem i208_20 : am_ins 208 20 = some (.iload_n 1) := by decide +kernel
theorem i208_21 : am_ins 208 21 = some (.iadd) := by decide +kernel
theorem i208_22 : am_ins 208 22 = some (.iaload) := by decide +kernel
theorem i208_23 : am_ins 208 23 = some (.ireturn) := by decide +kernel
theorem i209_0 : am_ins 209 0 = some (.aload_n 0) := by decide +kernel
theorem i209_1 : am_ins 209 1 = some (.iload_n 1) := by decide +kernel
theorem i209_2 : am_ins 209 2 = some (.invokevirtual 241) := by decide +kernel
theorem i209_5 : am_ins 209 5 = some (.ifCond .ne 27) := by decide +kernel
theorem i209_8 : am_ins 209 8 = some (.aload_n 0) := by decide +kernel
theorem i209_9 : am_ins 209 9 = some (.iload_n 2) := by decide +kernel
theorem i209_10 : am_ins 209 10 = some (.iconst 1) := by decide +kernel
theorem i209_11 : am_ins 209 11 = some (.sipush 200) := by decide +kernel
theorem i209_14 : am_ins 209 14 = some (.invokestatic 140) := by decide +kernel
theorem i209_17 : am_ins 209 17 = some (.ifCond .ne 7) := by decide +kernel
theorem i209_20 : am_ins 209 20 = some (.iconst 1) := by decide +kernel
theorem i209_21 : am_ins 209 21 = some (.goto 4) := by decide +kernel
theorem i209_24 : am_ins 209 24 = some (.iconst 0) := by decide +kernel
theorem i209_25 : am_ins 209 25 = some (.iconst 3) := by decide +kernel
theorem i209_26 : am_ins 209 26 = some (.invokevirtual 70) := by decide +kernel
theorem i209_29 : am_ins 209 29 = some (.ifCond .eq 5) := by decide +kernel
theorem i209_32 : am_ins 209 32 = some (.iconst 0) := by decide +kernel
theorem i209_33 : am_ins 209 33 = some (.ireturn) := by decide +kernel
theorem i209_34 : am_ins 209 34 = some (.aload_n 0) := by decide +kernel
theorem i209_35 : am_ins 209 35 = some (.iload_n 1) := by decide +kernel
theorem i209_36 : am_ins 209 36 = some (.iload_n 2) := by decide +kernel
theorem i209_37 : am_ins 209 37 = some (.invokevirtual 259) := by decide +kernel
theorem i209_40 : am_ins 209 40 = some (.ifCond .eq 20) := by decide +kernel
theorem i209_43 : am_ins 209 43 = some (.aload_n 0) := by decide +kernel
theorem i209_44 : am_ins 209 44 = some (.aload_n 0) := by decide +kernel
theorem i209_45 : am_ins 209 45 = some (.getfield 22) := by decide +kernel
theorem i209_48 : am_ins 209 48 = some (.bipush 94) := by decide +kernel
theorem i209_50 : am_ins 209 50 = some (.iload_n 1) := by decide +kernel
theorem i209_51 : am_ins 209 51 = some (.iadd) := by decide +kernel
theorem i209_52 : am_ins 209 52 = some (.iaload) := by decide +kernel
theorem i209_53 : am_ins 209 53 = some (.iload_n 2) := by decide +kernel
theorem i209_54 : am_ins 209 54 = some (.invokevirtual 262) := by decide +kernel
theorem i209_57 : am_ins 209 57 = some (.goto 4) := by decide +kernel
theorem i209_60 : am_ins 209 60 = some (.iconst (-1)) := by decide +kernel
theorem i209_61 : am_ins 209 61 = some (.ireturn) := by decide +kernel
theorem i210_0 : am_ins 210 0 = some (.aload_n 0) := by decide +kernel
theorem i210_1 : am_ins 210 1 = some (.iload_n 1) := by decide +kernel
theorem i210_2 : am_ins 210 2 = some (.invokevirtual 229) := by decide +kernel
theorem i210_5 : am_ins 210 5 = some (.ifCond .eq 20) := by decide +kernel
theorem i210_8 : am_ins 210 8 = some (.aload_n 0) := by decide +kernel
theorem i210_9 : am_ins 210 9 = some (.getfield 22) := by decide +kernel
theorem i210_12 : am_ins 210 12 = some (.bipush 94) := by decide +kernel
theorem i210_14 : am_ins 210 14 = some (.iload_n 1) := by decide +kernel
theorem i210_15 : am_ins 210 15 = some (.iadd) := by decide +kernel
theorem i210_16 : am_ins 210 16 = some (.iaload) := by decide +kernel
theorem i210_17 : am_ins 210 17 = some (.iload_n 2) := by decide +kernel
theorem i210_18 : am_ins 210 18 = some (.if_icmp .lt 7) := by decide +kernel
theorem i210_21 : am_ins 210 21 = some (.iconst 1) := by decide +kernel
theorem i210_22 : am_ins 210 22 = some (.goto 4) := by decide +kernel
theorem i210_25 : am_ins 210 25 = some (.iconst 0) := by decide +kernel
theorem i210_26 : am_ins 210 26 = some (.ireturn) := by decide +kernel
theorem i211_0 : am_ins 211 0 = some (.iload_n 1) := by decide +kernel
theorem i211_1 : am_ins 211 1 = some (.iload_n 2) := by decide +kernel
theorem i211_2 : am_ins 211 2 = some (.if_icmp .ge 7) := by decide +kernel
theorem i211_5 : am_ins 211 5 = some (.iconst (-1)) := by decide +kernel
theorem i211_6 : am_ins 211 6 = some (.goto 17) := by decide +kernel
theorem i211_9 : am_ins 211 9 = some (.iconst 0) := by decide +kernel
theorem i211_10 : am_ins 211 10 = some (.iload_n 1) := by decide +kernel
theorem i211_11 : am_ins 211 11 = some (.iload_n 2) := by decide +kernel
theorem i211_12 : am_ins 211 12 = some (.isub) := by decide +kernel
theorem i211_13 : am_ins 211 13 = some (.aload_n 0) := by decide +kernel
theorem i211_14 : am_ins 211 14 = some (.getfield 22) := by decide +kernel
theorem i211_17 : am_ins 211 17 = some (.iconst 1) := by decide +kernel
theorem i211_18 : am_ins 211 18 = some (.iaload) := by decide +kernel
theorem i211_19 : am_ins 211 19 = some (.isub) := by decide +kernel
theorem i211_20 : am_ins 211 20 = some (.invokestatic 254) := by decide +kernel
theorem i211_23 : am_ins 211 23 = some (.ireturn) := by decide +kernel
theorem i212_0 : am_ins 212 0 = some (.aload_n 0) := by decide +kernel
theorem i212_1 : am_ins 212 1 = some (.iload_n 1) := by decide +kernel
theorem i212_2 : am_ins 212 2 = some (.iconst 2) := by decide +kernel
theorem i212_3 : am_ins 212 3 = some (.invokevirtual 247) := by decide +kernel
theorem i212_6 : am_ins 212 6 = some (.ifCond .ne 25) := by decide +kernel
theorem i212_9 : am_ins 212 9 = some (.aload_n 0) := by decide +kernel
theorem i212_10 : am_ins 212 10 = some (.iload_n 2) := by decide +kernel
theorem i212_11 : am_ins 212 11 = some (.iconst 0) := by decide +kernel
theorem i212_12 : am_ins 212 12 = some (.iconst 2) := by decide +kernel
theorem i212_13 : am_ins 212 13 = some (.invokestatic 140) := by decide +kernel
theorem i212_16 : am_ins 212 16 = some (.ifCond .ne 7) := by decide +kernel
theorem i212_19 : am_ins 212 19 = some (.iconst 1) := by decide +kernel
theorem i212_20 : am_ins 212 20 = some (.goto 4) := by decide +kernel
theorem i212_23 : am_ins 212 23 = some (.iconst 0) := by decide +kernel
theorem i212_24 : am_ins 212 24 = some (.iconst 2) := by decide +kernel
theorem i212_25 : am_ins 212 25 = some (.invokevirtual 70) := by decide +kernel
theorem i212_28 : am_ins 212 28 = some (.ifCond .eq 7) := by decide +kernel
theorem i212_31 : am_ins 212 31 = some (.iconst 0) := by decide +kernel
theorem i212_32 : am_ins 212 32 = some (.goto 9) := by decide +kernel
theorem i212_35 : am_ins 212 35 = some (.aload_n 0) := by decide +kernel
theorem i212_36 : am_ins 212 36 = some (.iload_n 1) := by decide +kernel
theorem i212_37 : am_ins 212 37 = some (.iload_n 2) := by decide +kernel
theorem i212_38 : am_ins 212 38 = some (.invokevirtual 265) := by decide +kernel
theorem i212_41 : am_ins 212 41 = some (.ireturn) := by decide +kernel
theorem i213_0 : am_ins 213 0 = some (.iconst (-1)) := by decide +kernel
theorem i213_1 : am_ins 213 1 = some (.istore_n 3) := by decide +kernel
theorem i213_2 : am_ins 213 2 = some (.iconst 0) := by decide +kernel
theorem i213_3 : am_ins 213 3 = some (.istore 4) := by decide +kernel
theorem i213_5 : am_ins 213 5 = some (.iload 4) := by decide +kernel
theorem i213_7 : am_ins 213 7 = some (.aload_n 0) := by decide +kernel
theorem i213_8 : am_ins 213 8 = some (.getfield 22) := by decide +kernel
theorem i213_11 : am_ins 213 11 = some (.iconst 3) := by decide +kernel
theorem i213_12 : am_ins 213 12 = some (.iaload) := by decide +kernel
theorem i213_13 : am_ins 213 13 = some (.if_icmp .ge 96) := by decide +kernel
theorem i213_16 : am_ins 213 16 = some (.aload_n 0) := by decide +kernel
theorem i213_17 : am_ins 213 17 = some (.iload 4) := by decide +kernel
theorem i213_19 : am_ins 213 19 = some (.iload_n 1) := by decide +kernel
theorem i213_20 : am_ins 213 20 = some (.invokevirtual 259) := by decide +kernel
theorem i213_23 : am_ins 213 23 = some (.ifCond .ne 6) := by decide +kernel
theorem i213_26 : am_ins 213 26 = some (.goto 77) := by decide +kernel
theorem i213_29 : am_ins 213 29 = some (.aload_n 0) := by decide +kernel
theorem i213_30 : am_ins 213 30 = some (.getfield 22) := by decide +kernel
theorem i213_33 : am_ins 213 33 = some (.bipush 94) := by decide +kernel
theorem i213_35 : am_ins 213 35 = some (.iload 4) := by decide +kernel
theorem i213_37 : am_ins 213 37 = some (.iadd) := by decide +kernel
theorem i213_38 : am_ins 213 38 = some (.iaload) := by decide +kernel
theorem i213_39 : am_ins 213 39 = some (.istore 5) := by decide +kernel
theorem i213_41 : am_ins 213 41 = some (.iload_n 3) := by decide +kernel
theorem i213_42 : am_ins 213 42 = some (.iconst (-1)) := by decide +kernel
theorem i213_43 : am_ins 213 43 = some (.if_icmp .eq 41) := by decide +kernel
theorem i213_46 : am_ins 213 46 = some (.iload_n 2) := by decide +kernel
theorem i213_47 : am_ins 213 47 = some (.iconst 1) := by decide +kernel
theorem i213_48 : am_ins 213 48 = some (.if_icmp .ne 17) := by decide +kernel
theorem i213_51 : am_ins 213 51 = some (.iload 5) := by decide +kernel
theorem i213_53 : am_ins 213 53 = some (.aload_n 0) := by decide +kernel
theorem i213_54 : am_ins 213 54 = some (.getfield 22) := by decide +kernel
theorem i213_57 : am_ins 213 57 = some (.bipush 94) := by decide +kernel
theorem i213_59 : am_ins 213 59 = some (.iload_n 3) := by decide +kernel
theorem i213_60 : am_ins 213 60 = some (.iadd) := by decide +kernel
theorem i213_61 : am_ins 213 61 = some (.iaload) := by decide +kernel
theorem i213_62 : am_ins 213 62 = some (.if_icmp .lt 22) := by decide +kernel
theorem i213_65 : am_ins 213 65 = some (.iload_n 2) := by decide +kernel
theorem i213_66 : am_ins 213 66 = some (.iconst 2) := by decide +kernel
theorem i213_67 : am_ins 213 67 = some (.if_icmp .ne 21) := by decide +kernel
theorem i213_70 : am_ins 213 70 = some (.iload 5) := by decide +kernel
theorem i213_72 : am_ins 213 72 = some (.aload_n 0) := by decide +kernel
theorem i213_73 : am_ins 213 73 = some (.getfield 22) := by decide +kernel
theorem i213_76 : am_ins 213 76 = some (.bipush 94) := by decide +kernel
theorem i213_78 : am_ins 213 78 = some (.iload_n 3) := by decide +kernel
theorem i213_79 : am_ins 213 79 = some (.iadd) := by decide +kernel
theorem i213_80 : am_ins 213 80 = some (.iaload) := by decide +kernel
theorem i213_81 : am_ins 213 81 = some (.if_icmp .le 7) := by decide +kernel
theorem i213_84 : am_ins 213 84 = some (.iconst 1) := by decide +kernel
theorem i213_85 : am_ins 213 85 = some (.goto 4) := by decide +kernel
theorem i213_88 : am_ins 213 88 = some (.iconst 0) := by decide +kernel
theorem i213_89 : am_ins 213 89 = some (.istore 6) := by decide +kernel
theorem i213_91 : am_ins 213 91 = some (.iload 6) := by decide +kernel
theorem i213_93 : am_ins 213 93 = some (.ifCond .eq 8) := by decide +kernel
theorem i213_96 : am_ins 213 96 = some (.iload 4) := by decide +kernel
theorem i213_98 : am_ins 213 98 = some (.goto 4) := by decide +kernel
theorem i213_101 : am_ins 213 101 = some (.iload_n 3) := by decide +kernel
theorem i213_102 : am_ins 213 102 = some (.istore_n 3) := by decide +kernel
theorem i213_103 : am_ins 213 103 = some (.iinc 4 1) := by decide +kernel
theorem i213_106 : am_ins 213 106 = some (.goto (-101)) := by decide +kernel
theorem i213_109 : am_ins 213 109 = some (.iload_n 3) := by decide +kernel
theorem i213_110 : am_ins 213 110 = some (.ireturn) := by decide +kernel
theorem i214_0 : am_ins 214 0 = some (.aload_n 0) := by decide +kernel
theorem i214_1 : am_ins 214 1 = some (.invokevirtual 216) := by decide +kernel
theorem i214_4 : am_ins 214 4 = some (.ifCond .eq 7) := by decide +kernel
theorem i214_7 : am_ins 214 7 = some (.iconst 0) := by decide +kernel
theorem i214_8 : am_ins 214 8 = some (.goto 9) := by decide +kernel
theorem i214_11 : am_ins 214 11 = some (.aload_n 0) := by decide +kernel
theorem i214_12 : am_ins 214 12 = some (.iconst 1) := by decide +kernel
theorem i214_13 : am_ins 214 13 = some (.iconst 2) := by decide +kernel
theorem i214_14 : am_ins 214 14 = some (.invokevirtual 265) := by decide +kernel
theorem i214_17 : am_ins 214 17 = some (.ireturn) := by decide +kernel
theorem i215_0 : am_ins 215 0 = some (.aload_n 0) := by decide +kernel
theorem i215_1 : am_ins 215 1 = some (.invokevirtual 216) := by decide +kernel
theorem i215_4 : am_ins 215 4 = some (.ifCond .eq 5) := by decide +kernel
theorem i215_7 : am_ins 215 7 = some (.iconst 0) := by decide +kernel
theorem i215_8 : am_ins 215 8 = some (.ireturn) := by decide +kernel
theorem i215_9 : am_ins 215 9 = some (.iconst 0) := by decide +kernel
theorem i215_10 : am_ins 215 10 = some (.istore_n 1) := by decide +kernel
theorem i215_11 : am_ins 215 11 = some (.iconst 0) := by decide +kernel
theorem i215_12 : am_ins 215 12 = some (.istore_n 2) := by decide +kernel
theorem i215_13 : am_ins 215 13 = some (.iload_n 2) := by decide +kernel
theorem i215_14 : am_ins 215 14 = some (.aload_n 0) := by decide +kernel
theorem i215_15 : am_ins 215 15 = some (.getfield 22) := by decide +kernel
theorem i215_18 : am_ins 215 18 = some (.iconst 3) := by decide +kernel
theorem i215_19 : am_ins 215 19 = some (.iaload) := by decide +kernel
theorem i215_20 : am_ins 215 20 = some (.if_icmp .ge 21) := by decide +kernel
theorem i215_23 : am_ins 215 23 = some (.iload_n 1) := by decide +kernel
theorem i215_24 : am_ins 215 24 = some (.aload_n 0) := by decide +kernel
theorem i215_25 : am_ins 215 25 = some (.getfield 22) := by decide +kernel
theorem i215_28 : am_ins 215 28 = some (.bipush 94) := by decide +kernel
theorem i215_30 : am_ins 215 30 = some (.iload_n 2) := by decide +kernel
theorem i215_31 : am_ins 215 31 = some (.iadd) := by decide +kernel
theorem i215_32 : am_ins 215 32 = some (.iaload) := by decide +kernel
theorem i215_33 : am_ins 215 33 = some (.iadd) := by decide +kernel
theorem i215_34 : am_ins 215 34 = some (.istore_n 1) := by decide +kernel
theorem i215_35 : am_ins 215 35 = some (.iinc 2 1) := by decide +kernel
theorem i215_38 : am_ins 215 38 = some (.goto (-25)) := by decide +kernel
theorem i215_41 : am_ins 215 41 = some (.iload_n 1) := by decide +kernel
theorem i215_42 : am_ins 215 42 = some (.ireturn) := by decide +kernel
theorem i216_0 : am_ins 216 0 = some (.aload_n 0) := by decide +kernel
theorem i216_1 : am_ins 216 1 = some (.invokevirtual 216) := by decide +kernel
theorem i216_4 : am_ins 216 4 = some (.ifCond .eq 5) := by decide +kernel
theorem i216_7 : am_ins 216 7 = some (.iconst 0) := by decide +kernel
theorem i216_8 : am_ins 216 8 = some (.ireturn) := by decide +kernel
theorem i216_9 : am_ins 216 9 = some (.iconst 0) := by decide +kernel
theorem i216_10 : am_ins 216 10 = some (.istore_n 1) := by decide +kernel
theorem i216_11 : am_ins 216 11 = some (.iconst 0) := by decide +kernel
theorem i216_12 : am_ins 216 12 = some (.istore_n 2) := by decide +kernel
theorem i216_13 : am_ins 216 13 = some (.iload_n 2) := by decide +kernel
theorem i216_14 : am_ins 216 14 = some (.aload_n 0) := by decide +kernel
theorem i216_15 : am_ins 216 15 = some (.getfield 22) := by decide +kernel
theorem i216_18 : am_ins 216 18 = some (.iconst 3) := by decide +kernel
theorem i216_19 : am_ins 216 19 = some (.iaload) := by decide +kernel
theorem i216_20 : am_ins 216 20 = some (.if_icmp .ge 36) := by decide +kernel
theorem i216_23 : am_ins 216 23 = some (.iload_n 1) := by decide +kernel
theorem i216_24 : am_ins 216 24 = some (.aload_n 0) := by decide +kernel
theorem i216_25 : am_ins 216 25 = some (.getfield 22) := by decide +kernel
theorem i216_28 : am_ins 216 28 = some (.bipush 94) := by decide +kernel
theorem i216_30 : am_ins 216 30 = some (.iload_n 2) := by decide +kernel
theorem i216_31 : am_ins 216 31 = some (.iadd) := by decide +kernel
theorem i216_32 : am_ins 216 32 = some (.iaload) := by decide +kernel
theorem i216_33 : am_ins 216 33 = some (.aload_n 0) := by decide +kernel
theorem i216_34 : am_ins 216 34 = some (.getfield 13) := by decide +kernel
theorem i216_37 : am_ins 216 37 = some (.aload_n 0) := by decide +kernel
theorem i216_38 : am_ins 216 38 = some (.getfield 22) := by decide +kernel
theorem i216_41 : am_ins 216 41 = some (.bipush 14) := by decide +kernel
theorem i216_43 : am_ins 216 43 = some (.iload_n 2) := by decide +kernel
theorem i216_44 : am_ins 216 44 = some (.iadd) := by decide +kernel
theorem i216_45 : am_ins 216 45 = some (.iaload) := by decide +kernel
theorem i216_46 : am_ins 216 46 = some (.iaload) := by decide +kernel
theorem i216_47 : am_ins 216 47 = some (.imul) := by decide +kernel
theorem i216_48 : am_ins 216 48 = some (.iadd) := by decide +kernel
theorem i216_49 : am_ins 216 49 = some (.istore_n 1) := by decide +kernel
theorem i216_50 : am_ins 216 50 = some (.iinc 2 1) := by decide +kernel
theorem i216_53 : am_ins 216 53 = some (.goto (-40)) := by decide +kernel
theorem i216_56 : am_ins 216 56 = some (.iload_n 1) := by decide +kernel
theorem i216_57 : am_ins 216 57 = some (.ireturn) := by decide +kernel
theorem i217_0 : am_ins 217 0 = some (.aload_n 0) := by decide +kernel
theorem i217_1 : am_ins 217 1 = some (.invokevirtual 216) := by decide +kernel
theorem i217_4 : am_ins 217 4 = some (.ifCond .eq 7) := by decide +kernel
theorem i217_7 : am_ins 217 7 = some (.iconst 0) := by decide +kernel
theorem i217_8 : am_ins 217 8 = some (.goto 8) := by decide +kernel
theorem i217_11 : am_ins 217 11 = some (.aload_n 0) := by decide +kernel
theorem i217_12 : am_ins 217 12 = some (.iconst 0) := by decide +kernel
theorem i217_13 : am_ins 217 13 = some (.invokevirtual 268) := by decide +kernel
theorem i217_16 : am_ins 217 16 = some (.ireturn) := by decide +kernel
theorem i218_0 : am_ins 218 0 = some (.iconst (-1)) := by decide +kernel
theorem i218_1 : am_ins 218 1 = some (.istore_n 2) := by decide +kernel
theorem i218_2 : am_ins 218 2 = some (.iconst 0) := by decide +kernel
theorem i218_3 : am_ins 218 3 = some (.istore_n 3) := by decide +kernel
theorem i218_4 : am_ins 218 4 = some (.iload_n 3) := by decide +kernel
theorem i218_5 : am_ins 218 5 = some (.aload_n 0) := by decide +kernel
theorem i218_6 : am_ins 218 6 = some (.getfield 22) := by decide +kernel
theorem i218_9 : am_ins 218 9 = some (.iconst 4) := by decide +kernel
theorem i218_10 : am_ins 218 10 = some (.iaload) := by decide +kernel
theorem i218_11 : am_ins 218 11 = some (.if_icmp .ge 69) := by decide +kernel
theorem i218_14 : am_ins 218 14 = some (.aload_n 0) := by decide +kernel
theorem i218_15 : am_ins 218 15 = some (.iload_n 3) := by decide +kernel
theorem i218_16 : am_ins 218 16 = some (.invokevirtual 232) := by decide +kernel
theorem i218_19 : am_ins 218 19 = some (.ifCond .eq 21) := by decide +kernel
theorem i218_22 : am_ins 218 22 = some (.iload_n 1) := by decide +kernel
theorem i218_23 : am_ins 218 23 = some (.ifCond .eq 13) := by decide +kernel
theorem i218_26 : am_ins 218 26 = some (.aload_n 0) := by decide +kernel
theorem i218_27 : am_ins 218 27 = some (.iload_n 3) := by decide +kernel
theorem i218_28 : am_ins 218 28 = some (.iconst 0) := by decide +kernel
theorem i218_29 : am_ins 218 29 = some (.invokevirtual 226) := by decide +kernel
theorem i218_32 : am_ins 218 32 = some (.iload_n 1) := by decide +kernel
theorem i218_33 : am_ins 218 33 = some (.if_icmp .ne 7) := by decide +kernel
theorem i218_36 : am_ins 218 36 = some (.iconst 1) := by decide +kernel
theorem i218_37 : am_ins 218 37 = some (.goto 4) := by decide +kernel
theorem i218_40 : am_ins 218 40 = some (.iconst 0) := by decide +kernel
theorem i218_41 : am_ins 218 41 = some (.istore 4) := by decide +kernel
theorem i218_43 : am_ins 218 43 = some (.iload 4) := by decide +kernel
theorem i218_45 : am_ins 218 45 = some (.ifCond .eq 27) := by decide +kernel
theorem i218_48 : am_ins 218 48 = some (.iload_n 2) := by decide +kernel
theorem i218_49 : am_ins 218 49 = some (.iconst (-1)) := by decide +kernel
theorem i218_50 : am_ins 218 50 = some (.if_icmp .eq 18) := by decide +kernel
theorem i218_53 : am_ins 218 53 = some (.aload_n 0) := by decide +kernel
theorem i218_54 : am_ins 218 54 = some (.iload_n 3) := by decide +kernel
theorem i218_55 : am_ins 218 55 = some (.iconst 3) := by decide +kernel
theorem i218_56 : am_ins 218 56 = some (.invokevirtual 226) := by decide +kernel
theorem i218_59 : am_ins 218 59 = some (.aload_n 0) := by decide +kernel
theorem i218_60 : am_ins 218 60 = some (.iload_n 2) := by decide +kernel
theorem i218_61 : am_ins 218 61 = some (.iconst 3) := by decide +kernel
theorem i218_62 : am_ins 218 62 = some (.invokevirtual 226) := by decide +kernel
theorem i218_65 : am_ins 218 65 = some (.if_icmp .ge 7) := by decide +kernel
theorem i218_68 : am_ins 218 68 = some (.iload_n 3) := by decide +kernel
theorem i218_69 : am_ins 218 69 = some (.goto 4) := by decide +kernel
theorem i218_72 : am_ins 218 72 = some (.iload_n 2) := by decide +kernel
theorem i218_73 : am_ins 218 73 = some (.istore_n 2) := by decide +kernel
theorem i218_74 : am_ins 218 74 = some (.iinc 3 1) := by decide +kernel
theorem i218_77 : am_ins 218 77 = some (.goto (-73)) := by decide +kernel
theorem i218_80 : am_ins 218 80 = some (.iload_n 2) := by decide +kernel
theorem i218_81 : am_ins 218 81 = some (.ireturn) := by decide +kernel
theorem i219_0 : am_ins 219 0 = some (.aload_n 0) := by decide +kernel
theorem i219_1 : am_ins 219 1 = some (.invokevirtual 216) := by decide +kernel
theorem i219_4 : am_ins 219 4 = some (.ifCond .eq 5) := by decide +kernel
theorem i219_7 : am_ins 219 7 = some (.iconst 0) := by decide +kernel
theorem i219_8 : am_ins 219 8 = some (.ireturn) := by decide +kernel
theorem i219_9 : am_ins 219 9 = some (.iconst 0) := by decide +kernel
theorem i219_10 : am_ins 219 10 = some (.istore_n 1) := by decide +kernel
theorem i219_11 : am_ins 219 11 = some (.iconst 0) := by decide +kernel
theorem i219_12 : am_ins 219 12 = some (.istore_n 2) := by decide +kernel
theorem i219_13 : am_ins 219 13 = some (.iload_n 2) := by decide +kernel
theorem i219_14 : am_ins 219 14 = some (.aload_n 0) := by decide +kernel
theorem i219_15 : am_ins 219 15 = some (.getfield 22) := by decide +kernel
theorem i219_18 : am_ins 219 18 = some (.iconst 4) := by decide +kernel
theorem i219_19 : am_ins 219 19 = some (.iaload) := by decide +kernel
theorem i219_20 : am_ins 219 20 = some (.if_icmp .ge 37) := by decide +kernel
theorem i219_23 : am_ins 219 23 = some (.iload_n 1) := by decide +kernel
theorem i219_24 : am_ins 219 24 = some (.aload_n 0) := by decide +kernel
theorem i219_25 : am_ins 219 25 = some (.iload_n 2) := by decide +kernel
theorem i219_26 : am_ins 219 26 = some (.iconst 3) := by decide +kernel
theorem i219_27 : am_ins 219 27 = some (.invokevirtual 226) := by decide +kernel
theorem i219_30 : am_ins 219 30 = some (.aload_n 0) := by decide +kernel
theorem i219_31 : am_ins 219 31 = some (.getfield 22) := by decide +kernel
theorem i219_34 : am_ins 219 34 = some (.iconst 0) := by decide +kernel
theorem i219_35 : am_ins 219 35 = some (.iaload) := by decide +kernel
theorem i219_36 : am_ins 219 36 = some (.if_icmp .ge 12) := by decide +kernel
theorem i219_39 : am_ins 219 39 = some (.aload_n 0) := by decide +kernel
theorem i219_40 : am_ins 219 40 = some (.iload_n 2) := by decide +kernel
theorem i219_41 : am_ins 219 41 = some (.iconst 4) := by decide +kernel
theorem i219_42 : am_ins 219 42 = some (.invokevirtual 226) := by decide +kernel
theorem i219_45 : am_ins 219 45 = some (.goto 4) := by decide +kernel
theorem i219_48 : am_ins 219 48 = some (.iconst 0) := by decide +kernel
theorem i219_49 : am_ins 219 49 = some (.iadd) := by decide +kernel
theorem i219_50 : am_ins 219 50 = some (.istore_n 1) := by decide +kernel
theorem i219_51 : am_ins 219 51 = some (.iinc 2 1) := by decide +kernel
theorem i219_54 : am_ins 219 54 = some (.goto (-41)) := by decide +kernel
theorem i219_57 : am_ins 219 57 = some (.iload_n 1) := by decide +kernel
theorem i219_58 : am_ins 219 58 = some (.ireturn) := by decide +kernel
theorem i220_0 : am_ins 220 0 = some (.aload_n 0) := by decide +kernel
theorem i220_1 : am_ins 220 1 = some (.iload_n 1) := by decide +kernel
theorem i220_2 : am_ins 220 2 = some (.iload_n 2) := by decide +kernel
theorem i220_3 : am_ins 220 3 = some (.invokevirtual 271) := by decide +kernel
theorem i220_6 : am_ins 220 6 = some (.ifCond .ne 17) := by decide +kernel
theorem i220_9 : am_ins 220 9 = some (.aload_n 0) := by decide +kernel
theorem i220_10 : am_ins 220 10 = some (.iload_n 1) := by decide +kernel
theorem i220_11 : am_ins 220 11 = some (.iload_n 2) := by decide +kernel
theorem i220_12 : am_ins 220 12 = some (.invokevirtual 274) := by decide +kernel
theorem i220_15 : am_ins 220 15 = some (.iconst (-1)) := by decide +kernel
theorem i220_16 : am_ins 220 16 = some (.if_icmp .eq 7) := by decide +kernel
theorem i220_19 : am_ins 220 19 = some (.iconst 1) := by decide +kernel
theorem i220_20 : am_ins 220 20 = some (.goto 4) := by decide +kernel
theorem i220_23 : am_ins 220 23 = some (.iconst 0) := by decide +kernel
theorem i220_24 : am_ins 220 24 = some (.ireturn) := by decide +kernel
theorem i221_0 : am_ins 221 0 = some (.aload_n 0) := by decide +kernel
theorem i221_1 : am_ins 221 1 = some (.iload_n 1) := by decide +kernel
theorem i221_2 : am_ins 221 2 = some (.invokevirtual 223) := by decide +kernel
theorem i221_5 : am_ins 221 5 = some (.ifCond .ne 24) := by decide +kernel
theorem i221_8 : am_ins 221 8 = some (.aload_n 0) := by decide +kernel
theorem i221_9 : am_ins 221 9 = some (.aload_n 0) := by decide +kernel
theorem i221_10 : am_ins 221 10 = some (.iload_n 2) := by decide +kernel
theorem i221_11 : am_ins 221 11 = some (.invokevirtual 220) := by decide +kernel
theorem i221_14 : am_ins 221 14 = some (.ifCond .ne 7) := by decide +kernel
theorem i221_17 : am_ins 221 17 = some (.iconst 1) := by decide +kernel
theorem i221_18 : am_ins 221 18 = some (.goto 4) := by decide +kernel
theorem i221_21 : am_ins 221 21 = some (.iconst 0) := by decide +kernel
theorem i221_22 : am_ins 221 22 = some (.iconst 2) := by decide +kernel
theorem i221_23 : am_ins 221 23 = some (.invokevirtual 70) := by decide +kernel
theorem i221_26 : am_ins 221 26 = some (.ifCond .eq 7) := by decide +kernel
theorem i221_29 : am_ins 221 29 = some (.iconst 1) := by decide +kernel
theorem i221_30 : am_ins 221 30 = some (.goto 4) := by decide +kernel
theorem i221_33 : am_ins 221 33 = some (.iconst 0) := by decide +kernel
theorem i221_34 : am_ins 221 34 = some (.ireturn) := by decide +kernel
theorem i222_0 : am_ins 222 0 = some (.aload_n 0) := by decide +kernel
theorem i222_1 : am_ins 222 1 = some (.iload_n 2) := by decide +kernel
theorem i222_2 : am_ins 222 2 = some (.invokevirtual 229) := by decide +kernel
theorem i222_5 : am_ins 222 5 = some (.ifCond .eq 15) := by decide +kernel
theorem i222_8 : am_ins 222 8 = some (.aload_n 0) := by decide +kernel
theorem i222_9 : am_ins 222 9 = some (.getfield 22) := by decide +kernel
theorem i222_12 : am_ins 222 12 = some (.bipush 94) := by decide +kernel
theorem i222_14 : am_ins 222 14 = some (.iload_n 2) := by decide +kernel
theorem i222_15 : am_ins 222 15 = some (.iadd) := by decide +kernel
theorem i222_16 : am_ins 222 16 = some (.iaload) := by decide +kernel
theorem i222_17 : am_ins 222 17 = some (.goto 4) := by decide +kernel
theorem i222_20 : am_ins 222 20 = some (.iconst (-1)) := by decide +kernel
theorem i222_21 : am_ins 222 21 = some (.istore_n 3) := by decide +kernel
theorem i222_22 : am_ins 222 22 = some (.iconst 0) := by decide +kernel
theorem i222_23 : am_ins 222 23 = some (.istore 4) := by decide +kernel
theorem i222_25 : am_ins 222 25 = some (.iload 4) := by decide +kernel
theorem i222_27 : am_ins 222 27 = some (.aload_n 0) := by decide +kernel
theorem i222_28 : am_ins 222 28 = some (.getfield 16) := by decide +kernel
theorem i222_31 : am_ins 222 31 = some (.iload_n 1) := by decide +kernel
theorem i222_32 : am_ins 222 32 = some (.iaload) := by decide +kernel
theorem i222_33 : am_ins 222 33 = some (.if_icmp .ge 32) := by decide +kernel
theorem i222_36 : am_ins 222 36 = some (.iload_n 3) := by decide +kernel
theorem i222_37 : am_ins 222 37 = some (.iconst (-1)) := by decide +kernel
theorem i222_38 : am_ins 222 38 = some (.if_icmp .eq 27) := by decide +kernel
theorem i222_41 : am_ins 222 41 = some (.aload_n 0) := by decide +kernel
theorem i222_42 : am_ins 222 42 = some (.iload_n 3) := by decide +kernel
theorem i222_43 : am_ins 222 43 = some (.aload_n 0) := by decide +kernel
theorem i222_44 : am_ins 222 44 = some (.getfield 19) := by decide +kernel
theorem i222_47 : am_ins 222 47 = some (.bipush 6) := by decide +kernel
theorem i222_49 : am_ins 222 49 = some (.iload_n 1) := by decide +kernel
theorem i222_50 : am_ins 222 50 = some (.imul) := by decide +kernel
theorem i222_51 : am_ins 222 51 = some (.iload 4) := by decide +kernel
theorem i222_53 : am_ins 222 53 = some (.iadd) := by decide +kernel
theorem i222_54 : am_ins 222 54 = some (.iaload) := by decide +kernel
theorem i222_55 : am_ins 222 55 = some (.invokevirtual 262) := by decide +kernel
theorem i222_58 : am_ins 222 58 = some (.istore_n 3) := by decide +kernel
theorem i222_59 : am_ins 222 59 = some (.iinc 4 1) := by decide +kernel
theorem i222_62 : am_ins 222 62 = some (.goto (-37)) := by decide +kernel
theorem i222_65 : am_ins 222 65 = some (.iload_n 3) := by decide +kernel
theorem i222_66 : am_ins 222 66 = some (.ireturn) := by decide +kernel
theorem i223_0 : am_ins 223 0 = some (.aload_n 0) := by decide +kernel
theorem i223_1 : am_ins 223 1 = some (.iload_n 1) := by decide +kernel
theorem i223_2 : am_ins 223 2 = some (.iload_n 2) := by decide +kernel
theorem i223_3 : am_ins 223 3 = some (.invokevirtual 271) := by decide +kernel
theorem i223_6 : am_ins 223 6 = some (.ifCond .eq 7) := by decide +kernel
theorem i223_9 : am_ins 223 9 = some (.iconst 0) := by decide +kernel
theorem i223_10 : am_ins 223 10 = some (.goto 9) := by decide +kernel
theorem i223_13 : am_ins 223 13 = some (.aload_n 0) := by decide +kernel
theorem i223_14 : am_ins 223 14 = some (.iload_n 1) := by decide +kernel
theorem i223_15 : am_ins 223 15 = some (.iload_n 2) := by decide +kernel
theorem i223_16 : am_ins 223 16 = some (.invokevirtual 274) := by decide +kernel
theorem i223_19 : am_ins 223 19 = some (.ireturn) := by decide +kernel
theorem i224_0 : am_ins 224 0 = some (.aload_n 0) := by decide +kernel
theorem i224_1 : am_ins 224 1 = some (.iload_n 1) := by decide +kernel
theorem i224_2 : am_ins 224 2 = some (.invokevirtual 223) := by decide +kernel
theorem i224_5 : am_ins 224 5 = some (.ifCond .eq 7) := by decide +kernel
theorem i224_8 : am_ins 224 8 = some (.iconst 0) := by decide +kernel
theorem i224_9 : am_ins 224 9 = some (.goto 8) := by decide +kernel
theorem i224_12 : am_ins 224 12 = some (.aload_n 0) := by decide +kernel
theorem i224_13 : am_ins 224 13 = some (.iload_n 1) := by decide +kernel
theorem i224_14 : am_ins 224 14 = some (.invokevirtual 277) := by decide +kernel
theorem i224_17 : am_ins 224 17 = some (.ireturn) := by decide +kernel
theorem i225_0 : am_ins 225 0 = some (.iconst (-1)) := by decide +kernel
theorem i225_1 : am_ins 225 1 = some (.istore_n 2) := by decide +kernel
theorem i225_2 : am_ins 225 2 = some (.iconst 0) := by decide +kernel
theorem i225_3 : am_ins 225 3 = some (.istore_n 3) := by decide +kernel
theorem i225_4 : am_ins 225 4 = some (.iload_n 3) := by decide +kernel
theorem i225_5 : am_ins 225 5 = some (.aload_n 0) := by decide +kernel
theorem i225_6 : am_ins 225 6 = some (.getfield 22) := by decide +kernel
theorem i225_9 : am_ins 225 9 = some (.iconst 3) := by decide +kernel
theorem i225_10 : am_ins 225 10 = some (.iaload) := by decide +kernel
theorem i225_11 : am_ins 225 11 = some (.if_icmp .ge 63) := by decide +kernel
theorem i225_14 : am_ins 225 14 = some (.aload_n 0) := by decide +kernel
theorem i225_15 : am_ins 225 15 = some (.iload_n 1) := by decide +kernel
theorem i225_16 : am_ins 225 16 = some (.iload_n 3) := by decide +kernel
theorem i225_17 : am_ins 225 17 = some (.invokevirtual 274) := by decide +kernel
theorem i225_20 : am_ins 225 20 = some (.iconst (-1)) := by decide +kernel
theorem i225_21 : am_ins 225 21 = some (.if_icmp .eq 7) := by decide +kernel
theorem i225_24 : am_ins 225 24 = some (.iconst 1) := by decide +kernel
theorem i225_25 : am_ins 225 25 = some (.goto 4) := by decide +kernel
theorem i225_28 : am_ins 225 28 = some (.iconst 0) := by decide +kernel
theorem i225_29 : am_ins 225 29 = some (.istore 4) := by decide +kernel
theorem i225_31 : am_ins 225 31 = some (.iload 4) := by decide +kernel
theorem i225_33 : am_ins 225 33 = some (.ifCond .eq 33) := by decide +kernel
theorem i225_36 : am_ins 225 36 = some (.iload_n 2) := by decide +kernel
theorem i225_37 : am_ins 225 37 = some (.iconst (-1)) := by decide +kernel
theorem i225_38 : am_ins 225 38 = some (.if_icmp .eq 24) := by decide +kernel
theorem i225_41 : am_ins 225 41 = some (.aload_n 0) := by decide +kernel
theorem i225_42 : am_ins 225 42 = some (.getfield 22) := by decide +kernel
theorem i225_45 : am_ins 225 45 = some (.bipush 94) := by decide +kernel
theorem i225_47 : am_ins 225 47 = some (.iload_n 3) := by decide +kernel
theorem i225_48 : am_ins 225 48 = some (.iadd) := by decide +kernel
theorem i225_49 : am_ins 225 49 = some (.iaload) := by decide +kernel
theorem i225_50 : am_ins 225 50 = some (.aload_n 0) := by decide +kernel
theorem i225_51 : am_ins 225 51 = some (.getfield 22) := by decide +kernel
theorem i225_54 : am_ins 225 54 = some (.bipush 94) := by decide +kernel
theorem i225_56 : am_ins 225 56 = some (.iload_n 2) := by decide +kernel
theorem i225_57 : am_ins 225 57 = some (.iadd) := by decide +kernel
theorem i225_58 : am_ins 225 58 = some (.iaload) := by decide +kernel
theorem i225_59 : am_ins 225 59 = some (.if_icmp .ge 7) := by decide +kernel
theorem i225_62 : am_ins 225 62 = some (.iload_n 3) := by decide +kernel
theorem i225_63 : am_ins 225 63 = some (.goto 4) := by decide +kernel
theorem i225_66 : am_ins 225 66 = some (.iload_n 2) := by decide +kernel
theorem i225_67 : am_ins 225 67 = some (.istore_n 2) := by decide +kernel
theorem i225_68 : am_ins 225 68 = some (.iinc 3 1) := by decide +kernel
theorem i225_71 : am_ins 225 71 = some (.goto (-67)) := by decide +kernel
theorem i225_74 : am_ins 225 74 = some (.iload_n 2) := by decide +kernel
theorem i225_75 : am_ins 225 75 = some (.ireturn) := by decide +kernel
theorem i226_0 : am_ins 226 0 = some (.aload_n 0) := by decide +kernel
theorem i226_1 : am_ins 226 1 = some (.invokevirtual 216) := by decide +kernel
theorem i226_4 : am_ins 226 4 = some (.ifCond .eq 5) := by decide +kernel
theorem i226_7 : am_ins 226 7 = some (.iconst 0) := by decide +kernel
theorem i226_8 : am_ins 226 8 = some (.ireturn) := by decide +kernel
theorem i226_9 : am_ins 226 9 = some (.iconst 0) := by decide +kernel
theorem i226_10 : am_ins 226 10 = some (.istore_n 1) := by decide +kernel
theorem i226_11 : am_ins 226 11 = some (.iconst 0) := by decide +kernel
theorem i226_12 : am_ins 226 12 = some (.istore_n 2) := by decide +kernel
theorem i226_13 : am_ins 226 13 = some (.iload_n 2) := by decide +kernel
theorem i226_14 : am_ins 226 14 = some (.aload_n 0) := by decide +kernel
theorem i226_15 : am_ins 226 15 = some (.getfield 206) := by decide +kernel
theorem i226_18 : am_ins 226 18 = some (.if_icmp .ge 27) := by decide +kernel
theorem i226_21 : am_ins 226 21 = some (.iload_n 1) := by decide +kernel
theorem i226_22 : am_ins 226 22 = some (.aload_n 0) := by decide +kernel
theorem i226_23 : am_ins 226 23 = some (.iload_n 2) := by decide +kernel
theorem i226_24 : am_ins 226 24 = some (.invokevirtual 280) := by decide +kernel
theorem i226_27 : am_ins 226 27 = some (.ifCond .eq 9) := by decide +kernel
theorem i226_30 : am_ins 226 30 = some (.iconst 1) := by decide +kernel
theorem i226_31 : am_ins 226 31 = some (.iload_n 2) := by decide +kernel
theorem i226_32 : am_ins 226 32 = some (.ishl) := by decide +kernel
theorem i226_33 : am_ins 226 33 = some (.goto 4) := by decide +kernel
theorem i226_36 : am_ins 226 36 = some (.iconst 0) := by decide +kernel
theorem i226_37 : am_ins 226 37 = some (.ior) := by decide +kernel
theorem i226_38 : am_ins 226 38 = some (.istore_n 1) := by decide +kernel
theorem i226_39 : am_ins 226 39 = some (.iinc 2 1) := by decide +kernel
theorem i226_42 : am_ins 226 42 = some (.goto (-29)) := by decide +kernel
theorem i226_45 : am_ins 226 45 = some (.iload_n 1) := by decide +kernel
theorem i226_46 : am_ins 226 46 = some (.ireturn) := by decide +kernel
theorem i227_0 : am_ins 227 0 = some (.iconst 0) := by decide +kernel
theorem i227_1 : am_ins 227 1 = some (.istore_n 2) := by decide +kernel
theorem i227_2 : am_ins 227 2 = some (.iload_n 2) := by decide +kernel
theorem i227_3 : am_ins 227 3 = some (.aload_n 0) := by decide +kernel
theorem i227_4 : am_ins 227 4 = some (.getfield 16) := by decide +kernel
theorem i227_7 : am_ins 227 7 = some (.iload_n 1) := by decide +kernel
theorem i227_8 : am_ins 227 8 = some (.iaload) := by decide +kernel
theorem i227_9 : am_ins 227 9 = some (.if_icmp .ge 85) := by decide +kernel
theorem i227_12 : am_ins 227 12 = some (.aload_n 0) := by decide +kernel
theorem i227_13 : am_ins 227 13 = some (.getfield 19) := by decide +kernel
theorem i227_16 : am_ins 227 16 = some (.bipush 6) := by decide +kernel
theorem i227_18 : am_ins 227 18 = some (.iload_n 1) := by decide +kernel
theorem i227_19 : am_ins 227 19 = some (.imul) := by decide +kernel
theorem i227_20 : am_ins 227 20 = some (.iload_n 2) := by decide +kernel
theorem i227_21 : am_ins 227 21 = some (.iadd) := by decide +kernel
theorem i227_22 : am_ins 227 22 = some (.iaload) := by decide +kernel
theorem i227_23 : am_ins 227 23 = some (.istore_n 3) := by decide +kernel
theorem i227_24 : am_ins 227 24 = some (.iconst 0) := by decide +kernel
theorem i227_25 : am_ins 227 25 = some (.istore 4) := by decide +kernel
theorem i227_27 : am_ins 227 27 = some (.iconst 0) := by decide +kernel
theorem i227_28 : am_ins 227 28 = some (.istore 5) := by decide +kernel
theorem i227_30 : am_ins 227 30 = some (.iload 5) := by decide +kernel
theorem i227_32 : am_ins 227 32 = some (.aload_n 0) := by decide +kernel
theorem i227_33 : am_ins 227 33 = some (.getfield 16) := by decide +kernel
theorem i227_36 : am_ins 227 36 = some (.iload_n 1) := by decide +kernel
theorem i227_37 : am_ins 227 37 = some (.iaload) := by decide +kernel
theorem i227_38 : am_ins 227 38 = some (.if_icmp .ge 38) := by decide +kernel
theorem i227_41 : am_ins 227 41 = some (.iload 4) := by decide +kernel
theorem i227_43 : am_ins 227 43 = some (.aload_n 0) := by decide +kernel
theorem i227_44 : am_ins 227 44 = some (.getfield 19) := by decide +kernel
theorem i227_47 : am_ins 227 47 = some (.bipush 6) := by decide +kernel
theorem i227_49 : am_ins 227 49 = some (.iload_n 1) := by decide +kernel
theorem i227_50 : am_ins 227 50 = some (.imul) := by decide +kernel
theorem i227_51 : am_ins 227 51 = some (.iload 5) := by decide +kernel
theorem i227_53 : am_ins 227 53 = some (.iadd) := by decide +kernel
theorem i227_54 : am_ins 227 54 = some (.iaload) := by decide +kernel
theorem i227_55 : am_ins 227 55 = some (.iload_n 3) := by decide +kernel
theorem i227_56 : am_ins 227 56 = some (.if_icmp .ne 7) := by decide +kernel
theorem i227_59 : am_ins 227 59 = some (.iconst 1) := by decide +kernel
theorem i227_60 : am_ins 227 60 = some (.goto 4) := by decide +kernel
theorem i227_63 : am_ins 227 63 = some (.iconst 0) := by decide +kernel
theorem i227_64 : am_ins 227 64 = some (.invokestatic 193) := by decide +kernel
theorem i227_67 : am_ins 227 67 = some (.iadd) := by decide +kernel
theorem i227_68 : am_ins 227 68 = some (.istore 4) := by decide +kernel
theorem i227_70 : am_ins 227 70 = some (.iinc 5 1) := by decide +kernel
theorem i227_73 : am_ins 227 73 = some (.goto (-43)) := by decide +kernel
theorem i227_76 : am_ins 227 76 = some (.iload 4) := by decide +kernel
theorem i227_78 : am_ins 227 78 = some (.aload_n 0) := by decide +kernel
theorem i227_79 : am_ins 227 79 = some (.iload_n 3) := by decide +kernel
theorem i227_80 : am_ins 227 80 = some (.invokevirtual 251) := by decide +kernel
theorem i227_83 : am_ins 227 83 = some (.if_icmp .le 5) := by decide +kernel
theorem i227_86 : am_ins 227 86 = some (.iconst 0) := by decide +kernel
theorem i227_87 : am_ins 227 87 = some (.ireturn) := by decide +kernel
theorem i227_88 : am_ins 227 88 = some (.iinc 2 1) := by decide +kernel
theorem i227_91 : am_ins 227 91 = some (.goto (-89)) := by decide +kernel
theorem i227_94 : am_ins 227 94 = some (.iconst 1) := by decide +kernel
theorem i227_95 : am_ins 227 95 = some (.ireturn) := by decide +kernel
theorem i228_0 : am_ins 228 0 = some (.aload_n 0) := by decide +kernel
theorem i228_1 : am_ins 228 1 = some (.iload_n 1) := by decide +kernel
theorem i228_2 : am_ins 228 2 = some (.invokevirtual 241) := by decide +kernel
theorem i228_5 : am_ins 228 5 = some (.ifCond .eq 5) := by decide +kernel
theorem i228_8 : am_ins 228 8 = some (.iconst 0) := by decide +kernel
theorem i228_9 : am_ins 228 9 = some (.ireturn) := by decide +kernel
theorem i228_10 : am_ins 228 10 = some (.aload_n 0) := by decide +kernel
theorem i228_11 : am_ins 228 11 = some (.iload_n 1) := by decide +kernel
theorem i228_12 : am_ins 228 12 = some (.invokevirtual 289) := by decide +kernel
theorem i228_15 : am_ins 228 15 = some (.aload_n 0) := by decide +kernel
theorem i228_16 : am_ins 228 16 = some (.getfield 283) := by decide +kernel
theorem i228_19 : am_ins 228 19 = some (.ireturn) := by decide +kernel
theorem i229_0 : am_ins 229 0 = some (.aload_n 0) := by decide +kernel
theorem i229_1 : am_ins 229 1 = some (.getfield 22) := by decide +kernel
theorem i229_4 : am_ins 229 4 = some (.bipush 94) := by decide +kernel
theorem i229_6 : am_ins 229 6 = some (.iload_n 1) := by decide +kernel
theorem i229_7 : am_ins 229 7 = some (.iadd) := by decide +kernel
theorem i229_8 : am_ins 229 8 = some (.iaload) := by decide +kernel
theorem i229_9 : am_ins 229 9 = some (.istore_n 2) := by decide +kernel
theorem i229_10 : am_ins 229 10 = some (.iload_n 2) := by decide +kernel
theorem i229_11 : am_ins 229 11 = some (.aload_n 0) := by decide +kernel
theorem i229_12 : am_ins 229 12 = some (.getfield 22) := by decide +kernel
theorem i229_15 : am_ins 229 15 = some (.iconst 1) := by decide +kernel
theorem i229_16 : am_ins 229 16 = some (.iaload) := by decide +kernel
theorem i229_17 : am_ins 229 17 = some (.iadd) := by decide +kernel
theorem i229_18 : am_ins 229 18 = some (.istore_n 3) := by decide +kernel
theorem i229_19 : am_ins 229 19 = some (.iconst 0) := by decide +kernel
theorem i229_20 : am_ins 229 20 = some (.istore 4) := by decide +kernel
theorem i229_22 : am_ins 229 22 = some (.iload 4) := by decide +kernel
theorem i229_24 : am_ins 229 24 = some (.iload_n 3) := by decide +kernel
theorem i229_25 : am_ins 229 25 = some (.if_icmp .gt 26) := by decide +kernel
theorem i229_28 : am_ins 229 28 = some (.aload_n 0) := by decide +kernel
theorem i229_29 : am_ins 229 29 = some (.getfield 57) := by decide +kernel
theorem i229_32 : am_ins 229 32 = some (.iload 4) := by decide +kernel
theorem i229_34 : am_ins 229 34 = some (.iload 4) := by decide +kernel
theorem i229_36 : am_ins 229 36 = some (.ifCond .ne 7) := by decide +kernel
theorem i229_39 : am_ins 229 39 = some (.iconst 0) := by decide +kernel
theorem i229_40 : am_ins 229 40 = some (.goto 4) := by decide +kernel
theorem i229_43 : am_ins 229 43 = some (.iconst (-1)) := by decide +kernel
theorem i229_44 : am_ins 229 44 = some (.iastore) := by decide +kernel
theorem i229_45 : am_ins 229 45 = some (.iinc 4 1) := by decide +kernel
theorem i229_48 : am_ins 229 48 = some (.goto (-26)) := by decide +kernel
theorem i229_51 : am_ins 229 51 = some (.iconst 0) := by decide +kernel
theorem i229_52 : am_ins 229 52 = some (.istore 4) := by decide +kernel
theorem i229_54 : am_ins 229 54 = some (.iload 4) := by decide +kernel
theorem i229_56 : am_ins 229 56 = some (.aload_n 0) := by decide +kernel
theorem i229_57 : am_ins 229 57 = some (.getfield 22) := by decide +kernel
theorem i229_60 : am_ins 229 60 = some (.iconst 4) := by decide +kernel
theorem i229_61 : am_ins 229 61 = some (.iaload) := by decide +kernel
theorem i229_62 : am_ins 229 62 = some (.if_icmp .ge 142) := by decide +kernel
theorem i229_65 : am_ins 229 65 = some (.aload_n 0) := by decide +kernel
theorem i229_66 : am_ins 229 66 = some (.iload 4) := by decide +kernel
theorem i229_68 : am_ins 229 68 = some (.iconst 0) := by decide +kernel
theorem i229_69 : am_ins 229 69 = some (.invokevirtual 226) := by decide +kernel
theorem i229_72 : am_ins 229 72 = some (.aload_n 0) := by decide +kernel
theorem i229_73 : am_ins 229 73 = some (.getfield 22) := by decide +kernel
theorem i229_76 : am_ins 229 76 = some (.iconst 1) := by decide +kernel
theorem i229_77 : am_ins 229 77 = some (.iaload) := by decide +kernel
theorem i229_78 : am_ins 229 78 = some (.iadd) := by decide +kernel
theorem i229_79 : am_ins 229 79 = some (.istore 5) := by decide +kernel
theorem i229_81 : am_ins 229 81 = some (.iconst 0) := by decide +kernel
theorem i229_82 : am_ins 229 82 = some (.istore 6) := by decide +kernel
theorem i229_84 : am_ins 229 84 = some (.iload 6) := by decide +kernel
theorem i229_86 : am_ins 229 86 = some (.aload_n 0) := by decide +kernel
theorem i229_87 : am_ins 229 87 = some (.iload 4) := by decide +kernel
theorem i229_89 : am_ins 229 89 = some (.iconst 4) := by decide +kernel
theorem i229_90 : am_ins 229 90 = some (.invokevirtual 226) := by decide +kernel
theorem i229_93 : am_ins 229 93 = some (.if_icmp .ge 105) := by decide +kernel
theorem i229_96 : am_ins 229 96 = some (.iload_n 3) := by decide +kernel
theorem i229_97 : am_ins 229 97 = some (.istore 7) := by decide +kernel
theorem i229_99 : am_ins 229 99 = some (.iload 7) := by decide +kernel
theorem i229_101 : am_ins 229 101 = some (.iload 5) := by decide +kernel
theorem i229_103 : am_ins 229 103 = some (.if_icmp .lt 89) := by decide +kernel
theorem i229_106 : am_ins 229 106 = some (.aload_n 0) := by decide +kernel
theorem i229_107 : am_ins 229 107 = some (.getfield 57) := by decide +kernel
theorem i229_110 : am_ins 229 110 = some (.iload 7) := by decide +kernel
theorem i229_112 : am_ins 229 112 = some (.iload 5) := by decide +kernel
theorem i229_114 : am_ins 229 114 = some (.isub) := by decide +kernel
theorem i229_115 : am_ins 229 115 = some (.iaload) := by decide +kernel
theorem i229_116 : am_ins 229 116 = some (.iconst (-1)) := by decide +kernel
theorem i229_117 : am_ins 229 117 = some (.if_icmp .ne 7) := by decide +kernel
theorem i229_120 : am_ins 229 120 = some (.iconst (-1)) := by decide +kernel
theorem i229_121 : am_ins 229 121 = some (.goto 15) := by decide +kernel
theorem i229_124 : am_ins 229 124 = some (.aload_n 0) := by decide +kernel
theorem i229_125 : am_ins 229 125 = some (.getfield 57) := by decide +kernel
theorem i229_128 : am_ins 229 128 = some (.iload 7) := by decide +kernel
theorem i229_130 : am_ins 229 130 = some (.iload 5) := by decide +kernel
theorem i229_132 : am_ins 229 132 = some (.isub) := by decide +kernel
theorem i229_133 : am_ins 229 133 = some (.iaload) := by decide +kernel
theorem i229_134 : am_ins 229 134 = some (.iconst 1) := by decide +kernel
theorem i229_135 : am_ins 229 135 = some (.iadd) := by decide +kernel
theorem i229_136 : am_ins 229 136 = some (.istore 8) := by decide +kernel
theorem i229_138 : am_ins 229 138 = some (.aload_n 0) := by decide +kernel
theorem i229_139 : am_ins 229 139 = some (.getfield 57) := by decide +kernel
theorem i229_142 : am_ins 229 142 = some (.iload 7) := by decide +kernel
theorem i229_144 : am_ins 229 144 = some (.iload 8) := by decide +kernel
theorem i229_146 : am_ins 229 146 = some (.iconst (-1)) := by decide +kernel
theorem i229_147 : am_ins 229 147 = some (.if_icmp .eq 31) := by decide +kernel
theorem i229_150 : am_ins 229 150 = some (.aload_n 0) := by decide +kernel
theorem i229_151 : am_ins 229 151 = some (.getfield 57) := by decide +kernel
theorem i229_154 : am_ins 229 154 = some (.iload 7) := by decide +kernel
theorem i229_156 : am_ins 229 156 = some (.iaload) := by decide +kernel
theorem i229_157 : am_ins 229 157 = some (.iconst (-1)) := by decide +kernel
theorem i229_158 : am_ins 229 158 = some (.if_icmp .eq 15) := by decide +kernel
theorem i229_161 : am_ins 229 161 = some (.iload 8) := by decide +kernel
theorem i229_163 : am_ins 229 163 = some (.aload_n 0) := by decide +kernel
theorem i229_164 : am_ins 229 164 = some (.getfield 57) := by decide +kernel
theorem i229_167 : am_ins 229 167 = some (.iload 7) := by decide +kernel
theorem i229_169 : am_ins 229 169 = some (.iaload) := by decide +kernel
theorem i229_170 : am_ins 229 170 = some (.if_icmp .ge 8) := by decide +kernel
theorem i229_173 : am_ins 229 173 = some (.iload 8) := by decide +kernel
theorem i229_175 : am_ins 229 175 = some (.goto 10) := by decide +kernel
theorem i229_178 : am_ins 229 178 = some (.aload_n 0) := by decide +kernel
theorem i229_179 : am_ins 229 179 = some (.getfield 57) := by decide +kernel
theorem i229_182 : am_ins 229 182 = some (.iload 7) := by decide +kernel
theorem i229_184 : am_ins 229 184 = some (.iaload) := by decide +kernel
theorem i229_185 : am_ins 229 185 = some (.iastore) := by decide +kernel
theorem i229_186 : am_ins 229 186 = some (.iinc 7 (-1)) := by decide +kernel
theorem i229_189 : am_ins 229 189 = some (.goto (-90)) := by decide +kernel
theorem i229_192 : am_ins 229 192 = some (.iinc 6 1) := by decide +kernel
theorem i229_195 : am_ins 229 195 = some (.goto (-111)) := by decide +kernel
theorem i229_198 : am_ins 229 198 = some (.iinc 4 1) := by decide +kernel
theorem i229_201 : am_ins 229 201 = some (.goto (-147)) := by decide +kernel
theorem i229_204 : am_ins 229 204 = some (.aload_n 0) := by decide +kernel
theorem i229_205 : am_ins 229 205 = some (.iload_n 2) := by decide +kernel
theorem i229_206 : am_ins 229 206 = some (.putfield 283) := by decide +kernel
theorem i229_209 : am_ins 229 209 = some (.aload_n 0) := by decide +kernel
theorem i229_210 : am_ins 229 210 = some (.iconst 0) := by decide +kernel
theorem i229_211 : am_ins 229 211 = some (.putfield 286) := by decide +kernel
theorem i229_214 : am_ins 229 214 = some (.iconst 1) := by decide +kernel
theorem i229_215 : am_ins 229 215 = some (.istore 4) := by decide +kernel
theorem i229_217 : am_ins 229 217 = some (.iload 4) := by decide +kernel
theorem i229_219 : am_ins 229 219 = some (.iload_n 3) := by decide +kernel
theorem i229_220 : am_ins 229 220 = some (.if_icmp .gt 79) := by decide +kernel
theorem i229_223 : am_ins 229 223 = some (.iconst 0) := by decide +kernel
theorem i229_224 : am_ins 229 224 = some (.iload_n 2) := by decide +kernel
theorem i229_225 : am_ins 229 225 = some (.iload 4) := by decide +kernel
theorem i229_227 : am_ins 229 227 = some (.isub) := by decide +kernel
theorem i229_228 : am_ins 229 228 = some (.invokestatic 254) := by decide +kernel
theorem i229_231 : am_ins 229 231 = some (.istore 5) := by decide +kernel
theorem i229_233 : am_ins 229 233 = some (.aload_n 0) := by decide +kernel
theorem i229_234 : am_ins 229 234 = some (.getfield 57) := by decide +kernel
theorem i229_237 : am_ins 229 237 = some (.iload 4) := by decide +kernel
theorem i229_239 : am_ins 229 239 = some (.iaload) := by decide +kernel
theorem i229_240 : am_ins 229 240 = some (.iconst (-1)) := by decide +kernel
theorem i229_241 : am_ins 229 241 = some (.if_icmp .eq 52) := by decide +kernel
theorem i229_244 : am_ins 229 244 = some (.iload 5) := by decide +kernel
theorem i229_246 : am_ins 229 246 = some (.aload_n 0) := by decide +kernel
theorem i229_247 : am_ins 229 247 = some (.getfield 283) := by decide +kernel
theorem i229_250 : am_ins 229 250 = some (.if_icmp .lt 26) := by decide +kernel
theorem i229_253 : am_ins 229 253 = some (.iload 5) := by decide +kernel
theorem i229_255 : am_ins 229 255 = some (.aload_n 0) := by decide +kernel
theorem i229_256 : am_ins 229 256 = some (.getfield 283) := by decide +kernel
theorem i229_259 : am_ins 229 259 = some (.if_icmp .ne 34) := by decide +kernel
theorem i229_262 : am_ins 229 262 = some (.aload_n 0) := by decide +kernel
theorem i229_263 : am_ins 229 263 = some (.getfield 57) := by decide +kernel
theorem i229_266 : am_ins 229 266 = some (.iload 4) := by decide +kernel
theorem i229_268 : am_ins 229 268 = some (.iaload) := by decide +kernel
theorem i229_269 : am_ins 229 269 = some (.aload_n 0) := by decide +kernel
theorem i229_270 : am_ins 229 270 = some (.getfield 286) := by decide +kernel
theorem i229_273 : am_ins 229 273 = some (.if_icmp .ge 20) := by decide +kernel
theorem i229_276 : am_ins 229 276 = some (.aload_n 0) := by decide +kernel
theorem i229_277 : am_ins 229 277 = some (.iload 5) := by decide +kernel
theorem i229_279 : am_ins 229 279 = some (.putfield 283) := by decide +kernel
theorem i229_282 : am_ins 229 282 = some (.aload_n 0) := by decide +kernel
theorem i229_283 : am_ins 229 283 = some (.aload_n 0) := by decide +kernel
theorem i229_284 : am_ins 229 284 = some (.getfield 57) := by decide +kernel
theorem i229_287 : am_ins 229 287 = some (.iload 4) := by decide +kernel
theorem i229_289 : am_ins 229 289 = some (.iaload) := by decide +kernel
theorem i229_290 : am_ins 229 290 = some (.putfield 286) := by decide +kernel
theorem i229_293 : am_ins 229 293 = some (.iinc 4 1) := by decide +kernel
theorem i229_296 : am_ins 229 296 = some (.goto (-79)) := by decide +kernel
theorem i229_299 : am_ins 229 299 = some (.return_) := by decide +kernel
theorem i230_0 : am_ins 230 0 = some (.aload_n 0) := by decide +kernel
theorem i230_1 : am_ins 230 1 = some (.iload_n 1) := by decide +kernel
theorem i230_2 : am_ins 230 2 = some (.invokevirtual 241) := by decide +kernel
theorem i230_5 : am_ins 230 5 = some (.ifCond .eq 5) := by decide +kernel
theorem i230_8 : am_ins 230 8 = some (.iconst 0) := by decide +kernel
theorem i230_9 : am_ins 230 9 = some (.ireturn) := by decide +kernel
theorem i230_10 : am_ins 230 10 = some (.aload_n 0) := by decide +kernel
theorem i230_11 : am_ins 230 11 = some (.iload_n 1) := by decide +kernel
theorem i230_12 : am_ins 230 12 = some (.invokevirtual 289) := by decide +kernel
theorem i230_15 : am_ins 230 15 = some (.aload_n 0) := by decide +kernel
theorem i230_16 : am_ins 230 16 = some (.getfield 286) := by decide +kernel
theorem i230_19 : am_ins 230 19 = some (.ireturn) := by decide +kernel
theorem i231_0 : am_ins 231 0 = some (.aload_n 0) := by decide +kernel
theorem i231_1 : am_ins 231 1 = some (.iload_n 1) := by decide +kernel
theorem i231_2 : am_ins 231 2 = some (.invokevirtual 326) := by decide +kernel
theorem i231_5 : am_ins 231 5 = some (.ifCond .eq 7) := by decide +kernel
theorem i231_8 : am_ins 231 8 = some (.iconst 0) := by decide +kernel
theorem i231_9 : am_ins 231 9 = some (.goto 8) := by decide +kernel
theorem i231_12 : am_ins 231 12 = some (.aload_n 0) := by decide +kernel
theorem i231_13 : am_ins 231 13 = some (.iload_n 1) := by decide +kernel
theorem i231_14 : am_ins 231 14 = some (.invokevirtual 329) := by decide +kernel
theorem i231_17 : am_ins 231 17 = some (.ireturn) := by decide +kernel
theorem i232_0 : am_ins 232 0 = some (.aload_n 0) := by decide +kernel
theorem i232_1 : am_ins 232 1 = some (.invokevirtual 216) := by decide +kernel
theorem i232_4 : am_ins 232 4 = some (.ifCond .ne 25) := by decide +kernel
theorem i232_7 : am_ins 232 7 = some (.aload_n 0) := by decide +kernel
theorem i232_8 : am_ins 232 8 = some (.iload_n 1) := by decide +kernel
theorem i232_9 : am_ins 232 9 = some (.iconst 0) := by decide +kernel
theorem i232_10 : am_ins 232 10 = some (.iconst 3) := by decide +kernel
theorem i232_11 : am_ins 232 11 = some (.invokestatic 140) := by decide +kernel
theorem i232_14 : am_ins 232 14 = some (.ifCond .ne 7) := by decide +kernel
theorem i232_17 : am_ins 232 17 = some (.iconst 1) := by decide +kernel
theorem i232_18 : am_ins 232 18 = some (.goto 4) := by decide +kernel
theorem i232_21 : am_ins 232 21 = some (.iconst 0) := by decide +kernel
theorem i232_22 : am_ins 232 22 = some (.iconst 2) := by decide +kernel
theorem i232_23 : am_ins 232 23 = some (.invokevirtual 70) := by decide +kernel
theorem i232_26 : am_ins 232 26 = some (.ifCond .eq 7) := by decide +kernel
theorem i232_29 : am_ins 232 29 = some (.iconst 1) := by decide +kernel
theorem i232_30 : am_ins 232 30 = some (.goto 4) := by decide +kernel
theorem i232_33 : am_ins 232 33 = some (.iconst 0) := by decide +kernel
theorem i232_34 : am_ins 232 34 = some (.ireturn) := by decide +kernel
theorem i233_0 : am_ins 233 0 = some (.aload_n 0) := by decide +kernel
theorem i233_1 : am_ins 233 1 = some (.iconst 0) := by decide +kernel
theorem i233_2 : am_ins 233 2 = some (.invokevirtual 314) := by decide +kernel
theorem i233_5 : am_ins 233 5 = some (.aload_n 0) := by decide +kernel
theorem i233_6 : am_ins 233 6 = some (.iload_n 1) := by decide +kernel
theorem i233_7 : am_ins 233 7 = some (.invokevirtual 317) := by decide +kernel
theorem i233_10 : am_ins 233 10 = some (.istore_n 2) := by decide +kernel
theorem i233_11 : am_ins 233 11 = some (.aload_n 0) := by decide +kernel
theorem i233_12 : am_ins 233 12 = some (.iconst 0) := by decide +kernel
theorem i233_13 : am_ins 233 13 = some (.invokevirtual 323) := by decide +kernel
theorem i233_16 : am_ins 233 16 = some (.iload_n 2) := by decide +kernel
theorem i233_17 : am_ins 233 17 = some (.ireturn) := by decide +kernel
theorem i234_0 : am_ins 234 0 = some (.iconst 0) := by decide +kernel
theorem i234_1 : am_ins 234 1 = some (.istore_n 2) := by decide +kernel
theorem i234_2 : am_ins 234 2 = some (.iload_n 2) := by decide +kernel
theorem i234_3 : am_ins 234 3 = some (.sipush 983) := by decide +kernel
theorem i234_6 : am_ins 234 6 = some (.if_icmp .ge 27) := by decide +kernel
theorem i234_9 : am_ins 234 9 = some (.aload_n 0) := by decide +kernel
theorem i234_10 : am_ins 234 10 = some (.getfield 25) := by decide +kernel
theorem i234_13 : am_ins 234 13 = some (.sipush 983) := by decide +kernel
theorem i234_16 : am_ins 234 16 = some (.iload_n 1) := by decide +kernel
theorem i234_17 : am_ins 234 17 = some (.imul) := by decide +kernel
theorem i234_18 : am_ins 234 18 = some (.iload_n 2) := by decide +kernel
theorem i234_19 : am_ins 234 19 = some (.iadd) := by decide +kernel
theorem i234_20 : am_ins 234 20 = some (.aload_n 0) := by decide +kernel
theorem i234_21 : am_ins 234 21 = some (.getfield 22) := by decide +kernel
theorem i234_24 : am_ins 234 24 = some (.iload_n 2) := by decide +kernel
theorem i234_25 : am_ins 234 25 = some (.iaload) := by decide +kernel
theorem i234_26 : am_ins 234 26 = some (.iastore) := by decide +kernel
theorem i234_27 : am_ins 234 27 = some (.iinc 2 1) := by decide +kernel
theorem i234_30 : am_ins 234 30 = some (.goto (-28)) := by decide +kernel
theorem i234_33 : am_ins 234 33 = some (.return_) := by decide +kernel
theorem i235_0 : am_ins 235 0 = some (.aload_n 0) := by decide +kernel
theorem i235_1 : am_ins 235 1 = some (.getfield 22) := by decide +kernel
theorem i235_4 : am_ins 235 4 = some (.bipush 11) := by decide +kernel
theorem i235_6 : am_ins 235 6 = some (.iaload) := by decide +kernel
theorem i235_7 : am_ins 235 7 = some (.istore_n 2) := by decide +kernel
theorem i235_8 : am_ins 235 8 = some (.iload_n 1) := by decide +kernel
theorem i235_9 : am_ins 235 9 = some (.iconst 3) := by decide +kernel
theorem i235_10 : am_ins 235 10 = some (.if_icmp .ne 7) := by decide +kernel
theorem i235_13 : am_ins 235 13 = some (.aload_n 0) := by decide +kernel
theorem i235_14 : am_ins 235 14 = some (.invokevirtual 305) := by decide +kernel
theorem i235_17 : am_ins 235 17 = some (.iload_n 1) := by decide +kernel
theorem i235_18 : am_ins 235 18 = some (.iconst 3) := by decide +kernel
theorem i235_19 : am_ins 235 19 = some (.if_icmp .ne 7) := by decide +kernel
theorem i235_22 : am_ins 235 22 = some (.iconst 1) := by decide +kernel
theorem i235_23 : am_ins 235 23 = some (.goto 4) := by decide +kernel
theorem i235_26 : am_ins 235 26 = some (.iload_n 1) := by decide +kernel
theorem i235_27 : am_ins 235 27 = some (.istore_n 3) := by decide +kernel
theorem i235_28 : am_ins 235 28 = some (.aload_n 0) := by decide +kernel
theorem i235_29 : am_ins 235 29 = some (.iload_n 3) := by decide +kernel
theorem i235_30 : am_ins 235 30 = some (.invokevirtual 308) := by decide +kernel
theorem i235_33 : am_ins 235 33 = some (.istore 4) := by decide +kernel
theorem i235_35 : am_ins 235 35 = some (.iload 4) := by decide +kernel
theorem i235_37 : am_ins 235 37 = some (.ifCond .le 28) := by decide +kernel
theorem i235_40 : am_ins 235 40 = some (.aload_n 0) := by decide +kernel
theorem i235_41 : am_ins 235 41 = some (.aload_n 0) := by decide +kernel
theorem i235_42 : am_ins 235 42 = some (.iload 4) := by decide +kernel
theorem i235_44 : am_ins 235 44 = some (.iload_n 3) := by decide +kernel
theorem i235_45 : am_ins 235 45 = some (.invokevirtual 265) := by decide +kernel
theorem i235_48 : am_ins 235 48 = some (.iload 4) := by decide +kernel
theorem i235_50 : am_ins 235 50 = some (.invokevirtual 299) := by decide +kernel
theorem i235_53 : am_ins 235 53 = some (.istore 5) := by decide +kernel
theorem i235_55 : am_ins 235 55 = some (.aload_n 0) := by decide +kernel
theorem i235_56 : am_ins 235 56 = some (.iload_n 3) := by decide +kernel
theorem i235_57 : am_ins 235 57 = some (.invokevirtual 308) := by decide +kernel
theorem i235_60 : am_ins 235 60 = some (.istore 4) := by decide +kernel
theorem i235_62 : am_ins 235 62 = some (.goto (-27)) := by decide +kernel
theorem i235_65 : am_ins 235 65 = some (.aload_n 0) := by decide +kernel
theorem i235_66 : am_ins 235 66 = some (.getfield 22) := by decide +kernel
theorem i235_69 : am_ins 235 69 = some (.bipush 11) := by decide +kernel
theorem i235_71 : am_ins 235 71 = some (.iaload) := by decide +kernel
theorem i235_72 : am_ins 235 72 = some (.iload_n 2) := by decide +kernel
theorem i235_73 : am_ins 235 73 = some (.isub) := by decide +kernel
theorem i235_74 : am_ins 235 74 = some (.ireturn) := by decide +kernel
theorem i236_0 : am_ins 236 0 = some (.iconst 0) := by decide +kernel
theorem i236_1 : am_ins 236 1 = some (.istore_n 1) := by decide +kernel
theorem i236_2 : am_ins 236 2 = some (.iload_n 1) := by decide +kernel
theorem i236_3 : am_ins 236 3 = some (.aload_n 0) := by decide +kernel
theorem i236_4 : am_ins 236 4 = some (.getfield 206) := by decide +kernel
theorem i236_7 : am_ins 236 7 = some (.if_icmp .ge 44) := by decide +kernel
theorem i236_10 : am_ins 236 10 = some (.aload_n 0) := by decide +kernel
theorem i236_11 : am_ins 236 11 = some (.iload_n 1) := by decide +kernel
theorem i236_12 : am_ins 236 12 = some (.invokevirtual 277) := by decide +kernel
theorem i236_15 : am_ins 236 15 = some (.istore_n 2) := by decide +kernel
theorem i236_16 : am_ins 236 16 = some (.iload_n 2) := by decide +kernel
theorem i236_17 : am_ins 236 17 = some (.iconst (-1)) := by decide +kernel
theorem i236_18 : am_ins 236 18 = some (.if_icmp .eq 27) := by decide +kernel
theorem i236_21 : am_ins 236 21 = some (.aload_n 0) := by decide +kernel
theorem i236_22 : am_ins 236 22 = some (.iload_n 1) := by decide +kernel
theorem i236_23 : am_ins 236 23 = some (.invokevirtual 280) := by decide +kernel
theorem i236_26 : am_ins 236 26 = some (.ifCond .eq 19) := by decide +kernel
theorem i236_29 : am_ins 236 29 = some (.aload_n 0) := by decide +kernel
theorem i236_30 : am_ins 236 30 = some (.iload_n 1) := by decide +kernel
theorem i236_31 : am_ins 236 31 = some (.iload_n 2) := by decide +kernel
theorem i236_32 : am_ins 236 32 = some (.invokevirtual 302) := by decide +kernel
theorem i236_35 : am_ins 236 35 = some (.istore_n 3) := by decide +kernel
theorem i236_36 : am_ins 236 36 = some (.aload_n 0) := by decide +kernel
theorem i236_37 : am_ins 236 37 = some (.iload_n 1) := by decide +kernel
theorem i236_38 : am_ins 236 38 = some (.invokevirtual 277) := by decide +kernel
theorem i236_41 : am_ins 236 41 = some (.istore_n 2) := by decide +kernel
theorem i236_42 : am_ins 236 42 = some (.goto (-26)) := by decide +kernel
theorem i236_45 : am_ins 236 45 = some (.iinc 1 1) := by decide +kernel
theorem i236_48 : am_ins 236 48 = some (.goto (-46)) := by decide +kernel
theorem i236_51 : am_ins 236 51 = some (.return_) := by decide +kernel
theorem i237_0 : am_ins 237 0 = some (.iconst 0) := by decide +kernel
theorem i237_1 : am_ins 237 1 = some (.istore_n 3) := by decide +kernel
theorem i237_2 : am_ins 237 2 = some (.iconst 0) := by decide +kernel
theorem i237_3 : am_ins 237 3 = some (.istore 4) := by decide +kernel
theorem i237_5 : am_ins 237 5 = some (.iload 4) := by decide +kernel
theorem i237_7 : am_ins 237 7 = some (.aload_n 0) := by decide +kernel
theorem i237_8 : am_ins 237 8 = some (.getfield 16) := by decide +kernel
theorem i237_11 : am_ins 237 11 = some (.iload_n 1) := by decide +kernel
theorem i237_12 : am_ins 237 12 = some (.iaload) := by decide +kernel
theorem i237_13 : am_ins 237 13 = some (.if_icmp .ge 41) := by decide +kernel
theorem i237_16 : am_ins 237 16 = some (.iload_n 3) := by decide +kernel
theorem i237_17 : am_ins 237 17 = some (.aload_n 0) := by decide +kernel
theorem i237_18 : am_ins 237 18 = some (.iload_n 2) := by decide +kernel
theorem i237_19 : am_ins 237 19 = some (.aload_n 0) := by decide +kernel
theorem i237_20 : am_ins 237 20 = some (.getfield 19) := by decide +kernel
theorem i237_23 : am_ins 237 23 = some (.bipush 6) := by decide +kernel
theorem i237_25 : am_ins 237 25 = some (.iload_n 1) := by decide +kernel
theorem i237_26 : am_ins 237 26 = some (.imul) := by decide +kernel
theorem i237_27 : am_ins 237 27 = some (.iload 4) := by decide +kernel
theorem i237_29 : am_ins 237 29 = some (.iadd) := by decide +kernel
theorem i237_30 : am_ins 237 30 = some (.iaload) := by decide +kernel
theorem i237_31 : am_ins 237 31 = some (.invokevirtual 299) := by decide +kernel
theorem i237_34 : am_ins 237 34 = some (.iconst (-1)) := by decide +kernel
theorem i237_35 : am_ins 237 35 = some (.if_icmp .ne 7) := by decide +kernel
theorem i237_38 : am_ins 237 38 = some (.iconst 1) := by decide +kernel
theorem i237_39 : am_ins 237 39 = some (.goto 4) := by decide +kernel
theorem i237_42 : am_ins 237 42 = some (.iconst 0) := by decide +kernel
theorem i237_43 : am_ins 237 43 = some (.invokestatic 193) := by decide +kernel
theorem i237_46 : am_ins 237 46 = some (.iadd) := by decide +kernel
theorem i237_47 : am_ins 237 47 = some (.istore_n 3) := by decide +kernel
theorem i237_48 : am_ins 237 48 = some (.iinc 4 1) := by decide +kernel
theorem i237_51 : am_ins 237 51 = some (.goto (-46)) := by decide +kernel
theorem i237_54 : am_ins 237 54 = some (.iload_n 3) := by decide +kernel
theorem i237_55 : am_ins 237 55 = some (.ireturn) := by decide +kernel
theorem i238_0 : am_ins 238 0 = some (.aload_n 0) := by decide +kernel
theorem i238_1 : am_ins 238 1 = some (.aload_n 0) := by decide +kernel
theorem i238_2 : am_ins 238 2 = some (.getfield 22) := by decide +kernel
theorem i238_5 : am_ins 238 5 = some (.bipush 94) := by decide +kernel
theorem i238_7 : am_ins 238 7 = some (.iload_n 1) := by decide +kernel
theorem i238_8 : am_ins 238 8 = some (.iadd) := by decide +kernel
theorem i238_9 : am_ins 238 9 = some (.iaload) := by decide +kernel
theorem i238_10 : am_ins 238 10 = some (.iload_n 2) := by decide +kernel
theorem i238_11 : am_ins 238 11 = some (.invokevirtual 262) := by decide +kernel
theorem i238_14 : am_ins 238 14 = some (.istore_n 3) := by decide +kernel
theorem i238_15 : am_ins 238 15 = some (.aload_n 0) := by decide +kernel
theorem i238_16 : am_ins 238 16 = some (.iload_n 1) := by decide +kernel
theorem i238_17 : am_ins 238 17 = some (.aload_n 0) := by decide +kernel
theorem i238_18 : am_ins 238 18 = some (.getfield 22) := by decide +kernel
theorem i238_21 : am_ins 238 21 = some (.bipush 94) := by decide +kernel
theorem i238_23 : am_ins 238 23 = some (.iload_n 1) := by decide +kernel
theorem i238_24 : am_ins 238 24 = some (.iadd) := by decide +kernel
theorem i238_25 : am_ins 238 25 = some (.iaload) := by decide +kernel
theorem i238_26 : am_ins 238 26 = some (.iload_n 2) := by decide +kernel
theorem i238_27 : am_ins 238 27 = some (.isub) := by decide +kernel
theorem i238_28 : am_ins 238 28 = some (.iload_n 3) := by decide +kernel
theorem i238_29 : am_ins 238 29 = some (.isub) := by decide +kernel
theorem i238_30 : am_ins 238 30 = some (.iconst 1) := by decide +kernel
theorem i238_31 : am_ins 238 31 = some (.invokevirtual 292) := by decide +kernel
theorem i238_34 : am_ins 238 34 = some (.aload_n 0) := by decide +kernel
theorem i238_35 : am_ins 238 35 = some (.getfield 22) := by decide +kernel
theorem i238_38 : am_ins 238 38 = some (.bipush 94) := by decide +kernel
theorem i238_40 : am_ins 238 40 = some (.iload_n 1) := by decide +kernel
theorem i238_41 : am_ins 238 41 = some (.iadd) := by decide +kernel
theorem i238_42 : am_ins 238 42 = some (.iload_n 3) := by decide +kernel
theorem i238_43 : am_ins 238 43 = some (.iastore) := by decide +kernel
theorem i238_44 : am_ins 238 44 = some (.aload_n 0) := by decide +kernel
theorem i238_45 : am_ins 238 45 = some (.getfield 22) := by decide +kernel
theorem i238_48 : am_ins 238 48 = some (.sipush 174) := by decide +kernel
theorem i238_51 : am_ins 238 51 = some (.iload_n 1) := by decide +kernel
theorem i238_52 : am_ins 238 52 = some (.iadd) := by decide +kernel
theorem i238_53 : am_ins 238 53 = some (.iload_n 3) := by decide +kernel
theorem i238_54 : am_ins 238 54 = some (.ifCond .ne 7) := by decide +kernel
theorem i238_57 : am_ins 238 57 = some (.iconst 1) := by decide +kernel
theorem i238_58 : am_ins 238 58 = some (.goto 4) := by decide +kernel
theorem i238_61 : am_ins 238 61 = some (.iconst 0) := by decide +kernel
theorem i238_62 : am_ins 238 62 = some (.iastore) := by decide +kernel
theorem i238_63 : am_ins 238 63 = some (.aload_n 0) := by decide +kernel
theorem i238_64 : am_ins 238 64 = some (.getfield 22) := by decide +kernel
theorem i238_67 : am_ins 238 67 = some (.sipush 254) := by decide +kernel
theorem i238_70 : am_ins 238 70 = some (.iload_n 1) := by decide +kernel
theorem i238_71 : am_ins 238 71 = some (.iadd) := by decide +kernel
theorem i238_72 : am_ins 238 72 = some (.dup2) := by decide +kernel
theorem i238_73 : am_ins 238 73 = some (.iaload) := by decide +kernel
theorem i238_74 : am_ins 238 74 = some (.iconst 1) := by decide +kernel
theorem i238_75 : am_ins 238 75 = some (.iadd) := by decide +kernel
theorem i238_76 : am_ins 238 76 = some (.iastore) := by decide +kernel
theorem i238_77 : am_ins 238 77 = some (.aload_n 0) := by decide +kernel
theorem i238_78 : am_ins 238 78 = some (.getfield 22) := by decide +kernel
theorem i238_81 : am_ins 238 81 = some (.sipush 334) := by decide +kernel
theorem i238_84 : am_ins 238 84 = some (.iload_n 1) := by decide +kernel
theorem i238_85 : am_ins 238 85 = some (.iadd) := by decide +kernel
theorem i238_86 : am_ins 238 86 = some (.iconst 1) := by decide +kernel
theorem i238_87 : am_ins 238 87 = some (.iastore) := by decide +kernel
theorem i238_88 : am_ins 238 88 = some (.aload_n 0) := by decide +kernel
theorem i238_89 : am_ins 238 89 = some (.getfield 22) := by decide +kernel
theorem i238_92 : am_ins 238 92 = some (.bipush 11) := by decide +kernel
theorem i238_94 : am_ins 238 94 = some (.dup2) := by decide +kernel
theorem i238_95 : am_ins 238 95 = some (.iaload) := by decide +kernel
theorem i238_96 : am_ins 238 96 = some (.iconst 1) := by decide +kernel
theorem i238_97 : am_ins 238 97 = some (.iadd) := by decide +kernel
theorem i238_98 : am_ins 238 98 = some (.iastore) := by decide +kernel
theorem i238_99 : am_ins 238 99 = some (.aload_n 0) := by decide +kernel
theorem i238_100 : am_ins 238 100 = some (.getfield 22) := by decide +kernel
theorem i238_103 : am_ins 238 103 = some (.bipush 13) := by decide +kernel
theorem i238_105 : am_ins 238 105 = some (.dup2) := by decide +kernel
theorem i238_106 : am_ins 238 106 = some (.iaload) := by decide +kernel
theorem i238_107 : am_ins 238 107 = some (.iload_n 2) := by decide +kernel
theorem i238_108 : am_ins 238 108 = some (.iadd) := by decide +kernel
theorem i238_109 : am_ins 238 109 = some (.iastore) := by decide +kernel
theorem i238_110 : am_ins 238 110 = some (.aload_n 0) := by decide +kernel
theorem i238_111 : am_ins 238 111 = some (.iload_n 2) := by decide +kernel
theorem i238_112 : am_ins 238 112 = some (.invokevirtual 268) := by decide +kernel
theorem i238_115 : am_ins 238 115 = some (.istore 4) := by decide +kernel
theorem i238_117 : am_ins 238 117 = some (.iload 4) := by decide +kernel
theorem i238_119 : am_ins 238 119 = some (.iconst (-1)) := by decide +kernel
theorem i238_120 : am_ins 238 120 = some (.if_icmp .ne 20) := by decide +kernel
theorem i238_123 : am_ins 238 123 = some (.aload_n 0) := by decide +kernel
theorem i238_124 : am_ins 238 124 = some (.getfield 22) := by decide +kernel
theorem i238_127 : am_ins 238 127 = some (.sipush 542) := by decide +kernel
theorem i238_130 : am_ins 238 130 = some (.iload_n 2) := by decide +kernel
theorem i238_131 : am_ins 238 131 = some (.iadd) := by decide +kernel
theorem i238_132 : am_ins 238 132 = some (.dup2) := by decide +kernel
theorem i238_133 : am_ins 238 133 = some (.iaload) := by decide +kernel
theorem i238_134 : am_ins 238 134 = some (.iconst 1) := by decide +kernel
theorem i238_135 : am_ins 238 135 = some (.iadd) := by decide +kernel
theorem i238_136 : am_ins 238 136 = some (.iastore) := by decide +kernel
theorem i238_137 : am_ins 238 137 = some (.goto 9) := by decide +kernel
theorem i238_140 : am_ins 238 140 = some (.aload_n 0) := by decide +kernel
theorem i238_141 : am_ins 238 141 = some (.iload 4) := by decide +kernel
theorem i238_143 : am_ins 238 143 = some (.invokevirtual 296) := by decide +kernel
theorem i238_146 : am_ins 238 146 = some (.aload_n 0) := by decide +kernel
theorem i238_147 : am_ins 238 147 = some (.getfield 22) := by decide +kernel
theorem i238_150 : am_ins 238 150 = some (.iconst 5) := by decide +kernel
theorem i238_151 : am_ins 238 151 = some (.iaload) := by decide +kernel
theorem i238_152 : am_ins 238 152 = some (.bipush 60) := by decide +kernel
theorem i238_154 : am_ins 238 154 = some (.if_icmp .ge 71) := by decide +kernel
theorem i238_157 : am_ins 238 157 = some (.sipush 743) := by decide +kernel
theorem i238_160 : am_ins 238 160 = some (.iconst 4) := by decide +kernel
theorem i238_161 : am_ins 238 161 = some (.aload_n 0) := by decide +kernel
theorem i238_162 : am_ins 238 162 = some (.getfield 22) := by decide +kernel
theorem i238_165 : am_ins 238 165 = some (.iconst 5) := by decide +kernel
theorem i238_166 : am_ins 238 166 = some (.iaload) := by decide +kernel
theorem i238_167 : am_ins 238 167 = some (.imul) := by decide +kernel
theorem i238_168 : am_ins 238 168 = some (.iadd) := by decide +kernel
theorem i238_169 : am_ins 238 169 = some (.istore 5) := by decide +kernel
theorem i238_171 : am_ins 238 171 = some (.aload_n 0) := by decide +kernel
theorem i238_172 : am_ins 238 172 = some (.getfield 22) := by decide +kernel
theorem i238_175 : am_ins 238 175 = some (.iload 5) := by decide +kernel
theorem i238_177 : am_ins 238 177 = some (.aload_n 0) := by decide +kernel
theorem i238_178 : am_ins 238 178 = some (.getfield 22) := by decide +kernel
theorem i238_181 : am_ins 238 181 = some (.iconst 0) := by decide +kernel
theorem i238_182 : am_ins 238 182 = some (.iaload) := by decide +kernel
theorem i238_183 : am_ins 238 183 = some (.iastore) := by decide +kernel
theorem i238_184 : am_ins 238 184 = some (.aload_n 0) := by decide +kernel
theorem i238_185 : am_ins 238 185 = some (.getfield 22) := by decide +kernel
theorem i238_188 : am_ins 238 188 = some (.iload 5) := by decide +kernel
theorem i238_190 : am_ins 238 190 = some (.iconst 1) := by decide +kernel
theorem i238_191 : am_ins 238 191 = some (.iadd) := by decide +kernel
theorem i238_192 : am_ins 238 192 = some (.iload_n 1) := by decide +kernel
theorem i238_193 : am_ins 238 193 = some (.iastore) := by decide +kernel
theorem i238_194 : am_ins 238 194 = some (.aload_n 0) := by decide +kernel
theorem i238_195 : am_ins 238 195 = some (.getfield 22) := by decide +kernel
theorem i238_198 : am_ins 238 198 = some (.iload 5) := by decide +kernel
theorem i238_200 : am_ins 238 200 = some (.iconst 2) := by decide +kernel
theorem i238_201 : am_ins 238 201 = some (.iadd) := by decide +kernel
theorem i238_202 : am_ins 238 202 = some (.iload_n 2) := by decide +kernel
theorem i238_203 : am_ins 238 203 = some (.iastore) := by decide +kernel
theorem i238_204 : am_ins 238 204 = some (.aload_n 0) := by decide +kernel
theorem i238_205 : am_ins 238 205 = some (.getfield 22) := by decide +kernel
theorem i238_208 : am_ins 238 208 = some (.iload 5) := by decide +kernel
theorem i238_210 : am_ins 238 210 = some (.iconst 3) := by decide +kernel
theorem i238_211 : am_ins 238 211 = some (.iadd) := by decide +kernel
theorem i238_212 : am_ins 238 212 = some (.iload 4) := by decide +kernel
theorem i238_214 : am_ins 238 214 = some (.iastore) := by decide +kernel
theorem i238_215 : am_ins 238 215 = some (.aload_n 0) := by decide +kernel
theorem i238_216 : am_ins 238 216 = some (.getfield 22) := by decide +kernel
theorem i238_219 : am_ins 238 219 = some (.iconst 5) := by decide +kernel
theorem i238_220 : am_ins 238 220 = some (.dup2) := by decide +kernel
theorem i238_221 : am_ins 238 221 = some (.iaload) := by decide +kernel
theorem i238_222 : am_ins 238 222 = some (.iconst 1) := by decide +kernel
theorem i238_223 : am_ins 238 223 = some (.iadd) := by decide +kernel
theorem i238_224 : am_ins 238 224 = some (.iastore) := by decide +kernel
theorem i238_225 : am_ins 238 225 = some (.iload 4) := by decide +kernel
theorem i238_227 : am_ins 238 227 = some (.ireturn) := by decide +kernel
theorem i239_0 : am_ins 239 0 = some (.aload_n 0) := by decide +kernel
theorem i239_1 : am_ins 239 1 = some (.getfield 22) := by decide +kernel
theorem i239_4 : am_ins 239 4 = some (.bipush 6) := by decide +kernel
theorem i239_6 : am_ins 239 6 = some (.iload_n 3) := by decide +kernel
theorem i239_7 : am_ins 239 7 = some (.iadd) := by decide +kernel
theorem i239_8 : am_ins 239 8 = some (.dup2) := by decide +kernel
theorem i239_9 : am_ins 239 9 = some (.iaload) := by decide +kernel
theorem i239_10 : am_ins 239 10 = some (.iload_n 2) := by decide +kernel
theorem i239_11 : am_ins 239 11 = some (.iadd) := by decide +kernel
theorem i239_12 : am_ins 239 12 = some (.iastore) := by decide +kernel
theorem i239_13 : am_ins 239 13 = some (.aload_n 0) := by decide +kernel
theorem i239_14 : am_ins 239 14 = some (.getfield 22) := by decide +kernel
theorem i239_17 : am_ins 239 17 = some (.bipush 9) := by decide +kernel
theorem i239_19 : am_ins 239 19 = some (.dup2) := by decide +kernel
theorem i239_20 : am_ins 239 20 = some (.iaload) := by decide +kernel
theorem i239_21 : am_ins 239 21 = some (.iload_n 2) := by decide +kernel
theorem i239_22 : am_ins 239 22 = some (.aload_n 0) := by decide +kernel
theorem i239_23 : am_ins 239 23 = some (.getfield 13) := by decide +kernel
theorem i239_26 : am_ins 239 26 = some (.aload_n 0) := by decide +kernel
theorem i239_27 : am_ins 239 27 = some (.getfield 22) := by decide +kernel
theorem i239_30 : am_ins 239 30 = some (.bipush 14) := by decide +kernel
theorem i239_32 : am_ins 239 32 = some (.iload_n 1) := by decide +kernel
theorem i239_33 : am_ins 239 33 = some (.iadd) := by decide +kernel
theorem i239_34 : am_ins 239 34 = some (.iaload) := by decide +kernel
theorem i239_35 : am_ins 239 35 = some (.iaload) := by decide +kernel
theorem i239_36 : am_ins 239 36 = some (.imul) := by decide +kernel
theorem i239_37 : am_ins 239 37 = some (.iadd) := by decide +kernel
theorem i239_38 : am_ins 239 38 = some (.iastore) := by decide +kernel
theorem i239_39 : am_ins 239 39 = some (.return_) := by decide +kernel
theorem i240_0 : am_ins 240 0 = some (.aload_n 0) := by decide +kernel
theorem i240_1 : am_ins 240 1 = some (.getfield 22) := by decide +kernel
theorem i240_4 : am_ins 240 4 = some (.iconst 0) := by decide +kernel
theorem i240_5 : am_ins 240 5 = some (.iaload) := by decide +kernel
theorem i240_6 : am_ins 240 6 = some (.aload_n 0) := by decide +kernel
theorem i240_7 : am_ins 240 7 = some (.iload_n 1) := by decide +kernel
theorem i240_8 : am_ins 240 8 = some (.iconst 3) := by decide +kernel
theorem i240_9 : am_ins 240 9 = some (.invokevirtual 226) := by decide +kernel
theorem i240_12 : am_ins 240 12 = some (.if_icmp .le 7) := by decide +kernel
theorem i240_15 : am_ins 240 15 = some (.iconst 1) := by decide +kernel
theorem i240_16 : am_ins 240 16 = some (.goto 4) := by decide +kernel
theorem i240_19 : am_ins 240 19 = some (.iconst 0) := by decide +kernel
theorem i240_20 : am_ins 240 20 = some (.istore_n 2) := by decide +kernel
theorem i240_21 : am_ins 240 21 = some (.aload_n 0) := by decide +kernel
theorem i240_22 : am_ins 240 22 = some (.getfield 22) := by decide +kernel
theorem i240_25 : am_ins 240 25 = some (.sipush 414) := by decide +kernel
theorem i240_28 : am_ins 240 28 = some (.bipush 8) := by decide +kernel
theorem i240_30 : am_ins 240 30 = some (.iload_n 1) := by decide +kernel
theorem i240_31 : am_ins 240 31 = some (.imul) := by decide +kernel
theorem i240_32 : am_ins 240 32 = some (.iadd) := by decide +kernel
theorem i240_33 : am_ins 240 33 = some (.iconst 4) := by decide +kernel
theorem i240_34 : am_ins 240 34 = some (.iadd) := by decide +kernel
theorem i240_35 : am_ins 240 35 = some (.dup2) := by decide +kernel
theorem i240_36 : am_ins 240 36 = some (.iaload) := by decide +kernel
theorem i240_37 : am_ins 240 37 = some (.iconst 1) := by decide +kernel
theorem i240_38 : am_ins 240 38 = some (.isub) := by decide +kernel
theorem i240_39 : am_ins 240 39 = some (.iastore) := by decide +kernel
theorem i240_40 : am_ins 240 40 = some (.aload_n 0) := by decide +kernel
theorem i240_41 : am_ins 240 41 = some (.getfield 22) := by decide +kernel
theorem i240_44 : am_ins 240 44 = some (.sipush 414) := by decide +kernel
theorem i240_47 : am_ins 240 47 = some (.bipush 8) := by decide +kernel
theorem i240_49 : am_ins 240 49 = some (.iload_n 1) := by decide +kernel
theorem i240_50 : am_ins 240 50 = some (.imul) := by decide +kernel
theorem i240_51 : am_ins 240 51 = some (.iadd) := by decide +kernel
theorem i240_52 : am_ins 240 52 = some (.iload_n 2) := by decide +kernel
theorem i240_53 : am_ins 240 53 = some (.ifCond .eq 8) := by decide +kernel
theorem i240_56 : am_ins 240 56 = some (.bipush 6) := by decide +kernel
theorem i240_58 : am_ins 240 58 = some (.goto 4) := by decide +kernel
theorem i240_61 : am_ins 240 61 = some (.iconst 5) := by decide +kernel
theorem i240_62 : am_ins 240 62 = some (.iadd) := by decide +kernel
theorem i240_63 : am_ins 240 63 = some (.dup2) := by decide +kernel
theorem i240_64 : am_ins 240 64 = some (.iaload) := by decide +kernel
theorem i240_65 : am_ins 240 65 = some (.iconst 1) := by decide +kernel
theorem i240_66 : am_ins 240 66 = some (.iadd) := by decide +kernel
theorem i240_67 : am_ins 240 67 = some (.iastore) := by decide +kernel
theorem i240_68 : am_ins 240 68 = some (.aload_n 0) := by decide +kernel
theorem i240_69 : am_ins 240 69 = some (.getfield 22) := by decide +kernel
theorem i240_72 : am_ins 240 72 = some (.bipush 10) := by decide +kernel
theorem i240_74 : am_ins 240 74 = some (.dup2) := by decide +kernel
theorem i240_75 : am_ins 240 75 = some (.iaload) := by decide +kernel
theorem i240_76 : am_ins 240 76 = some (.iload_n 2) := by decide +kernel
theorem i240_77 : am_ins 240 77 = some (.ifCond .eq 14) := by decide +kernel
theorem i240_80 : am_ins 240 80 = some (.aload_n 0) := by decide +kernel
theorem i240_81 : am_ins 240 81 = some (.iload_n 1) := by decide +kernel
theorem i240_82 : am_ins 240 82 = some (.iconst 2) := by decide +kernel
theorem i240_83 : am_ins 240 83 = some (.invokevirtual 226) := by decide +kernel
theorem i240_86 : am_ins 240 86 = some (.iconst 2) := by decide +kernel
theorem i240_87 : am_ins 240 87 = some (.idiv) := by decide +kernel
theorem i240_88 : am_ins 240 88 = some (.goto 9) := by decide +kernel
theorem i240_91 : am_ins 240 91 = some (.aload_n 0) := by decide +kernel
theorem i240_92 : am_ins 240 92 = some (.iload_n 1) := by decide +kernel
theorem i240_93 : am_ins 240 93 = some (.iconst 2) := by decide +kernel
theorem i240_94 : am_ins 240 94 = some (.invokevirtual 226) := by decide +kernel
theorem i240_97 : am_ins 240 97 = some (.iadd) := by decide +kernel
theorem i240_98 : am_ins 240 98 = some (.iastore) := by decide +kernel
theorem i240_99 : am_ins 240 99 = some (.aload_n 0) := by decide +kernel
theorem i240_100 : am_ins 240 100 = some (.getfield 22) := by decide +kernel
theorem i240_103 : am_ins 240 103 = some (.bipush 12) := by decide +kernel
theorem i240_105 : am_ins 240 105 = some (.dup2) := by decide +kernel
theorem i240_106 : am_ins 240 106 = some (.iaload) := by decide +kernel
theorem i240_107 : am_ins 240 107 = some (.iload_n 2) := by decide +kernel
theorem i240_108 : am_ins 240 108 = some (.invokestatic 193) := by decide +kernel
theorem i240_111 : am_ins 240 111 = some (.iadd) := by decide +kernel
theorem i240_112 : am_ins 240 112 = some (.iastore) := by decide +kernel
theorem i240_113 : am_ins 240 113 = some (.return_) := by decide +kernel
theorem i241_0 : am_ins 241 0 = some (.iconst (-1)) := by decide +kernel
theorem i241_1 : am_ins 241 1 = some (.istore_n 2) := by decide +kernel
theorem i241_2 : am_ins 241 2 = some (.iconst 0) := by decide +kernel
theorem i241_3 : am_ins 241 3 = some (.istore_n 3) := by decide +kernel
theorem i241_4 : am_ins 241 4 = some (.iload_n 3) := by decide +kernel
theorem i241_5 : am_ins 241 5 = some (.aload_n 0) := by decide +kernel
theorem i241_6 : am_ins 241 6 = some (.getfield 22) := by decide +kernel
theorem i241_9 : am_ins 241 9 = some (.iconst 4) := by decide +kernel
theorem i241_10 : am_ins 241 10 = some (.iaload) := by decide +kernel
theorem i241_11 : am_ins 241 11 = some (.if_icmp .ge 95) := by decide +kernel
theorem i241_14 : am_ins 241 14 = some (.aload_n 0) := by decide +kernel
theorem i241_15 : am_ins 241 15 = some (.iload_n 3) := by decide +kernel
theorem i241_16 : am_ins 241 16 = some (.invokevirtual 232) := by decide +kernel
theorem i241_19 : am_ins 241 19 = some (.ifCond .eq 81) := by decide +kernel
theorem i241_22 : am_ins 241 22 = some (.aload_n 0) := by decide +kernel
theorem i241_23 : am_ins 241 23 = some (.aload_n 0) := by decide +kernel
theorem i241_24 : am_ins 241 24 = some (.iload_n 3) := by decide +kernel
theorem i241_25 : am_ins 241 25 = some (.iconst 0) := by decide +kernel
theorem i241_26 : am_ins 241 26 = some (.invokevirtual 226) := by decide +kernel
theorem i241_29 : am_ins 241 29 = some (.iconst 0) := by decide +kernel
theorem i241_30 : am_ins 241 30 = some (.invokevirtual 265) := by decide +kernel
theorem i241_33 : am_ins 241 33 = some (.iconst (-1)) := by decide +kernel
theorem i241_34 : am_ins 241 34 = some (.if_icmp .ne 6) := by decide +kernel
theorem i241_37 : am_ins 241 37 = some (.goto 63) := by decide +kernel
theorem i241_40 : am_ins 241 40 = some (.iload_n 2) := by decide +kernel
theorem i241_41 : am_ins 241 41 = some (.iconst (-1)) := by decide +kernel
theorem i241_42 : am_ins 241 42 = some (.if_icmp .eq 40) := by decide +kernel
theorem i241_45 : am_ins 241 45 = some (.iload_n 1) := by decide +kernel
theorem i241_46 : am_ins 241 46 = some (.ifCond .ne 21) := by decide +kernel
theorem i241_49 : am_ins 241 49 = some (.aload_n 0) := by decide +kernel
theorem i241_50 : am_ins 241 50 = some (.iload_n 3) := by decide +kernel
theorem i241_51 : am_ins 241 51 = some (.iconst 3) := by decide +kernel
theorem i241_52 : am_ins 241 52 = some (.invokevirtual 226) := by decide +kernel
theorem i241_55 : am_ins 241 55 = some (.aload_n 0) := by decide +kernel
theorem i241_56 : am_ins 241 56 = some (.iload_n 2) := by decide +kernel
theorem i241_57 : am_ins 241 57 = some (.iconst 3) := by decide +kernel
theorem i241_58 : am_ins 241 58 = some (.invokevirtual 226) := by decide +kernel
theorem i241_61 : am_ins 241 61 = some (.if_icmp .ge 25) := by decide +kernel
theorem i241_64 : am_ins 241 64 = some (.goto 18) := by decide +kernel
theorem i241_67 : am_ins 241 67 = some (.aload_n 0) := by decide +kernel
theorem i241_68 : am_ins 241 68 = some (.iload_n 3) := by decide +kernel
theorem i241_69 : am_ins 241 69 = some (.iconst 0) := by decide +kernel
theorem i241_70 : am_ins 241 70 = some (.invokevirtual 226) := by decide +kernel
theorem i241_73 : am_ins 241 73 = some (.aload_n 0) := by decide +kernel
theorem i241_74 : am_ins 241 74 = some (.iload_n 2) := by decide +kernel
theorem i241_75 : am_ins 241 75 = some (.iconst 0) := by decide +kernel
theorem i241_76 : am_ins 241 76 = some (.invokevirtual 226) := by decide +kernel
theorem i241_79 : am_ins 241 79 = some (.if_icmp .le 7) := by decide +kernel
theorem i241_82 : am_ins 241 82 = some (.iconst 1) := by decide +kernel
theorem i241_83 : am_ins 241 83 = some (.goto 4) := by decide +kernel
theorem i241_86 : am_ins 241 86 = some (.iconst 0) := by decide +kernel
theorem i241_87 : am_ins 241 87 = some (.istore 4) := by decide +kernel
theorem i241_89 : am_ins 241 89 = some (.iload 4) := by decide +kernel
theorem i241_91 : am_ins 241 91 = some (.ifCond .eq 7) := by decide +kernel
theorem i241_94 : am_ins 241 94 = some (.iload_n 3) := by decide +kernel
theorem i241_95 : am_ins 241 95 = some (.goto 4) := by decide +kernel
theorem i241_98 : am_ins 241 98 = some (.iload_n 2) := by decide +kernel
theorem i241_99 : am_ins 241 99 = some (.istore_n 2) := by decide +kernel
theorem i241_100 : am_ins 241 100 = some (.iinc 3 1) := by decide +kernel
theorem i241_103 : am_ins 241 103 = some (.goto (-99)) := by decide +kernel
theorem i241_106 : am_ins 241 106 = some (.iload_n 2) := by decide +kernel
theorem i241_107 : am_ins 241 107 = some (.iconst (-1)) := by decide +kernel
theorem i241_108 : am_ins 241 108 = some (.if_icmp .ne 7) := by decide +kernel
theorem i241_111 : am_ins 241 111 = some (.iconst 0) := by decide +kernel
theorem i241_112 : am_ins 241 112 = some (.goto 9) := by decide +kernel
theorem i241_115 : am_ins 241 115 = some (.aload_n 0) := by decide +kernel
theorem i241_116 : am_ins 241 116 = some (.iload_n 2) := by decide +kernel
theorem i241_117 : am_ins 241 117 = some (.iconst 0) := by decide +kernel
theorem i241_118 : am_ins 241 118 = some (.invokevirtual 226) := by decide +kernel
theorem i241_121 : am_ins 241 121 = some (.ireturn) := by decide +kernel
theorem i242_0 : am_ins 242 0 = some (.iconst 0) := by decide +kernel
theorem i242_1 : am_ins 242 1 = some (.istore_n 2) := by decide +kernel
theorem i242_2 : am_ins 242 2 = some (.iload_n 2) := by decide +kernel
theorem i242_3 : am_ins 242 3 = some (.sipush 983) := by decide +kernel
theorem i242_6 : am_ins 242 6 = some (.if_icmp .ge 27) := by decide +kernel
theorem i242_9 : am_ins 242 9 = some (.aload_n 0) := by decide +kernel
theorem i242_10 : am_ins 242 10 = some (.getfield 22) := by decide +kernel
theorem i242_13 : am_ins 242 13 = some (.iload_n 2) := by decide +kernel
theorem i242_14 : am_ins 242 14 = some (.aload_n 0) := by decide +kernel
theorem i242_15 : am_ins 242 15 = some (.getfield 25) := by decide +kernel
theorem i242_18 : am_ins 242 18 = some (.sipush 983) := by decide +kernel
theorem i242_21 : am_ins 242 21 = some (.iload_n 1) := by decide +kernel
theorem i242_22 : am_ins 242 22 = some (.imul) := by decide +kernel
theorem i242_23 : am_ins 242 23 = some (.iload_n 2) := by decide +kernel
theorem i242_24 : am_ins 242 24 = some (.iadd) := by decide +kernel
theorem i242_25 : am_ins 242 25 = some (.iaload) := by decide +kernel
theorem i242_26 : am_ins 242 26 = some (.iastore) := by decide +kernel
theorem i242_27 : am_ins 242 27 = some (.iinc 2 1) := by decide +kernel
theorem i242_30 : am_ins 242 30 = some (.goto (-28)) := by decide +kernel
theorem i242_33 : am_ins 242 33 = some (.return_) := by decide +kernel
theorem i243_0 : am_ins 243 0 = some (.aload_n 0) := by decide +kernel
theorem i243_1 : am_ins 243 1 = some (.iload_n 1) := by decide +kernel
theorem i243_2 : am_ins 243 2 = some (.invokevirtual 326) := by decide +kernel
theorem i243_5 : am_ins 243 5 = some (.ifCond .eq 7) := by decide +kernel
theorem i243_8 : am_ins 243 8 = some (.iconst 0) := by decide +kernel
theorem i243_9 : am_ins 243 9 = some (.goto 8) := by decide +kernel
theorem i243_12 : am_ins 243 12 = some (.aload_n 0) := by decide +kernel
theorem i243_13 : am_ins 243 13 = some (.iload_n 1) := by decide +kernel
theorem i243_14 : am_ins 243 14 = some (.invokevirtual 332) := by decide +kernel
theorem i243_17 : am_ins 243 17 = some (.ireturn) := by decide +kernel
theorem i244_0 : am_ins 244 0 = some (.aload_n 0) := by decide +kernel
theorem i244_1 : am_ins 244 1 = some (.iconst 0) := by decide +kernel
theorem i244_2 : am_ins 244 2 = some (.invokevirtual 314) := by decide +kernel
theorem i244_5 : am_ins 244 5 = some (.aload_n 0) := by decide +kernel
theorem i244_6 : am_ins 244 6 = some (.getfield 22) := by decide +kernel
theorem i244_9 : am_ins 244 9 = some (.bipush 9) := by decide +kernel
theorem i244_11 : am_ins 244 11 = some (.iaload) := by decide +kernel
theorem i244_12 : am_ins 244 12 = some (.istore_n 2) := by decide +kernel
theorem i244_13 : am_ins 244 13 = some (.aload_n 0) := by decide +kernel
theorem i244_14 : am_ins 244 14 = some (.iload_n 1) := by decide +kernel
theorem i244_15 : am_ins 244 15 = some (.invokevirtual 317) := by decide +kernel
theorem i244_18 : am_ins 244 18 = some (.aload_n 0) := by decide +kernel
theorem i244_19 : am_ins 244 19 = some (.invokevirtual 320) := by decide +kernel
theorem i244_22 : am_ins 244 22 = some (.iadd) := by decide +kernel
theorem i244_23 : am_ins 244 23 = some (.istore_n 3) := by decide +kernel
theorem i244_24 : am_ins 244 24 = some (.aload_n 0) := by decide +kernel
theorem i244_25 : am_ins 244 25 = some (.getfield 22) := by decide +kernel
theorem i244_28 : am_ins 244 28 = some (.bipush 9) := by decide +kernel
theorem i244_30 : am_ins 244 30 = some (.iaload) := by decide +kernel
theorem i244_31 : am_ins 244 31 = some (.iload_n 2) := by decide +kernel
theorem i244_32 : am_ins 244 32 = some (.isub) := by decide +kernel
theorem i244_33 : am_ins 244 33 = some (.istore 4) := by decide +kernel
theorem i244_35 : am_ins 244 35 = some (.aload_n 0) := by decide +kernel
theorem i244_36 : am_ins 244 36 = some (.iconst 0) := by decide +kernel
theorem i244_37 : am_ins 244 37 = some (.invokevirtual 323) := by decide +kernel
theorem i244_40 : am_ins 244 40 = some (.iload 4) := by decide +kernel
theorem i244_42 : am_ins 244 42 = some (.ireturn) := by decide +kernel
theorem i245_0 : am_ins 245 0 = some (.iconst 0) := by decide +kernel
theorem i245_1 : am_ins 245 1 = some (.istore_n 1) := by decide +kernel
theorem i245_2 : am_ins 245 2 = some (.iconst 0) := by decide +kernel
theorem i245_3 : am_ins 245 3 = some (.istore_n 2) := by decide +kernel
theorem i245_4 : am_ins 245 4 = some (.iload_n 2) := by decide +kernel
theorem i245_5 : am_ins 245 5 = some (.aload_n 0) := by decide +kernel
theorem i245_6 : am_ins 245 6 = some (.getfield 22) := by decide +kernel
theorem i245_9 : am_ins 245 9 = some (.iconst 3) := by decide +kernel
theorem i245_10 : am_ins 245 10 = some (.iaload) := by decide +kernel
theorem i245_11 : am_ins 245 11 = some (.if_icmp .ge 72) := by decide +kernel
theorem i245_14 : am_ins 245 14 = some (.iload_n 1) := by decide +kernel
theorem i245_15 : am_ins 245 15 = some (.aload_n 0) := by decide +kernel
theorem i245_16 : am_ins 245 16 = some (.iload_n 2) := by decide +kernel
theorem i245_17 : am_ins 245 17 = some (.invokevirtual 229) := by decide +kernel
theorem i245_20 : am_ins 245 20 = some (.ifCond .eq 43) := by decide +kernel
theorem i245_23 : am_ins 245 23 = some (.aload_n 0) := by decide +kernel
theorem i245_24 : am_ins 245 24 = some (.getfield 22) := by decide +kernel
theorem i245_27 : am_ins 245 27 = some (.sipush 334) := by decide +kernel
theorem i245_30 : am_ins 245 30 = some (.iload_n 2) := by decide +kernel
theorem i245_31 : am_ins 245 31 = some (.iadd) := by decide +kernel
theorem i245_32 : am_ins 245 32 = some (.iaload) := by decide +kernel
theorem i245_33 : am_ins 245 33 = some (.iconst 1) := by decide +kernel
theorem i245_34 : am_ins 245 34 = some (.if_icmp .ne 29) := by decide +kernel
theorem i245_37 : am_ins 245 37 = some (.aload_n 0) := by decide +kernel
theorem i245_38 : am_ins 245 38 = some (.getfield 22) := by decide +kernel
theorem i245_41 : am_ins 245 41 = some (.bipush 94) := by decide +kernel
theorem i245_43 : am_ins 245 43 = some (.iload_n 2) := by decide +kernel
theorem i245_44 : am_ins 245 44 = some (.iadd) := by decide +kernel
theorem i245_45 : am_ins 245 45 = some (.iaload) := by decide +kernel
theorem i245_46 : am_ins 245 46 = some (.aload_n 0) := by decide +kernel
theorem i245_47 : am_ins 245 47 = some (.getfield 22) := by decide +kernel
theorem i245_50 : am_ins 245 50 = some (.iconst 2) := by decide +kernel
theorem i245_51 : am_ins 245 51 = some (.iaload) := by decide +kernel
theorem i245_52 : am_ins 245 52 = some (.if_icmp .ge 11) := by decide +kernel
theorem i245_55 : am_ins 245 55 = some (.aload_n 0) := by decide +kernel
theorem i245_56 : am_ins 245 56 = some (.iload_n 2) := by decide +kernel
theorem i245_57 : am_ins 245 57 = some (.invokevirtual 311) := by decide +kernel
theorem i245_60 : am_ins 245 60 = some (.goto 4) := by decide +kernel
theorem i245_63 : am_ins 245 63 = some (.iconst 0) := by decide +kernel
theorem i245_64 : am_ins 245 64 = some (.iadd) := by decide +kernel
theorem i245_65 : am_ins 245 65 = some (.istore_n 1) := by decide +kernel
theorem i245_66 : am_ins 245 66 = some (.aload_n 0) := by decide +kernel
theorem i245_67 : am_ins 245 67 = some (.getfield 22) := by decide +kernel
theorem i245_70 : am_ins 245 70 = some (.sipush 334) := by decide +kernel
theorem i245_73 : am_ins 245 73 = some (.iload_n 2) := by decide +kernel
theorem i245_74 : am_ins 245 74 = some (.iadd) := by decide +kernel
theorem i245_75 : am_ins 245 75 = some (.iconst 0) := by decide +kernel
theorem i245_76 : am_ins 245 76 = some (.iastore) := by decide +kernel
theorem i245_77 : am_ins 245 77 = some (.iinc 2 1) := by decide +kernel
theorem i245_80 : am_ins 245 80 = some (.goto (-76)) := by decide +kernel
theorem i245_83 : am_ins 245 83 = some (.aload_n 0) := by decide +kernel
theorem i245_84 : am_ins 245 84 = some (.getfield 22) := by decide +kernel
theorem i245_87 : am_ins 245 87 = some (.iconst 0) := by decide +kernel
theorem i245_88 : am_ins 245 88 = some (.dup2) := by decide +kernel
theorem i245_89 : am_ins 245 89 = some (.iaload) := by decide +kernel
theorem i245_90 : am_ins 245 90 = some (.iconst 1) := by decide +kernel
theorem i245_91 : am_ins 245 91 = some (.iadd) := by decide +kernel
theorem i245_92 : am_ins 245 92 = some (.iastore) := by decide +kernel
theorem i245_93 : am_ins 245 93 = some (.iload_n 1) := by decide +kernel
theorem i245_94 : am_ins 245 94 = some (.ireturn) := by decide +kernel
theorem i246_0 : am_ins 246 0 = some (.aload_n 0) := by decide +kernel
theorem i246_1 : am_ins 246 1 = some (.getfield 22) := by decide +kernel
theorem i246_4 : am_ins 246 4 = some (.bipush 94) := by decide +kernel
theorem i246_6 : am_ins 246 6 = some (.iload_n 1) := by decide +kernel
theorem i246_7 : am_ins 246 7 = some (.iadd) := by decide +kernel
theorem i246_8 : am_ins 246 8 = some (.iaload) := by decide +kernel
theorem i246_9 : am_ins 246 9 = some (.istore_n 2) := by decide +kernel
theorem i246_10 : am_ins 246 10 = some (.aload_n 0) := by decide +kernel
theorem i246_11 : am_ins 246 11 = some (.iload_n 1) := by decide +kernel
theorem i246_12 : am_ins 246 12 = some (.iload_n 2) := by decide +kernel
theorem i246_13 : am_ins 246 13 = some (.iconst 2) := by decide +kernel
theorem i246_14 : am_ins 246 14 = some (.invokevirtual 292) := by decide +kernel
theorem i246_17 : am_ins 246 17 = some (.aload_n 0) := by decide +kernel
theorem i246_18 : am_ins 246 18 = some (.getfield 22) := by decide +kernel
theorem i246_21 : am_ins 246 21 = some (.bipush 94) := by decide +kernel
theorem i246_23 : am_ins 246 23 = some (.iload_n 1) := by decide +kernel
theorem i246_24 : am_ins 246 24 = some (.iadd) := by decide +kernel
theorem i246_25 : am_ins 246 25 = some (.iconst 0) := by decide +kernel
theorem i246_26 : am_ins 246 26 = some (.iastore) := by decide +kernel
theorem i246_27 : am_ins 246 27 = some (.aload_n 0) := by decide +kernel
theorem i246_28 : am_ins 246 28 = some (.getfield 22) := by decide +kernel
theorem i246_31 : am_ins 246 31 = some (.sipush 174) := by decide +kernel
theorem i246_34 : am_ins 246 34 = some (.iload_n 1) := by decide +kernel
theorem i246_35 : am_ins 246 35 = some (.iadd) := by decide +kernel
theorem i246_36 : am_ins 246 36 = some (.iconst 2) := by decide +kernel
theorem i246_37 : am_ins 246 37 = some (.iastore) := by decide +kernel
theorem i246_38 : am_ins 246 38 = some (.iload_n 2) := by decide +kernel
theorem i246_39 : am_ins 246 39 = some (.ireturn) := by decide +kernel
theorem i247_0 : am_ins 247 0 = some (.aload_n 0) := by decide +kernel
theorem i247_1 : am_ins 247 1 = some (.iload_n 2) := by decide +kernel
theorem i247_2 : am_ins 247 2 = some (.invokevirtual 244) := by decide +kernel
theorem i247_5 : am_ins 247 5 = some (.ifCond .ne 25) := by decide +kernel
theorem i247_8 : am_ins 247 8 = some (.aload_n 0) := by decide +kernel
theorem i247_9 : am_ins 247 9 = some (.iload_n 1) := by decide +kernel
theorem i247_10 : am_ins 247 10 = some (.iconst 0) := by decide +kernel
theorem i247_11 : am_ins 247 11 = some (.iconst 3) := by decide +kernel
theorem i247_12 : am_ins 247 12 = some (.invokestatic 140) := by decide +kernel
theorem i247_15 : am_ins 247 15 = some (.ifCond .ne 7) := by decide +kernel
theorem i247_18 : am_ins 247 18 = some (.iconst 1) := by decide +kernel
theorem i247_19 : am_ins 247 19 = some (.goto 4) := by decide +kernel
theorem i247_22 : am_ins 247 22 = some (.iconst 0) := by decide +kernel
theorem i247_23 : am_ins 247 23 = some (.iconst 3) := by decide +kernel
theorem i247_24 : am_ins 247 24 = some (.invokevirtual 70) := by decide +kernel
theorem i247_27 : am_ins 247 27 = some (.ifCond .eq 5) := by decide +kernel
theorem i247_30 : am_ins 247 30 = some (.iconst 0) := by decide +kernel
theorem i247_31 : am_ins 247 31 = some (.ireturn) := by decide +kernel
theorem i247_32 : am_ins 247 32 = some (.aload_n 0) := by decide +kernel
theorem i247_33 : am_ins 247 33 = some (.iconst 0) := by decide +kernel
theorem i247_34 : am_ins 247 34 = some (.invokevirtual 314) := by decide +kernel
theorem i247_37 : am_ins 247 37 = some (.aload_n 0) := by decide +kernel
theorem i247_38 : am_ins 247 38 = some (.iload_n 1) := by decide +kernel
theorem i247_39 : am_ins 247 39 = some (.invokevirtual 317) := by decide +kernel
theorem i247_42 : am_ins 247 42 = some (.istore_n 3) := by decide +kernel
theorem i247_43 : am_ins 247 43 = some (.aload_n 0) := by decide +kernel
theorem i247_44 : am_ins 247 44 = some (.iload_n 2) := by decide +kernel
theorem i247_45 : am_ins 247 45 = some (.iconst 4) := by decide +kernel
theorem i247_46 : am_ins 247 46 = some (.invokevirtual 226) := by decide +kernel
theorem i247_49 : am_ins 247 49 = some (.istore 4) := by decide +kernel
theorem i247_51 : am_ins 247 51 = some (.aload_n 0) := by decide +kernel
theorem i247_52 : am_ins 247 52 = some (.iconst 0) := by decide +kernel
theorem i247_53 : am_ins 247 53 = some (.invokevirtual 323) := by decide +kernel
theorem i247_56 : am_ins 247 56 = some (.iload 4) := by decide +kernel
theorem i247_58 : am_ins 247 58 = some (.ireturn) := by decide +kernel
theorem i248_0 : am_ins 248 0 = some (.aload_n 0) := by decide +kernel
theorem i248_1 : am_ins 248 1 = some (.invokevirtual 216) := by decide +kernel
theorem i248_4 : am_ins 248 4 = some (.ifCond .eq 5) := by decide +kernel
theorem i248_7 : am_ins 248 7 = some (.iconst 0) := by decide +kernel
theorem i248_8 : am_ins 248 8 = some (.ireturn) := by decide +kernel
theorem i248_9 : am_ins 248 9 = some (.iconst 0) := by decide +kernel
theorem i248_10 : am_ins 248 10 = some (.istore_n 1) := by decide +kernel
theorem i248_11 : am_ins 248 11 = some (.iconst 1) := by decide +kernel
theorem i248_12 : am_ins 248 12 = some (.istore_n 2) := by decide +kernel
theorem i248_13 : am_ins 248 13 = some (.iload_n 2) := by decide +kernel
theorem i248_14 : am_ins 248 14 = some (.iconst 4) := by decide +kernel
theorem i248_15 : am_ins 248 15 = some (.if_icmp .ge 48) := by decide +kernel
theorem i248_18 : am_ins 248 18 = some (.aload_n 0) := by decide +kernel
theorem i248_19 : am_ins 248 19 = some (.iload_n 2) := by decide +kernel
theorem i248_20 : am_ins 248 20 = some (.invokevirtual 329) := by decide +kernel
theorem i248_23 : am_ins 248 23 = some (.aload_n 0) := by decide +kernel
theorem i248_24 : am_ins 248 24 = some (.iload_n 1) := by decide +kernel
theorem i248_25 : am_ins 248 25 = some (.invokevirtual 329) := by decide +kernel
theorem i248_28 : am_ins 248 28 = some (.isub) := by decide +kernel
theorem i248_29 : am_ins 248 29 = some (.istore_n 3) := by decide +kernel
theorem i248_30 : am_ins 248 30 = some (.iload_n 3) := by decide +kernel
theorem i248_31 : am_ins 248 31 = some (.ifCond .gt 20) := by decide +kernel
theorem i248_34 : am_ins 248 34 = some (.iload_n 3) := by decide +kernel
theorem i248_35 : am_ins 248 35 = some (.ifCond .ne 20) := by decide +kernel
theorem i248_38 : am_ins 248 38 = some (.aload_n 0) := by decide +kernel
theorem i248_39 : am_ins 248 39 = some (.iload_n 2) := by decide +kernel
theorem i248_40 : am_ins 248 40 = some (.invokevirtual 332) := by decide +kernel
theorem i248_43 : am_ins 248 43 = some (.aload_n 0) := by decide +kernel
theorem i248_44 : am_ins 248 44 = some (.iload_n 1) := by decide +kernel
theorem i248_45 : am_ins 248 45 = some (.invokevirtual 332) := by decide +kernel
theorem i248_48 : am_ins 248 48 = some (.if_icmp .ge 7) := by decide +kernel
theorem i248_51 : am_ins 248 51 = some (.iload_n 2) := by decide +kernel
theorem i248_52 : am_ins 248 52 = some (.goto 4) := by decide +kernel
theorem i248_55 : am_ins 248 55 = some (.iload_n 1) := by decide +kernel
theorem i248_56 : am_ins 248 56 = some (.istore_n 1) := by decide +kernel
theorem i248_57 : am_ins 248 57 = some (.iinc 2 1) := by decide +kernel
theorem i248_60 : am_ins 248 60 = some (.goto (-47)) := by decide +kernel
theorem i248_63 : am_ins 248 63 = some (.iload_n 1) := by decide +kernel
theorem i248_64 : am_ins 248 64 = some (.ireturn) := by decide +kernel
theorem i249_0 : am_ins 249 0 = some (.aload_n 0) := by decide +kernel
theorem i249_1 : am_ins 249 1 = some (.iload_n 1) := by decide +kernel
theorem i249_2 : am_ins 249 2 = some (.invokevirtual 238) := by decide +kernel
theorem i249_5 : am_ins 249 5 = some (.ifCond .eq 7) := by decide +kernel
theorem i249_8 : am_ins 249 8 = some (.iconst 0) := by decide +kernel
theorem i249_9 : am_ins 249 9 = some (.goto 8) := by decide +kernel
theorem i249_12 : am_ins 249 12 = some (.aload_n 0) := by decide +kernel
theorem i249_13 : am_ins 249 13 = some (.iload_n 1) := by decide +kernel
theorem i249_14 : am_ins 249 14 = some (.invokevirtual 338) := by decide +kernel
theorem i249_17 : am_ins 249 17 = some (.ireturn) := by decide +kernel
theorem i250_0 : am_ins 250 0 = some (.iconst 0) := by decide +kernel
theorem i250_1 : am_ins 250 1 = some (.istore_n 2) := by decide +kernel
theorem i250_2 : am_ins 250 2 = some (.iload_n 2) := by decide +kernel
theorem i250_3 : am_ins 250 3 = some (.bipush 12) := by decide +kernel
theorem i250_5 : am_ins 250 5 = some (.if_icmp .gt 56) := by decide +kernel
theorem i250_8 : am_ins 250 8 = some (.aload_n 0) := by decide +kernel
theorem i250_9 : am_ins 250 9 = some (.iconst 0) := by decide +kernel
theorem i250_10 : am_ins 250 10 = some (.invokevirtual 314) := by decide +kernel
theorem i250_13 : am_ins 250 13 = some (.iconst 0) := by decide +kernel
theorem i250_14 : am_ins 250 14 = some (.istore_n 3) := by decide +kernel
theorem i250_15 : am_ins 250 15 = some (.iload_n 3) := by decide +kernel
theorem i250_16 : am_ins 250 16 = some (.iload_n 2) := by decide +kernel
theorem i250_17 : am_ins 250 17 = some (.if_icmp .ge 14) := by decide +kernel
theorem i250_20 : am_ins 250 20 = some (.aload_n 0) := by decide +kernel
theorem i250_21 : am_ins 250 21 = some (.iload_n 1) := by decide +kernel
theorem i250_22 : am_ins 250 22 = some (.invokevirtual 335) := by decide +kernel
theorem i250_25 : am_ins 250 25 = some (.iinc 3 1) := by decide +kernel
theorem i250_28 : am_ins 250 28 = some (.goto (-13)) := by decide +kernel
theorem i250_31 : am_ins 250 31 = some (.aload_n 0) := by decide +kernel
theorem i250_32 : am_ins 250 32 = some (.iconst 1) := by decide +kernel
theorem i250_33 : am_ins 250 33 = some (.invokevirtual 317) := by decide +kernel
theorem i250_36 : am_ins 250 36 = some (.istore_n 3) := by decide +kernel
theorem i250_37 : am_ins 250 37 = some (.aload_n 0) := by decide +kernel
theorem i250_38 : am_ins 250 38 = some (.invokevirtual 235) := by decide +kernel
theorem i250_41 : am_ins 250 41 = some (.istore 4) := by decide +kernel
theorem i250_43 : am_ins 250 43 = some (.aload_n 0) := by decide +kernel
theorem i250_44 : am_ins 250 44 = some (.iconst 0) := by decide +kernel
theorem i250_45 : am_ins 250 45 = some (.invokevirtual 323) := by decide +kernel
theorem i250_48 : am_ins 250 48 = some (.iload 4) := by decide +kernel
theorem i250_50 : am_ins 250 50 = some (.ifCond .ne 5) := by decide +kernel
theorem i250_53 : am_ins 250 53 = some (.iload_n 2) := by decide +kernel
theorem i250_54 : am_ins 250 54 = some (.ireturn) := by decide +kernel
theorem i250_55 : am_ins 250 55 = some (.iinc 2 1) := by decide +kernel
theorem i250_58 : am_ins 250 58 = some (.goto (-56)) := by decide +kernel
theorem i250_61 : am_ins 250 61 = some (.iconst (-1)) := by decide +kernel
theorem i250_62 : am_ins 250 62 = some (.ireturn) := by decide +kernel
theorem i251_0 : am_ins 251 0 = some (.aload_n 0) := by decide +kernel
theorem i251_1 : am_ins 251 1 = some (.getfield 22) := by decide +kernel
theorem i251_4 : am_ins 251 4 = some (.iconst 3) := by decide +kernel
theorem i251_5 : am_ins 251 5 = some (.iaload) := by decide +kernel
theorem i251_6 : am_ins 251 6 = some (.istore_n 2) := by decide +kernel
theorem i251_7 : am_ins 251 7 = some (.aload_n 0) := by decide +kernel
theorem i251_8 : am_ins 251 8 = some (.getfield 22) := by decide +kernel
theorem i251_11 : am_ins 251 11 = some (.bipush 14) := by decide +kernel
theorem i251_13 : am_ins 251 13 = some (.iload_n 2) := by decide +kernel
theorem i251_14 : am_ins 251 14 = some (.iadd) := by decide +kernel
theorem i251_15 : am_ins 251 15 = some (.iload_n 1) := by decide +kernel
theorem i251_16 : am_ins 251 16 = some (.iastore) := by decide +kernel
theorem i251_17 : am_ins 251 17 = some (.aload_n 0) := by decide +kernel
theorem i251_18 : am_ins 251 18 = some (.getfield 22) := by decide +kernel
theorem i251_21 : am_ins 251 21 = some (.bipush 94) := by decide +kernel
theorem i251_23 : am_ins 251 23 = some (.iload_n 2) := by decide +kernel
theorem i251_24 : am_ins 251 24 = some (.iadd) := by decide +kernel
theorem i251_25 : am_ins 251 25 = some (.aload_n 0) := by decide +kernel
theorem i251_26 : am_ins 251 26 = some (.getfield 7) := by decide +kernel
theorem i251_29 : am_ins 251 29 = some (.iload_n 1) := by decide +kernel
theorem i251_30 : am_ins 251 30 = some (.iaload) := by decide +kernel
theorem i251_31 : am_ins 251 31 = some (.iastore) := by decide +kernel
theorem i251_32 : am_ins 251 32 = some (.aload_n 0) := by decide +kernel
theorem i251_33 : am_ins 251 33 = some (.getfield 22) := by decide +kernel
theorem i251_36 : am_ins 251 36 = some (.sipush 174) := by decide +kernel
theorem i251_39 : am_ins 251 39 = some (.iload_n 2) := by decide +kernel
theorem i251_40 : am_ins 251 40 = some (.iadd) := by decide +kernel
theorem i251_41 : am_ins 251 41 = some (.iconst 0) := by decide +kernel
theorem i251_42 : am_ins 251 42 = some (.iastore) := by decide +kernel
theorem i251_43 : am_ins 251 43 = some (.aload_n 0) := by decide +kernel
theorem i251_44 : am_ins 251 44 = some (.getfield 22) := by decide +kernel
theorem i251_47 : am_ins 251 47 = some (.sipush 254) := by decide +kernel
theorem i251_50 : am_ins 251 50 = some (.iload_n 2) := by decide +kernel
theorem i251_51 : am_ins 251 51 = some (.iadd) := by decide +kernel
theorem i251_52 : am_ins 251 52 = some (.iconst 0) := by decide +kernel
theorem i251_53 : am_ins 251 53 = some (.iastore) := by decide +kernel
theorem i251_54 : am_ins 251 54 = some (.aload_n 0) := by decide +kernel
theorem i251_55 : am_ins 251 55 = some (.getfield 22) := by decide +kernel
theorem i251_58 : am_ins 251 58 = some (.sipush 334) := by decide +kernel
theorem i251_61 : am_ins 251 61 = some (.iload_n 2) := by decide +kernel
theorem i251_62 : am_ins 251 62 = some (.iadd) := by decide +kernel
theorem i251_63 : am_ins 251 63 = some (.iconst 0) := by decide +kernel
theorem i251_64 : am_ins 251 64 = some (.iastore) := by decide +kernel
theorem i251_65 : am_ins 251 65 = some (.aload_n 0) := by decide +kernel
theorem i251_66 : am_ins 251 66 = some (.getfield 22) := by decide +kernel
theorem i251_69 : am_ins 251 69 = some (.iconst 3) := by decide +kernel
theorem i251_70 : am_ins 251 70 = some (.dup2) := by decide +kernel
theorem i251_71 : am_ins 251 71 = some (.iaload) := by decide +kernel
theorem i251_72 : am_ins 251 72 = some (.iconst 1) := by decide +kernel
theorem i251_73 : am_ins 251 73 = some (.iadd) := by decide +kernel
theorem i251_74 : am_ins 251 74 = some (.iastore) := by decide +kernel
theorem i251_75 : am_ins 251 75 = some (.return_) := by decide +kernel
theorem i252_0 : am_ins 252 0 = some (.aload_n 0) := by decide +kernel
theorem i252_1 : am_ins 252 1 = some (.invokevirtual 216) := by decide +kernel
theorem i252_4 : am_ins 252 4 = some (.ifCond .eq 5) := by decide +kernel
theorem i252_7 : am_ins 252 7 = some (.iconst 0) := by decide +kernel
theorem i252_8 : am_ins 252 8 = some (.ireturn) := by decide +kernel
theorem i252_9 : am_ins 252 9 = some (.iconst (-1)) := by decide +kernel
theorem i252_10 : am_ins 252 10 = some (.istore_n 1) := by decide +kernel
theorem i252_11 : am_ins 252 11 = some (.iconst 0) := by decide +kernel
theorem i252_12 : am_ins 252 12 = some (.istore_n 2) := by decide +kernel
theorem i252_13 : am_ins 252 13 = some (.iconst 0) := by decide +kernel
theorem i252_14 : am_ins 252 14 = some (.istore_n 3) := by decide +kernel
theorem i252_15 : am_ins 252 15 = some (.iload_n 3) := by decide +kernel
theorem i252_16 : am_ins 252 16 = some (.aload_n 0) := by decide +kernel
theorem i252_17 : am_ins 252 17 = some (.getfield 203) := by decide +kernel
theorem i252_20 : am_ins 252 20 = some (.if_icmp .ge 56) := by decide +kernel
theorem i252_23 : am_ins 252 23 = some (.aload_n 0) := by decide +kernel
theorem i252_24 : am_ins 252 24 = some (.iload_n 3) := by decide +kernel
theorem i252_25 : am_ins 252 25 = some (.invokevirtual 338) := by decide +kernel
theorem i252_28 : am_ins 252 28 = some (.istore 4) := by decide +kernel
theorem i252_30 : am_ins 252 30 = some (.iload 4) := by decide +kernel
theorem i252_32 : am_ins 252 32 = some (.aload_n 0) := by decide +kernel
theorem i252_33 : am_ins 252 33 = some (.getfield 7) := by decide +kernel
theorem i252_36 : am_ins 252 36 = some (.iload_n 3) := by decide +kernel
theorem i252_37 : am_ins 252 37 = some (.iaload) := by decide +kernel
theorem i252_38 : am_ins 252 38 = some (.imul) := by decide +kernel
theorem i252_39 : am_ins 252 39 = some (.aload_n 0) := by decide +kernel
theorem i252_40 : am_ins 252 40 = some (.getfield 13) := by decide +kernel
theorem i252_43 : am_ins 252 43 = some (.iload_n 3) := by decide +kernel
theorem i252_44 : am_ins 252 44 = some (.iaload) := by decide +kernel
theorem i252_45 : am_ins 252 45 = some (.imul) := by decide +kernel
theorem i252_46 : am_ins 252 46 = some (.istore 5) := by decide +kernel
theorem i252_48 : am_ins 252 48 = some (.iload 4) := by decide +kernel
theorem i252_50 : am_ins 252 50 = some (.iconst (-1)) := by decide +kernel
theorem i252_51 : am_ins 252 51 = some (.if_icmp .eq 19) := by decide +kernel
theorem i252_54 : am_ins 252 54 = some (.iload_n 1) := by decide +kernel
theorem i252_55 : am_ins 252 55 = some (.iconst (-1)) := by decide +kernel
theorem i252_56 : am_ins 252 56 = some (.if_icmp .eq 9) := by decide +kernel
theorem i252_59 : am_ins 252 59 = some (.iload 5) := by decide +kernel
theorem i252_61 : am_ins 252 61 = some (.iload_n 2) := by decide +kernel
theorem i252_62 : am_ins 252 62 = some (.if_icmp .ge 8) := by decide +kernel
theorem i252_65 : am_ins 252 65 = some (.iload_n 3) := by decide +kernel
theorem i252_66 : am_ins 252 66 = some (.istore_n 1) := by decide +kernel
theorem i252_67 : am_ins 252 67 = some (.iload 5) := by decide +kernel
theorem i252_69 : am_ins 252 69 = some (.istore_n 2) := by decide +kernel
theorem i252_70 : am_ins 252 70 = some (.iinc 3 1) := by decide +kernel
theorem i252_73 : am_ins 252 73 = some (.goto (-58)) := by decide +kernel
theorem i252_76 : am_ins 252 76 = some (.iload_n 1) := by decide +kernel
theorem i252_77 : am_ins 252 77 = some (.ireturn) := by decide +kernel
theorem i253_0 : am_ins 253 0 = some (.aload_n 0) := by decide +kernel
theorem i253_1 : am_ins 253 1 = some (.iload_n 1) := by decide +kernel
theorem i253_2 : am_ins 253 2 = some (.invokevirtual 238) := by decide +kernel
theorem i253_5 : am_ins 253 5 = some (.ifCond .eq 5) := by decide +kernel
theorem i253_8 : am_ins 253 8 = some (.iconst 0) := by decide +kernel
theorem i253_9 : am_ins 253 9 = some (.ireturn) := by decide +kernel
theorem i253_10 : am_ins 253 10 = some (.aload_n 0) := by decide +kernel
theorem i253_11 : am_ins 253 11 = some (.iconst 0) := by decide +kernel
theorem i253_12 : am_ins 253 12 = some (.invokevirtual 314) := by decide +kernel
theorem i253_15 : am_ins 253 15 = some (.iconst 0) := by decide +kernel
theorem i253_16 : am_ins 253 16 = some (.istore_n 2) := by decide +kernel
theorem i253_17 : am_ins 253 17 = some (.aload_n 0) := by decide +kernel
theorem i253_18 : am_ins 253 18 = some (.iconst 1) := by decide +kernel
theorem i253_19 : am_ins 253 19 = some (.invokevirtual 317) := by decide +kernel
theorem i253_22 : am_ins 253 22 = some (.istore_n 3) := by decide +kernel
theorem i253_23 : am_ins 253 23 = some (.iload_n 2) := by decide +kernel
theorem i253_24 : am_ins 253 24 = some (.bipush 40) := by decide +kernel
theorem i253_26 : am_ins 253 26 = some (.if_icmp .ge 35) := by decide +kernel
theorem i253_29 : am_ins 253 29 = some (.aload_n 0) := by decide +kernel
theorem i253_30 : am_ins 253 30 = some (.invokevirtual 235) := by decide +kernel
theorem i253_33 : am_ins 253 33 = some (.ifCond .le 28) := by decide +kernel
theorem i253_36 : am_ins 253 36 = some (.aload_n 0) := by decide +kernel
theorem i253_37 : am_ins 253 37 = some (.iload_n 1) := by decide +kernel
theorem i253_38 : am_ins 253 38 = some (.invokevirtual 335) := by decide +kernel
theorem i253_41 : am_ins 253 41 = some (.aload_n 0) := by decide +kernel
theorem i253_42 : am_ins 253 42 = some (.invokevirtual 320) := by decide +kernel
theorem i253_45 : am_ins 253 45 = some (.istore 4) := by decide +kernel
theorem i253_47 : am_ins 253 47 = some (.iinc 2 1) := by decide +kernel
theorem i253_50 : am_ins 253 50 = some (.iload_n 3) := by decide +kernel
theorem i253_51 : am_ins 253 51 = some (.aload_n 0) := by decide +kernel
theorem i253_52 : am_ins 253 52 = some (.iconst 1) := by decide +kernel
theorem i253_53 : am_ins 253 53 = some (.invokevirtual 317) := by decide +kernel
theorem i253_56 : am_ins 253 56 = some (.iadd) := by decide +kernel
theorem i253_57 : am_ins 253 57 = some (.istore_n 3) := by decide +kernel
theorem i253_58 : am_ins 253 58 = some (.goto (-35)) := by decide +kernel
theorem i253_61 : am_ins 253 61 = some (.aload_n 0) := by decide +kernel
theorem i253_62 : am_ins 253 62 = some (.invokevirtual 235) := by decide +kernel
theorem i253_65 : am_ins 253 65 = some (.ifCond .le 7) := by decide +kernel
theorem i253_68 : am_ins 253 68 = some (.iconst (-1)) := by decide +kernel
theorem i253_69 : am_ins 253 69 = some (.goto 4) := by decide +kernel
theorem i253_72 : am_ins 253 72 = some (.iload_n 2) := by decide +kernel
theorem i253_73 : am_ins 253 73 = some (.istore 4) := by decide +kernel
theorem i253_75 : am_ins 253 75 = some (.aload_n 0) := by decide +kernel
theorem i253_76 : am_ins 253 76 = some (.iconst 0) := by decide +kernel
theorem i253_77 : am_ins 253 77 = some (.invokevirtual 323) := by decide +kernel
theorem i253_80 : am_ins 253 80 = some (.iload 4) := by decide +kernel
theorem i253_82 : am_ins 253 82 = some (.ireturn) := by decide +kernel
theorem i254_0 : am_ins 254 0 = some (.aload_n 0) := by decide +kernel
theorem i254_1 : am_ins 254 1 = some (.invokevirtual 216) := by decide +kernel
theorem i254_4 : am_ins 254 4 = some (.ifCond .ne 26) := by decide +kernel
theorem i254_7 : am_ins 254 7 = some (.aload_n 0) := by decide +kernel
theorem i254_8 : am_ins 254 8 = some (.iload_n 1) := by decide +kernel
theorem i254_9 : am_ins 254 9 = some (.iconst 0) := by decide +kernel
theorem i254_10 : am_ins 254 10 = some (.bipush 7) := by decide +kernel
theorem i254_12 : am_ins 254 12 = some (.invokestatic 140) := by decide +kernel
theorem i254_15 : am_ins 254 15 = some (.ifCond .ne 7) := by decide +kernel
theorem i254_18 : am_ins 254 18 = some (.iconst 1) := by decide +kernel
theorem i254_19 : am_ins 254 19 = some (.goto 4) := by decide +kernel
theorem i254_22 : am_ins 254 22 = some (.iconst 0) := by decide +kernel
theorem i254_23 : am_ins 254 23 = some (.iconst 2) := by decide +kernel
theorem i254_24 : am_ins 254 24 = some (.invokevirtual 70) := by decide +kernel
theorem i254_27 : am_ins 254 27 = some (.ifCond .eq 7) := by decide +kernel
theorem i254_30 : am_ins 254 30 = some (.iconst 0) := by decide +kernel
theorem i254_31 : am_ins 254 31 = some (.goto 12) := by decide +kernel
theorem i254_34 : am_ins 254 34 = some (.aload_n 0) := by decide +kernel
theorem i254_35 : am_ins 254 35 = some (.getfield 22) := by decide +kernel
theorem i254_38 : am_ins 254 38 = some (.bipush 6) := by decide +kernel
theorem i254_40 : am_ins 254 40 = some (.iload_n 1) := by decide +kernel
theorem i254_41 : am_ins 254 41 = some (.iadd) := by decide +kernel
theorem i254_42 : am_ins 254 42 = some (.iaload) := by decide +kernel
theorem i254_43 : am_ins 254 43 = some (.ireturn) := by decide +kernel
theorem i255_0 : am_ins 255 0 = some (.aload_n 0) := by decide +kernel
theorem i255_1 : am_ins 255 1 = some (.invokevirtual 216) := by decide +kernel
theorem i255_4 : am_ins 255 4 = some (.ifCond .ne 13) := by decide +kernel
theorem i255_7 : am_ins 255 7 = some (.aload_n 0) := by decide +kernel
theorem i255_8 : am_ins 255 8 = some (.getfield 22) := by decide +kernel
theorem i255_11 : am_ins 255 11 = some (.bipush 11) := by decide +kernel
theorem i255_13 : am_ins 255 13 = some (.iaload) := by decide +kernel
theorem i255_14 : am_ins 255 14 = some (.ifCond .ne 7) := by decide +kernel
theorem i255_17 : am_ins 255 17 = some (.dconst 0) := by decide +kernel
theorem i255_18 : am_ins 255 18 = some (.goto 20) := by decide +kernel
theorem i255_21 : am_ins 255 21 = some (.aload_n 0) := by decide +kernel
theorem i255_22 : am_ins 255 22 = some (.getfield 22) := by decide +kernel
theorem i255_25 : am_ins 255 25 = some (.bipush 9) := by decide +kernel
theorem i255_27 : am_ins 255 27 = some (.iaload) := by decide +kernel
theorem i255_28 : am_ins 255 28 = some (.i2d) := by decide +kernel
theorem i255_29 : am_ins 255 29 = some (.aload_n 0) := by decide +kernel
theorem i255_30 : am_ins 255 30 = some (.getfield 22) := by decide +kernel
theorem i255_33 : am_ins 255 33 = some (.bipush 11) := by decide +kernel
theorem i255_35 : am_ins 255 35 = some (.iaload) := by decide +kernel
theorem i255_36 : am_ins 255 36 = some (.i2d) := by decide +kernel
theorem i255_37 : am_ins 255 37 = some (.ddiv) := by decide +kernel
theorem i255_38 : am_ins 255 38 = some (.dreturn) := by decide +kernel
theorem i256_0 : am_ins 256 0 = some (.aload_n 0) := by decide +kernel
theorem i256_1 : am_ins 256 1 = some (.invokevirtual 216) := by decide +kernel
theorem i256_4 : am_ins 256 4 = some (.ifCond .eq 5) := by decide +kernel
theorem i256_7 : am_ins 256 7 = some (.fconst 0) := by decide +kernel
theorem i256_8 : am_ins 256 8 = some (.freturn) := by decide +kernel
theorem i256_9 : am_ins 256 9 = some (.aload_n 0) := by decide +kernel
theorem i256_10 : am_ins 256 10 = some (.getfield 22) := by decide +kernel
theorem i256_13 : am_ins 256 13 = some (.bipush 13) := by decide +kernel
theorem i256_15 : am_ins 256 15 = some (.iaload) := by decide +kernel
theorem i256_16 : am_ins 256 16 = some (.aload_n 0) := by decide +kernel
theorem i256_17 : am_ins 256 17 = some (.getfield 22) := by decide +kernel
theorem i256_20 : am_ins 256 20 = some (.bipush 7) := by decide +kernel
theorem i256_22 : am_ins 256 22 = some (.iaload) := by decide +kernel
theorem i256_23 : am_ins 256 23 = some (.iadd) := by decide +kernel
theorem i256_24 : am_ins 256 24 = some (.aload_n 0) := by decide +kernel
theorem i256_25 : am_ins 256 25 = some (.getfield 22) := by decide +kernel
theorem i256_28 : am_ins 256 28 = some (.bipush 8) := by decide +kernel
theorem i256_30 : am_ins 256 30 = some (.iaload) := by decide +kernel
theorem i256_31 : am_ins 256 31 = some (.iadd) := by decide +kernel
theorem i256_32 : am_ins 256 32 = some (.istore_n 1) := by decide +kernel
theorem i256_33 : am_ins 256 33 = some (.iload_n 1) := by decide +kernel
theorem i256_34 : am_ins 256 34 = some (.ifCond .ne 7) := by decide +kernel
theorem i256_37 : am_ins 256 37 = some (.fconst 0) := by decide +kernel
theorem i256_38 : am_ins 256 38 = some (.goto 14) := by decide +kernel
theorem i256_41 : am_ins 256 41 = some (.aload_n 0) := by decide +kernel
theorem i256_42 : am_ins 256 42 = some (.getfield 22) := by decide +kernel
theorem i256_45 : am_ins 256 45 = some (.bipush 13) := by decide +kernel
theorem i256_47 : am_ins 256 47 = some (.iaload) := by decide +kernel
theorem i256_48 : am_ins 256 48 = some (.i2f) := by decide +kernel
theorem i256_49 : am_ins 256 49 = some (.iload_n 1) := by decide +kernel
theorem i256_50 : am_ins 256 50 = some (.i2f) := by decide +kernel
theorem i256_51 : am_ins 256 51 = some (.fdiv) := by decide +kernel
theorem i256_52 : am_ins 256 52 = some (.freturn) := by decide +kernel
theorem i257_0 : am_ins 257 0 = some (.aload_n 0) := by decide +kernel
theorem i257_1 : am_ins 257 1 = some (.aload_n 0) := by decide +kernel
theorem i257_2 : am_ins 257 2 = some (.getfield 22) := by decide +kernel
theorem i257_5 : am_ins 257 5 = some (.iconst 5) := by decide +kernel
theorem i257_6 : am_ins 257 6 = some (.iaload) := by decide +kernel
theorem i257_7 : am_ins 257 7 = some (.invokevirtual 341) := by decide +kernel
theorem i257_10 : am_ins 257 10 = some (.ireturn) := by decide +kernel
theorem i258_0 : am_ins 258 0 = some (.aload_n 0) := by decide +kernel
theorem i258_1 : am_ins 258 1 = some (.iconst 0) := by decide +kernel
theorem i258_2 : am_ins 258 2 = some (.putfield 63) := by decide +kernel
theorem i258_5 : am_ins 258 5 = some (.aload_n 0) := by decide +kernel
theorem i258_6 : am_ins 258 6 = some (.getfield 66) := by decide +kernel
theorem i258_9 : am_ins 258 9 = some (.ifCond .eq 7) := by decide +kernel
theorem i258_12 : am_ins 258 12 = some (.iload_n 1) := by decide +kernel
theorem i258_13 : am_ins 258 13 = some (.goto 4) := by decide +kernel
theorem i258_16 : am_ins 258 16 = some (.iconst 0) := by decide +kernel
theorem i258_17 : am_ins 258 17 = some (.ireturn) := by decide +kernel
theorem i259_0 : am_ins 259 0 = some (.aload_n 0) := by decide +kernel
theorem i259_1 : am_ins 259 1 = some (.aload_n 0) := by decide +kernel
theorem i259_2 : am_ins 259 2 = some (.getfield 213) := by decide +kernel
theorem i259_5 : am_ins 259 5 = some (.invokevirtual 341) := by decide +kernel
theorem i259_8 : am_ins 259 8 = some (.ireturn) := by decide +kernel
theorem i260_0 : am_ins 260 0 = some (.aload_n 0) := by decide +kernel
theorem i260_1 : am_ins 260 1 = some (.invokevirtual 216) := by decide +kernel
theorem i260_4 : am_ins 260 4 = some (.ifCond .ne 54) := by decide +kernel
theorem i260_7 : am_ins 260 7 = some (.aload_n 0) := by decide +kernel
theorem i260_8 : am_ins 260 8 = some (.iload_n 1) := by decide +kernel
theorem i260_9 : am_ins 260 9 = some (.iconst 0) := by decide +kernel
theorem i260_10 : am_ins 260 10 = some (.aload_n 0) := by decide +kernel
theorem i260_11 : am_ins 260 11 = some (.getfield 22) := by decide +kernel
theorem i260_14 : am_ins 260 14 = some (.iconst 5) := by decide +kernel
theorem i260_15 : am_ins 260 15 = some (.iaload) := by decide +kernel
theorem i260_16 : am_ins 260 16 = some (.iconst 1) := by decide +kernel
theorem i260_17 : am_ins 260 17 = some (.isub) := by decide +kernel
theorem i260_18 : am_ins 260 18 = some (.invokestatic 140) := by decide +kernel
theorem i260_21 : am_ins 260 21 = some (.ifCond .ne 7) := by decide +kernel
theorem i260_24 : am_ins 260 24 = some (.iconst 1) := by decide +kernel
theorem i260_25 : am_ins 260 25 = some (.goto 4) := by decide +kernel
theorem i260_28 : am_ins 260 28 = some (.iconst 0) := by decide +kernel
theorem i260_29 : am_ins 260 29 = some (.iconst 2) := by decide +kernel
theorem i260_30 : am_ins 260 30 = some (.invokevirtual 70) := by decide +kernel
theorem i260_33 : am_ins 260 33 = some (.ifCond .ne 25) := by decide +kernel
theorem i260_36 : am_ins 260 36 = some (.aload_n 0) := by decide +kernel
theorem i260_37 : am_ins 260 37 = some (.iload_n 2) := by decide +kernel
theorem i260_38 : am_ins 260 38 = some (.iconst 0) := by decide +kernel
theorem i260_39 : am_ins 260 39 = some (.iconst 3) := by decide +kernel
theorem i260_40 : am_ins 260 40 = some (.invokestatic 140) := by decide +kernel
theorem i260_43 : am_ins 260 43 = some (.ifCond .ne 7) := by decide +kernel
theorem i260_46 : am_ins 260 46 = some (.iconst 1) := by decide +kernel
theorem i260_47 : am_ins 260 47 = some (.goto 4) := by decide +kernel
theorem i260_50 : am_ins 260 50 = some (.iconst 0) := by decide +kernel
theorem i260_51 : am_ins 260 51 = some (.iconst 3) := by decide +kernel
theorem i260_52 : am_ins 260 52 = some (.invokevirtual 70) := by decide +kernel
theorem i260_55 : am_ins 260 55 = some (.ifCond .eq 7) := by decide +kernel
theorem i260_58 : am_ins 260 58 = some (.iconst 0) := by decide +kernel
theorem i260_59 : am_ins 260 59 = some (.goto 17) := by decide +kernel
theorem i260_62 : am_ins 260 62 = some (.aload_n 0) := by decide +kernel
theorem i260_63 : am_ins 260 63 = some (.getfield 22) := by decide +kernel
theorem i260_66 : am_ins 260 66 = some (.sipush 743) := by decide +kernel
theorem i260_69 : am_ins 260 69 = some (.iconst 4) := by decide +kernel
theorem i260_70 : am_ins 260 70 = some (.iload_n 1) := by decide +kernel
theorem i260_71 : am_ins 260 71 = some (.imul) := by decide +kernel
theorem i260_72 : am_ins 260 72 = some (.iadd) := by decide +kernel
theorem i260_73 : am_ins 260 73 = some (.iload_n 2) := by decide +kernel
theorem i260_74 : am_ins 260 74 = some (.iadd) := by decide +kernel
theorem i260_75 : am_ins 260 75 = some (.iaload) := by decide +kernel
theorem i260_76 : am_ins 260 76 = some (.ireturn) := by decide +kernel
theorem i261_0 : am_ins 261 0 = some (.aload_n 0) := by decide +kernel
theorem i261_1 : am_ins 261 1 = some (.invokevirtual 216) := by decide +kernel
theorem i261_4 : am_ins 261 4 = some (.ifCond .eq 5) := by decide +kernel
theorem i261_7 : am_ins 261 7 = some (.iconst 0) := by decide +kernel
theorem i261_8 : am_ins 261 8 = some (.ireturn) := by decide +kernel
theorem i261_9 : am_ins 261 9 = some (.aload_n 0) := by decide +kernel
theorem i261_10 : am_ins 261 10 = some (.iconst 0) := by decide +kernel
theorem i261_11 : am_ins 261 11 = some (.putfield 344) := by decide +kernel
theorem i261_14 : am_ins 261 14 = some (.iconst 0) := by decide +kernel
theorem i261_15 : am_ins 261 15 = some (.istore_n 1) := by decide +kernel
theorem i261_16 : am_ins 261 16 = some (.iload_n 1) := by decide +kernel
theorem i261_17 : am_ins 261 17 = some (.aload_n 0) := by decide +kernel
theorem i261_18 : am_ins 261 18 = some (.getfield 22) := by decide +kernel
theorem i261_21 : am_ins 261 21 = some (.iconst 3) := by decide +kernel
theorem i261_22 : am_ins 261 22 = some (.iaload) := by decide +kernel
theorem i261_23 : am_ins 261 23 = some (.if_icmp .ge 77) := by decide +kernel
theorem i261_26 : am_ins 261 26 = some (.aload_n 0) := by decide +kernel
theorem i261_27 : am_ins 261 27 = some (.iload_n 1) := by decide +kernel
theorem i261_28 : am_ins 261 28 = some (.invokevirtual 229) := by decide +kernel
theorem i261_31 : am_ins 261 31 = some (.ifCond .ne 6) := by decide +kernel
theorem i261_34 : am_ins 261 34 = some (.goto 60) := by decide +kernel
theorem i261_37 : am_ins 261 37 = some (.aload_n 0) := by decide +kernel
theorem i261_38 : am_ins 261 38 = some (.getfield 344) := by decide +kernel
theorem i261_41 : am_ins 261 41 = some (.ifCond .le 9) := by decide +kernel
theorem i261_44 : am_ins 261 44 = some (.aload_n 0) := by decide +kernel
theorem i261_45 : am_ins 261 45 = some (.bipush 44) := by decide +kernel
theorem i261_47 : am_ins 261 47 = some (.invokevirtual 350) := by decide +kernel
theorem i261_50 : am_ins 261 50 = some (.aload_n 0) := by decide +kernel
theorem i261_51 : am_ins 261 51 = some (.iload_n 1) := by decide +kernel
theorem i261_52 : am_ins 261 52 = some (.invokevirtual 347) := by decide +kernel
theorem i261_55 : am_ins 261 55 = some (.aload_n 0) := by decide +kernel
theorem i261_56 : am_ins 261 56 = some (.bipush 58) := by decide +kernel
theorem i261_58 : am_ins 261 58 = some (.invokevirtual 350) := by decide +kernel
theorem i261_61 : am_ins 261 61 = some (.aload_n 0) := by decide +kernel
theorem i261_62 : am_ins 261 62 = some (.aload_n 0) := by decide +kernel
theorem i261_63 : am_ins 261 63 = some (.getfield 22) := by decide +kernel
theorem i261_66 : am_ins 261 66 = some (.bipush 94) := by decide +kernel
theorem i261_68 : am_ins 261 68 = some (.iload_n 1) := by decide +kernel
theorem i261_69 : am_ins 261 69 = some (.iadd) := by decide +kernel
theorem i261_70 : am_ins 261 70 = some (.iaload) := by decide +kernel
theorem i261_71 : am_ins 261 71 = some (.invokevirtual 347) := by decide +kernel
theorem i261_74 : am_ins 261 74 = some (.aload_n 0) := by decide +kernel
theorem i261_75 : am_ins 261 75 = some (.getfield 22) := by decide +kernel
theorem i261_78 : am_ins 261 78 = some (.sipush 334) := by decide +kernel
theorem i261_81 : am_ins 261 81 = some (.iload_n 1) := by decide +kernel
theorem i261_82 : am_ins 261 82 = some (.iadd) := by decide +kernel
theorem i261_83 : am_ins 261 83 = some (.iaload) := by decide +kernel
theorem i261_84 : am_ins 261 84 = some (.iconst 1) := by decide +kernel
theorem i261_85 : am_ins 261 85 = some (.if_icmp .ne 9) := by decide +kernel
theorem i261_88 : am_ins 261 88 = some (.aload_n 0) := by decide +kernel
theorem i261_89 : am_ins 261 89 = some (.bipush 42) := by decide +kernel
theorem i261_91 : am_ins 261 91 = some (.invokevirtual 350) := by decide +kernel
theorem i261_94 : am_ins 261 94 = some (.iinc 1 1) := by decide +kernel
theorem i261_97 : am_ins 261 97 = some (.goto (-81)) := by decide +kernel
theorem i261_100 : am_ins 261 100 = some (.aload_n 0) := by decide +kernel
theorem i261_101 : am_ins 261 101 = some (.getfield 344) := by decide +kernel
theorem i261_104 : am_ins 261 104 = some (.ifCond .ne 9) := by decide +kernel
theorem i261_107 : am_ins 261 107 = some (.aload_n 0) := by decide +kernel
theorem i261_108 : am_ins 261 108 = some (.bipush 45) := by decide +kernel
theorem i261_110 : am_ins 261 110 = some (.invokevirtual 350) := by decide +kernel
theorem i261_113 : am_ins 261 113 = some (.aload_n 0) := by decide +kernel
theorem i261_114 : am_ins 261 114 = some (.getfield 344) := by decide +kernel
theorem i261_117 : am_ins 261 117 = some (.ireturn) := by decide +kernel
theorem i262_0 : am_ins 262 0 = some (.aload_n 0) := by decide +kernel
theorem i262_1 : am_ins 262 1 = some (.getfield 60) := by decide +kernel
theorem i262_4 : am_ins 262 4 = some (.aload_n 0) := by decide +kernel
theorem i262_5 : am_ins 262 5 = some (.getfield 344) := by decide +kernel
theorem i262_8 : am_ins 262 8 = some (.iload_n 1) := by decide +kernel
theorem i262_9 : am_ins 262 9 = some (.iastore) := by decide +kernel
theorem i262_10 : am_ins 262 10 = some (.aload_n 0) := by decide +kernel
theorem i262_11 : am_ins 262 11 = some (.dup) := by decide +kernel
theorem i262_12 : am_ins 262 12 = some (.getfield 344) := by decide +kernel
theorem i262_15 : am_ins 262 15 = some (.iconst 1) := by decide +kernel
theorem i262_16 : am_ins 262 16 = some (.iadd) := by decide +kernel
theorem i262_17 : am_ins 262 17 = some (.putfield 344) := by decide +kernel
theorem i262_20 : am_ins 262 20 = some (.return_) := by decide +kernel
theorem i263_0 : am_ins 263 0 = some (.iload_n 1) := by decide +kernel
theorem i263_1 : am_ins 263 1 = some (.bipush 9) := by decide +kernel
theorem i263_3 : am_ins 263 3 = some (.if_icmp .le 11) := by decide +kernel
theorem i263_6 : am_ins 263 6 = some (.aload_n 0) := by decide +kernel
theorem i263_7 : am_ins 263 7 = some (.iload_n 1) := by decide +kernel
theorem i263_8 : am_ins 263 8 = some (.bipush 10) := by decide +kernel
theorem i263_10 : am_ins 263 10 = some (.idiv) := by decide +kernel
theorem i263_11 : am_ins 263 11 = some (.invokevirtual 347) := by decide +kernel
theorem i263_14 : am_ins 263 14 = some (.aload_n 0) := by decide +kernel
theorem i263_15 : am_ins 263 15 = some (.bipush 48) := by decide +kernel
theorem i263_17 : am_ins 263 17 = some (.iload_n 1) := by decide +kernel
theorem i263_18 : am_ins 263 18 = some (.bipush 10) := by decide +kernel
theorem i263_20 : am_ins 263 20 = some (.irem) := by decide +kernel
theorem i263_21 : am_ins 263 21 = some (.iadd) := by decide +kernel
theorem i263_22 : am_ins 263 22 = some (.invokevirtual 350) := by decide +kernel
theorem i263_25 : am_ins 263 25 = some (.return_) := by decide +kernel
theorem i264_0 : am_ins 264 0 = some (.aload_n 0) := by decide +kernel
theorem i264_1 : am_ins 264 1 = some (.iload_n 1) := by decide +kernel
theorem i264_2 : am_ins 264 2 = some (.invokevirtual 244) := by decide +kernel
theorem i264_5 : am_ins 264 5 = some (.ifCond .eq 5) := by decide +kernel
theorem i264_8 : am_ins 264 8 = some (.iconst 0) := by decide +kernel
theorem i264_9 : am_ins 264 9 = some (.ireturn) := by decide +kernel
theorem i264_10 : am_ins 264 10 = some (.aload_n 0) := by decide +kernel
theorem i264_11 : am_ins 264 11 = some (.iconst 0) := by decide +kernel
theorem i264_12 : am_ins 264 12 = some (.putfield 344) := by decide +kernel
theorem i264_15 : am_ins 264 15 = some (.aload_n 0) := by decide +kernel
theorem i264_16 : am_ins 264 16 = some (.aload_n 0) := by decide +kernel
theorem i264_17 : am_ins 264 17 = some (.iload_n 1) := by decide +kernel
theorem i264_18 : am_ins 264 18 = some (.iconst 0) := by decide +kernel
theorem i264_19 : am_ins 264 19 = some (.invokevirtual 226) := by decide +kernel
theorem i264_22 : am_ins 264 22 = some (.invokevirtual 347) := by decide +kernel
theorem i264_25 : am_ins 264 25 = some (.aload_n 0) := by decide +kernel
theorem i264_26 : am_ins 264 26 = some (.bipush 120) := by decide +kernel
theorem i264_28 : am_ins 264 28 = some (.invokevirtual 350) := by decide +kernel
theorem i264_31 : am_ins 264 31 = some (.aload_n 0) := by decide +kernel
theorem i264_32 : am_ins 264 32 = some (.aload_n 0) := by decide +kernel
theorem i264_33 : am_ins 264 33 = some (.iload_n 1) := by decide +kernel
theorem i264_34 : am_ins 264 34 = some (.iconst 1) := by decide +kernel
theorem i264_35 : am_ins 264 35 = some (.invokevirtual 226) := by decide +kernel
theorem i264_38 : am_ins 264 38 = some (.invokevirtual 347) := by decide +kernel
theorem i264_41 : am_ins 264 41 = some (.aload_n 0) := by decide +kernel
theorem i264_42 : am_ins 264 42 = some (.bipush 32) := by decide +kernel
theorem i264_44 : am_ins 264 44 = some (.invokevirtual 350) := by decide +kernel
theorem i264_47 : am_ins 264 47 = some (.aload_n 0) := by decide +kernel
theorem i264_48 : am_ins 264 48 = some (.aload_n 0) := by decide +kernel
theorem i264_49 : am_ins 264 49 = some (.iload_n 1) := by decide +kernel
theorem i264_50 : am_ins 264 50 = some (.iconst 5) := by decide +kernel
theorem i264_51 : am_ins 264 51 = some (.invokevirtual 226) := by decide +kernel
theorem i264_54 : am_ins 264 54 = some (.invokevirtual 347) := by decide +kernel
theorem i264_57 : am_ins 264 57 = some (.aload_n 0) := by decide +kernel
theorem i264_58 : am_ins 264 58 = some (.bipush 43) := by decide +kernel
theorem i264_60 : am_ins 264 60 = some (.invokevirtual 350) := by decide +kernel
theorem i264_63 : am_ins 264 63 = some (.aload_n 0) := by decide +kernel
theorem i264_64 : am_ins 264 64 = some (.aload_n 0) := by decide +kernel
theorem i264_65 : am_ins 264 65 = some (.iload_n 1) := by decide +kernel
theorem i264_66 : am_ins 264 66 = some (.bipush 6) := by decide +kernel
theorem i264_68 : am_ins 264 68 = some (.invokevirtual 226) := by decide +kernel
theorem i264_71 : am_ins 264 71 = some (.invokevirtual 347) := by decide +kernel
theorem i264_74 : am_ins 264 74 = some (.aload_n 0) := by decide +kernel
theorem i264_75 : am_ins 264 75 = some (.bipush 47) := by decide +kernel
theorem i264_77 : am_ins 264 77 = some (.invokevirtual 350) := by decide +kernel
theorem i264_80 : am_ins 264 80 = some (.aload_n 0) := by decide +kernel
theorem i264_81 : am_ins 264 81 = some (.aload_n 0) := by decide +kernel
theorem i264_82 : am_ins 264 82 = some (.iload_n 1) := by decide +kernel
theorem i264_83 : am_ins 264 83 = some (.iconst 4) := by decide +kernel
theorem i264_84 : am_ins 264 84 = some (.invokevirtual 226) := by decide +kernel
theorem i264_87 : am_ins 264 87 = some (.invokevirtual 347) := by decide +kernel
theorem i264_90 : am_ins 264 90 = some (.aload_n 0) := by decide +kernel
theorem i264_91 : am_ins 264 91 = some (.bipush 32) := by decide +kernel
theorem i264_93 : am_ins 264 93 = some (.invokevirtual 350) := by decide +kernel
theorem i264_96 : am_ins 264 96 = some (.aload_n 0) := by decide +kernel
theorem i264_97 : am_ins 264 97 = some (.bipush 100) := by decide +kernel
theorem i264_99 : am_ins 264 99 = some (.invokevirtual 350) := by decide +kernel
theorem i264_102 : am_ins 264 102 = some (.aload_n 0) := by decide +kernel
theorem i264_103 : am_ins 264 103 = some (.aload_n 0) := by decide +kernel
theorem i264_104 : am_ins 264 104 = some (.iload_n 1) := by decide +kernel
theorem i264_105 : am_ins 264 105 = some (.iconst 3) := by decide +kernel
theorem i264_106 : am_ins 264 106 = some (.invokevirtual 226) := by decide +kernel
theorem i264_109 : am_ins 264 109 = some (.invokevirtual 347) := by decide +kernel
theorem i264_112 : am_ins 264 112 = some (.aload_n 0) := by decide +kernel
theorem i264_113 : am_ins 264 113 = some (.iload_n 1) := by decide +kernel
theorem i264_114 : am_ins 264 114 = some (.bipush 7) := by decide +kernel
theorem i264_116 : am_ins 264 116 = some (.invokevirtual 226) := by decide +kernel
theorem i264_119 : am_ins 264 119 = some (.iconst 1) := by decide +kernel
theorem i264_120 : am_ins 264 120 = some (.if_icmp .ne 33) := by decide +kernel
theorem i264_123 : am_ins 264 123 = some (.aload_n 0) := by decide +kernel
theorem i264_124 : am_ins 264 124 = some (.bipush 32) := by decide +kernel
theorem i264_126 : am_ins 264 126 = some (.invokevirtual 350) := by decide +kernel
theorem i264_129 : am_ins 264 129 = some (.aload_n 0) := by decide +kernel
theorem i264_130 : am_ins 264 130 = some (.bipush 103) := by decide +kernel
theorem i264_132 : am_ins 264 132 = some (.invokevirtual 350) := by decide +kernel
theorem i264_135 : am_ins 264 135 = some (.aload_n 0) := by decide +kernel
theorem i264_136 : am_ins 264 136 = some (.bipush 111) := by decide +kernel
theorem i264_138 : am_ins 264 138 = some (.invokevirtual 350) := by decide +kernel
theorem i264_141 : am_ins 264 141 = some (.aload_n 0) := by decide +kernel
theorem i264_142 : am_ins 264 142 = some (.bipush 110) := by decide +kernel
theorem i264_144 : am_ins 264 144 = some (.invokevirtual 350) := by decide +kernel
theorem i264_147 : am_ins 264 147 = some (.aload_n 0) := by decide +kernel
theorem i264_148 : am_ins 264 148 = some (.bipush 101) := by decide +kernel
theorem i264_150 : am_ins 264 150 = some (.invokevirtual 350) := by decide +kernel
theorem i264_153 : am_ins 264 153 = some (.aload_n 0) := by decide +kernel
theorem i264_154 : am_ins 264 154 = some (.getfield 344) := by decide +kernel
theorem i264_157 : am_ins 264 157 = some (.ireturn) := by decide +kernel
theorem i265_0 : am_ins 265 0 = some (.aload_n 0) := by decide +kernel
theorem i265_1 : am_ins 265 1 = some (.iconst 0) := by decide +kernel
theorem i265_2 : am_ins 265 2 = some (.putfield 63) := by decide +kernel
theorem i265_5 : am_ins 265 5 = some (.aload_n 0) := by decide +kernel
theorem i265_6 : am_ins 265 6 = some (.iload_n 1) := by decide +kernel
theorem i265_7 : am_ins 265 7 = some (.iconst 0) := by decide +kernel
theorem i265_8 : am_ins 265 8 = some (.aload_n 0) := by decide +kernel
theorem i265_9 : am_ins 265 9 = some (.getfield 344) := by decide +kernel
theorem i265_12 : am_ins 265 12 = some (.iconst 1) := by decide +kernel
theorem i265_13 : am_ins 265 13 = some (.isub) := by decide +kernel
theorem i265_14 : am_ins 265 14 = some (.invokestatic 140) := by decide +kernel
theorem i265_17 : am_ins 265 17 = some (.ifCond .ne 7) := by decide +kernel
theorem i265_20 : am_ins 265 20 = some (.iconst 1) := by decide +kernel
theorem i265_21 : am_ins 265 21 = some (.goto 4) := by decide +kernel
theorem i265_24 : am_ins 265 24 = some (.iconst 0) := by decide +kernel
theorem i265_25 : am_ins 265 25 = some (.iconst 1) := by decide +kernel
theorem i265_26 : am_ins 265 26 = some (.invokevirtual 70) := by decide +kernel
theorem i265_29 : am_ins 265 29 = some (.ifCond .eq 7) := by decide +kernel
theorem i265_32 : am_ins 265 32 = some (.iconst 0) := by decide +kernel
theorem i265_33 : am_ins 265 33 = some (.goto 9) := by decide +kernel
theorem i265_36 : am_ins 265 36 = some (.aload_n 0) := by decide +kernel
theorem i265_37 : am_ins 265 37 = some (.getfield 60) := by decide +kernel
theorem i265_40 : am_ins 265 40 = some (.iload_n 1) := by decide +kernel
theorem i265_41 : am_ins 265 41 = some (.iaload) := by decide +kernel
theorem i265_42 : am_ins 265 42 = some (.ireturn) := by decide +kernel
theorem i266_0 : am_ins 266 0 = some (.aload_n 0) := by decide +kernel
theorem i266_1 : am_ins 266 1 = some (.iload_n 1) := by decide +kernel
theorem i266_2 : am_ins 266 2 = some (.invokevirtual 241) := by decide +kernel
theorem i266_5 : am_ins 266 5 = some (.ifCond .ne 36) := by decide +kernel
theorem i266_8 : am_ins 266 8 = some (.aload_n 0) := by decide +kernel
theorem i266_9 : am_ins 266 9 = some (.iload_n 2) := by decide +kernel
theorem i266_10 : am_ins 266 10 = some (.iconst 1) := by decide +kernel
theorem i266_11 : am_ins 266 11 = some (.sipush 200) := by decide +kernel
theorem i266_14 : am_ins 266 14 = some (.invokestatic 140) := by decide +kernel
theorem i266_17 : am_ins 266 17 = some (.ifCond .eq 12) := by decide +kernel
theorem i266_20 : am_ins 266 20 = some (.aload_n 0) := by decide +kernel
theorem i266_21 : am_ins 266 21 = some (.iload_n 1) := by decide +kernel
theorem i266_22 : am_ins 266 22 = some (.iload_n 2) := by decide +kernel
theorem i266_23 : am_ins 266 23 = some (.invokevirtual 259) := by decide +kernel
theorem i266_26 : am_ins 266 26 = some (.ifCond .ne 7) := by decide +kernel
theorem i266_29 : am_ins 266 29 = some (.iconst 1) := by decide +kernel
theorem i266_30 : am_ins 266 30 = some (.goto 4) := by decide +kernel
theorem i266_33 : am_ins 266 33 = some (.iconst 0) := by decide +kernel
theorem i266_34 : am_ins 266 34 = some (.iconst 3) := by decide +kernel
theorem i266_35 : am_ins 266 35 = some (.invokevirtual 70) := by decide +kernel
theorem i266_38 : am_ins 266 38 = some (.ifCond .eq 5) := by decide +kernel
theorem i266_41 : am_ins 266 41 = some (.iconst 0) := by decide +kernel
theorem i266_42 : am_ins 266 42 = some (.ireturn) := by decide +kernel
theorem i266_43 : am_ins 266 43 = some (.aload_n 0) := by decide +kernel
theorem i266_44 : am_ins 266 44 = some (.invokevirtual 353) := by decide +kernel
theorem i266_47 : am_ins 266 47 = some (.aload_n 0) := by decide +kernel
theorem i266_48 : am_ins 266 48 = some (.iload_n 1) := by decide +kernel
theorem i266_49 : am_ins 266 49 = some (.iload_n 2) := by decide +kernel
theorem i266_50 : am_ins 266 50 = some (.invokevirtual 299) := by decide +kernel
theorem i266_53 : am_ins 266 53 = some (.ireturn) := by decide +kernel
theorem i267_0 : am_ins 267 0 = some (.aload_n 0) := by decide +kernel
theorem i267_1 : am_ins 267 1 = some (.getfield 213) := by decide +kernel
theorem i267_4 : am_ins 267 4 = some (.bipush 8) := by decide +kernel
theorem i267_6 : am_ins 267 6 = some (.if_icmp .ne 46) := by decide +kernel
theorem i267_9 : am_ins 267 9 = some (.sipush 983) := by decide +kernel
theorem i267_12 : am_ins 267 12 = some (.istore_n 1) := by decide +kernel
theorem i267_13 : am_ins 267 13 = some (.iload_n 1) := by decide +kernel
theorem i267_14 : am_ins 267 14 = some (.sipush 7864) := by decide +kernel
theorem i267_17 : am_ins 267 17 = some (.if_icmp .ge 25) := by decide +kernel
theorem i267_20 : am_ins 267 20 = some (.aload_n 0) := by decide +kernel
theorem i267_21 : am_ins 267 21 = some (.getfield 25) := by decide +kernel
theorem i267_24 : am_ins 267 24 = some (.iload_n 1) := by decide +kernel
theorem i267_25 : am_ins 267 25 = some (.aload_n 0) := by decide +kernel
theorem i267_26 : am_ins 267 26 = some (.getfield 25) := by decide +kernel
theorem i267_29 : am_ins 267 29 = some (.iload_n 1) := by decide +kernel
theorem i267_30 : am_ins 267 30 = some (.sipush 983) := by decide +kernel
theorem i267_33 : am_ins 267 33 = some (.iadd) := by decide +kernel
theorem i267_34 : am_ins 267 34 = some (.iaload) := by decide +kernel
theorem i267_35 : am_ins 267 35 = some (.iastore) := by decide +kernel
theorem i267_36 : am_ins 267 36 = some (.iinc 1 1) := by decide +kernel
theorem i267_39 : am_ins 267 39 = some (.goto (-26)) := by decide +kernel
theorem i267_42 : am_ins 267 42 = some (.aload_n 0) := by decide +kernel
theorem i267_43 : am_ins 267 43 = some (.dup) := by decide +kernel
theorem i267_44 : am_ins 267 44 = some (.getfield 213) := by decide +kernel
theorem i267_47 : am_ins 267 47 = some (.iconst 1) := by decide +kernel
theorem i267_48 : am_ins 267 48 = some (.isub) := by decide +kernel
theorem i267_49 : am_ins 267 49 = some (.putfield 213) := by decide +kernel
theorem i267_52 : am_ins 267 52 = some (.aload_n 0) := by decide +kernel
theorem i267_53 : am_ins 267 53 = some (.iconst 1) := by decide +kernel
theorem i267_54 : am_ins 267 54 = some (.aload_n 0) := by decide +kernel
theorem i267_55 : am_ins 267 55 = some (.getfield 213) := by decide +kernel
theorem i267_58 : am_ins 267 58 = some (.iadd) := by decide +kernel
theorem i267_59 : am_ins 267 59 = some (.invokevirtual 314) := by decide +kernel
theorem i267_62 : am_ins 267 62 = some (.aload_n 0) := by decide +kernel
theorem i267_63 : am_ins 267 63 = some (.dup) := by decide +kernel
theorem i267_64 : am_ins 267 64 = some (.getfield 213) := by decide +kernel
theorem i267_67 : am_ins 267 67 = some (.iconst 1) := by decide +kernel
theorem i267_68 : am_ins 267 68 = some (.iadd) := by decide +kernel
theorem i267_69 : am_ins 267 69 = some (.putfield 213) := by decide +kernel
theorem i267_72 : am_ins 267 72 = some (.return_) := by decide +kernel
theorem i268_0 : am_ins 268 0 = some (.aload_n 0) := by decide +kernel
theorem i268_1 : am_ins 268 1 = some (.iload_n 1) := by decide +kernel
theorem i268_2 : am_ins 268 2 = some (.iload_n 2) := by decide +kernel
theorem i268_3 : am_ins 268 3 = some (.invokevirtual 271) := by decide +kernel
theorem i268_6 : am_ins 268 6 = some (.ifCond .ne 26) := by decide +kernel
theorem i268_9 : am_ins 268 9 = some (.aload_n 0) := by decide +kernel
theorem i268_10 : am_ins 268 10 = some (.aload_n 0) := by decide +kernel
theorem i268_11 : am_ins 268 11 = some (.iload_n 1) := by decide +kernel
theorem i268_12 : am_ins 268 12 = some (.iload_n 2) := by decide +kernel
theorem i268_13 : am_ins 268 13 = some (.invokevirtual 274) := by decide +kernel
theorem i268_16 : am_ins 268 16 = some (.iconst (-1)) := by decide +kernel
theorem i268_17 : am_ins 268 17 = some (.if_icmp .ne 7) := by decide +kernel
theorem i268_20 : am_ins 268 20 = some (.iconst 1) := by decide +kernel
theorem i268_21 : am_ins 268 21 = some (.goto 4) := by decide +kernel
theorem i268_24 : am_ins 268 24 = some (.iconst 0) := by decide +kernel
theorem i268_25 : am_ins 268 25 = some (.iconst 3) := by decide +kernel
theorem i268_26 : am_ins 268 26 = some (.invokevirtual 70) := by decide +kernel
theorem i268_29 : am_ins 268 29 = some (.ifCond .eq 5) := by decide +kernel
theorem i268_32 : am_ins 268 32 = some (.iconst 0) := by decide +kernel
theorem i268_33 : am_ins 268 33 = some (.ireturn) := by decide +kernel
theorem i268_34 : am_ins 268 34 = some (.aload_n 0) := by decide +kernel
theorem i268_35 : am_ins 268 35 = some (.invokevirtual 353) := by decide +kernel
theorem i268_38 : am_ins 268 38 = some (.aload_n 0) := by decide +kernel
theorem i268_39 : am_ins 268 39 = some (.iload_n 1) := by decide +kernel
theorem i268_40 : am_ins 268 40 = some (.iload_n 2) := by decide +kernel
theorem i268_41 : am_ins 268 41 = some (.invokevirtual 302) := by decide +kernel
theorem i268_44 : am_ins 268 44 = some (.ireturn) := by decide +kernel
theorem i269_0 : am_ins 269 0 = some (.aload_n 0) := by decide +kernel
theorem i269_1 : am_ins 269 1 = some (.iload_n 1) := by decide +kernel
theorem i269_2 : am_ins 269 2 = some (.invokevirtual 326) := by decide +kernel
theorem i269_5 : am_ins 269 5 = some (.ifCond .eq 5) := by decide +kernel
theorem i269_8 : am_ins 269 8 = some (.iconst 0) := by decide +kernel
theorem i269_9 : am_ins 269 9 = some (.ireturn) := by decide +kernel
theorem i269_10 : am_ins 269 10 = some (.aload_n 0) := by decide +kernel
theorem i269_11 : am_ins 269 11 = some (.invokevirtual 353) := by decide +kernel
theorem i269_14 : am_ins 269 14 = some (.aload_n 0) := by decide +kernel
theorem i269_15 : am_ins 269 15 = some (.iload_n 1) := by decide +kernel
theorem i269_16 : am_ins 269 16 = some (.invokevirtual 317) := by decide +kernel
theorem i269_19 : am_ins 269 19 = some (.ireturn) := by decide +kernel
theorem i270_0 : am_ins 270 0 = some (.aload_n 0) := by decide +kernel
theorem i270_1 : am_ins 270 1 = some (.invokevirtual 216) := by decide +kernel
theorem i270_4 : am_ins 270 4 = some (.ifCond .eq 5) := by decide +kernel
theorem i270_7 : am_ins 270 7 = some (.iconst 0) := by decide +kernel
theorem i270_8 : am_ins 270 8 = some (.ireturn) := by decide +kernel
theorem i270_9 : am_ins 270 9 = some (.aload_n 0) := by decide +kernel
theorem i270_10 : am_ins 270 10 = some (.invokevirtual 353) := by decide +kernel
theorem i270_13 : am_ins 270 13 = some (.aload_n 0) := by decide +kernel
theorem i270_14 : am_ins 270 14 = some (.invokevirtual 320) := by decide +kernel
theorem i270_17 : am_ins 270 17 = some (.ireturn) := by decide +kernel
theorem i271_0 : am_ins 271 0 = some (.aload_n 0) := by decide +kernel
theorem i271_1 : am_ins 271 1 = some (.iload_n 1) := by decide +kernel
theorem i271_2 : am_ins 271 2 = some (.invokevirtual 238) := by decide +kernel
theorem i271_5 : am_ins 271 5 = some (.ifCond .ne 27) := by decide +kernel
theorem i271_8 : am_ins 271 8 = some (.aload_n 0) := by decide +kernel
theorem i271_9 : am_ins 271 9 = some (.aload_n 0) := by decide +kernel
theorem i271_10 : am_ins 271 10 = some (.getfield 22) := by decide +kernel
theorem i271_13 : am_ins 271 13 = some (.iconst 3) := by decide +kernel
theorem i271_14 : am_ins 271 14 = some (.iaload) := by decide +kernel
theorem i271_15 : am_ins 271 15 = some (.bipush 40) := by decide +kernel
theorem i271_17 : am_ins 271 17 = some (.if_icmp .ne 7) := by decide +kernel
theorem i271_20 : am_ins 271 20 = some (.iconst 1) := by decide +kernel
theorem i271_21 : am_ins 271 21 = some (.goto 4) := by decide +kernel
theorem i271_24 : am_ins 271 24 = some (.iconst 0) := by decide +kernel
theorem i271_25 : am_ins 271 25 = some (.iconst 3) := by decide +kernel
theorem i271_26 : am_ins 271 26 = some (.invokevirtual 70) := by decide +kernel
theorem i271_29 : am_ins 271 29 = some (.ifCond .eq 5) := by decide +kernel
theorem i271_32 : am_ins 271 32 = some (.iconst 0) := by decide +kernel
theorem i271_33 : am_ins 271 33 = some (.ireturn) := by decide +kernel
theorem i271_34 : am_ins 271 34 = some (.aload_n 0) := by decide +kernel
theorem i271_35 : am_ins 271 35 = some (.invokevirtual 353) := by decide +kernel
theorem i271_38 : am_ins 271 38 = some (.aload_n 0) := by decide +kernel
theorem i271_39 : am_ins 271 39 = some (.iload_n 1) := by decide +kernel
theorem i271_40 : am_ins 271 40 = some (.invokevirtual 335) := by decide +kernel
theorem i271_43 : am_ins 271 43 = some (.aload_n 0) := by decide +kernel
theorem i271_44 : am_ins 271 44 = some (.getfield 22) := by decide +kernel
theorem i271_47 : am_ins 271 47 = some (.bipush 6) := by decide +kernel
theorem i271_49 : am_ins 271 49 = some (.dup2) := by decide +kernel
theorem i271_50 : am_ins 271 50 = some (.iaload) := by decide +kernel
theorem i271_51 : am_ins 271 51 = some (.aload_n 0) := by decide +kernel
theorem i271_52 : am_ins 271 52 = some (.getfield 7) := by decide +kernel
theorem i271_55 : am_ins 271 55 = some (.iload_n 1) := by decide +kernel
theorem i271_56 : am_ins 271 56 = some (.iaload) := by decide +kernel
theorem i271_57 : am_ins 271 57 = some (.aload_n 0) := by decide +kernel
theorem i271_58 : am_ins 271 58 = some (.getfield 13) := by decide +kernel
theorem i271_61 : am_ins 271 61 = some (.iload_n 1) := by decide +kernel
theorem i271_62 : am_ins 271 62 = some (.iaload) := by decide +kernel
theorem i271_63 : am_ins 271 63 = some (.imul) := by decide +kernel
theorem i271_64 : am_ins 271 64 = some (.iadd) := by decide +kernel
theorem i271_65 : am_ins 271 65 = some (.iastore) := by decide +kernel
theorem i271_66 : am_ins 271 66 = some (.aload_n 0) := by decide +kernel
theorem i271_67 : am_ins 271 67 = some (.getfield 22) := by decide +kernel
theorem i271_70 : am_ins 271 70 = some (.iconst 3) := by decide +kernel
theorem i271_71 : am_ins 271 71 = some (.iaload) := by decide +kernel
theorem i271_72 : am_ins 271 72 = some (.iconst 1) := by decide +kernel
theorem i271_73 : am_ins 271 73 = some (.isub) := by decide +kernel
theorem i271_74 : am_ins 271 74 = some (.ireturn) := by decide +kernel
theorem i272_0 : am_ins 272 0 = some (.iload_n 1) := by decide +kernel
theorem i272_1 : am_ins 272 1 = some (.iconst 1) := by decide +kernel
theorem i272_2 : am_ins 272 2 = some (.sipush 200) := by decide +kernel
theorem i272_5 : am_ins 272 5 = some (.invokestatic 140) := by decide +kernel
theorem i272_8 : am_ins 272 8 = some (.ifCond .eq 39) := by decide +kernel
theorem i272_11 : am_ins 272 11 = some (.iload_n 2) := by decide +kernel
theorem i272_12 : am_ins 272 12 = some (.iconst 1) := by decide +kernel
theorem i272_13 : am_ins 272 13 = some (.bipush 9) := by decide +kernel
theorem i272_15 : am_ins 272 15 = some (.invokestatic 140) := by decide +kernel
theorem i272_18 : am_ins 272 18 = some (.ifCond .eq 29) := by decide +kernel
theorem i272_21 : am_ins 272 21 = some (.iload_n 3) := by decide +kernel
theorem i272_22 : am_ins 272 22 = some (.iconst 0) := by decide +kernel
theorem i272_23 : am_ins 272 23 = some (.bipush 99) := by decide +kernel
theorem i272_25 : am_ins 272 25 = some (.invokestatic 140) := by decide +kernel
theorem i272_28 : am_ins 272 28 = some (.ifCond .eq 19) := by decide +kernel
theorem i272_31 : am_ins 272 31 = some (.iload 4) := by decide +kernel
theorem i272_33 : am_ins 272 33 = some (.iconst 0) := by decide +kernel
theorem i272_34 : am_ins 272 34 = some (.sipush 999) := by decide +kernel
theorem i272_37 : am_ins 272 37 = some (.invokestatic 140) := by decide +kernel
theorem i272_40 : am_ins 272 40 = some (.ifCond .eq 7) := by decide +kernel
theorem i272_43 : am_ins 272 43 = some (.iconst 1) := by decide +kernel
theorem i272_44 : am_ins 272 44 = some (.goto 4) := by decide +kernel
theorem i272_47 : am_ins 272 47 = some (.iconst 0) := by decide +kernel
theorem i272_48 : am_ins 272 48 = some (.istore 5) := by decide +kernel
theorem i272_50 : am_ins 272 50 = some (.aload_n 0) := by decide +kernel
theorem i272_51 : am_ins 272 51 = some (.invokevirtual 216) := by decide +kernel
theorem i272_54 : am_ins 272 54 = some (.ifCond .ne 32) := by decide +kernel
theorem i272_57 : am_ins 272 57 = some (.aload_n 0) := by decide +kernel
theorem i272_58 : am_ins 272 58 = some (.aload_n 0) := by decide +kernel
theorem i272_59 : am_ins 272 59 = some (.getfield 22) := by decide +kernel
theorem i272_62 : am_ins 272 62 = some (.iconst 4) := by decide +kernel
theorem i272_63 : am_ins 272 63 = some (.iaload) := by decide +kernel
theorem i272_64 : am_ins 272 64 = some (.bipush 16) := by decide +kernel
theorem i272_66 : am_ins 272 66 = some (.if_icmp .eq 8) := by decide +kernel
theorem i272_69 : am_ins 272 69 = some (.iload 5) := by decide +kernel
theorem i272_71 : am_ins 272 71 = some (.ifCond .ne 7) := by decide +kernel
theorem i272_74 : am_ins 272 74 = some (.iconst 1) := by decide +kernel
theorem i272_75 : am_ins 272 75 = some (.goto 4) := by decide +kernel
theorem i272_78 : am_ins 272 78 = some (.iconst 0) := by decide +kernel
theorem i272_79 : am_ins 272 79 = some (.iconst 2) := by decide +kernel
theorem i272_80 : am_ins 272 80 = some (.invokevirtual 70) := by decide +kernel
theorem i272_83 : am_ins 272 83 = some (.ifCond .eq 5) := by decide +kernel
theorem i272_86 : am_ins 272 86 = some (.iconst 0) := by decide +kernel
theorem i272_87 : am_ins 272 87 = some (.ireturn) := by decide +kernel
theorem i272_88 : am_ins 272 88 = some (.aload_n 0) := by decide +kernel
theorem i272_89 : am_ins 272 89 = some (.invokevirtual 353) := by decide +kernel
theorem i272_92 : am_ins 272 92 = some (.aload_n 0) := by decide +kernel
theorem i272_93 : am_ins 272 93 = some (.getfield 22) := by decide +kernel
theorem i272_96 : am_ins 272 96 = some (.iconst 4) := by decide +kernel
theorem i272_97 : am_ins 272 97 = some (.iaload) := by decide +kernel
theorem i272_98 : am_ins 272 98 = some (.istore 6) := by decide +kernel
theorem i272_100 : am_ins 272 100 = some (.aload_n 0) := by decide +kernel
theorem i272_101 : am_ins 272 101 = some (.getfield 22) := by decide +kernel
theorem i272_104 : am_ins 272 104 = some (.iload_n 1) := by decide +kernel
theorem i272_105 : am_ins 272 105 = some (.iload_n 2) := by decide +kernel
theorem i272_106 : am_ins 272 106 = some (.iload_n 3) := by decide +kernel
theorem i272_107 : am_ins 272 107 = some (.iload 4) := by decide +kernel
theorem i272_109 : am_ins 272 109 = some (.invokestatic 154) := by decide +kernel
theorem i272_112 : am_ins 272 112 = some (.aload_n 0) := by decide +kernel
theorem i272_113 : am_ins 272 113 = some (.getfield 22) := by decide +kernel
theorem i272_116 : am_ins 272 116 = some (.sipush 542) := by decide +kernel
theorem i272_119 : am_ins 272 119 = some (.iload_n 1) := by decide +kernel
theorem i272_120 : am_ins 272 120 = some (.iadd) := by decide +kernel
theorem i272_121 : am_ins 272 121 = some (.iaload) := by decide +kernel
theorem i272_122 : am_ins 272 122 = some (.ifCond .le 35) := by decide +kernel
theorem i272_125 : am_ins 272 125 = some (.aload_n 0) := by decide +kernel
theorem i272_126 : am_ins 272 126 = some (.iload 6) := by decide +kernel
theorem i272_128 : am_ins 272 128 = some (.invokevirtual 232) := by decide +kernel
theorem i272_131 : am_ins 272 131 = some (.ifCond .eq 26) := by decide +kernel
theorem i272_134 : am_ins 272 134 = some (.aload_n 0) := by decide +kernel
theorem i272_135 : am_ins 272 135 = some (.getfield 22) := by decide +kernel
theorem i272_138 : am_ins 272 138 = some (.sipush 542) := by decide +kernel
theorem i272_141 : am_ins 272 141 = some (.iload_n 1) := by decide +kernel
theorem i272_142 : am_ins 272 142 = some (.iadd) := by decide +kernel
theorem i272_143 : am_ins 272 143 = some (.dup2) := by decide +kernel
theorem i272_144 : am_ins 272 144 = some (.iaload) := by decide +kernel
theorem i272_145 : am_ins 272 145 = some (.iconst 1) := by decide +kernel
theorem i272_146 : am_ins 272 146 = some (.isub) := by decide +kernel
theorem i272_147 : am_ins 272 147 = some (.iastore) := by decide +kernel
theorem i272_148 : am_ins 272 148 = some (.aload_n 0) := by decide +kernel
theorem i272_149 : am_ins 272 149 = some (.iload 6) := by decide +kernel
theorem i272_151 : am_ins 272 151 = some (.invokevirtual 296) := by decide +kernel
theorem i272_154 : am_ins 272 154 = some (.goto (-42)) := by decide +kernel
theorem i272_157 : am_ins 272 157 = some (.iload 6) := by decide +kernel
theorem i272_159 : am_ins 272 159 = some (.ireturn) := by decide +kernel
theorem i273_0 : am_ins 273 0 = some (.aload_n 0) := by decide +kernel
theorem i273_1 : am_ins 273 1 = some (.iload_n 1) := by decide +kernel
theorem i273_2 : am_ins 273 2 = some (.invokevirtual 244) := by decide +kernel
theorem i273_5 : am_ins 273 5 = some (.ifCond .ne 24) := by decide +kernel
theorem i273_8 : am_ins 273 8 = some (.aload_n 0) := by decide +kernel
theorem i273_9 : am_ins 273 9 = some (.aload_n 0) := by decide +kernel
theorem i273_10 : am_ins 273 10 = some (.iload_n 1) := by decide +kernel
theorem i273_11 : am_ins 273 11 = some (.invokevirtual 232) := by decide +kernel
theorem i273_14 : am_ins 273 14 = some (.ifCond .ne 7) := by decide +kernel
theorem i273_17 : am_ins 273 17 = some (.iconst 1) := by decide +kernel
theorem i273_18 : am_ins 273 18 = some (.goto 4) := by decide +kernel
theorem i273_21 : am_ins 273 21 = some (.iconst 0) := by decide +kernel
theorem i273_22 : am_ins 273 22 = some (.iconst 3) := by decide +kernel
theorem i273_23 : am_ins 273 23 = some (.invokevirtual 70) := by decide +kernel
theorem i273_26 : am_ins 273 26 = some (.ifCond .eq 5) := by decide +kernel
theorem i273_29 : am_ins 273 29 = some (.iconst 0) := by decide +kernel
theorem i273_30 : am_ins 273 30 = some (.ireturn) := by decide +kernel
theorem i273_31 : am_ins 273 31 = some (.aload_n 0) := by decide +kernel
theorem i273_32 : am_ins 273 32 = some (.invokevirtual 353) := by decide +kernel
theorem i273_35 : am_ins 273 35 = some (.aload_n 0) := by decide +kernel
theorem i273_36 : am_ins 273 36 = some (.iload_n 1) := by decide +kernel
theorem i273_37 : am_ins 273 37 = some (.iconst 4) := by decide +kernel
theorem i273_38 : am_ins 273 38 = some (.invokevirtual 226) := by decide +kernel
theorem i273_41 : am_ins 273 41 = some (.istore_n 2) := by decide +kernel
theorem i273_42 : am_ins 273 42 = some (.aload_n 0) := by decide +kernel
theorem i273_43 : am_ins 273 43 = some (.getfield 22) := by decide +kernel
theorem i273_46 : am_ins 273 46 = some (.sipush 414) := by decide +kernel
theorem i273_49 : am_ins 273 49 = some (.bipush 8) := by decide +kernel
theorem i273_51 : am_ins 273 51 = some (.iload_n 1) := by decide +kernel
theorem i273_52 : am_ins 273 52 = some (.imul) := by decide +kernel
theorem i273_53 : am_ins 273 53 = some (.iadd) := by decide +kernel
theorem i273_54 : am_ins 273 54 = some (.iconst 4) := by decide +kernel
theorem i273_55 : am_ins 273 55 = some (.iadd) := by decide +kernel
theorem i273_56 : am_ins 273 56 = some (.iconst 0) := by decide +kernel
theorem i273_57 : am_ins 273 57 = some (.iastore) := by decide +kernel
theorem i273_58 : am_ins 273 58 = some (.aload_n 0) := by decide +kernel
theorem i273_59 : am_ins 273 59 = some (.getfield 22) := by decide +kernel
theorem i273_62 : am_ins 273 62 = some (.sipush 414) := by decide +kernel
theorem i273_65 : am_ins 273 65 = some (.bipush 8) := by decide +kernel
theorem i273_67 : am_ins 273 67 = some (.iload_n 1) := by decide +kernel
theorem i273_68 : am_ins 273 68 = some (.imul) := by decide +kernel
theorem i273_69 : am_ins 273 69 = some (.iadd) := by decide +kernel
theorem i273_70 : am_ins 273 70 = some (.bipush 7) := by decide +kernel
theorem i273_72 : am_ins 273 72 = some (.iadd) := by decide +kernel
theorem i273_73 : am_ins 273 73 = some (.iconst 1) := by decide +kernel
theorem i273_74 : am_ins 273 74 = some (.iastore) := by decide +kernel
theorem i273_75 : am_ins 273 75 = some (.iload_n 2) := by decide +kernel
theorem i273_76 : am_ins 273 76 = some (.ireturn) := by decide +kernel
theorem i274_0 : am_ins 274 0 = some (.aload_n 0) := by decide +kernel
theorem i274_1 : am_ins 274 1 = some (.iload_n 1) := by decide +kernel
theorem i274_2 : am_ins 274 2 = some (.invokevirtual 241) := by decide +kernel
theorem i274_5 : am_ins 274 5 = some (.ifCond .ne 24) := by decide +kernel
theorem i274_8 : am_ins 274 8 = some (.aload_n 0) := by decide +kernel
theorem i274_9 : am_ins 274 9 = some (.aload_n 0) := by decide +kernel
theorem i274_10 : am_ins 274 10 = some (.iload_n 1) := by decide +kernel
theorem i274_11 : am_ins 274 11 = some (.invokevirtual 229) := by decide +kernel
theorem i274_14 : am_ins 274 14 = some (.ifCond .ne 7) := by decide +kernel
theorem i274_17 : am_ins 274 17 = some (.iconst 1) := by decide +kernel
theorem i274_18 : am_ins 274 18 = some (.goto 4) := by decide +kernel
theorem i274_21 : am_ins 274 21 = some (.iconst 0) := by decide +kernel
theorem i274_22 : am_ins 274 22 = some (.iconst 3) := by decide +kernel
theorem i274_23 : am_ins 274 23 = some (.invokevirtual 70) := by decide +kernel
theorem i274_26 : am_ins 274 26 = some (.ifCond .eq 5) := by decide +kernel
theorem i274_29 : am_ins 274 29 = some (.iconst 0) := by decide +kernel
theorem i274_30 : am_ins 274 30 = some (.ireturn) := by decide +kernel
theorem i274_31 : am_ins 274 31 = some (.aload_n 0) := by decide +kernel
theorem i274_32 : am_ins 274 32 = some (.invokevirtual 353) := by decide +kernel
theorem i274_35 : am_ins 274 35 = some (.aload_n 0) := by decide +kernel
theorem i274_36 : am_ins 274 36 = some (.iload_n 1) := by decide +kernel
theorem i274_37 : am_ins 274 37 = some (.invokevirtual 311) := by decide +kernel
theorem i274_40 : am_ins 274 40 = some (.ireturn) := by decide +kernel
theorem i275_0 : am_ins 275 0 = some (.aload_n 0) := by decide +kernel
theorem i275_1 : am_ins 275 1 = some (.invokevirtual 216) := by decide +kernel
theorem i275_4 : am_ins 275 4 = some (.ifCond .ne 45) := by decide +kernel
theorem i275_7 : am_ins 275 7 = some (.aload_n 0) := by decide +kernel
theorem i275_8 : am_ins 275 8 = some (.iload_n 1) := by decide +kernel
theorem i275_9 : am_ins 275 9 = some (.iconst 0) := by decide +kernel
theorem i275_10 : am_ins 275 10 = some (.iconst 1) := by decide +kernel
theorem i275_11 : am_ins 275 11 = some (.invokestatic 140) := by decide +kernel
theorem i275_14 : am_ins 275 14 = some (.ifCond .eq 23) := by decide +kernel
theorem i275_17 : am_ins 275 17 = some (.iload_n 2) := by decide +kernel
theorem i275_18 : am_ins 275 18 = some (.iload_n 1) := by decide +kernel
theorem i275_19 : am_ins 275 19 = some (.iload_n 1) := by decide +kernel
theorem i275_20 : am_ins 275 20 = some (.ifCond .ne 8) := by decide +kernel
theorem i275_23 : am_ins 275 23 = some (.bipush 9) := by decide +kernel
theorem i275_25 : am_ins 275 25 = some (.goto 6) := by decide +kernel
theorem i275_28 : am_ins 275 28 = some (.sipush 200) := by decide +kernel
theorem i275_31 : am_ins 275 31 = some (.invokestatic 140) := by decide +kernel
theorem i275_34 : am_ins 275 34 = some (.ifCond .ne 7) := by decide +kernel
theorem i275_37 : am_ins 275 37 = some (.iconst 1) := by decide +kernel
theorem i275_38 : am_ins 275 38 = some (.goto 4) := by decide +kernel
theorem i275_41 : am_ins 275 41 = some (.iconst 0) := by decide +kernel
theorem i275_42 : am_ins 275 42 = some (.iconst 2) := by decide +kernel
theorem i275_43 : am_ins 275 43 = some (.invokevirtual 70) := by decide +kernel
theorem i275_46 : am_ins 275 46 = some (.ifCond .eq 5) := by decide +kernel
theorem i275_49 : am_ins 275 49 = some (.iconst 0) := by decide +kernel
theorem i275_50 : am_ins 275 50 = some (.ireturn) := by decide +kernel
theorem i275_51 : am_ins 275 51 = some (.aload_n 0) := by decide +kernel
theorem i275_52 : am_ins 275 52 = some (.invokevirtual 353) := by decide +kernel
theorem i275_55 : am_ins 275 55 = some (.aload_n 0) := by decide +kernel
theorem i275_56 : am_ins 275 56 = some (.getfield 22) := by decide +kernel
theorem i275_59 : am_ins 275 59 = some (.iconst 1) := by decide +kernel
theorem i275_60 : am_ins 275 60 = some (.iload_n 1) := by decide +kernel
theorem i275_61 : am_ins 275 61 = some (.iadd) := by decide +kernel
theorem i275_62 : am_ins 275 62 = some (.iaload) := by decide +kernel
theorem i275_63 : am_ins 275 63 = some (.istore_n 3) := by decide +kernel
theorem i275_64 : am_ins 275 64 = some (.aload_n 0) := by decide +kernel
theorem i275_65 : am_ins 275 65 = some (.getfield 22) := by decide +kernel
theorem i275_68 : am_ins 275 68 = some (.iconst 1) := by decide +kernel
theorem i275_69 : am_ins 275 69 = some (.iload_n 1) := by decide +kernel
theorem i275_70 : am_ins 275 70 = some (.iadd) := by decide +kernel
theorem i275_71 : am_ins 275 71 = some (.iload_n 2) := by decide +kernel
theorem i275_72 : am_ins 275 72 = some (.iastore) := by decide +kernel
theorem i275_73 : am_ins 275 73 = some (.iload_n 3) := by decide +kernel
theorem i275_74 : am_ins 275 74 = some (.ireturn) := by decide +kernel
theorem i276_0 : am_ins 276 0 = some (.aload_n 0) := by decide +kernel
theorem i276_1 : am_ins 276 1 = some (.iconst 0) := by decide +kernel
theorem i276_2 : am_ins 276 2 = some (.putfield 63) := by decide +kernel
theorem i276_5 : am_ins 276 5 = some (.aload_n 0) := by decide +kernel
theorem i276_6 : am_ins 276 6 = some (.aload_n 0) := by decide +kernel
theorem i276_7 : am_ins 276 7 = some (.getfield 213) := by decide +kernel
theorem i276_10 : am_ins 276 10 = some (.ifCond .ne 7) := by decide +kernel
theorem i276_13 : am_ins 276 13 = some (.iconst 1) := by decide +kernel
theorem i276_14 : am_ins 276 14 = some (.goto 4) := by decide +kernel
theorem i276_17 : am_ins 276 17 = some (.iconst 0) := by decide +kernel
theorem i276_18 : am_ins 276 18 = some (.iconst 1) := by decide +kernel
theorem i276_19 : am_ins 276 19 = some (.invokevirtual 70) := by decide +kernel
theorem i276_22 : am_ins 276 22 = some (.ifCond .eq 5) := by decide +kernel
theorem i276_25 : am_ins 276 25 = some (.iconst 0) := by decide +kernel
theorem i276_26 : am_ins 276 26 = some (.ireturn) := by decide +kernel
theorem i276_27 : am_ins 276 27 = some (.aload_n 0) := by decide +kernel
theorem i276_28 : am_ins 276 28 = some (.dup) := by decide +kernel
theorem i276_29 : am_ins 276 29 = some (.getfield 213) := by decide +kernel
theorem i276_32 : am_ins 276 32 = some (.iconst 1) := by decide +kernel
theorem i276_33 : am_ins 276 33 = some (.isub) := by decide +kernel
theorem i276_34 : am_ins 276 34 = some (.putfield 213) := by decide +kernel
theorem i276_37 : am_ins 276 37 = some (.aload_n 0) := by decide +kernel
theorem i276_38 : am_ins 276 38 = some (.iconst 1) := by decide +kernel
theorem i276_39 : am_ins 276 39 = some (.aload_n 0) := by decide +kernel
theorem i276_40 : am_ins 276 40 = some (.getfield 213) := by decide +kernel
theorem i276_43 : am_ins 276 43 = some (.iadd) := by decide +kernel
theorem i276_44 : am_ins 276 44 = some (.invokevirtual 323) := by decide +kernel
theorem i276_47 : am_ins 276 47 = some (.aload_n 0) := by decide +kernel
theorem i276_48 : am_ins 276 48 = some (.getfield 213) := by decide +kernel
theorem i276_51 : am_ins 276 51 = some (.ireturn) := by decide +kernel
theorem i277_0 : am_ins 277 0 = some (.aload_n 0) := by decide +kernel
theorem i277_1 : am_ins 277 1 = some (.invokevirtual 216) := by decide +kernel
theorem i277_4 : am_ins 277 4 = some (.ifCond .ne 25) := by decide +kernel
theorem i277_7 : am_ins 277 7 = some (.aload_n 0) := by decide +kernel
theorem i277_8 : am_ins 277 8 = some (.iload_n 1) := by decide +kernel
theorem i277_9 : am_ins 277 9 = some (.iconst 0) := by decide +kernel
theorem i277_10 : am_ins 277 10 = some (.iconst 1) := by decide +kernel
theorem i277_11 : am_ins 277 11 = some (.invokestatic 140) := by decide +kernel
theorem i277_14 : am_ins 277 14 = some (.ifCond .ne 7) := by decide +kernel
theorem i277_17 : am_ins 277 17 = some (.iconst 1) := by decide +kernel
theorem i277_18 : am_ins 277 18 = some (.goto 4) := by decide +kernel
theorem i277_21 : am_ins 277 21 = some (.iconst 0) := by decide +kernel
theorem i277_22 : am_ins 277 22 = some (.iconst 2) := by decide +kernel
theorem i277_23 : am_ins 277 23 = some (.invokevirtual 70) := by decide +kernel
theorem i277_26 : am_ins 277 26 = some (.ifCond .eq 5) := by decide +kernel
theorem i277_29 : am_ins 277 29 = some (.iconst 0) := by decide +kernel
theorem i277_30 : am_ins 277 30 = some (.ireturn) := by decide +kernel
theorem i277_31 : am_ins 277 31 = some (.aload_n 0) := by decide +kernel
theorem i277_32 : am_ins 277 32 = some (.bipush 9) := by decide +kernel
theorem i277_34 : am_ins 277 34 = some (.iload_n 1) := by decide +kernel
theorem i277_35 : am_ins 277 35 = some (.iadd) := by decide +kernel
theorem i277_36 : am_ins 277 36 = some (.invokevirtual 314) := by decide +kernel
theorem i277_39 : am_ins 277 39 = some (.aload_n 0) := by decide +kernel
theorem i277_40 : am_ins 277 40 = some (.getfield 28) := by decide +kernel
theorem i277_43 : am_ins 277 43 = some (.iload_n 1) := by decide +kernel
theorem i277_44 : am_ins 277 44 = some (.iconst 1) := by decide +kernel
theorem i277_45 : am_ins 277 45 = some (.bastore) := by decide +kernel
theorem i277_46 : am_ins 277 46 = some (.aload_n 0) := by decide +kernel
theorem i277_47 : am_ins 277 47 = some (.getfield 22) := by decide +kernel
theorem i277_50 : am_ins 277 50 = some (.iconst 0) := by decide +kernel
theorem i277_51 : am_ins 277 51 = some (.iaload) := by decide +kernel
theorem i277_52 : am_ins 277 52 = some (.ireturn) := by decide +kernel
theorem i278_0 : am_ins 278 0 = some (.aload_n 0) := by decide +kernel
theorem i278_1 : am_ins 278 1 = some (.iconst 0) := by decide +kernel
theorem i278_2 : am_ins 278 2 = some (.putfield 63) := by decide +kernel
theorem i278_5 : am_ins 278 5 = some (.aload_n 0) := by decide +kernel
theorem i278_6 : am_ins 278 6 = some (.iload_n 1) := by decide +kernel
theorem i278_7 : am_ins 278 7 = some (.iconst 0) := by decide +kernel
theorem i278_8 : am_ins 278 8 = some (.iconst 1) := by decide +kernel
theorem i278_9 : am_ins 278 9 = some (.invokestatic 140) := by decide +kernel
theorem i278_12 : am_ins 278 12 = some (.ifCond .ne 7) := by decide +kernel
theorem i278_15 : am_ins 278 15 = some (.iconst 1) := by decide +kernel
theorem i278_16 : am_ins 278 16 = some (.goto 4) := by decide +kernel
theorem i278_19 : am_ins 278 19 = some (.iconst 0) := by decide +kernel
theorem i278_20 : am_ins 278 20 = some (.iconst 1) := by decide +kernel
theorem i278_21 : am_ins 278 21 = some (.invokevirtual 70) := by decide +kernel
theorem i278_24 : am_ins 278 24 = some (.ifCond .ne 25) := by decide +kernel
theorem i278_27 : am_ins 278 27 = some (.aload_n 0) := by decide +kernel
theorem i278_28 : am_ins 278 28 = some (.aload_n 0) := by decide +kernel
theorem i278_29 : am_ins 278 29 = some (.getfield 28) := by decide +kernel
theorem i278_32 : am_ins 278 32 = some (.iload_n 1) := by decide +kernel
theorem i278_33 : am_ins 278 33 = some (.baload) := by decide +kernel
theorem i278_34 : am_ins 278 34 = some (.ifCond .ne 7) := by decide +kernel
theorem i278_37 : am_ins 278 37 = some (.iconst 1) := by decide +kernel
theorem i278_38 : am_ins 278 38 = some (.goto 4) := by decide +kernel
theorem i278_41 : am_ins 278 41 = some (.iconst 0) := by decide +kernel
theorem i278_42 : am_ins 278 42 = some (.iconst 2) := by decide +kernel
theorem i278_43 : am_ins 278 43 = some (.invokevirtual 70) := by decide +kernel
theorem i278_46 : am_ins 278 46 = some (.ifCond .eq 5) := by decide +kernel
theorem i278_49 : am_ins 278 49 = some (.iconst 0) := by decide +kernel
theorem i278_50 : am_ins 278 50 = some (.ireturn) := by decide +kernel
theorem i278_51 : am_ins 278 51 = some (.aload_n 0) := by decide +kernel
theorem i278_52 : am_ins 278 52 = some (.bipush 9) := by decide +kernel
theorem i278_54 : am_ins 278 54 = some (.iload_n 1) := by decide +kernel
theorem i278_55 : am_ins 278 55 = some (.iadd) := by decide +kernel
theorem i278_56 : am_ins 278 56 = some (.invokevirtual 323) := by decide +kernel
theorem i278_59 : am_ins 278 59 = some (.aload_n 0) := by decide +kernel
theorem i278_60 : am_ins 278 60 = some (.iconst 0) := by decide +kernel
theorem i278_61 : am_ins 278 61 = some (.putfield 213) := by decide +kernel
theorem i278_64 : am_ins 278 64 = some (.aload_n 0) := by decide +kernel
theorem i278_65 : am_ins 278 65 = some (.getfield 22) := by decide +kernel
theorem i278_68 : am_ins 278 68 = some (.iconst 0) := by decide +kernel
theorem i278_69 : am_ins 278 69 = some (.iaload) := by decide +kernel
theorem i278_70 : am_ins 278 70 = some (.ireturn) := by decide +kernel
theorem i279_0 : am_ins 279 0 = some (.aload_n 2) := by decide +kernel
theorem i279_1 : am_ins 279 1 = some (.iconst 0) := by decide +kernel
theorem i279_2 : am_ins 279 2 = some (.aload_n 0) := by decide +kernel
theorem i279_3 : am_ins 279 3 = some (.iload_n 1) := by decide +kernel
theorem i279_4 : am_ins 279 4 = some (.invokevirtual 7) := by decide +kernel
theorem i279_7 : am_ins 279 7 = some (.i2l) := by decide +kernel
theorem i279_8 : am_ins 279 8 = some (.lastore) := by decide +kernel
theorem i279_9 : am_ins 279 9 = some (.goto 9) := by decide +kernel
theorem i279_12 : am_ins 279 12 = some (.astore_n 3) := by decide +kernel
theorem i279_13 : am_ins 279 13 = some (.iconst 1) := by decide +kernel
theorem i279_14 : am_ins 279 14 = some (.ireturn) := by decide +kernel
theorem i279_15 : am_ins 279 15 = some (.astore_n 3) := by decide +kernel
theorem i279_16 : am_ins 279 16 = some (.iconst 2) := by decide +kernel
theorem i279_17 : am_ins 279 17 = some (.ireturn) := by decide +kernel
theorem i279_18 : am_ins 279 18 = some (.iconst 0) := by decide +kernel
theorem i279_19 : am_ins 279 19 = some (.ireturn) := by decide +kernel
theorem i280_0 : am_ins 280 0 = some (.aload_n 2) := by decide +kernel
theorem i280_1 : am_ins 280 1 = some (.iconst 0) := by decide +kernel
theorem i280_2 : am_ins 280 2 = some (.aload_n 0) := by decide +kernel
theorem i280_3 : am_ins 280 3 = some (.iload_n 1) := by decide +kernel
theorem i280_4 : am_ins 280 4 = some (.invokevirtual 17) := by decide +kernel
theorem i280_7 : am_ins 280 7 = some (.i2l) := by decide +kernel
theorem i280_8 : am_ins 280 8 = some (.lastore) := by decide +kernel
theorem i280_9 : am_ins 280 9 = some (.goto 9) := by decide +kernel
theorem i280_12 : am_ins 280 12 = some (.astore_n 3) := by decide +kernel
theorem i280_13 : am_ins 280 13 = some (.iconst 1) := by decide +kernel
theorem i280_14 : am_ins 280 14 = some (.ireturn) := by decide +kernel
theorem i280_15 : am_ins 280 15 = some (.astore_n 3) := by decide +kernel
theorem i280_16 : am_ins 280 16 = some (.iconst 2) := by decide +kernel
theorem i280_17 : am_ins 280 17 = some (.ireturn) := by decide +kernel
theorem i280_18 : am_ins 280 18 = some (.iconst 0) := by decide +kernel
theorem i280_19 : am_ins 280 19 = some (.ireturn) := by decide +kernel
theorem i281_0 : am_ins 281 0 = some (.aload_n 3) := by decide +kernel
theorem i281_1 : am_ins 281 1 = some (.iconst 0) := by decide +kernel
theorem i281_2 : am_ins 281 2 = some (.aload_n 0) := by decide +kernel
theorem i281_3 : am_ins 281 3 = some (.iload_n 1) := by decide +kernel
theorem i281_4 : am_ins 281 4 = some (.iload_n 2) := by decide +kernel
theorem i281_5 : am_ins 281 5 = some (.invokevirtual 22) := by decide +kernel
theorem i281_8 : am_ins 281 8 = some (.i2l) := by decide +kernel
theorem i281_9 : am_ins 281 9 = some (.lastore) := by decide +kernel
theorem i281_10 : am_ins 281 10 = some (.goto 11) := by decide +kernel
theorem i281_13 : am_ins 281 13 = some (.astore 4) := by decide +kernel
theorem i281_15 : am_ins 281 15 = some (.iconst 1) := by decide +kernel
theorem i281_16 : am_ins 281 16 = some (.ireturn) := by decide +kernel
theorem i281_17 : am_ins 281 17 = some (.astore 4) := by decide +kernel
theorem i281_19 : am_ins 281 19 = some (.iconst 2) := by decide +kernel
theorem i281_20 : am_ins 281 20 = some (.ireturn) := by decide +kernel
theorem i281_21 : am_ins 281 21 = some (.iconst 0) := by decide +kernel
theorem i281_22 : am_ins 281 22 = some (.ireturn) := by decide +kernel
theorem i282_0 : am_ins 282 0 = some (.aload_n 3) := by decide +kernel
theorem i282_1 : am_ins 282 1 = some (.iconst 0) := by decide +kernel
theorem i282_2 : am_ins 282 2 = some (.aload_n 0) := by decide +kernel
theorem i282_3 : am_ins 282 3 = some (.iload_n 1) := by decide +kernel
theorem i282_4 : am_ins 282 4 = some (.iload_n 2) := by decide +kernel
theorem i282_5 : am_ins 282 5 = some (.invokevirtual 26) := by decide +kernel
theorem i282_8 : am_ins 282 8 = some (.i2l) := by decide +kernel
theorem i282_9 : am_ins 282 9 = some (.lastore) := by decide +kernel
theorem i282_10 : am_ins 282 10 = some (.goto 15) := by decide +kernel
theorem i282_13 : am_ins 282 13 = some (.astore 4) := by decide +kernel
theorem i282_15 : am_ins 282 15 = some (.iconst 1) := by decide +kernel
theorem i282_16 : am_ins 282 16 = some (.ireturn) := by decide +kernel
theorem i282_17 : am_ins 282 17 = some (.astore 4) := by decide +kernel
theorem i282_19 : am_ins 282 19 = some (.iconst 2) := by decide +kernel
theorem i282_20 : am_ins 282 20 = some (.ireturn) := by decide +kernel
theorem i282_21 : am_ins 282 21 = some (.astore 4) := by decide +kernel
theorem i282_23 : am_ins 282 23 = some (.iconst 3) := by decide +kernel
theorem i282_24 : am_ins 282 24 = some (.ireturn) := by decide +kernel
theorem i282_25 : am_ins 282 25 = some (.iconst 0) := by decide +kernel
theorem i282_26 : am_ins 282 26 = some (.ireturn) := by decide +kernel
theorem i283_0 : am_ins 283 0 = some (.aload_n 3) := by decide +kernel
theorem i283_1 : am_ins 283 1 = some (.iconst 0) := by decide +kernel
theorem i283_2 : am_ins 283 2 = some (.aload_n 0) := by decide +kernel
theorem i283_3 : am_ins 283 3 = some (.iload_n 1) := by decide +kernel
theorem i283_4 : am_ins 283 4 = some (.iload_n 2) := by decide +kernel
theorem i283_5 : am_ins 283 5 = some (.invokevirtual 30) := by decide +kernel
theorem i283_8 : am_ins 283 8 = some (.i2l) := by decide +kernel
theorem i283_9 : am_ins 283 9 = some (.lastore) := by decide +kernel
theorem i283_10 : am_ins 283 10 = some (.goto 15) := by decide +kernel
theorem i283_13 : am_ins 283 13 = some (.astore 4) := by decide +kernel
theorem i283_15 : am_ins 283 15 = some (.iconst 1) := by decide +kernel
theorem i283_16 : am_ins 283 16 = some (.ireturn) := by decide +kernel
theorem i283_17 : am_ins 283 17 = some (.astore 4) := by decide +kernel
theorem i283_19 : am_ins 283 19 = some (.iconst 2) := by decide +kernel
theorem i283_20 : am_ins 283 20 = some (.ireturn) := by decide +kernel
theorem i283_21 : am_ins 283 21 = some (.astore 4) := by decide +kernel
theorem i283_23 : am_ins 283 23 = some (.iconst 3) := by decide +kernel
theorem i283_24 : am_ins 283 24 = some (.ireturn) := by decide +kernel
theorem i283_25 : am_ins 283 25 = some (.iconst 0) := by decide +kernel
theorem i283_26 : am_ins 283 26 = some (.ireturn) := by decide +kernel
theorem i284_0 : am_ins 284 0 = some (.aload_n 2) := by decide +kernel
theorem i284_1 : am_ins 284 1 = some (.iconst 0) := by decide +kernel
theorem i284_2 : am_ins 284 2 = some (.aload_n 0) := by decide +kernel
theorem i284_3 : am_ins 284 3 = some (.iload_n 1) := by decide +kernel
theorem i284_4 : am_ins 284 4 = some (.invokevirtual 33) := by decide +kernel
theorem i284_7 : am_ins 284 7 = some (.i2l) := by decide +kernel
theorem i284_8 : am_ins 284 8 = some (.lastore) := by decide +kernel
theorem i284_9 : am_ins 284 9 = some (.goto 9) := by decide +kernel
theorem i284_12 : am_ins 284 12 = some (.astore_n 3) := by decide +kernel
theorem i284_13 : am_ins 284 13 = some (.iconst 1) := by decide +kernel
theorem i284_14 : am_ins 284 14 = some (.ireturn) := by decide +kernel
theorem i284_15 : am_ins 284 15 = some (.astore_n 3) := by decide +kernel
theorem i284_16 : am_ins 284 16 = some (.iconst 2) := by decide +kernel
theorem i284_17 : am_ins 284 17 = some (.ireturn) := by decide +kernel
theorem i284_18 : am_ins 284 18 = some (.iconst 0) := by decide +kernel
theorem i284_19 : am_ins 284 19 = some (.ireturn) := by decide +kernel
theorem i285_0 : am_ins 285 0 = some (.aload_n 3) := by decide +kernel
theorem i285_1 : am_ins 285 1 = some (.iconst 0) := by decide +kernel
theorem i285_2 : am_ins 285 2 = some (.aload_n 0) := by decide +kernel
theorem i285_3 : am_ins 285 3 = some (.iload_n 1) := by decide +kernel
theorem i285_4 : am_ins 285 4 = some (.iload_n 2) := by decide +kernel
theorem i285_5 : am_ins 285 5 = some (.invokevirtual 36) := by decide +kernel
theorem i285_8 : am_ins 285 8 = some (.i2l) := by decide +kernel
theorem i285_9 : am_ins 285 9 = some (.lastore) := by decide +kernel
theorem i285_10 : am_ins 285 10 = some (.goto 11) := by decide +kernel
theorem i285_13 : am_ins 285 13 = some (.astore 4) := by decide +kernel
theorem i285_15 : am_ins 285 15 = some (.iconst 1) := by decide +kernel
theorem i285_16 : am_ins 285 16 = some (.ireturn) := by decide +kernel
theorem i285_17 : am_ins 285 17 = some (.astore 4) := by decide +kernel
theorem i285_19 : am_ins 285 19 = some (.iconst 2) := by decide +kernel
theorem i285_20 : am_ins 285 20 = some (.ireturn) := by decide +kernel
theorem i285_21 : am_ins 285 21 = some (.iconst 0) := by decide +kernel
theorem i285_22 : am_ins 285 22 = some (.ireturn) := by decide +kernel
theorem i286_0 : am_ins 286 0 = some (.aload_n 2) := by decide +kernel
theorem i286_1 : am_ins 286 1 = some (.iconst 0) := by decide +kernel
theorem i286_2 : am_ins 286 2 = some (.aload_n 0) := by decide +kernel
theorem i286_3 : am_ins 286 3 = some (.iload_n 1) := by decide +kernel
theorem i286_4 : am_ins 286 4 = some (.invokevirtual 39) := by decide +kernel
theorem i286_7 : am_ins 286 7 = some (.i2l) := by decide +kernel
theorem i286_8 : am_ins 286 8 = some (.lastore) := by decide +kernel
theorem i286_9 : am_ins 286 9 = some (.goto 9) := by decide +kernel
theorem i286_12 : am_ins 286 12 = some (.astore_n 3) := by decide +kernel
theorem i286_13 : am_ins 286 13 = some (.iconst 1) := by decide +kernel
theorem i286_14 : am_ins 286 14 = some (.ireturn) := by decide +kernel
theorem i286_15 : am_ins 286 15 = some (.astore_n 3) := by decide +kernel
theorem i286_16 : am_ins 286 16 = some (.iconst 2) := by decide +kernel
theorem i286_17 : am_ins 286 17 = some (.ireturn) := by decide +kernel
theorem i286_18 : am_ins 286 18 = some (.iconst 0) := by decide +kernel
theorem i286_19 : am_ins 286 19 = some (.ireturn) := by decide +kernel
theorem i287_0 : am_ins 287 0 = some (.aload_n 1) := by decide +kernel
theorem i287_1 : am_ins 287 1 = some (.iconst 0) := by decide +kernel
theorem i287_2 : am_ins 287 2 = some (.aload_n 0) := by decide +kernel
theorem i287_3 : am_ins 287 3 = some (.invokevirtual 42) := by decide +kernel
theorem i287_6 : am_ins 287 6 = some (.i2l) := by decide +kernel
theorem i287_7 : am_ins 287 7 = some (.lastore) := by decide +kernel
theorem i287_8 : am_ins 287 8 = some (.goto 6) := by decide +kernel
theorem i287_11 : am_ins 287 11 = some (.astore_n 2) := by decide +kernel
theorem i287_12 : am_ins 287 12 = some (.iconst 1) := by decide +kernel
theorem i287_13 : am_ins 287 13 = some (.ireturn) := by decide +kernel
theorem i287_14 : am_ins 287 14 = some (.iconst 0) := by decide +kernel
theorem i287_15 : am_ins 287 15 = some (.ireturn) := by decide +kernel
theorem i288_0 : am_ins 288 0 = some (.aload_n 2) := by decide +kernel
theorem i288_1 : am_ins 288 1 = some (.iconst 0) := by decide +kernel
theorem i288_2 : am_ins 288 2 = some (.aload_n 0) := by decide +kernel
theorem i288_3 : am_ins 288 3 = some (.iload_n 1) := by decide +kernel
theorem i288_4 : am_ins 288 4 = some (.invokevirtual 46) := by decide +kernel
theorem i288_7 : am_ins 288 7 = some (.i2l) := by decide +kernel
theorem i288_8 : am_ins 288 8 = some (.lastore) := by decide +kernel
theorem i288_9 : am_ins 288 9 = some (.goto 9) := by decide +kernel
theorem i288_12 : am_ins 288 12 = some (.astore_n 3) := by decide +kernel
theorem i288_13 : am_ins 288 13 = some (.iconst 1) := by decide +kernel
theorem i288_14 : am_ins 288 14 = some (.ireturn) := by decide +kernel
theorem i288_15 : am_ins 288 15 = some (.astore_n 3) := by decide +kernel
theorem i288_16 : am_ins 288 16 = some (.iconst 2) := by decide +kernel
theorem i288_17 : am_ins 288 17 = some (.ireturn) := by decide +kernel
theorem i288_18 : am_ins 288 18 = some (.iconst 0) := by decide +kernel
theorem i288_19 : am_ins 288 19 = some (.ireturn) := by decide +kernel
theorem i289_0 : am_ins 289 0 = some (.aload_n 2) := by decide +kernel
theorem i289_1 : am_ins 289 1 = some (.iconst 0) := by decide +kernel
theorem i289_2 : am_ins 289 2 = some (.aload_n 0) := by decide +kernel
theorem i289_3 : am_ins 289 3 = some (.iload_n 1) := by decide +kernel
theorem i289_4 : am_ins 289 4 = some (.invokevirtual 49) := by decide +kernel
theorem i289_7 : am_ins 289 7 = some (.i2l) := by decide +kernel
theorem i289_8 : am_ins 289 8 = some (.lastore) := by decide +kernel
theorem i289_9 : am_ins 289 9 = some (.goto 9) := by decide +kernel
theorem i289_12 : am_ins 289 12 = some (.astore_n 3) := by decide +kernel
theorem i289_13 : am_ins 289 13 = some (.iconst 1) := by decide +kernel
theorem i289_14 : am_ins 289 14 = some (.ireturn) := by decide +kernel
theorem i289_15 : am_ins 289 15 = some (.astore_n 3) := by decide +kernel
theorem i289_16 : am_ins 289 16 = some (.iconst 2) := by decide +kernel
theorem i289_17 : am_ins 289 17 = some (.ireturn) := by decide +kernel
theorem i289_18 : am_ins 289 18 = some (.iconst 0) := by decide +kernel
theorem i289_19 : am_ins 289 19 = some (.ireturn) := by decide +kernel
theorem i290_0 : am_ins 290 0 = some (.aload_n 3) := by decide +kernel
theorem i290_1 : am_ins 290 1 = some (.iconst 0) := by decide +kernel
theorem i290_2 : am_ins 290 2 = some (.aload_n 0) := by decide +kernel
theorem i290_3 : am_ins 290 3 = some (.iload_n 1) := by decide +kernel
theorem i290_4 : am_ins 290 4 = some (.iload_n 2) := by decide +kernel
theorem i290_5 : am_ins 290 5 = some (.invokevirtual 52) := by decide +kernel
theorem i290_8 : am_ins 290 8 = some (.i2l) := by decide +kernel
theorem i290_9 : am_ins 290 9 = some (.lastore) := by decide +kernel
theorem i290_10 : am_ins 290 10 = some (.goto 15) := by decide +kernel
theorem i290_13 : am_ins 290 13 = some (.astore 4) := by decide +kernel
theorem i290_15 : am_ins 290 15 = some (.iconst 1) := by decide +kernel
theorem i290_16 : am_ins 290 16 = some (.ireturn) := by decide +kernel
theorem i290_17 : am_ins 290 17 = some (.astore 4) := by decide +kernel
theorem i290_19 : am_ins 290 19 = some (.iconst 2) := by decide +kernel
theorem i290_20 : am_ins 290 20 = some (.ireturn) := by decide +kernel
theorem i290_21 : am_ins 290 21 = some (.astore 4) := by decide +kernel
theorem i290_23 : am_ins 290 23 = some (.iconst 3) := by decide +kernel
theorem i290_24 : am_ins 290 24 = some (.ireturn) := by decide +kernel
theorem i290_25 : am_ins 290 25 = some (.iconst 0) := by decide +kernel
theorem i290_26 : am_ins 290 26 = some (.ireturn) := by decide +kernel
theorem i291_0 : am_ins 291 0 = some (.aload_n 3) := by decide +kernel
theorem i291_1 : am_ins 291 1 = some (.iconst 0) := by decide +kernel
theorem i291_2 : am_ins 291 2 = some (.aload_n 0) := by decide +kernel
theorem i291_3 : am_ins 291 3 = some (.iload_n 1) := by decide +kernel
theorem i291_4 : am_ins 291 4 = some (.iload_n 2) := by decide +kernel
theorem i291_5 : am_ins 291 5 = some (.invokevirtual 55) := by decide +kernel
theorem i291_8 : am_ins 291 8 = some (.i2l) := by decide +kernel
theorem i291_9 : am_ins 291 9 = some (.lastore) := by decide +kernel
theorem i291_10 : am_ins 291 10 = some (.goto 11) := by decide +kernel
theorem i291_13 : am_ins 291 13 = some (.astore 4) := by decide +kernel
theorem i291_15 : am_ins 291 15 = some (.iconst 1) := by decide +kernel
theorem i291_16 : am_ins 291 16 = some (.ireturn) := by decide +kernel
theorem i291_17 : am_ins 291 17 = some (.astore 4) := by decide +kernel
theorem i291_19 : am_ins 291 19 = some (.iconst 2) := by decide +kernel
theorem i291_20 : am_ins 291 20 = some (.ireturn) := by decide +kernel
theorem i291_21 : am_ins 291 21 = some (.iconst 0) := by decide +kernel
theorem i291_22 : am_ins 291 22 = some (.ireturn) := by decide +kernel
theorem i292_0 : am_ins 292 0 = some (.aload_n 1) := by decide +kernel
theorem i292_1 : am_ins 292 1 = some (.iconst 0) := by decide +kernel
theorem i292_2 : am_ins 292 2 = some (.aload_n 0) := by decide +kernel
theorem i292_3 : am_ins 292 3 = some (.invokevirtual 58) := by decide +kernel
theorem i292_6 : am_ins 292 6 = some (.i2l) := by decide +kernel
theorem i292_7 : am_ins 292 7 = some (.lastore) := by decide +kernel
theorem i292_8 : am_ins 292 8 = some (.goto 6) := by decide +kernel
theorem i292_11 : am_ins 292 11 = some (.astore_n 2) := by decide +kernel
theorem i292_12 : am_ins 292 12 = some (.iconst 1) := by decide +kernel
theorem i292_13 : am_ins 292 13 = some (.ireturn) := by decide +kernel
theorem i292_14 : am_ins 292 14 = some (.iconst 0) := by decide +kernel
theorem i292_15 : am_ins 292 15 = some (.ireturn) := by decide +kernel
theorem i293_0 : am_ins 293 0 = some (.aload_n 1) := by decide +kernel
theorem i293_1 : am_ins 293 1 = some (.iconst 0) := by decide +kernel
theorem i293_2 : am_ins 293 2 = some (.aload_n 0) := by decide +kernel
theorem i293_3 : am_ins 293 3 = some (.invokevirtual 61) := by decide +kernel
theorem i293_6 : am_ins 293 6 = some (.i2l) := by decide +kernel
theorem i293_7 : am_ins 293 7 = some (.lastore) := by decide +kernel
theorem i293_8 : am_ins 293 8 = some (.goto 6) := by decide +kernel
theorem i293_11 : am_ins 293 11 = some (.astore_n 2) := by decide +kernel
theorem i293_12 : am_ins 293 12 = some (.iconst 1) := by decide +kernel
theorem i293_13 : am_ins 293 13 = some (.ireturn) := by decide +kernel
theorem i293_14 : am_ins 293 14 = some (.iconst 0) := by decide +kernel
theorem i293_15 : am_ins 293 15 = some (.ireturn) := by decide +kernel
theorem i294_0 : am_ins 294 0 = some (.aload_n 1) := by decide +kernel
theorem i294_1 : am_ins 294 1 = some (.iconst 0) := by decide +kernel
theorem i294_2 : am_ins 294 2 = some (.aload_n 0) := by decide +kernel
theorem i294_3 : am_ins 294 3 = some (.invokevirtual 64) := by decide +kernel
theorem i294_6 : am_ins 294 6 = some (.i2l) := by decide +kernel
theorem i294_7 : am_ins 294 7 = some (.lastore) := by decide +kernel
theorem i294_8 : am_ins 294 8 = some (.goto 6) := by decide +kernel
theorem i294_11 : am_ins 294 11 = some (.astore_n 2) := by decide +kernel
theorem i294_12 : am_ins 294 12 = some (.iconst 1) := by decide +kernel
theorem i294_13 : am_ins 294 13 = some (.ireturn) := by decide +kernel
theorem i294_14 : am_ins 294 14 = some (.iconst 0) := by decide +kernel
theorem i294_15 : am_ins 294 15 = some (.ireturn) := by decide +kernel
theorem i295_0 : am_ins 295 0 = some (.aload_n 1) := by decide +kernel
theorem i295_1 : am_ins 295 1 = some (.iconst 0) := by decide +kernel
theorem i295_2 : am_ins 295 2 = some (.aload_n 0) := by decide +kernel
theorem i295_3 : am_ins 295 3 = some (.invokevirtual 67) := by decide +kernel
theorem i295_6 : am_ins 295 6 = some (.i2l) := by decide +kernel
theorem i295_7 : am_ins 295 7 = some (.lastore) := by decide +kernel
theorem i295_8 : am_ins 295 8 = some (.goto 6) := by decide +kernel
theorem i295_11 : am_ins 295 11 = some (.astore_n 2) := by decide +kernel
theorem i295_12 : am_ins 295 12 = some (.iconst 1) := by decide +kernel
theorem i295_13 : am_ins 295 13 = some (.ireturn) := by decide +kernel
theorem i295_14 : am_ins 295 14 = some (.iconst 0) := by decide +kernel
theorem i295_15 : am_ins 295 15 = some (.ireturn) := by decide +kernel
theorem i296_0 : am_ins 296 0 = some (.aload_n 1) := by decide +kernel
theorem i296_1 : am_ins 296 1 = some (.iconst 0) := by decide +kernel
theorem i296_2 : am_ins 296 2 = some (.aload_n 0) := by decide +kernel
theorem i296_3 : am_ins 296 3 = some (.invokevirtual 70) := by decide +kernel
theorem i296_6 : am_ins 296 6 = some (.i2l) := by decide +kernel
theorem i296_7 : am_ins 296 7 = some (.lastore) := by decide +kernel
theorem i296_8 : am_ins 296 8 = some (.goto 6) := by decide +kernel
theorem i296_11 : am_ins 296 11 = some (.astore_n 2) := by decide +kernel
theorem i296_12 : am_ins 296 12 = some (.iconst 1) := by decide +kernel
theorem i296_13 : am_ins 296 13 = some (.ireturn) := by decide +kernel
theorem i296_14 : am_ins 296 14 = some (.iconst 0) := by decide +kernel
theorem i296_15 : am_ins 296 15 = some (.ireturn) := by decide +kernel
theorem i297_0 : am_ins 297 0 = some (.aload_n 3) := by decide +kernel
theorem i297_1 : am_ins 297 1 = some (.iconst 0) := by decide +kernel
theorem i297_2 : am_ins 297 2 = some (.aload_n 0) := by decide +kernel
theorem i297_3 : am_ins 297 3 = some (.iload_n 1) := by decide +kernel
theorem i297_4 : am_ins 297 4 = some (.iload_n 2) := by decide +kernel
theorem i297_5 : am_ins 297 5 = some (.invokevirtual 73) := by decide +kernel
theorem i297_8 : am_ins 297 8 = some (.ifCond .eq 7) := by decide +kernel
theorem i297_11 : am_ins 297 11 = some (.lconst 1) := by decide +kernel
theorem i297_12 : am_ins 297 12 = some (.goto 4) := by decide +kernel
theorem i297_15 : am_ins 297 15 = some (.lconst 0) := by decide +kernel
theorem i297_16 : am_ins 297 16 = some (.lastore) := by decide +kernel
theorem i297_17 : am_ins 297 17 = some (.goto 11) := by decide +kernel
theorem i297_20 : am_ins 297 20 = some (.astore 4) := by decide +kernel
theorem i297_22 : am_ins 297 22 = some (.iconst 1) := by decide +kernel
theorem i297_23 : am_ins 297 23 = some (.ireturn) := by decide +kernel
theorem i297_24 : am_ins 297 24 = some (.astore 4) := by decide +kernel
theorem i297_26 : am_ins 297 26 = some (.iconst 2) := by decide +kernel
theorem i297_27 : am_ins 297 27 = some (.ireturn) := by decide +kernel
theorem i297_28 : am_ins 297 28 = some (.iconst 0) := by decide +kernel
theorem i297_29 : am_ins 297 29 = some (.ireturn) := by decide +kernel
theorem i298_0 : am_ins 298 0 = some (.aload_n 3) := by decide +kernel
theorem i298_1 : am_ins 298 1 = some (.iconst 0) := by decide +kernel
theorem i298_2 : am_ins 298 2 = some (.aload_n 0) := by decide +kernel
theorem i298_3 : am_ins 298 3 = some (.iload_n 1) := by decide +kernel
theorem i298_4 : am_ins 298 4 = some (.iload_n 2) := by decide +kernel
theorem i298_5 : am_ins 298 5 = some (.invokevirtual 77) := by decide +kernel
theorem i298_8 : am_ins 298 8 = some (.i2l) := by decide +kernel
theorem i298_9 : am_ins 298 9 = some (.lastore) := by decide +kernel
theorem i298_10 : am_ins 298 10 = some (.goto 11) := by decide +kernel
theorem i298_13 : am_ins 298 13 = some (.astore 4) := by decide +kernel
theorem i298_15 : am_ins 298 15 = some (.iconst 1) := by decide +kernel
theorem i298_16 : am_ins 298 16 = some (.ireturn) := by decide +kernel
theorem i298_17 : am_ins 298 17 = some (.astore 4) := by decide +kernel
theorem i298_19 : am_ins 298 19 = some (.iconst 2) := by decide +kernel
theorem i298_20 : am_ins 298 20 = some (.ireturn) := by decide +kernel
theorem i298_21 : am_ins 298 21 = some (.iconst 0) := by decide +kernel
theorem i298_22 : am_ins 298 22 = some (.ireturn) := by decide +kernel
theorem i299_0 : am_ins 299 0 = some (.aload_n 2) := by decide +kernel
theorem i299_1 : am_ins 299 1 = some (.iconst 0) := by decide +kernel
theorem i299_2 : am_ins 299 2 = some (.aload_n 0) := by decide +kernel
theorem i299_3 : am_ins 299 3 = some (.iload_n 1) := by decide +kernel
theorem i299_4 : am_ins 299 4 = some (.invokevirtual 80) := by decide +kernel
theorem i299_7 : am_ins 299 7 = some (.i2l) := by decide +kernel
theorem i299_8 : am_ins 299 8 = some (.lastore) := by decide +kernel
theorem i299_9 : am_ins 299 9 = some (.goto 9) := by decide +kernel
theorem i299_12 : am_ins 299 12 = some (.astore_n 3) := by decide +kernel
theorem i299_13 : am_ins 299 13 = some (.iconst 1) := by decide +kernel
theorem i299_14 : am_ins 299 14 = some (.ireturn) := by decide +kernel
theorem i299_15 : am_ins 299 15 = some (.astore_n 3) := by decide +kernel
theorem i299_16 : am_ins 299 16 = some (.iconst 2) := by decide +kernel
theorem i299_17 : am_ins 299 17 = some (.ireturn) := by decide +kernel
theorem i299_18 : am_ins 299 18 = some (.iconst 0) := by decide +kernel
theorem i299_19 : am_ins 299 19 = some (.ireturn) := by decide +kernel
theorem i300_0 : am_ins 300 0 = some (.aload_n 1) := by decide +kernel
theorem i300_1 : am_ins 300 1 = some (.iconst 0) := by decide +kernel
theorem i300_2 : am_ins 300 2 = some (.aload_n 0) := by decide +kernel
theorem i300_3 : am_ins 300 3 = some (.invokevirtual 83) := by decide +kernel
theorem i300_6 : am_ins 300 6 = some (.i2l) := by decide +kernel
theorem i300_7 : am_ins 300 7 = some (.lastore) := by decide +kernel
theorem i300_8 : am_ins 300 8 = some (.goto 6) := by decide +kernel
theorem i300_11 : am_ins 300 11 = some (.astore_n 2) := by decide +kernel
theorem i300_12 : am_ins 300 12 = some (.iconst 1) := by decide +kernel
theorem i300_13 : am_ins 300 13 = some (.ireturn) := by decide +kernel
theorem i300_14 : am_ins 300 14 = some (.iconst 0) := by decide +kernel
theorem i300_15 : am_ins 300 15 = some (.ireturn) := by decide +kernel
theorem i301_0 : am_ins 301 0 = some (.aload_n 2) := by decide +kernel
theorem i301_1 : am_ins 301 1 = some (.iconst 0) := by decide +kernel
theorem i301_2 : am_ins 301 2 = some (.aload_n 0) := by decide +kernel
theorem i301_3 : am_ins 301 3 = some (.iload_n 1) := by decide +kernel
theorem i301_4 : am_ins 301 4 = some (.invokevirtual 86) := by decide +kernel
theorem i301_7 : am_ins 301 7 = some (.i2l) := by decide +kernel
theorem i301_8 : am_ins 301 8 = some (.lastore) := by decide +kernel
theorem i301_9 : am_ins 301 9 = some (.goto 9) := by decide +kernel
theorem i301_12 : am_ins 301 12 = some (.astore_n 3) := by decide +kernel
theorem i301_13 : am_ins 301 13 = some (.iconst 1) := by decide +kernel
theorem i301_14 : am_ins 301 14 = some (.ireturn) := by decide +kernel
theorem i301_15 : am_ins 301 15 = some (.astore_n 3) := by decide +kernel
theorem i301_16 : am_ins 301 16 = some (.iconst 2) := by decide +kernel
theorem i301_17 : am_ins 301 17 = some (.ireturn) := by decide +kernel
theorem i301_18 : am_ins 301 18 = some (.iconst 0) := by decide +kernel
theorem i301_19 : am_ins 301 19 = some (.ireturn) := by decide +kernel
theorem i302_0 : am_ins 302 0 = some (.aload_n 2) := by decide +kernel
theorem i302_1 : am_ins 302 1 = some (.iconst 0) := by decide +kernel
theorem i302_2 : am_ins 302 2 = some (.aload_n 0) := by decide +kernel
theorem i302_3 : am_ins 302 3 = some (.iload_n 1) := by decide +kernel
theorem i302_4 : am_ins 302 4 = some (.invokevirtual 89) := by decide +kernel
theorem i302_7 : am_ins 302 7 = some (.i2l) := by decide +kernel
theorem i302_8 : am_ins 302 8 = some (.lastore) := by decide +kernel
theorem i302_9 : am_ins 302 9 = some (.goto 9) := by decide +kernel
theorem i302_12 : am_ins 302 12 = some (.astore_n 3) := by decide +kernel
theorem i302_13 : am_ins 302 13 = some (.iconst 1) := by decide +kernel
theorem i302_14 : am_ins 302 14 = some (.ireturn) := by decide +kernel
theorem i302_15 : am_ins 302 15 = some (.astore_n 3) := by decide +kernel
theorem i302_16 : am_ins 302 16 = some (.iconst 2) := by decide +kernel
theorem i302_17 : am_ins 302 17 = some (.ireturn) := by decide +kernel
theorem i302_18 : am_ins 302 18 = some (.iconst 0) := by decide +kernel
theorem i302_19 : am_ins 302 19 = some (.ireturn) := by decide +kernel
theorem i303_0 : am_ins 303 0 = some (.aload_n 2) := by decide +kernel
theorem i303_1 : am_ins 303 1 = some (.iconst 0) := by decide +kernel
theorem i303_2 : am_ins 303 2 = some (.aload_n 0) := by decide +kernel
theorem i303_3 : am_ins 303 3 = some (.iload_n 1) := by decide +kernel
theorem i303_4 : am_ins 303 4 = some (.invokevirtual 92) := by decide +kernel
theorem i303_7 : am_ins 303 7 = some (.i2l) := by decide +kernel
theorem i303_8 : am_ins 303 8 = some (.lastore) := by decide +kernel
theorem i303_9 : am_ins 303 9 = some (.goto 9) := by decide +kernel
theorem i303_12 : am_ins 303 12 = some (.astore_n 3) := by decide +kernel
theorem i303_13 : am_ins 303 13 = some (.iconst 1) := by decide +kernel
theorem i303_14 : am_ins 303 14 = some (.ireturn) := by decide +kernel
theorem i303_15 : am_ins 303 15 = some (.astore_n 3) := by decide +kernel
theorem i303_16 : am_ins 303 16 = some (.iconst 2) := by decide +kernel
theorem i303_17 : am_ins 303 17 = some (.ireturn) := by decide +kernel
theorem i303_18 : am_ins 303 18 = some (.iconst 0) := by decide +kernel
theorem i303_19 : am_ins 303 19 = some (.ireturn) := by decide +kernel
theorem i304_0 : am_ins 304 0 = some (.aload_n 2) := by decide +kernel
theorem i304_1 : am_ins 304 1 = some (.iconst 0) := by decide +kernel
theorem i304_2 : am_ins 304 2 = some (.aload_n 0) := by decide +kernel
theorem i304_3 : am_ins 304 3 = some (.iload_n 1) := by decide +kernel
theorem i304_4 : am_ins 304 4 = some (.invokevirtual 95) := by decide +kernel
theorem i304_7 : am_ins 304 7 = some (.i2l) := by decide +kernel
theorem i304_8 : am_ins 304 8 = some (.lastore) := by decide +kernel
theorem i304_9 : am_ins 304 9 = some (.goto 9) := by decide +kernel
theorem i304_12 : am_ins 304 12 = some (.astore_n 3) := by decide +kernel
theorem i304_13 : am_ins 304 13 = some (.iconst 1) := by decide +kernel
theorem i304_14 : am_ins 304 14 = some (.ireturn) := by decide +kernel
theorem i304_15 : am_ins 304 15 = some (.astore_n 3) := by decide +kernel
theorem i304_16 : am_ins 304 16 = some (.iconst 2) := by decide +kernel
theorem i304_17 : am_ins 304 17 = some (.ireturn) := by decide +kernel
theorem i304_18 : am_ins 304 18 = some (.iconst 0) := by decide +kernel
theorem i304_19 : am_ins 304 19 = some (.ireturn) := by decide +kernel
theorem i305_0 : am_ins 305 0 = some (.aload_n 3) := by decide +kernel
theorem i305_1 : am_ins 305 1 = some (.iconst 0) := by decide +kernel
theorem i305_2 : am_ins 305 2 = some (.aload_n 0) := by decide +kernel
theorem i305_3 : am_ins 305 3 = some (.iload_n 1) := by decide +kernel
theorem i305_4 : am_ins 305 4 = some (.iload_n 2) := by decide +kernel
theorem i305_5 : am_ins 305 5 = some (.invokevirtual 98) := by decide +kernel
theorem i305_8 : am_ins 305 8 = some (.i2l) := by decide +kernel
theorem i305_9 : am_ins 305 9 = some (.lastore) := by decide +kernel
theorem i305_10 : am_ins 305 10 = some (.goto 15) := by decide +kernel
theorem i305_13 : am_ins 305 13 = some (.astore 4) := by decide +kernel
theorem i305_15 : am_ins 305 15 = some (.iconst 1) := by decide +kernel
theorem i305_16 : am_ins 305 16 = some (.ireturn) := by decide +kernel
theorem i305_17 : am_ins 305 17 = some (.astore 4) := by decide +kernel
theorem i305_19 : am_ins 305 19 = some (.iconst 2) := by decide +kernel
theorem i305_20 : am_ins 305 20 = some (.ireturn) := by decide +kernel
theorem i305_21 : am_ins 305 21 = some (.astore 4) := by decide +kernel
theorem i305_23 : am_ins 305 23 = some (.iconst 3) := by decide +kernel
theorem i305_24 : am_ins 305 24 = some (.ireturn) := by decide +kernel
theorem i305_25 : am_ins 305 25 = some (.iconst 0) := by decide +kernel
theorem i305_26 : am_ins 305 26 = some (.ireturn) := by decide +kernel
theorem i306_0 : am_ins 306 0 = some (.aload_n 1) := by decide +kernel
theorem i306_1 : am_ins 306 1 = some (.iconst 0) := by decide +kernel
theorem i306_2 : am_ins 306 2 = some (.aload_n 0) := by decide +kernel
theorem i306_3 : am_ins 306 3 = some (.invokevirtual 101) := by decide +kernel
theorem i306_6 : am_ins 306 6 = some (.i2l) := by decide +kernel
theorem i306_7 : am_ins 306 7 = some (.lastore) := by decide +kernel
theorem i306_8 : am_ins 306 8 = some (.goto 6) := by decide +kernel
theorem i306_11 : am_ins 306 11 = some (.astore_n 2) := by decide +kernel
theorem i306_12 : am_ins 306 12 = some (.iconst 1) := by decide +kernel
theorem i306_13 : am_ins 306 13 = some (.ireturn) := by decide +kernel
theorem i306_14 : am_ins 306 14 = some (.iconst 0) := by decide +kernel
theorem i306_15 : am_ins 306 15 = some (.ireturn) := by decide +kernel
theorem i307_0 : am_ins 307 0 = some (.aload_n 2) := by decide +kernel
theorem i307_1 : am_ins 307 1 = some (.iconst 0) := by decide +kernel
theorem i307_2 : am_ins 307 2 = some (.aload_n 0) := by decide +kernel
theorem i307_3 : am_ins 307 3 = some (.iload_n 1) := by decide +kernel
theorem i307_4 : am_ins 307 4 = some (.invokevirtual 104) := by decide +kernel
theorem i307_7 : am_ins 307 7 = some (.i2l) := by decide +kernel
theorem i307_8 : am_ins 307 8 = some (.lastore) := by decide +kernel
theorem i307_9 : am_ins 307 9 = some (.goto 9) := by decide +kernel
theorem i307_12 : am_ins 307 12 = some (.astore_n 3) := by decide +kernel
theorem i307_13 : am_ins 307 13 = some (.iconst 1) := by decide +kernel
theorem i307_14 : am_ins 307 14 = some (.ireturn) := by decide +kernel
theorem i307_15 : am_ins 307 15 = some (.astore_n 3) := by decide +kernel
theorem i307_16 : am_ins 307 16 = some (.iconst 2) := by decide +kernel
theorem i307_17 : am_ins 307 17 = some (.ireturn) := by decide +kernel
theorem i307_18 : am_ins 307 18 = some (.iconst 0) := by decide +kernel
theorem i307_19 : am_ins 307 19 = some (.ireturn) := by decide +kernel
theorem i308_0 : am_ins 308 0 = some (.aload_n 1) := by decide +kernel
theorem i308_1 : am_ins 308 1 = some (.iconst 0) := by decide +kernel
theorem i308_2 : am_ins 308 2 = some (.aload_n 0) := by decide +kernel
theorem i308_3 : am_ins 308 3 = some (.invokevirtual 107) := by decide +kernel
theorem i308_6 : am_ins 308 6 = some (.i2l) := by decide +kernel
theorem i308_7 : am_ins 308 7 = some (.lastore) := by decide +kernel
theorem i308_8 : am_ins 308 8 = some (.goto 6) := by decide +kernel
theorem i308_11 : am_ins 308 11 = some (.astore_n 2) := by decide +kernel
theorem i308_12 : am_ins 308 12 = some (.iconst 1) := by decide +kernel
theorem i308_13 : am_ins 308 13 = some (.ireturn) := by decide +kernel
theorem i308_14 : am_ins 308 14 = some (.iconst 0) := by decide +kernel
theorem i308_15 : am_ins 308 15 = some (.ireturn) := by decide +kernel
theorem i309_0 : am_ins 309 0 = some (.aload_n 2) := by decide +kernel
theorem i309_1 : am_ins 309 1 = some (.iconst 0) := by decide +kernel
theorem i309_2 : am_ins 309 2 = some (.aload_n 0) := by decide +kernel
theorem i309_3 : am_ins 309 3 = some (.iload_n 1) := by decide +kernel
theorem i309_4 : am_ins 309 4 = some (.invokevirtual 110) := by decide +kernel
theorem i309_7 : am_ins 309 7 = some (.i2l) := by decide +kernel
theorem i309_8 : am_ins 309 8 = some (.lastore) := by decide +kernel
theorem i309_9 : am_ins 309 9 = some (.goto 9) := by decide +kernel
theorem i309_12 : am_ins 309 12 = some (.astore_n 3) := by decide +kernel
theorem i309_13 : am_ins 309 13 = some (.iconst 1) := by decide +kernel
theorem i309_14 : am_ins 309 14 = some (.ireturn) := by decide +kernel
theorem i309_15 : am_ins 309 15 = some (.astore_n 3) := by decide +kernel
theorem i309_16 : am_ins 309 16 = some (.iconst 2) := by decide +kernel
theorem i309_17 : am_ins 309 17 = some (.ireturn) := by decide +kernel
theorem i309_18 : am_ins 309 18 = some (.iconst 0) := by decide +kernel
theorem i309_19 : am_ins 309 19 = some (.ireturn) := by decide +kernel
theorem i310_0 : am_ins 310 0 = some (.aload_n 2) := by decide +kernel
theorem i310_1 : am_ins 310 1 = some (.iconst 0) := by decide +kernel
theorem i310_2 : am_ins 310 2 = some (.aload_n 0) := by decide +kernel
theorem i310_3 : am_ins 310 3 = some (.iload_n 1) := by decide +kernel
theorem i310_4 : am_ins 310 4 = some (.invokevirtual 113) := by decide +kernel
theorem i310_7 : am_ins 310 7 = some (.i2l) := by decide +kernel
theorem i310_8 : am_ins 310 8 = some (.lastore) := by decide +kernel
theorem i310_9 : am_ins 310 9 = some (.goto 9) := by decide +kernel
theorem i310_12 : am_ins 310 12 = some (.astore_n 3) := by decide +kernel
theorem i310_13 : am_ins 310 13 = some (.iconst 1) := by decide +kernel
theorem i310_14 : am_ins 310 14 = some (.ireturn) := by decide +kernel
theorem i310_15 : am_ins 310 15 = some (.astore_n 3) := by decide +kernel
theorem i310_16 : am_ins 310 16 = some (.iconst 2) := by decide +kernel
theorem i310_17 : am_ins 310 17 = some (.ireturn) := by decide +kernel
theorem i310_18 : am_ins 310 18 = some (.iconst 0) := by decide +kernel
theorem i310_19 : am_ins 310 19 = some (.ireturn) := by decide +kernel
theorem i311_0 : am_ins 311 0 = some (.aload_n 1) := by decide +kernel
theorem i311_1 : am_ins 311 1 = some (.iconst 0) := by decide +kernel
theorem i311_2 : am_ins 311 2 = some (.aload_n 0) := by decide +kernel
theorem i311_3 : am_ins 311 3 = some (.invokevirtual 116) := by decide +kernel
theorem i311_6 : am_ins 311 6 = some (.dastore) := by decide +kernel
theorem i311_7 : am_ins 311 7 = some (.goto 6) := by decide +kernel
theorem i311_10 : am_ins 311 10 = some (.astore_n 2) := by decide +kernel
theorem i311_11 : am_ins 311 11 = some (.iconst 1) := by decide +kernel
theorem i311_12 : am_ins 311 12 = some (.ireturn) := by decide +kernel
theorem i311_13 : am_ins 311 13 = some (.iconst 0) := by decide +kernel
theorem i311_14 : am_ins 311 14 = some (.ireturn) := by decide +kernel
theorem i312_0 : am_ins 312 0 = some (.aload_n 1) := by decide +kernel
theorem i312_1 : am_ins 312 1 = some (.iconst 0) := by decide +kernel
theorem i312_2 : am_ins 312 2 = some (.aload_n 0) := by decide +kernel
theorem i312_3 : am_ins 312 3 = some (.invokevirtual 120) := by decide +kernel
theorem i312_6 : am_ins 312 6 = some (.f2d) := by decide +kernel
theorem i312_7 : am_ins 312 7 = some (.dastore) := by decide +kernel
theorem i312_8 : am_ins 312 8 = some (.goto 6) := by decide +kernel
theorem i312_11 : am_ins 312 11 = some (.astore_n 2) := by decide +kernel
theorem i312_12 : am_ins 312 12 = some (.iconst 1) := by decide +kernel
theorem i312_13 : am_ins 312 13 = some (.ireturn) := by decide +kernel
theorem i312_14 : am_ins 312 14 = some (.iconst 0) := by decide +kernel
theorem i312_15 : am_ins 312 15 = some (.ireturn) := by decide +kernel
theorem i313_0 : am_ins 313 0 = some (.aload_n 3) := by decide +kernel
theorem i313_1 : am_ins 313 1 = some (.iconst 0) := by decide +kernel
theorem i313_2 : am_ins 313 2 = some (.aload_n 0) := by decide +kernel
theorem i313_3 : am_ins 313 3 = some (.iload_n 1) := by decide +kernel
theorem i313_4 : am_ins 313 4 = some (.iload_n 2) := by decide +kernel
theorem i313_5 : am_ins 313 5 = some (.invokevirtual 124) := by decide +kernel
theorem i313_8 : am_ins 313 8 = some (.i2l) := by decide +kernel
theorem i313_9 : am_ins 313 9 = some (.lastore) := by decide +kernel
theorem i313_10 : am_ins 313 10 = some (.goto 15) := by decide +kernel
theorem i313_13 : am_ins 313 13 = some (.astore 4) := by decide +kernel
theorem i313_15 : am_ins 313 15 = some (.iconst 1) := by decide +kernel
theorem i313_16 : am_ins 313 16 = some (.ireturn) := by decide +kernel
theorem i313_17 : am_ins 313 17 = some (.astore 4) := by decide +kernel
theorem i313_19 : am_ins 313 19 = some (.iconst 2) := by decide +kernel
theorem i313_20 : am_ins 313 20 = some (.ireturn) := by decide +kernel
theorem i313_21 : am_ins 313 21 = some (.astore 4) := by decide +kernel
theorem i313_23 : am_ins 313 23 = some (.iconst 3) := by decide +kernel
theorem i313_24 : am_ins 313 24 = some (.ireturn) := by decide +kernel
theorem i313_25 : am_ins 313 25 = some (.iconst 0) := by decide +kernel
theorem i313_26 : am_ins 313 26 = some (.ireturn) := by decide +kernel
theorem i314_0 : am_ins 314 0 = some (.aload_n 1) := by decide +kernel
theorem i314_1 : am_ins 314 1 = some (.iconst 0) := by decide +kernel
theorem i314_2 : am_ins 314 2 = some (.aload_n 0) := by decide +kernel
theorem i314_3 : am_ins 314 3 = some (.invokevirtual 127) := by decide +kernel
theorem i314_6 : am_ins 314 6 = some (.i2l) := by decide +kernel
theorem i314_7 : am_ins 314 7 = some (.lastore) := by decide +kernel
theorem i314_8 : am_ins 314 8 = some (.goto 6) := by decide +kernel
theorem i314_11 : am_ins 314 11 = some (.astore_n 2) := by decide +kernel
theorem i314_12 : am_ins 314 12 = some (.iconst 1) := by decide +kernel
theorem i314_13 : am_ins 314 13 = some (.ireturn) := by decide +kernel
theorem i314_14 : am_ins 314 14 = some (.iconst 0) := by decide +kernel
theorem i314_15 : am_ins 314 15 = some (.ireturn) := by decide +kernel
theorem i315_0 : am_ins 315 0 = some (.aload_n 2) := by decide +kernel
theorem i315_1 : am_ins 315 1 = some (.iconst 0) := by decide +kernel
theorem i315_2 : am_ins 315 2 = some (.aload_n 0) := by decide +kernel
theorem i315_3 : am_ins 315 3 = some (.iload_n 1) := by decide +kernel
theorem i315_4 : am_ins 315 4 = some (.invokevirtual 130) := by decide +kernel
theorem i315_7 : am_ins 315 7 = some (.i2l) := by decide +kernel
theorem i315_8 : am_ins 315 8 = some (.lastore) := by decide +kernel
theorem i315_9 : am_ins 315 9 = some (.goto 9) := by decide +kernel
theorem i315_12 : am_ins 315 12 = some (.astore_n 3) := by decide +kernel
theorem i315_13 : am_ins 315 13 = some (.iconst 1) := by decide +kernel
theorem i315_14 : am_ins 315 14 = some (.ireturn) := by decide +kernel
theorem i315_15 : am_ins 315 15 = some (.astore_n 3) := by decide +kernel
theorem i315_16 : am_ins 315 16 = some (.iconst 2) := by decide +kernel
theorem i315_17 : am_ins 315 17 = some (.ireturn) := by decide +kernel
theorem i315_18 : am_ins 315 18 = some (.iconst 0) := by decide +kernel
theorem i315_19 : am_ins 315 19 = some (.ireturn) := by decide +kernel
theorem i316_0 : am_ins 316 0 = some (.aload_n 2) := by decide +kernel
theorem i316_1 : am_ins 316 1 = some (.iconst 0) := by decide +kernel
theorem i316_2 : am_ins 316 2 = some (.aload_n 0) := by decide +kernel
theorem i316_3 : am_ins 316 3 = some (.iload_n 1) := by decide +kernel
theorem i316_4 : am_ins 316 4 = some (.invokevirtual 133) := by decide +kernel
theorem i316_7 : am_ins 316 7 = some (.i2l) := by decide +kernel
theorem i316_8 : am_ins 316 8 = some (.lastore) := by decide +kernel
theorem i316_9 : am_ins 316 9 = some (.goto 6) := by decide +kernel
theorem i316_12 : am_ins 316 12 = some (.astore_n 3) := by decide +kernel
theorem i316_13 : am_ins 316 13 = some (.iconst 1) := by decide +kernel
theorem i316_14 : am_ins 316 14 = some (.ireturn) := by decide +kernel
theorem i316_15 : am_ins 316 15 = some (.iconst 0) := by decide +kernel
theorem i316_16 : am_ins 316 16 = some (.ireturn) := by decide +kernel
theorem i317_0 : am_ins 317 0 = some (.aload_n 3) := by decide +kernel
theorem i317_1 : am_ins 317 1 = some (.iconst 0) := by decide +kernel
theorem i317_2 : am_ins 317 2 = some (.aload_n 0) := by decide +kernel
theorem i317_3 : am_ins 317 3 = some (.iload_n 1) := by decide +kernel
theorem i317_4 : am_ins 317 4 = some (.iload_n 2) := by decide +kernel
theorem i317_5 : am_ins 317 5 = some (.invokevirtual 136) := by decide +kernel
theorem i317_8 : am_ins 317 8 = some (.i2l) := by decide +kernel
theorem i317_9 : am_ins 317 9 = some (.lastore) := by decide +kernel
theorem i317_10 : am_ins 317 10 = some (.goto 15) := by decide +kernel
theorem i317_13 : am_ins 317 13 = some (.astore 4) := by decide +kernel
theorem i317_15 : am_ins 317 15 = some (.iconst 1) := by decide +kernel
theorem i317_16 : am_ins 317 16 = some (.ireturn) := by decide +kernel
theorem i317_17 : am_ins 317 17 = some (.astore 4) := by decide +kernel
theorem i317_19 : am_ins 317 19 = some (.iconst 2) := by decide +kernel
theorem i317_20 : am_ins 317 20 = some (.ireturn) := by decide +kernel
theorem i317_21 : am_ins 317 21 = some (.astore 4) := by decide +kernel
theorem i317_23 : am_ins 317 23 = some (.iconst 3) := by decide +kernel
theorem i317_24 : am_ins 317 24 = some (.ireturn) := by decide +kernel
theorem i317_25 : am_ins 317 25 = some (.iconst 0) := by decide +kernel
theorem i317_26 : am_ins 317 26 = some (.ireturn) := by decide +kernel
theorem i318_0 : am_ins 318 0 = some (.aload_n 3) := by decide +kernel
theorem i318_1 : am_ins 318 1 = some (.iconst 0) := by decide +kernel
theorem i318_2 : am_ins 318 2 = some (.aload_n 0) := by decide +kernel
theorem i318_3 : am_ins 318 3 = some (.iload_n 1) := by decide +kernel
theorem i318_4 : am_ins 318 4 = some (.iload_n 2) := by decide +kernel
theorem i318_5 : am_ins 318 5 = some (.invokevirtual 139) := by decide +kernel
theorem i318_8 : am_ins 318 8 = some (.i2l) := by decide +kernel
theorem i318_9 : am_ins 318 9 = some (.lastore) := by decide +kernel
theorem i318_10 : am_ins 318 10 = some (.goto 15) := by decide +kernel
theorem i318_13 : am_ins 318 13 = some (.astore 4) := by decide +kernel
theorem i318_15 : am_ins 318 15 = some (.iconst 1) := by decide +kernel
theorem i318_16 : am_ins 318 16 = some (.ireturn) := by decide +kernel
theorem i318_17 : am_ins 318 17 = some (.astore 4) := by decide +kernel
theorem i318_19 : am_ins 318 19 = some (.iconst 2) := by decide +kernel
theorem i318_20 : am_ins 318 20 = some (.ireturn) := by decide +kernel
theorem i318_21 : am_ins 318 21 = some (.astore 4) := by decide +kernel
theorem i318_23 : am_ins 318 23 = some (.iconst 3) := by decide +kernel
theorem i318_24 : am_ins 318 24 = some (.ireturn) := by decide +kernel
theorem i318_25 : am_ins 318 25 = some (.iconst 0) := by decide +kernel
theorem i318_26 : am_ins 318 26 = some (.ireturn) := by decide +kernel
theorem i319_0 : am_ins 319 0 = some (.aload_n 2) := by decide +kernel
theorem i319_1 : am_ins 319 1 = some (.iconst 0) := by decide +kernel
theorem i319_2 : am_ins 319 2 = some (.aload_n 0) := by decide +kernel
theorem i319_3 : am_ins 319 3 = some (.iload_n 1) := by decide +kernel
theorem i319_4 : am_ins 319 4 = some (.invokevirtual 142) := by decide +kernel
theorem i319_7 : am_ins 319 7 = some (.i2l) := by decide +kernel
theorem i319_8 : am_ins 319 8 = some (.lastore) := by decide +kernel
theorem i319_9 : am_ins 319 9 = some (.goto 9) := by decide +kernel
theorem i319_12 : am_ins 319 12 = some (.astore_n 3) := by decide +kernel
theorem i319_13 : am_ins 319 13 = some (.iconst 1) := by decide +kernel
theorem i319_14 : am_ins 319 14 = some (.ireturn) := by decide +kernel
theorem i319_15 : am_ins 319 15 = some (.astore_n 3) := by decide +kernel
theorem i319_16 : am_ins 319 16 = some (.iconst 2) := by decide +kernel
theorem i319_17 : am_ins 319 17 = some (.ireturn) := by decide +kernel
theorem i319_18 : am_ins 319 18 = some (.iconst 0) := by decide +kernel
theorem i319_19 : am_ins 319 19 = some (.ireturn) := by decide +kernel
theorem i320_0 : am_ins 320 0 = some (.aload_n 1) := by decide +kernel
theorem i320_1 : am_ins 320 1 = some (.iconst 0) := by decide +kernel
theorem i320_2 : am_ins 320 2 = some (.aload_n 0) := by decide +kernel
theorem i320_3 : am_ins 320 3 = some (.invokevirtual 145) := by decide +kernel
theorem i320_6 : am_ins 320 6 = some (.i2l) := by decide +kernel
theorem i320_7 : am_ins 320 7 = some (.lastore) := by decide +kernel
theorem i320_8 : am_ins 320 8 = some (.goto 6) := by decide +kernel
theorem i320_11 : am_ins 320 11 = some (.astore_n 2) := by decide +kernel
theorem i320_12 : am_ins 320 12 = some (.iconst 1) := by decide +kernel
theorem i320_13 : am_ins 320 13 = some (.ireturn) := by decide +kernel
theorem i320_14 : am_ins 320 14 = some (.iconst 0) := by decide +kernel
theorem i320_15 : am_ins 320 15 = some (.ireturn) := by decide +kernel
theorem i321_0 : am_ins 321 0 = some (.aload_n 2) := by decide +kernel
theorem i321_1 : am_ins 321 1 = some (.iconst 0) := by decide +kernel
theorem i321_2 : am_ins 321 2 = some (.aload_n 0) := by decide +kernel
theorem i321_3 : am_ins 321 3 = some (.iload_n 1) := by decide +kernel
theorem i321_4 : am_ins 321 4 = some (.invokevirtual 148) := by decide +kernel
theorem i321_7 : am_ins 321 7 = some (.i2l) := by decide +kernel
theorem i321_8 : am_ins 321 8 = some (.lastore) := by decide +kernel
theorem i321_9 : am_ins 321 9 = some (.goto 12) := by decide +kernel
theorem i321_12 : am_ins 321 12 = some (.astore_n 3) := by decide +kernel
theorem i321_13 : am_ins 321 13 = some (.iconst 1) := by decide +kernel
theorem i321_14 : am_ins 321 14 = some (.ireturn) := by decide +kernel
theorem i321_15 : am_ins 321 15 = some (.astore_n 3) := by decide +kernel
theorem i321_16 : am_ins 321 16 = some (.iconst 2) := by decide +kernel
theorem i321_17 : am_ins 321 17 = some (.ireturn) := by decide +kernel
theorem i321_18 : am_ins 321 18 = some (.astore_n 3) := by decide +kernel
theorem i321_19 : am_ins 321 19 = some (.iconst 3) := by decide +kernel
theorem i321_20 : am_ins 321 20 = some (.ireturn) := by decide +kernel
theorem i321_21 : am_ins 321 21 = some (.iconst 0) := by decide +kernel
theorem i321_22 : am_ins 321 22 = some (.ireturn) := by decide +kernel
theorem i322_0 : am_ins 322 0 = some (.aload 5) := by decide +kernel
theorem i322_2 : am_ins 322 2 = some (.iconst 0) := by decide +kernel
theorem i322_3 : am_ins 322 3 = some (.aload_n 0) := by decide +kernel
theorem i322_4 : am_ins 322 4 = some (.iload_n 1) := by decide +kernel
theorem i322_5 : am_ins 322 5 = some (.iload_n 2) := by decide +kernel
theorem i322_6 : am_ins 322 6 = some (.iload_n 3) := by decide +kernel
theorem i322_7 : am_ins 322 7 = some (.iload 4) := by decide +kernel
theorem i322_9 : am_ins 322 9 = some (.invokevirtual 151) := by decide +kernel
theorem i322_12 : am_ins 322 12 = some (.i2l) := by decide +kernel
theorem i322_13 : am_ins 322 13 = some (.lastore) := by decide +kernel
theorem i322_14 : am_ins 322 14 = some (.goto 11) := by decide +kernel
theorem i322_17 : am_ins 322 17 = some (.astore 6) := by decide +kernel
theorem i322_19 : am_ins 322 19 = some (.iconst 1) := by decide +kernel
theorem i322_20 : am_ins 322 20 = some (.ireturn) := by decide +kernel
theorem i322_21 : am_ins 322 21 = some (.astore 6) := by decide +kernel
theorem i322_23 : am_ins 322 23 = some (.iconst 2) := by decide +kernel
theorem i322_24 : am_ins 322 24 = some (.ireturn) := by decide +kernel
theorem i322_25 : am_ins 322 25 = some (.iconst 0) := by decide +kernel
theorem i322_26 : am_ins 322 26 = some (.ireturn) := by decide +kernel
theorem i323_0 : am_ins 323 0 = some (.aload_n 2) := by decide +kernel
theorem i323_1 : am_ins 323 1 = some (.iconst 0) := by decide +kernel
theorem i323_2 : am_ins 323 2 = some (.aload_n 0) := by decide +kernel
theorem i323_3 : am_ins 323 3 = some (.iload_n 1) := by decide +kernel
theorem i323_4 : am_ins 323 4 = some (.invokevirtual 155) := by decide +kernel
theorem i323_7 : am_ins 323 7 = some (.i2l) := by decide +kernel
theorem i323_8 : am_ins 323 8 = some (.lastore) := by decide +kernel
theorem i323_9 : am_ins 323 9 = some (.goto 12) := by decide +kernel
theorem i323_12 : am_ins 323 12 = some (.astore_n 3) := by decide +kernel
theorem i323_13 : am_ins 323 13 = some (.iconst 1) := by decide +kernel
theorem i323_14 : am_ins 323 14 = some (.ireturn) := by decide +kernel
theorem i323_15 : am_ins 323 15 = some (.astore_n 3) := by decide +kernel
theorem i323_16 : am_ins 323 16 = some (.iconst 2) := by decide +kernel
theorem i323_17 : am_ins 323 17 = some (.ireturn) := by decide +kernel
theorem i323_18 : am_ins 323 18 = some (.astore_n 3) := by decide +kernel
theorem i323_19 : am_ins 323 19 = some (.iconst 3) := by decide +kernel
theorem i323_20 : am_ins 323 20 = some (.ireturn) := by decide +kernel
theorem i323_21 : am_ins 323 21 = some (.iconst 0) := by decide +kernel
theorem i323_22 : am_ins 323 22 = some (.ireturn) := by decide +kernel
theorem i324_0 : am_ins 324 0 = some (.aload_n 2) := by decide +kernel
theorem i324_1 : am_ins 324 1 = some (.iconst 0) := by decide +kernel
theorem i324_2 : am_ins 324 2 = some (.aload_n 0) := by decide +kernel
theorem i324_3 : am_ins 324 3 = some (.iload_n 1) := by decide +kernel
theorem i324_4 : am_ins 324 4 = some (.invokevirtual 158) := by decide +kernel
theorem i324_7 : am_ins 324 7 = some (.i2l) := by decide +kernel
theorem i324_8 : am_ins 324 8 = some (.lastore) := by decide +kernel
theorem i324_9 : am_ins 324 9 = some (.goto 12) := by decide +kernel
theorem i324_12 : am_ins 324 12 = some (.astore_n 3) := by decide +kernel
theorem i324_13 : am_ins 324 13 = some (.iconst 1) := by decide +kernel
theorem i324_14 : am_ins 324 14 = some (.ireturn) := by decide +kernel
theorem i324_15 : am_ins 324 15 = some (.astore_n 3) := by decide +kernel
theorem i324_16 : am_ins 324 16 = some (.iconst 2) := by decide +kernel
theorem i324_17 : am_ins 324 17 = some (.ireturn) := by decide +kernel
theorem i324_18 : am_ins 324 18 = some (.astore_n 3) := by decide +kernel
theorem i324_19 : am_ins 324 19 = some (.iconst 3) := by decide +kernel
theorem i324_20 : am_ins 324 20 = some (.ireturn) := by decide +kernel
theorem i324_21 : am_ins 324 21 = some (.iconst 0) := by decide +kernel
theorem i324_22 : am_ins 324 22 = some (.ireturn) := by decide +kernel
theorem i325_0 : am_ins 325 0 = some (.aload_n 3) := by decide +kernel
theorem i325_1 : am_ins 325 1 = some (.iconst 0) := by decide +kernel
theorem i325_2 : am_ins 325 2 = some (.aload_n 0) := by decide +kernel
theorem i325_3 : am_ins 325 3 = some (.iload_n 1) := by decide +kernel
theorem i325_4 : am_ins 325 4 = some (.iload_n 2) := by decide +kernel
theorem i325_5 : am_ins 325 5 = some (.invokevirtual 161) := by decide +kernel
theorem i325_8 : am_ins 325 8 = some (.i2l) := by decide +kernel
theorem i325_9 : am_ins 325 9 = some (.lastore) := by decide +kernel
theorem i325_10 : am_ins 325 10 = some (.goto 11) := by decide +kernel
theorem i325_13 : am_ins 325 13 = some (.astore 4) := by decide +kernel
theorem i325_15 : am_ins 325 15 = some (.iconst 1) := by decide +kernel
theorem i325_16 : am_ins 325 16 = some (.ireturn) := by decide +kernel
theorem i325_17 : am_ins 325 17 = some (.astore 4) := by decide +kernel
theorem i325_19 : am_ins 325 19 = some (.iconst 2) := by decide +kernel
theorem i325_20 : am_ins 325 20 = some (.ireturn) := by decide +kernel
theorem i325_21 : am_ins 325 21 = some (.iconst 0) := by decide +kernel
theorem i325_22 : am_ins 325 22 = some (.ireturn) := by decide +kernel
theorem i326_0 : am_ins 326 0 = some (.aload_n 1) := by decide +kernel
theorem i326_1 : am_ins 326 1 = some (.iconst 0) := by decide +kernel
theorem i326_2 : am_ins 326 2 = some (.aload_n 0) := by decide +kernel
theorem i326_3 : am_ins 326 3 = some (.invokevirtual 164) := by decide +kernel
theorem i326_6 : am_ins 326 6 = some (.i2l) := by decide +kernel
theorem i326_7 : am_ins 326 7 = some (.lastore) := by decide +kernel
theorem i326_8 : am_ins 326 8 = some (.goto 6) := by decide +kernel
theorem i326_11 : am_ins 326 11 = some (.astore_n 2) := by decide +kernel
theorem i326_12 : am_ins 326 12 = some (.iconst 1) := by decide +kernel
theorem i326_13 : am_ins 326 13 = some (.ireturn) := by decide +kernel
theorem i326_14 : am_ins 326 14 = some (.iconst 0) := by decide +kernel
theorem i326_15 : am_ins 326 15 = some (.ireturn) := by decide +kernel
theorem i327_0 : am_ins 327 0 = some (.aload_n 2) := by decide +kernel
theorem i327_1 : am_ins 327 1 = some (.iconst 0) := by decide +kernel
theorem i327_2 : am_ins 327 2 = some (.aload_n 0) := by decide +kernel
theorem i327_3 : am_ins 327 3 = some (.iload_n 1) := by decide +kernel
theorem i327_4 : am_ins 327 4 = some (.invokevirtual 167) := by decide +kernel
theorem i327_7 : am_ins 327 7 = some (.i2l) := by decide +kernel
theorem i327_8 : am_ins 327 8 = some (.lastore) := by decide +kernel
theorem i327_9 : am_ins 327 9 = some (.goto 9) := by decide +kernel
theorem i327_12 : am_ins 327 12 = some (.astore_n 3) := by decide +kernel
theorem i327_13 : am_ins 327 13 = some (.iconst 1) := by decide +kernel
theorem i327_14 : am_ins 327 14 = some (.ireturn) := by decide +kernel
theorem i327_15 : am_ins 327 15 = some (.astore_n 3) := by decide +kernel
theorem i327_16 : am_ins 327 16 = some (.iconst 2) := by decide +kernel
theorem i327_17 : am_ins 327 17 = some (.ireturn) := by decide +kernel
theorem i327_18 : am_ins 327 18 = some (.iconst 0) := by decide +kernel
theorem i327_19 : am_ins 327 19 = some (.ireturn) := by decide +kernel
theorem i328_0 : am_ins 328 0 = some (.aload_n 2) := by decide +kernel
theorem i328_1 : am_ins 328 1 = some (.iconst 0) := by decide +kernel
theorem i328_2 : am_ins 328 2 = some (.aload_n 0) := by decide +kernel
theorem i328_3 : am_ins 328 3 = some (.iload_n 1) := by decide +kernel
theorem i328_4 : am_ins 328 4 = some (.invokevirtual 170) := by decide +kernel
theorem i328_7 : am_ins 328 7 = some (.i2l) := by decide +kernel
theorem i328_8 : am_ins 328 8 = some (.lastore) := by decide +kernel
theorem i328_9 : am_ins 328 9 = some (.goto 9) := by decide +kernel
theorem i328_12 : am_ins 328 12 = some (.astore_n 3) := by decide +kernel
theorem i328_13 : am_ins 328 13 = some (.iconst 1) := by decide +kernel
theorem i328_14 : am_ins 328 14 = some (.ireturn) := by decide +kernel
theorem i328_15 : am_ins 328 15 = some (.astore_n 3) := by decide +kernel
theorem i328_16 : am_ins 328 16 = some (.iconst 2) := by decide +kernel
theorem i328_17 : am_ins 328 17 = some (.ireturn) := by decide +kernel
theorem i328_18 : am_ins 328 18 = some (.iconst 0) := by decide +kernel
theorem i328_19 : am_ins 328 19 = some (.ireturn) := by decide +kernel
