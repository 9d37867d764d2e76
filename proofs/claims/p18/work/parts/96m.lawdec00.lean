theorem dLW_law_116 : decode cLW_law 116 = .ok (.aload_n 1, 1) := by decide +kernel
theorem dLW_law_117 : decode cLW_law 117 = .ok (.invokevirtual 13, 3) := by decide +kernel
theorem dLW_law_120 : decode cLW_law 120 = .ok (.pop, 1) := by decide +kernel
theorem dLW_law_121 : decode cLW_law 121 = .ok (.aload_n 2, 1) := by decide +kernel
theorem dLW_law_122 : decode cLW_law 122 = .ok (.invokevirtual 17, 3) := by decide +kernel
theorem dLW_law_125 : decode cLW_law 125 = .ok (.pop, 1) := by decide +kernel
theorem dLW_law_126 : decode cLW_law 126 = .ok (.goto 489, 3) := by decide +kernel
theorem dLW_law_129 : decode cLW_law 129 = .ok (.aload_n 1, 1) := by decide +kernel
theorem dLW_law_130 : decode cLW_law 130 = .ok (.invokevirtual 18, 3) := by decide +kernel
theorem dLW_law_133 : decode cLW_law 133 = .ok (.pop, 1) := by decide +kernel
theorem dLW_law_134 : decode cLW_law 134 = .ok (.aload_n 2, 1) := by decide +kernel
theorem dLW_law_135 : decode cLW_law 135 = .ok (.invokevirtual 21, 3) := by decide +kernel
theorem dLW_law_138 : decode cLW_law 138 = .ok (.pop, 1) := by decide +kernel
theorem dLW_law_139 : decode cLW_law 139 = .ok (.goto 476, 3) := by decide +kernel
theorem dLW_law_142 : decode cLW_law 142 = .ok (.aload_n 1, 1) := by decide +kernel
theorem dLW_law_143 : decode cLW_law 143 = .ok (.aload_n 0, 1) := by decide +kernel
theorem dLW_law_144 : decode cLW_law 144 = .ok (.iload_n 3, 1) := by decide +kernel
theorem dLW_law_145 : decode cLW_law 145 = .ok (.iconst 1, 1) := by decide +kernel
theorem dLW_law_146 : decode cLW_law 146 = .ok (.iadd, 1) := by decide +kernel
theorem dLW_law_147 : decode cLW_law 147 = .ok (.iaload, 1) := by decide +kernel
theorem dLW_law_148 : decode cLW_law 148 = .ok (.aload_n 0, 1) := by decide +kernel
theorem dLW_law_149 : decode cLW_law 149 = .ok (.iload_n 3, 1) := by decide +kernel
theorem dLW_law_150 : decode cLW_law 150 = .ok (.iconst 2, 1) := by decide +kernel
theorem dLW_law_151 : decode cLW_law 151 = .ok (.iadd, 1) := by decide +kernel
theorem dLW_law_152 : decode cLW_law 152 = .ok (.iaload, 1) := by decide +kernel
theorem dLW_law_153 : decode cLW_law 153 = .ok (.aload_n 0, 1) := by decide +kernel
theorem dLW_law_154 : decode cLW_law 154 = .ok (.iload_n 3, 1) := by decide +kernel
theorem dLW_law_155 : decode cLW_law 155 = .ok (.iconst 3, 1) := by decide +kernel
theorem dLW_law_156 : decode cLW_law 156 = .ok (.iadd, 1) := by decide +kernel
theorem dLW_law_157 : decode cLW_law 157 = .ok (.iaload, 1) := by decide +kernel
theorem dLW_law_158 : decode cLW_law 158 = .ok (.aload_n 0, 1) := by decide +kernel
theorem dLW_law_159 : decode cLW_law 159 = .ok (.iload_n 3, 1) := by decide +kernel
theorem dLW_law_160 : decode cLW_law 160 = .ok (.iconst 4, 1) := by decide +kernel
theorem dLW_law_161 : decode cLW_law 161 = .ok (.iadd, 1) := by decide +kernel
theorem dLW_law_162 : decode cLW_law 162 = .ok (.iaload, 1) := by decide +kernel
theorem dLW_law_163 : decode cLW_law 163 = .ok (.aload_n 0, 1) := by decide +kernel
theorem dLW_law_164 : decode cLW_law 164 = .ok (.iload_n 3, 1) := by decide +kernel
theorem dLW_law_165 : decode cLW_law 165 = .ok (.iconst 5, 1) := by decide +kernel
theorem dLW_law_166 : decode cLW_law 166 = .ok (.iadd, 1) := by decide +kernel
theorem dLW_law_167 : decode cLW_law 167 = .ok (.iaload, 1) := by decide +kernel
theorem dLW_law_168 : decode cLW_law 168 = .ok (.invokevirtual 22, 3) := by decide +kernel
theorem dLW_law_171 : decode cLW_law 171 = .ok (.pop, 1) := by decide +kernel
theorem dLW_law_172 : decode cLW_law 172 = .ok (.aload_n 2, 1) := by decide +kernel
theorem dLW_law_173 : decode cLW_law 173 = .ok (.aload_n 0, 1) := by decide +kernel
theorem dLW_law_174 : decode cLW_law 174 = .ok (.iload_n 3, 1) := by decide +kernel
theorem dLW_law_175 : decode cLW_law 175 = .ok (.iconst 1, 1) := by decide +kernel
theorem dLW_law_176 : decode cLW_law 176 = .ok (.iadd, 1) := by decide +kernel
theorem dLW_law_177 : decode cLW_law 177 = .ok (.iaload, 1) := by decide +kernel
theorem dLW_law_178 : decode cLW_law 178 = .ok (.aload_n 0, 1) := by decide +kernel
theorem dLW_law_179 : decode cLW_law 179 = .ok (.iload_n 3, 1) := by decide +kernel
theorem dLW_law_180 : decode cLW_law 180 = .ok (.iconst 2, 1) := by decide +kernel
theorem dLW_law_181 : decode cLW_law 181 = .ok (.iadd, 1) := by decide +kernel
theorem dLW_law_182 : decode cLW_law 182 = .ok (.iaload, 1) := by decide +kernel
theorem dLW_law_183 : decode cLW_law 183 = .ok (.aload_n 0, 1) := by decide +kernel
theorem dLW_law_184 : decode cLW_law 184 = .ok (.iload_n 3, 1) := by decide +kernel
theorem dLW_law_185 : decode cLW_law 185 = .ok (.iconst 3, 1) := by decide +kernel
theorem dLW_law_186 : decode cLW_law 186 = .ok (.iadd, 1) := by decide +kernel
theorem dLW_law_187 : decode cLW_law 187 = .ok (.iaload, 1) := by decide +kernel
theorem dLW_law_188 : decode cLW_law 188 = .ok (.aload_n 0, 1) := by decide +kernel
theorem dLW_law_189 : decode cLW_law 189 = .ok (.iload_n 3, 1) := by decide +kernel
theorem dLW_law_190 : decode cLW_law 190 = .ok (.iconst 4, 1) := by decide +kernel
theorem dLW_law_191 : decode cLW_law 191 = .ok (.iadd, 1) := by decide +kernel
theorem dLW_law_192 : decode cLW_law 192 = .ok (.iaload, 1) := by decide +kernel
theorem dLW_law_193 : decode cLW_law 193 = .ok (.aload_n 0, 1) := by decide +kernel
theorem dLW_law_194 : decode cLW_law 194 = .ok (.iload_n 3, 1) := by decide +kernel
theorem dLW_law_195 : decode cLW_law 195 = .ok (.iconst 5, 1) := by decide +kernel
theorem dLW_law_196 : decode cLW_law 196 = .ok (.iadd, 1) := by decide +kernel
theorem dLW_law_197 : decode cLW_law 197 = .ok (.iaload, 1) := by decide +kernel
theorem dLW_law_198 : decode cLW_law 198 = .ok (.invokevirtual 26, 3) := by decide +kernel
theorem dLW_law_201 : decode cLW_law 201 = .ok (.pop, 1) := by decide +kernel
theorem dLW_law_202 : decode cLW_law 202 = .ok (.goto 413, 3) := by decide +kernel
theorem dLW_law_205 : decode cLW_law 205 = .ok (.aload_n 1, 1) := by decide +kernel
theorem dLW_law_206 : decode cLW_law 206 = .ok (.aload_n 0, 1) := by decide +kernel
theorem dLW_law_207 : decode cLW_law 207 = .ok (.iload_n 3, 1) := by decide +kernel
theorem dLW_law_208 : decode cLW_law 208 = .ok (.iconst 1, 1) := by decide +kernel
theorem dLW_law_209 : decode cLW_law 209 = .ok (.iadd, 1) := by decide +kernel
theorem dLW_law_210 : decode cLW_law 210 = .ok (.iaload, 1) := by decide +kernel
theorem dLW_law_211 : decode cLW_law 211 = .ok (.aload_n 0, 1) := by decide +kernel
theorem dLW_law_212 : decode cLW_law 212 = .ok (.iload_n 3, 1) := by decide +kernel
theorem dLW_law_213 : decode cLW_law 213 = .ok (.iconst 2, 1) := by decide +kernel
theorem dLW_law_214 : decode cLW_law 214 = .ok (.iadd, 1) := by decide +kernel
theorem dLW_law_215 : decode cLW_law 215 = .ok (.iaload, 1) := by decide +kernel
theorem dLW_law_216 : decode cLW_law 216 = .ok (.aload_n 0, 1) := by decide +kernel
theorem dLW_law_217 : decode cLW_law 217 = .ok (.iload_n 3, 1) := by decide +kernel
theorem dLW_law_218 : decode cLW_law 218 = .ok (.iconst 3, 1) := by decide +kernel
theorem dLW_law_219 : decode cLW_law 219 = .ok (.iadd, 1) := by decide +kernel
theorem dLW_law_220 : decode cLW_law 220 = .ok (.iaload, 1) := by decide +kernel
theorem dLW_law_221 : decode cLW_law 221 = .ok (.invokevirtual 27, 3) := by decide +kernel
theorem dLW_law_224 : decode cLW_law 224 = .ok (.pop, 1) := by decide +kernel
theorem dLW_law_225 : decode cLW_law 225 = .ok (.aload_n 2, 1) := by decide +kernel
