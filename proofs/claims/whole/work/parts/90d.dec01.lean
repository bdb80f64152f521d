theorem dl_155 : decode code 155 = .ok (.istore 6, 2) := by decide +kernel
theorem dl_157 : decode code 157 = .ok (.aload_n 2, 1) := by decide +kernel
theorem dl_158 : decode code 158 = .ok (.invokevirtual 62, 3) := by decide +kernel
theorem dl_161 : decode code 161 = .ok (.iload 5, 2) := by decide +kernel
theorem dl_163 : decode code 163 = .ok (.if_icmp .eq 5, 3) := by decide +kernel
theorem dl_166 : decode code 166 = .ok (.iconst 0, 1) := by decide +kernel
theorem dl_167 : decode code 167 = .ok (.ireturn, 1) := by decide +kernel
theorem dl_168 : decode code 168 = .ok (.iload 5, 2) := by decide +kernel
theorem dl_170 : decode code 170 = .ok (.ifCond .ne 15, 3) := by decide +kernel
theorem dl_173 : decode code 173 = .ok (.aload_n 3, 1) := by decide +kernel
theorem dl_174 : decode code 174 = .ok (.iconst 0, 1) := by decide +kernel
theorem dl_175 : decode code 175 = .ok (.laload, 1) := by decide +kernel
theorem dl_176 : decode code 176 = .ok (.iload 6, 2) := by decide +kernel
theorem dl_178 : decode code 178 = .ok (.i2l, 1) := by decide +kernel
theorem dl_179 : decode code 179 = .ok (.lcmp, 1) := by decide +kernel
theorem dl_180 : decode code 180 = .ok (.ifCond .eq 5, 3) := by decide +kernel
theorem dl_183 : decode code 183 = .ok (.iconst 0, 1) := by decide +kernel
theorem dl_184 : decode code 184 = .ok (.ireturn, 1) := by decide +kernel
theorem dl_185 : decode code 185 = .ok (.goto 717, 3) := by decide +kernel
theorem dl_188 : decode code 188 = .ok (.aload_n 1, 1) := by decide +kernel
theorem dl_189 : decode code 189 = .ok (.aload_n 0, 1) := by decide +kernel
theorem dl_190 : decode code 190 = .ok (.iload 4, 2) := by decide +kernel
theorem dl_192 : decode code 192 = .ok (.iconst 1, 1) := by decide +kernel
theorem dl_193 : decode code 193 = .ok (.iadd, 1) := by decide +kernel
theorem dl_194 : decode code 194 = .ok (.iaload, 1) := by decide +kernel
theorem dl_195 : decode code 195 = .ok (.aload_n 0, 1) := by decide +kernel
theorem dl_196 : decode code 196 = .ok (.iload 4, 2) := by decide +kernel
theorem dl_198 : decode code 198 = .ok (.iconst 2, 1) := by decide +kernel
theorem dl_199 : decode code 199 = .ok (.iadd, 1) := by decide +kernel
theorem dl_200 : decode code 200 = .ok (.iaload, 1) := by decide +kernel
theorem dl_201 : decode code 201 = .ok (.aload_n 3, 1) := by decide +kernel
theorem dl_202 : decode code 202 = .ok (.invokestatic 66, 3) := by decide +kernel
theorem dl_205 : decode code 205 = .ok (.istore 5, 2) := by decide +kernel
theorem dl_207 : decode code 207 = .ok (.aload_n 2, 1) := by decide +kernel
theorem dl_208 : decode code 208 = .ok (.aload_n 0, 1) := by decide +kernel
theorem dl_209 : decode code 209 = .ok (.iload 4, 2) := by decide +kernel
theorem dl_211 : decode code 211 = .ok (.iconst 1, 1) := by decide +kernel
theorem dl_212 : decode code 212 = .ok (.iadd, 1) := by decide +kernel
theorem dl_213 : decode code 213 = .ok (.iaload, 1) := by decide +kernel
theorem dl_214 : decode code 214 = .ok (.aload_n 0, 1) := by decide +kernel
theorem dl_215 : decode code 215 = .ok (.iload 4, 2) := by decide +kernel
theorem dl_217 : decode code 217 = .ok (.iconst 2, 1) := by decide +kernel
theorem dl_218 : decode code 218 = .ok (.iadd, 1) := by decide +kernel
theorem dl_219 : decode code 219 = .ok (.iaload, 1) := by decide +kernel
theorem dl_220 : decode code 220 = .ok (.invokevirtual 69, 3) := by decide +kernel
theorem dl_223 : decode code 223 = .ok (.istore 6, 2) := by decide +kernel
theorem dl_225 : decode code 225 = .ok (.aload_n 2, 1) := by decide +kernel
theorem dl_226 : decode code 226 = .ok (.invokevirtual 62, 3) := by decide +kernel
theorem dl_229 : decode code 229 = .ok (.iload 5, 2) := by decide +kernel
theorem dl_231 : decode code 231 = .ok (.if_icmp .eq 5, 3) := by decide +kernel
theorem dl_234 : decode code 234 = .ok (.iconst 0, 1) := by decide +kernel
theorem dl_235 : decode code 235 = .ok (.ireturn, 1) := by decide +kernel
theorem dl_236 : decode code 236 = .ok (.iload 5, 2) := by decide +kernel
theorem dl_238 : decode code 238 = .ok (.ifCond .ne 15, 3) := by decide +kernel
theorem dl_241 : decode code 241 = .ok (.aload_n 3, 1) := by decide +kernel
theorem dl_242 : decode code 242 = .ok (.iconst 0, 1) := by decide +kernel
theorem dl_243 : decode code 243 = .ok (.laload, 1) := by decide +kernel
theorem dl_244 : decode code 244 = .ok (.iload 6, 2) := by decide +kernel
theorem dl_246 : decode code 246 = .ok (.i2l, 1) := by decide +kernel
theorem dl_247 : decode code 247 = .ok (.lcmp, 1) := by decide +kernel
