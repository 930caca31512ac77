/-! ===== the law, decoded ===== -/
set_option maxRecDepth 20000 in
theorem dw_184 : decode code 184 = .ok (.aload_n 0, 1) := by decide +kernel
set_option maxRecDepth 20000 in
theorem dw_185 : decode code 185 = .ok (.iload_n 3, 1) := by decide +kernel
set_option maxRecDepth 20000 in
theorem dw_186 : decode code 186 = .ok (.iconst 1, 1) := by decide +kernel
set_option maxRecDepth 20000 in
theorem dw_187 : decode code 187 = .ok (.iadd, 1) := by decide +kernel
set_option maxRecDepth 20000 in
theorem dw_188 : decode code 188 = .ok (.iaload, 1) := by decide +kernel
set_option maxRecDepth 20000 in
theorem dw_189 : decode code 189 = .ok (.aload_n 0, 1) := by decide +kernel
set_option maxRecDepth 20000 in
theorem dw_190 : decode code 190 = .ok (.iload_n 3, 1) := by decide +kernel
set_option maxRecDepth 20000 in
theorem dw_191 : decode code 191 = .ok (.iconst 2, 1) := by decide +kernel
set_option maxRecDepth 20000 in
theorem dw_192 : decode code 192 = .ok (.iadd, 1) := by decide +kernel
set_option maxRecDepth 20000 in
theorem dw_193 : decode code 193 = .ok (.iaload, 1) := by decide +kernel
set_option maxRecDepth 20000 in
theorem dw_194 : decode code 194 = .ok (.invokevirtual 18, 3) := by decide +kernel
set_option maxRecDepth 20000 in
theorem dw_197 : decode code 197 = .ok (.aload_n 2, 1) := by decide +kernel
set_option maxRecDepth 20000 in
theorem dw_198 : decode code 198 = .ok (.aload_n 0, 1) := by decide +kernel
set_option maxRecDepth 20000 in
theorem dw_199 : decode code 199 = .ok (.iload_n 3, 1) := by decide +kernel
set_option maxRecDepth 20000 in
theorem dw_200 : decode code 200 = .ok (.iconst 1, 1) := by decide +kernel
set_option maxRecDepth 20000 in
theorem dw_201 : decode code 201 = .ok (.iadd, 1) := by decide +kernel
set_option maxRecDepth 20000 in
theorem dw_202 : decode code 202 = .ok (.iaload, 1) := by decide +kernel
set_option maxRecDepth 20000 in
theorem dw_203 : decode code 203 = .ok (.aload_n 0, 1) := by decide +kernel
set_option maxRecDepth 20000 in
theorem dw_204 : decode code 204 = .ok (.iload_n 3, 1) := by decide +kernel
set_option maxRecDepth 20000 in
theorem dw_205 : decode code 205 = .ok (.iconst 2, 1) := by decide +kernel
set_option maxRecDepth 20000 in
theorem dw_206 : decode code 206 = .ok (.iadd, 1) := by decide +kernel
set_option maxRecDepth 20000 in
theorem dw_207 : decode code 207 = .ok (.iaload, 1) := by decide +kernel
set_option maxRecDepth 20000 in
theorem dw_208 : decode code 208 = .ok (.invokevirtual 22, 3) := by decide +kernel
set_option maxRecDepth 20000 in
theorem dw_211 : decode code 211 = .ok (.if_icmp .eq 754, 3) := by decide +kernel
set_option maxRecDepth 20000 in
theorem dw_214 : decode code 214 = .ok (.iconst 0, 1) := by decide +kernel
set_option maxRecDepth 20000 in
theorem dw_215 : decode code 215 = .ok (.ireturn, 1) := by decide +kernel
set_option maxRecDepth 20000 in
theorem dw_216 : decode code 216 = .ok (.aload_n 1, 1) := by decide +kernel
set_option maxRecDepth 20000 in
theorem dw_217 : decode code 217 = .ok (.aload_n 0, 1) := by decide +kernel
set_option maxRecDepth 20000 in
theorem dw_218 : decode code 218 = .ok (.iload_n 3, 1) := by decide +kernel
set_option maxRecDepth 20000 in
theorem dw_219 : decode code 219 = .ok (.iconst 1, 1) := by decide +kernel
set_option maxRecDepth 20000 in
theorem dw_220 : decode code 220 = .ok (.iadd, 1) := by decide +kernel
set_option maxRecDepth 20000 in
theorem dw_221 : decode code 221 = .ok (.iaload, 1) := by decide +kernel
set_option maxRecDepth 20000 in
theorem dw_222 : decode code 222 = .ok (.invokevirtual 23, 3) := by decide +kernel
set_option maxRecDepth 20000 in
theorem dw_225 : decode code 225 = .ok (.aload_n 2, 1) := by decide +kernel
set_option maxRecDepth 20000 in
theorem dw_226 : decode code 226 = .ok (.aload_n 0, 1) := by decide +kernel
set_option maxRecDepth 20000 in
theorem dw_227 : decode code 227 = .ok (.iload_n 3, 1) := by decide +kernel
set_option maxRecDepth 20000 in
theorem dw_228 : decode code 228 = .ok (.iconst 1, 1) := by decide +kernel
set_option maxRecDepth 20000 in
theorem dw_229 : decode code 229 = .ok (.iadd, 1) := by decide +kernel
set_option maxRecDepth 20000 in
theorem dw_230 : decode code 230 = .ok (.iaload, 1) := by decide +kernel
set_option maxRecDepth 20000 in
theorem dw_231 : decode code 231 = .ok (.invokevirtual 27, 3) := by decide +kernel
set_option maxRecDepth 20000 in
theorem dw_234 : decode code 234 = .ok (.if_icmp .eq 731, 3) := by decide +kernel
set_option maxRecDepth 20000 in
theorem dw_237 : decode code 237 = .ok (.iconst 0, 1) := by decide +kernel
set_option maxRecDepth 20000 in
theorem dw_238 : decode code 238 = .ok (.ireturn, 1) := by decide +kernel
set_option maxRecDepth 20000 in
theorem dw_239 : decode code 239 = .ok (.aload_n 1, 1) := by decide +kernel
set_option maxRecDepth 20000 in
theorem dw_240 : decode code 240 = .ok (.aload_n 0, 1) := by decide +kernel
set_option maxRecDepth 20000 in
theorem dw_241 : decode code 241 = .ok (.iload_n 3, 1) := by decide +kernel
set_option maxRecDepth 20000 in
theorem dw_242 : decode code 242 = .ok (.iconst 1, 1) := by decide +kernel
set_option maxRecDepth 20000 in
theorem dw_243 : decode code 243 = .ok (.iadd, 1) := by decide +kernel
set_option maxRecDepth 20000 in
theorem dw_244 : decode code 244 = .ok (.iaload, 1) := by decide +kernel
set_option maxRecDepth 20000 in
theorem dw_245 : decode code 245 = .ok (.invokevirtual 28, 3) := by decide +kernel
set_option maxRecDepth 20000 in
theorem dw_248 : decode code 248 = .ok (.aload_n 2, 1) := by decide +kernel
set_option maxRecDepth 20000 in
theorem dw_249 : decode code 249 = .ok (.aload_n 0, 1) := by decide +kernel
set_option maxRecDepth 20000 in
theorem dw_250 : decode code 250 = .ok (.iload_n 3, 1) := by decide +kernel
set_option maxRecDepth 20000 in
theorem dw_251 : decode code 251 = .ok (.iconst 1, 1) := by decide +kernel
set_option maxRecDepth 20000 in
theorem dw_252 : decode code 252 = .ok (.iadd, 1) := by decide +kernel
set_option maxRecDepth 20000 in
theorem dw_253 : decode code 253 = .ok (.iaload, 1) := by decide +kernel
set_option maxRecDepth 20000 in
theorem dw_254 : decode code 254 = .ok (.invokevirtual 31, 3) := by decide +kernel
set_option maxRecDepth 20000 in
theorem dw_257 : decode code 257 = .ok (.if_icmp .eq 708, 3) := by decide +kernel
set_option maxRecDepth 20000 in
theorem dw_260 : decode code 260 = .ok (.iconst 0, 1) := by decide +kernel
set_option maxRecDepth 20000 in
theorem dw_261 : decode code 261 = .ok (.ireturn, 1) := by decide +kernel
