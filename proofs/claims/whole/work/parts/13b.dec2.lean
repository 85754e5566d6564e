theorem dX12_readAddress_124 : decode cX12_readAddress 124 = .ok (.iadd, 1) := by decide +kernel
theorem dX12_readAddress_125 : decode cX12_readAddress 125 = .ok (.iconst 2, 1) := by decide +kernel
theorem dX12_readAddress_126 : decode cX12_readAddress 126 = .ok (.invokevirtual 155, 3) := by decide +kernel
theorem dX12_readAddress_129 : decode cX12_readAddress 129 = .ok (.istore 5, 2) := by decide +kernel
theorem dX12_readAddress_131 : decode cX12_readAddress 131 = .ok (.iload 5, 2) := by decide +kernel
theorem dX12_readAddress_133 : decode cX12_readAddress 133 = .ok (.ifCond .lt 12, 3) := by decide +kernel
theorem dX12_readAddress_136 : decode cX12_readAddress 136 = .ok (.iload 5, 2) := by decide +kernel
theorem dX12_readAddress_138 : decode cX12_readAddress 138 = .ok (.aload_n 0, 1) := by decide +kernel
theorem dX12_readAddress_139 : decode cX12_readAddress 139 = .ok (.getfield 125, 3) := by decide +kernel
theorem dX12_readAddress_142 : decode cX12_readAddress 142 = .ok (.if_icmp .eq 18, 3) := by decide +kernel
theorem dX12_readAddress_145 : decode cX12_readAddress 145 = .ok (.iload 5, 2) := by decide +kernel
theorem dX12_readAddress_147 : decode cX12_readAddress 147 = .ok (.ifCond .ge 10, 3) := by decide +kernel
theorem dX12_readAddress_150 : decode cX12_readAddress 150 = .ok (.iconst (-1), 1) := by decide +kernel
theorem dX12_readAddress_151 : decode cX12_readAddress 151 = .ok (.iload 5, 2) := by decide +kernel
theorem dX12_readAddress_153 : decode cX12_readAddress 153 = .ok (.isub, 1) := by decide +kernel
theorem dX12_readAddress_154 : decode cX12_readAddress 154 = .ok (.goto 5, 3) := by decide +kernel
theorem dX12_readAddress_157 : decode cX12_readAddress 157 = .ok (.iload 5, 2) := by decide +kernel
theorem dX12_readAddress_159 : decode cX12_readAddress 159 = .ok (.ireturn, 1) := by decide +kernel
theorem dX12_readAddress_160 : decode cX12_readAddress 160 = .ok (.aload_n 0, 1) := by decide +kernel
theorem dX12_readAddress_161 : decode cX12_readAddress 161 = .ok (.getfield 22, 3) := by decide +kernel
theorem dX12_readAddress_164 : decode cX12_readAddress 164 = .ok (.iload_n 1, 1) := by decide +kernel
theorem dX12_readAddress_165 : decode cX12_readAddress 165 = .ok (.aload_n 0, 1) := by decide +kernel
theorem dX12_readAddress_166 : decode cX12_readAddress 166 = .ok (.aload_n 0, 1) := by decide +kernel
theorem dX12_readAddress_167 : decode cX12_readAddress 167 = .ok (.getfield 19, 3) := by decide +kernel
theorem dX12_readAddress_170 : decode cX12_readAddress 170 = .ok (.iload_n 1, 1) := by decide +kernel
theorem dX12_readAddress_171 : decode cX12_readAddress 171 = .ok (.iconst 0, 1) := by decide +kernel
theorem dX12_readAddress_172 : decode cX12_readAddress 172 = .ok (.iload_n 2, 1) := by decide +kernel
theorem dX12_readAddress_173 : decode cX12_readAddress 173 = .ok (.iconst 0, 1) := by decide +kernel
theorem dX12_readAddress_174 : decode cX12_readAddress 174 = .ok (.invokevirtual 159, 3) := by decide +kernel
theorem dX12_readAddress_177 : decode cX12_readAddress 177 = .ok (.iastore, 1) := by decide +kernel
theorem dX12_readAddress_178 : decode cX12_readAddress 178 = .ok (.aload_n 0, 1) := by decide +kernel
theorem dX12_readAddress_179 : decode cX12_readAddress 179 = .ok (.getfield 34, 3) := by decide +kernel
theorem dX12_readAddress_182 : decode cX12_readAddress 182 = .ok (.iload_n 1, 1) := by decide +kernel
theorem dX12_readAddress_183 : decode cX12_readAddress 183 = .ok (.aload_n 0, 1) := by decide +kernel
theorem dX12_readAddress_184 : decode cX12_readAddress 184 = .ok (.aload_n 0, 1) := by decide +kernel
theorem dX12_readAddress_185 : decode cX12_readAddress 185 = .ok (.getfield 31, 3) := by decide +kernel
theorem dX12_readAddress_188 : decode cX12_readAddress 188 = .ok (.iload_n 1, 1) := by decide +kernel
theorem dX12_readAddress_189 : decode cX12_readAddress 189 = .ok (.iconst 0, 1) := by decide +kernel
theorem dX12_readAddress_190 : decode cX12_readAddress 190 = .ok (.iload_n 2, 1) := by decide +kernel
theorem dX12_readAddress_191 : decode cX12_readAddress 191 = .ok (.iconst 1, 1) := by decide +kernel
theorem dX12_readAddress_192 : decode cX12_readAddress 192 = .ok (.invokevirtual 159, 3) := by decide +kernel
theorem dX12_readAddress_195 : decode cX12_readAddress 195 = .ok (.iastore, 1) := by decide +kernel
theorem dX12_readAddress_196 : decode cX12_readAddress 196 = .ok (.aload_n 0, 1) := by decide +kernel
theorem dX12_readAddress_197 : decode cX12_readAddress 197 = .ok (.getfield 28, 3) := by decide +kernel
theorem dX12_readAddress_200 : decode cX12_readAddress 200 = .ok (.iload_n 1, 1) := by decide +kernel
theorem dX12_readAddress_201 : decode cX12_readAddress 201 = .ok (.aload_n 0, 1) := by decide +kernel
theorem dX12_readAddress_202 : decode cX12_readAddress 202 = .ok (.aload_n 0, 1) := by decide +kernel
theorem dX12_readAddress_203 : decode cX12_readAddress 203 = .ok (.getfield 25, 3) := by decide +kernel
theorem dX12_readAddress_206 : decode cX12_readAddress 206 = .ok (.iload_n 1, 1) := by decide +kernel
theorem dX12_readAddress_207 : decode cX12_readAddress 207 = .ok (.iload_n 2, 1) := by decide +kernel
theorem dX12_readAddress_208 : decode cX12_readAddress 208 = .ok (.iconst 1, 1) := by decide +kernel
theorem dX12_readAddress_209 : decode cX12_readAddress 209 = .ok (.iadd, 1) := by decide +kernel
theorem dX12_readAddress_210 : decode cX12_readAddress 210 = .ok (.iload_n 3, 1) := by decide +kernel
theorem dX12_readAddress_211 : decode cX12_readAddress 211 = .ok (.iconst 0, 1) := by decide +kernel
theorem dX12_readAddress_212 : decode cX12_readAddress 212 = .ok (.invokevirtual 159, 3) := by decide +kernel
theorem dX12_readAddress_215 : decode cX12_readAddress 215 = .ok (.iastore, 1) := by decide +kernel
theorem dX12_readAddress_216 : decode cX12_readAddress 216 = .ok (.aload_n 0, 1) := by decide +kernel
theorem dX12_readAddress_217 : decode cX12_readAddress 217 = .ok (.getfield 40, 3) := by decide +kernel
theorem dX12_readAddress_220 : decode cX12_readAddress 220 = .ok (.iload_n 1, 1) := by decide +kernel
theorem dX12_readAddress_221 : decode cX12_readAddress 221 = .ok (.aload_n 0, 1) := by decide +kernel
theorem dX12_readAddress_222 : decode cX12_readAddress 222 = .ok (.aload_n 0, 1) := by decide +kernel
theorem dX12_readAddress_223 : decode cX12_readAddress 223 = .ok (.getfield 37, 3) := by decide +kernel
theorem dX12_readAddress_226 : decode cX12_readAddress 226 = .ok (.iload_n 1, 1) := by decide +kernel
theorem dX12_readAddress_227 : decode cX12_readAddress 227 = .ok (.iload_n 2, 1) := by decide +kernel
theorem dX12_readAddress_228 : decode cX12_readAddress 228 = .ok (.iconst 1, 1) := by decide +kernel
theorem dX12_readAddress_229 : decode cX12_readAddress 229 = .ok (.iadd, 1) := by decide +kernel
theorem dX12_readAddress_230 : decode cX12_readAddress 230 = .ok (.iload_n 3, 1) := by decide +kernel
theorem dX12_readAddress_231 : decode cX12_readAddress 231 = .ok (.iconst 1, 1) := by decide +kernel
theorem dX12_readAddress_232 : decode cX12_readAddress 232 = .ok (.invokevirtual 159, 3) := by decide +kernel
theorem dX12_readAddress_235 : decode cX12_readAddress 235 = .ok (.iastore, 1) := by decide +kernel
theorem dX12_readAddress_236 : decode cX12_readAddress 236 = .ok (.aload_n 0, 1) := by decide +kernel
theorem dX12_readAddress_237 : decode cX12_readAddress 237 = .ok (.getfield 43, 3) := by decide +kernel
theorem dX12_readAddress_240 : decode cX12_readAddress 240 = .ok (.iload_n 1, 1) := by decide +kernel
theorem dX12_readAddress_241 : decode cX12_readAddress 241 = .ok (.aload_n 0, 1) := by decide +kernel
theorem dX12_readAddress_242 : decode cX12_readAddress 242 = .ok (.iload_n 3, 1) := by decide +kernel
theorem dX12_readAddress_243 : decode cX12_readAddress 243 = .ok (.iconst 1, 1) := by decide +kernel
theorem dX12_readAddress_244 : decode cX12_readAddress 244 = .ok (.iadd, 1) := by decide +kernel
theorem dX12_readAddress_245 : decode cX12_readAddress 245 = .ok (.iload 4, 2) := by decide +kernel
theorem dX12_readAddress_247 : decode cX12_readAddress 247 = .ok (.invokevirtual 163, 3) := by decide +kernel
theorem dX12_readAddress_250 : decode cX12_readAddress 250 = .ok (.iastore, 1) := by decide +kernel
theorem dX12_readAddress_251 : decode cX12_readAddress 251 = .ok (.aload_n 0, 1) := by decide +kernel
theorem dX12_readAddress_252 : decode cX12_readAddress 252 = .ok (.getfield 46, 3) := by decide +kernel
theorem dX12_readAddress_255 : decode cX12_readAddress 255 = .ok (.iload_n 1, 1) := by decide +kernel
theorem dX12_readAddress_256 : decode cX12_readAddress 256 = .ok (.aload_n 0, 1) := by decide +kernel
theorem dX12_readAddress_257 : decode cX12_readAddress 257 = .ok (.getfield 7, 3) := by decide +kernel
theorem dX12_readAddress_260 : decode cX12_readAddress 260 = .ok (.iload 4, 2) := by decide +kernel
theorem dX12_readAddress_262 : decode cX12_readAddress 262 = .ok (.iconst 1, 1) := by decide +kernel
theorem dX12_readAddress_263 : decode cX12_readAddress 263 = .ok (.iadd, 1) := by decide +kernel
theorem dX12_readAddress_264 : decode cX12_readAddress 264 = .ok (.iaload, 1) := by decide +kernel
theorem dX12_readAddress_265 : decode cX12_readAddress 265 = .ok (.bipush 48, 2) := by decide +kernel
theorem dX12_readAddress_267 : decode cX12_readAddress 267 = .ok (.isub, 1) := by decide +kernel
theorem dX12_readAddress_268 : decode cX12_readAddress 268 = .ok (.iastore, 1) := by decide +kernel
theorem dX12_readAddress_269 : decode cX12_readAddress 269 = .ok (.aload_n 0, 1) := by decide +kernel
theorem dX12_readAddress_270 : decode cX12_readAddress 270 = .ok (.getfield 49, 3) := by decide +kernel
theorem dX12_readAddress_273 : decode cX12_readAddress 273 = .ok (.iload_n 1, 1) := by decide +kernel
theorem dX12_readAddress_274 : decode cX12_readAddress 274 = .ok (.aload_n 0, 1) := by decide +kernel
theorem dX12_readAddress_275 : decode cX12_readAddress 275 = .ok (.iload 4, 2) := by decide +kernel
theorem dX12_readAddress_277 : decode cX12_readAddress 277 = .ok (.iconst 3, 1) := by decide +kernel
theorem dX12_readAddress_278 : decode cX12_readAddress 278 = .ok (.iadd, 1) := by decide +kernel
theorem dX12_readAddress_279 : decode cX12_readAddress 279 = .ok (.iload 5, 2) := by decide +kernel
theorem dX12_readAddress_281 : decode cX12_readAddress 281 = .ok (.invokevirtual 163, 3) := by decide +kernel
theorem dX12_readAddress_284 : decode cX12_readAddress 284 = .ok (.iastore, 1) := by decide +kernel
theorem dX12_readAddress_285 : decode cX12_readAddress 285 = .ok (.iconst (-1), 1) := by decide +kernel
theorem dX12_readAddress_286 : decode cX12_readAddress 286 = .ok (.ireturn, 1) := by decide +kernel
theorem dX12_isMatched_0 : decode cX12_isMatched 0 = .ok (.iconst 0, 1) := by decide +kernel
theorem dX12_isMatched_1 : decode cX12_isMatched 1 = .ok (.istore_n 2, 1) := by decide +kernel
theorem dX12_isMatched_2 : decode cX12_isMatched 2 = .ok (.iconst 0, 1) := by decide +kernel
theorem dX12_isMatched_3 : decode cX12_isMatched 3 = .ok (.istore_n 3, 1) := by decide +kernel
theorem dX12_isMatched_4 : decode cX12_isMatched 4 = .ok (.iload_n 3, 1) := by decide +kernel
theorem dX12_isMatched_5 : decode cX12_isMatched 5 = .ok (.aload_n 0, 1) := by decide +kernel
theorem dX12_isMatched_6 : decode cX12_isMatched 6 = .ok (.getfield 166, 3) := by decide +kernel
theorem dX12_isMatched_9 : decode cX12_isMatched 9 = .ok (.if_icmp .ge 33, 3) := by decide +kernel
theorem dX12_isMatched_12 : decode cX12_isMatched 12 = .ok (.iload_n 2, 1) := by decide +kernel
theorem dX12_isMatched_13 : decode cX12_isMatched 13 = .ok (.ifCond .ne 17, 3) := by decide +kernel
theorem dX12_isMatched_16 : decode cX12_isMatched 16 = .ok (.aload_n 0, 1) := by decide +kernel
theorem dX12_isMatched_17 : decode cX12_isMatched 17 = .ok (.getfield 52, 3) := by decide +kernel
theorem dX12_isMatched_20 : decode cX12_isMatched 20 = .ok (.bipush 12, 2) := by decide +kernel
theorem dX12_isMatched_22 : decode cX12_isMatched 22 = .ok (.iload_n 1, 1) := by decide +kernel
theorem dX12_isMatched_23 : decode cX12_isMatched 23 = .ok (.imul, 1) := by decide +kernel
theorem dX12_isMatched_24 : decode cX12_isMatched 24 = .ok (.iload_n 3, 1) := by decide +kernel
theorem dX12_isMatched_25 : decode cX12_isMatched 25 = .ok (.iadd, 1) := by decide +kernel
theorem dX12_isMatched_26 : decode cX12_isMatched 26 = .ok (.baload, 1) := by decide +kernel
theorem dX12_isMatched_27 : decode cX12_isMatched 27 = .ok (.ifCond .eq 7, 3) := by decide +kernel
theorem dX12_isMatched_30 : decode cX12_isMatched 30 = .ok (.iconst 1, 1) := by decide +kernel
theorem dX12_isMatched_31 : decode cX12_isMatched 31 = .ok (.goto 4, 3) := by decide +kernel
theorem dX12_isMatched_34 : decode cX12_isMatched 34 = .ok (.iconst 0, 1) := by decide +kernel
theorem dX12_isMatched_35 : decode cX12_isMatched 35 = .ok (.istore_n 2, 1) := by decide +kernel
theorem dX12_isMatched_36 : decode cX12_isMatched 36 = .ok (.iinc 3 1, 3) := by decide +kernel
theorem dX12_isMatched_39 : decode cX12_isMatched 39 = .ok (.goto (-35), 3) := by decide +kernel
theorem dX12_isMatched_42 : decode cX12_isMatched 42 = .ok (.iload_n 2, 1) := by decide +kernel
theorem dX12_isMatched_43 : decode cX12_isMatched 43 = .ok (.ireturn, 1) := by decide +kernel
theorem dX12_address_0 : decode cX12_address 0 = .ok (.iload_n 1, 1) := by decide +kernel
theorem dX12_address_1 : decode cX12_address 1 = .ok (.ifCond .lt 15, 3) := by decide +kernel
theorem dX12_address_4 : decode cX12_address 4 = .ok (.iload_n 1, 1) := by decide +kernel
theorem dX12_address_5 : decode cX12_address 5 = .ok (.aload_n 0, 1) := by decide +kernel
theorem dX12_address_6 : decode cX12_address 6 = .ok (.getfield 166, 3) := by decide +kernel
theorem dX12_address_9 : decode cX12_address 9 = .ok (.if_icmp .gt 7, 3) := by decide +kernel
theorem dX12_address_12 : decode cX12_address 12 = .ok (.iconst 1, 1) := by decide +kernel
theorem dX12_address_13 : decode cX12_address 13 = .ok (.goto 4, 3) := by decide +kernel
theorem dX12_address_16 : decode cX12_address 16 = .ok (.iconst 0, 1) := by decide +kernel
theorem dX12_address_17 : decode cX12_address 17 = .ok (.istore_n 2, 1) := by decide +kernel
theorem dX12_address_18 : decode cX12_address 18 = .ok (.aload_n 0, 1) := by decide +kernel
theorem dX12_address_19 : decode cX12_address 19 = .ok (.iload_n 2, 1) := by decide +kernel
theorem dX12_address_20 : decode cX12_address 20 = .ok (.ifCond .ne 7, 3) := by decide +kernel
theorem dX12_address_23 : decode cX12_address 23 = .ok (.iconst 1, 1) := by decide +kernel
theorem dX12_address_24 : decode cX12_address 24 = .ok (.goto 41, 3) := by decide +kernel
theorem dX12_address_27 : decode cX12_address 27 = .ok (.iload_n 1, 1) := by decide +kernel
theorem dX12_address_28 : decode cX12_address 28 = .ok (.aload_n 0, 1) := by decide +kernel
theorem dX12_address_29 : decode cX12_address 29 = .ok (.getfield 166, 3) := by decide +kernel
theorem dX12_address_32 : decode cX12_address 32 = .ok (.if_icmp .ne 20, 3) := by decide +kernel
theorem dX12_address_35 : decode cX12_address 35 = .ok (.aload_n 0, 1) := by decide +kernel
theorem dX12_address_36 : decode cX12_address 36 = .ok (.getfield 166, 3) := by decide +kernel
theorem dX12_address_39 : decode cX12_address 39 = .ok (.bipush 12, 2) := by decide +kernel
theorem dX12_address_41 : decode cX12_address 41 = .ok (.if_icmp .ge 7, 3) := by decide +kernel
theorem dX12_address_44 : decode cX12_address 44 = .ok (.iconst 0, 1) := by decide +kernel
theorem dX12_address_45 : decode cX12_address 45 = .ok (.goto 20, 3) := by decide +kernel
theorem dX12_address_48 : decode cX12_address 48 = .ok (.iconst 2, 1) := by decide +kernel
theorem dX12_address_49 : decode cX12_address 49 = .ok (.goto 16, 3) := by decide +kernel
theorem dX12_address_52 : decode cX12_address 52 = .ok (.aload_n 0, 1) := by decide +kernel
theorem dX12_address_53 : decode cX12_address 53 = .ok (.iload_n 1, 1) := by decide +kernel
theorem dX12_address_54 : decode cX12_address 54 = .ok (.invokevirtual 169, 3) := by decide +kernel
theorem dX12_address_57 : decode cX12_address 57 = .ok (.ifCond .eq 7, 3) := by decide +kernel
theorem dX12_address_60 : decode cX12_address 60 = .ok (.iconst 2, 1) := by decide +kernel
theorem dX12_address_61 : decode cX12_address 61 = .ok (.goto 4, 3) := by decide +kernel
theorem dX12_address_64 : decode cX12_address 64 = .ok (.iconst 0, 1) := by decide +kernel
theorem dX12_address_65 : decode cX12_address 65 = .ok (.invokevirtual 128, 3) := by decide +kernel
theorem dX12_address_68 : decode cX12_address 68 = .ok (.ifCond .eq 5, 3) := by decide +kernel
theorem dX12_address_71 : decode cX12_address 71 = .ok (.iconst 0, 1) := by decide +kernel
theorem dX12_address_72 : decode cX12_address 72 = .ok (.ireturn, 1) := by decide +kernel
theorem dX12_address_73 : decode cX12_address 73 = .ok (.aload_n 0, 1) := by decide +kernel
theorem dX12_address_74 : decode cX12_address 74 = .ok (.iload_n 1, 1) := by decide +kernel
theorem dX12_address_75 : decode cX12_address 75 = .ok (.invokevirtual 172, 3) := by decide +kernel
theorem dX12_address_78 : decode cX12_address 78 = .ok (.istore_n 3, 1) := by decide +kernel
theorem dX12_address_79 : decode cX12_address 79 = .ok (.aload_n 0, 1) := by decide +kernel
theorem dX12_address_80 : decode cX12_address 80 = .ok (.iconst 0, 1) := by decide +kernel
theorem dX12_address_81 : decode cX12_address 81 = .ok (.putfield 125, 3) := by decide +kernel
theorem dX12_address_84 : decode cX12_address 84 = .ok (.iload_n 3, 1) := by decide +kernel
theorem dX12_address_85 : decode cX12_address 85 = .ok (.iconst (-1), 1) := by decide +kernel
theorem dX12_address_86 : decode cX12_address 86 = .ok (.if_icmp .eq 7, 3) := by decide +kernel
theorem dX12_address_89 : decode cX12_address 89 = .ok (.iconst (-1), 1) := by decide +kernel
theorem dX12_address_90 : decode cX12_address 90 = .ok (.iload_n 3, 1) := by decide +kernel
theorem dX12_address_91 : decode cX12_address 91 = .ok (.isub, 1) := by decide +kernel
theorem dX12_address_92 : decode cX12_address 92 = .ok (.ireturn, 1) := by decide +kernel
theorem dX12_address_93 : decode cX12_address 93 = .ok (.iload_n 1, 1) := by decide +kernel
theorem dX12_address_94 : decode cX12_address 94 = .ok (.aload_n 0, 1) := by decide +kernel
theorem dX12_address_95 : decode cX12_address 95 = .ok (.getfield 166, 3) := by decide +kernel
theorem dX12_address_98 : decode cX12_address 98 = .ok (.if_icmp .ne 13, 3) := by decide +kernel
theorem dX12_address_101 : decode cX12_address 101 = .ok (.aload_n 0, 1) := by decide +kernel
theorem dX12_address_102 : decode cX12_address 102 = .ok (.dup, 1) := by decide +kernel
theorem dX12_address_103 : decode cX12_address 103 = .ok (.getfield 166, 3) := by decide +kernel
theorem dX12_address_106 : decode cX12_address 106 = .ok (.iconst 1, 1) := by decide +kernel
theorem dX12_address_107 : decode cX12_address 107 = .ok (.iadd, 1) := by decide +kernel
theorem dX12_address_108 : decode cX12_address 108 = .ok (.putfield 166, 3) := by decide +kernel
theorem dX12_address_111 : decode cX12_address 111 = .ok (.iload_n 1, 1) := by decide +kernel
theorem dX12_address_112 : decode cX12_address 112 = .ok (.ireturn, 1) := by decide +kernel
theorem dX12_addresses_0 : decode cX12_addresses 0 = .ok (.aload_n 0, 1) := by decide +kernel
theorem dX12_addresses_1 : decode cX12_addresses 1 = .ok (.getfield 166, 3) := by decide +kernel
theorem dX12_addresses_4 : decode cX12_addresses 4 = .ok (.ireturn, 1) := by decide +kernel
theorem dX12_isOne_0 : decode cX12_isOne 0 = .ok (.iload_n 1, 1) := by decide +kernel
theorem dX12_isOne_1 : decode cX12_isOne 1 = .ok (.ifCond .lt 15, 3) := by decide +kernel
theorem dX12_isOne_4 : decode cX12_isOne 4 = .ok (.iload_n 1, 1) := by decide +kernel
theorem dX12_isOne_5 : decode cX12_isOne 5 = .ok (.aload_n 0, 1) := by decide +kernel
theorem dX12_isOne_6 : decode cX12_isOne 6 = .ok (.getfield 166, 3) := by decide +kernel
theorem dX12_isOne_9 : decode cX12_isOne 9 = .ok (.if_icmp .ge 7, 3) := by decide +kernel
theorem dX12_isOne_12 : decode cX12_isOne 12 = .ok (.iconst 1, 1) := by decide +kernel
theorem dX12_isOne_13 : decode cX12_isOne 13 = .ok (.goto 4, 3) := by decide +kernel
theorem dX12_isOne_16 : decode cX12_isOne 16 = .ok (.iconst 0, 1) := by decide +kernel
theorem dX12_isOne_17 : decode cX12_isOne 17 = .ok (.ireturn, 1) := by decide +kernel
theorem dX12_cleaned_0 : decode cX12_cleaned 0 = .ok (.aload_n 0, 1) := by decide +kernel
theorem dX12_cleaned_1 : decode cX12_cleaned 1 = .ok (.aload_n 0, 1) := by decide +kernel
theorem dX12_cleaned_2 : decode cX12_cleaned 2 = .ok (.iload_n 1, 1) := by decide +kernel
theorem dX12_cleaned_3 : decode cX12_cleaned 3 = .ok (.invokevirtual 175, 3) := by decide +kernel
theorem dX12_cleaned_6 : decode cX12_cleaned 6 = .ok (.ifCond .eq 11, 3) := by decide +kernel
theorem dX12_cleaned_9 : decode cX12_cleaned 9 = .ok (.iload_n 3, 1) := by decide +kernel
theorem dX12_cleaned_10 : decode cX12_cleaned 10 = .ok (.ifCond .lt 7, 3) := by decide +kernel
theorem dX12_cleaned_13 : decode cX12_cleaned 13 = .ok (.iconst 0, 1) := by decide +kernel
theorem dX12_cleaned_14 : decode cX12_cleaned 14 = .ok (.goto 4, 3) := by decide +kernel
theorem dX12_cleaned_17 : decode cX12_cleaned 17 = .ok (.iconst 1, 1) := by decide +kernel
theorem dX12_cleaned_18 : decode cX12_cleaned 18 = .ok (.invokevirtual 128, 3) := by decide +kernel
theorem dX12_cleaned_21 : decode cX12_cleaned 21 = .ok (.ifCond .eq 5, 3) := by decide +kernel
theorem dX12_cleaned_24 : decode cX12_cleaned 24 = .ok (.iconst 0, 1) := by decide +kernel
theorem dX12_cleaned_25 : decode cX12_cleaned 25 = .ok (.ireturn, 1) := by decide +kernel
theorem dX12_cleaned_26 : decode cX12_cleaned 26 = .ok (.iload_n 2, 1) := by decide +kernel
theorem dX12_cleaned_27 : decode cX12_cleaned 27 = .ok (.ifCond .eq 12, 3) := by decide +kernel
theorem dX12_cleaned_30 : decode cX12_cleaned 30 = .ok (.aload_n 0, 1) := by decide +kernel
theorem dX12_cleaned_31 : decode cX12_cleaned 31 = .ok (.getfield 40, 3) := by decide +kernel
theorem dX12_cleaned_34 : decode cX12_cleaned 34 = .ok (.iload_n 1, 1) := by decide +kernel
theorem dX12_cleaned_35 : decode cX12_cleaned 35 = .ok (.iaload, 1) := by decide +kernel
theorem dX12_cleaned_36 : decode cX12_cleaned 36 = .ok (.goto 9, 3) := by decide +kernel
theorem dX12_cleaned_39 : decode cX12_cleaned 39 = .ok (.aload_n 0, 1) := by decide +kernel
theorem dX12_cleaned_40 : decode cX12_cleaned 40 = .ok (.getfield 34, 3) := by decide +kernel
theorem dX12_cleaned_43 : decode cX12_cleaned 43 = .ok (.iload_n 1, 1) := by decide +kernel
theorem dX12_cleaned_44 : decode cX12_cleaned 44 = .ok (.iaload, 1) := by decide +kernel
theorem dX12_cleaned_45 : decode cX12_cleaned 45 = .ok (.istore 4, 2) := by decide +kernel
theorem dX12_cleaned_47 : decode cX12_cleaned 47 = .ok (.iload_n 3, 1) := by decide +kernel
theorem dX12_cleaned_48 : decode cX12_cleaned 48 = .ok (.iload 4, 2) := by decide +kernel
theorem dX12_cleaned_50 : decode cX12_cleaned 50 = .ok (.if_icmp .lt 8, 3) := by decide +kernel
theorem dX12_cleaned_53 : decode cX12_cleaned 53 = .ok (.bipush 32, 2) := by decide +kernel
theorem dX12_cleaned_55 : decode cX12_cleaned 55 = .ok (.goto 32, 3) := by decide +kernel
theorem dX12_cleaned_58 : decode cX12_cleaned 58 = .ok (.iload_n 2, 1) := by decide +kernel
theorem dX12_cleaned_59 : decode cX12_cleaned 59 = .ok (.ifCond .eq 17, 3) := by decide +kernel
theorem dX12_cleaned_62 : decode cX12_cleaned 62 = .ok (.aload_n 0, 1) := by decide +kernel
theorem dX12_cleaned_63 : decode cX12_cleaned 63 = .ok (.getfield 37, 3) := by decide +kernel
theorem dX12_cleaned_66 : decode cX12_cleaned 66 = .ok (.bipush 12, 2) := by decide +kernel
theorem dX12_cleaned_68 : decode cX12_cleaned 68 = .ok (.iload_n 1, 1) := by decide +kernel
theorem dX12_cleaned_69 : decode cX12_cleaned 69 = .ok (.imul, 1) := by decide +kernel
theorem dX12_cleaned_70 : decode cX12_cleaned 70 = .ok (.iload_n 3, 1) := by decide +kernel
theorem dX12_cleaned_71 : decode cX12_cleaned 71 = .ok (.iadd, 1) := by decide +kernel
theorem dX12_cleaned_72 : decode cX12_cleaned 72 = .ok (.iaload, 1) := by decide +kernel
theorem dX12_cleaned_73 : decode cX12_cleaned 73 = .ok (.goto 14, 3) := by decide +kernel
theorem dX12_cleaned_76 : decode cX12_cleaned 76 = .ok (.aload_n 0, 1) := by decide +kernel
theorem dX12_cleaned_77 : decode cX12_cleaned 77 = .ok (.getfield 31, 3) := by decide +kernel
theorem dX12_cleaned_80 : decode cX12_cleaned 80 = .ok (.bipush 12, 2) := by decide +kernel
theorem dX12_cleaned_82 : decode cX12_cleaned 82 = .ok (.iload_n 1, 1) := by decide +kernel
theorem dX12_cleaned_83 : decode cX12_cleaned 83 = .ok (.imul, 1) := by decide +kernel
theorem dX12_cleaned_84 : decode cX12_cleaned 84 = .ok (.iload_n 3, 1) := by decide +kernel
theorem dX12_cleaned_85 : decode cX12_cleaned 85 = .ok (.iadd, 1) := by decide +kernel
theorem dX12_cleaned_86 : decode cX12_cleaned 86 = .ok (.iaload, 1) := by decide +kernel
theorem dX12_cleaned_87 : decode cX12_cleaned 87 = .ok (.istore 5, 2) := by decide +kernel
theorem dX12_cleaned_89 : decode cX12_cleaned 89 = .ok (.iload 5, 2) := by decide +kernel
theorem dX12_cleaned_91 : decode cX12_cleaned 91 = .ok (.i2c, 1) := by decide +kernel
theorem dX12_cleaned_92 : decode cX12_cleaned 92 = .ok (.ireturn, 1) := by decide +kernel
theorem dX12_changes_0 : decode cX12_changes 0 = .ok (.iconst 0, 1) := by decide +kernel
theorem dX12_changes_1 : decode cX12_changes 1 = .ok (.istore 6, 2) := by decide +kernel
theorem dX12_changes_3 : decode cX12_changes 3 = .ok (.iload 6, 2) := by decide +kernel
theorem dX12_changes_5 : decode cX12_changes 5 = .ok (.iload 5, 2) := by decide +kernel
theorem dX12_changes_7 : decode cX12_changes 7 = .ok (.if_icmp .gt 18, 3) := by decide +kernel
theorem dX12_changes_10 : decode cX12_changes 10 = .ok (.aload_n 0, 1) := by decide +kernel
theorem dX12_changes_11 : decode cX12_changes 11 = .ok (.getfield 114, 3) := by decide +kernel
theorem dX12_changes_14 : decode cX12_changes 14 = .ok (.iload 6, 2) := by decide +kernel
theorem dX12_changes_16 : decode cX12_changes 16 = .ok (.iload 6, 2) := by decide +kernel
theorem dX12_changes_18 : decode cX12_changes 18 = .ok (.iastore, 1) := by decide +kernel
theorem dX12_changes_19 : decode cX12_changes 19 = .ok (.iinc 6 1, 3) := by decide +kernel
theorem dX12_changes_22 : decode cX12_changes 22 = .ok (.goto (-19), 3) := by decide +kernel
theorem dX12_changes_25 : decode cX12_changes 25 = .ok (.iconst 1, 1) := by decide +kernel
theorem dX12_changes_26 : decode cX12_changes 26 = .ok (.istore 6, 2) := by decide +kernel
theorem dX12_changes_28 : decode cX12_changes 28 = .ok (.iload 6, 2) := by decide +kernel
theorem dX12_changes_30 : decode cX12_changes 30 = .ok (.iload_n 3, 1) := by decide +kernel
theorem dX12_changes_31 : decode cX12_changes 31 = .ok (.if_icmp .gt 149, 3) := by decide +kernel
theorem dX12_changes_34 : decode cX12_changes 34 = .ok (.aload_n 0, 1) := by decide +kernel
theorem dX12_changes_35 : decode cX12_changes 35 = .ok (.getfield 114, 3) := by decide +kernel
theorem dX12_changes_38 : decode cX12_changes 38 = .ok (.iconst 0, 1) := by decide +kernel
theorem dX12_changes_39 : decode cX12_changes 39 = .ok (.iaload, 1) := by decide +kernel
theorem dX12_changes_40 : decode cX12_changes 40 = .ok (.istore 7, 2) := by decide +kernel
theorem dX12_changes_42 : decode cX12_changes 42 = .ok (.aload_n 0, 1) := by decide +kernel
theorem dX12_changes_43 : decode cX12_changes 43 = .ok (.getfield 114, 3) := by decide +kernel
theorem dX12_changes_46 : decode cX12_changes 46 = .ok (.iconst 0, 1) := by decide +kernel
theorem dX12_changes_47 : decode cX12_changes 47 = .ok (.iload 6, 2) := by decide +kernel
theorem dX12_changes_49 : decode cX12_changes 49 = .ok (.iastore, 1) := by decide +kernel
theorem dX12_changes_50 : decode cX12_changes 50 = .ok (.iconst 1, 1) := by decide +kernel
theorem dX12_changes_51 : decode cX12_changes 51 = .ok (.istore 8, 2) := by decide +kernel
theorem dX12_changes_53 : decode cX12_changes 53 = .ok (.iload 8, 2) := by decide +kernel
theorem dX12_changes_55 : decode cX12_changes 55 = .ok (.iload 5, 2) := by decide +kernel
theorem dX12_changes_57 : decode cX12_changes 57 = .ok (.if_icmp .gt 117, 3) := by decide +kernel
theorem dX12_changes_60 : decode cX12_changes 60 = .ok (.iload 7, 2) := by decide +kernel
theorem dX12_changes_62 : decode cX12_changes 62 = .ok (.aload_n 1, 1) := by decide +kernel
theorem dX12_changes_63 : decode cX12_changes 63 = .ok (.bipush 12, 2) := by decide +kernel
theorem dX12_changes_65 : decode cX12_changes 65 = .ok (.iload_n 2, 1) := by decide +kernel
theorem dX12_changes_66 : decode cX12_changes 66 = .ok (.imul, 1) := by decide +kernel
theorem dX12_changes_67 : decode cX12_changes 67 = .ok (.iload 6, 2) := by decide +kernel
theorem dX12_changes_69 : decode cX12_changes 69 = .ok (.iadd, 1) := by decide +kernel
theorem dX12_changes_70 : decode cX12_changes 70 = .ok (.iconst 1, 1) := by decide +kernel
theorem dX12_changes_71 : decode cX12_changes 71 = .ok (.isub, 1) := by decide +kernel
theorem dX12_changes_72 : decode cX12_changes 72 = .ok (.iaload, 1) := by decide +kernel
theorem dX12_changes_73 : decode cX12_changes 73 = .ok (.aload_n 1, 1) := by decide +kernel
theorem dX12_changes_74 : decode cX12_changes 74 = .ok (.bipush 12, 2) := by decide +kernel
theorem dX12_changes_76 : decode cX12_changes 76 = .ok (.iload 4, 2) := by decide +kernel
theorem dX12_changes_78 : decode cX12_changes 78 = .ok (.imul, 1) := by decide +kernel
theorem dX12_changes_79 : decode cX12_changes 79 = .ok (.iload 8, 2) := by decide +kernel
theorem dX12_changes_81 : decode cX12_changes 81 = .ok (.iadd, 1) := by decide +kernel
theorem dX12_changes_82 : decode cX12_changes 82 = .ok (.iconst 1, 1) := by decide +kernel
theorem dX12_changes_83 : decode cX12_changes 83 = .ok (.isub, 1) := by decide +kernel
theorem dX12_changes_84 : decode cX12_changes 84 = .ok (.iaload, 1) := by decide +kernel
theorem dX12_changes_85 : decode cX12_changes 85 = .ok (.if_icmp .ne 7, 3) := by decide +kernel
theorem dX12_changes_88 : decode cX12_changes 88 = .ok (.iconst 0, 1) := by decide +kernel
theorem dX12_changes_89 : decode cX12_changes 89 = .ok (.goto 4, 3) := by decide +kernel
theorem dX12_changes_92 : decode cX12_changes 92 = .ok (.iconst 1, 1) := by decide +kernel
theorem dX12_changes_93 : decode cX12_changes 93 = .ok (.iadd, 1) := by decide +kernel
theorem dX12_changes_94 : decode cX12_changes 94 = .ok (.istore 9, 2) := by decide +kernel
theorem dX12_changes_96 : decode cX12_changes 96 = .ok (.aload_n 0, 1) := by decide +kernel
theorem dX12_changes_97 : decode cX12_changes 97 = .ok (.getfield 114, 3) := by decide +kernel
theorem dX12_changes_100 : decode cX12_changes 100 = .ok (.iload 8, 2) := by decide +kernel
theorem dX12_changes_102 : decode cX12_changes 102 = .ok (.iaload, 1) := by decide +kernel
theorem dX12_changes_103 : decode cX12_changes 103 = .ok (.iconst 1, 1) := by decide +kernel
theorem dX12_changes_104 : decode cX12_changes 104 = .ok (.iadd, 1) := by decide +kernel
theorem dX12_changes_105 : decode cX12_changes 105 = .ok (.iload 9, 2) := by decide +kernel
theorem dX12_changes_107 : decode cX12_changes 107 = .ok (.if_icmp .ge 14, 3) := by decide +kernel
theorem dX12_changes_110 : decode cX12_changes 110 = .ok (.aload_n 0, 1) := by decide +kernel
theorem dX12_changes_111 : decode cX12_changes 111 = .ok (.getfield 114, 3) := by decide +kernel
theorem dX12_changes_114 : decode cX12_changes 114 = .ok (.iload 8, 2) := by decide +kernel
theorem dX12_changes_116 : decode cX12_changes 116 = .ok (.iaload, 1) := by decide +kernel
theorem dX12_changes_117 : decode cX12_changes 117 = .ok (.iconst 1, 1) := by decide +kernel
theorem dX12_changes_118 : decode cX12_changes 118 = .ok (.iadd, 1) := by decide +kernel
theorem dX12_changes_119 : decode cX12_changes 119 = .ok (.istore 9, 2) := by decide +kernel
theorem dX12_changes_121 : decode cX12_changes 121 = .ok (.aload_n 0, 1) := by decide +kernel
theorem dX12_changes_122 : decode cX12_changes 122 = .ok (.getfield 114, 3) := by decide +kernel
theorem dX12_changes_125 : decode cX12_changes 125 = .ok (.iload 8, 2) := by decide +kernel
theorem dX12_changes_127 : decode cX12_changes 127 = .ok (.iconst 1, 1) := by decide +kernel
theorem dX12_changes_128 : decode cX12_changes 128 = .ok (.isub, 1) := by decide +kernel
theorem dX12_changes_129 : decode cX12_changes 129 = .ok (.iaload, 1) := by decide +kernel
theorem dX12_changes_130 : decode cX12_changes 130 = .ok (.iconst 1, 1) := by decide +kernel
theorem dX12_changes_131 : decode cX12_changes 131 = .ok (.iadd, 1) := by decide +kernel
theorem dX12_changes_132 : decode cX12_changes 132 = .ok (.iload 9, 2) := by decide +kernel
theorem dX12_changes_134 : decode cX12_changes 134 = .ok (.if_icmp .ge 16, 3) := by decide +kernel
theorem dX12_changes_137 : decode cX12_changes 137 = .ok (.aload_n 0, 1) := by decide +kernel
theorem dX12_changes_138 : decode cX12_changes 138 = .ok (.getfield 114, 3) := by decide +kernel
theorem dX12_changes_141 : decode cX12_changes 141 = .ok (.iload 8, 2) := by decide +kernel
theorem dX12_changes_143 : decode cX12_changes 143 = .ok (.iconst 1, 1) := by decide +kernel
theorem dX12_changes_144 : decode cX12_changes 144 = .ok (.isub, 1) := by decide +kernel
theorem dX12_changes_145 : decode cX12_changes 145 = .ok (.iaload, 1) := by decide +kernel
theorem dX12_changes_146 : decode cX12_changes 146 = .ok (.iconst 1, 1) := by decide +kernel
theorem dX12_changes_147 : decode cX12_changes 147 = .ok (.iadd, 1) := by decide +kernel
theorem dX12_changes_148 : decode cX12_changes 148 = .ok (.istore 9, 2) := by decide +kernel
theorem dX12_changes_150 : decode cX12_changes 150 = .ok (.aload_n 0, 1) := by decide +kernel
theorem dX12_changes_151 : decode cX12_changes 151 = .ok (.getfield 114, 3) := by decide +kernel
theorem dX12_changes_154 : decode cX12_changes 154 = .ok (.iload 8, 2) := by decide +kernel
theorem dX12_changes_156 : decode cX12_changes 156 = .ok (.iaload, 1) := by decide +kernel
theorem dX12_changes_157 : decode cX12_changes 157 = .ok (.istore 7, 2) := by decide +kernel
theorem dX12_changes_159 : decode cX12_changes 159 = .ok (.aload_n 0, 1) := by decide +kernel
theorem dX12_changes_160 : decode cX12_changes 160 = .ok (.getfield 114, 3) := by decide +kernel
theorem dX12_changes_163 : decode cX12_changes 163 = .ok (.iload 8, 2) := by decide +kernel
theorem dX12_changes_165 : decode cX12_changes 165 = .ok (.iload 9, 2) := by decide +kernel
theorem dX12_changes_167 : decode cX12_changes 167 = .ok (.iastore, 1) := by decide +kernel
theorem dX12_changes_168 : decode cX12_changes 168 = .ok (.iinc 8 1, 3) := by decide +kernel
theorem dX12_changes_171 : decode cX12_changes 171 = .ok (.goto (-118), 3) := by decide +kernel
theorem dX12_changes_174 : decode cX12_changes 174 = .ok (.iinc 6 1, 3) := by decide +kernel
theorem dX12_changes_177 : decode cX12_changes 177 = .ok (.goto (-149), 3) := by decide +kernel
theorem dX12_changes_180 : decode cX12_changes 180 = .ok (.aload_n 0, 1) := by decide +kernel
theorem dX12_changes_181 : decode cX12_changes 181 = .ok (.getfield 114, 3) := by decide +kernel
theorem dX12_changes_184 : decode cX12_changes 184 = .ok (.iload 5, 2) := by decide +kernel
theorem dX12_changes_186 : decode cX12_changes 186 = .ok (.iaload, 1) := by decide +kernel
theorem dX12_changes_187 : decode cX12_changes 187 = .ok (.ireturn, 1) := by decide +kernel
theorem dX12_apartOf_0 : decode cX12_apartOf 0 = .ok (.iload_n 3, 1) := by decide +kernel
theorem dX12_apartOf_1 : decode cX12_apartOf 1 = .ok (.ifCond .eq 26, 3) := by decide +kernel
theorem dX12_apartOf_4 : decode cX12_apartOf 4 = .ok (.aload_n 0, 1) := by decide +kernel
theorem dX12_apartOf_5 : decode cX12_apartOf 5 = .ok (.aload_n 0, 1) := by decide +kernel
theorem dX12_apartOf_6 : decode cX12_apartOf 6 = .ok (.getfield 37, 3) := by decide +kernel
theorem dX12_apartOf_9 : decode cX12_apartOf 9 = .ok (.iload_n 1, 1) := by decide +kernel
theorem dX12_apartOf_10 : decode cX12_apartOf 10 = .ok (.aload_n 0, 1) := by decide +kernel
theorem dX12_apartOf_11 : decode cX12_apartOf 11 = .ok (.getfield 40, 3) := by decide +kernel
theorem dX12_apartOf_14 : decode cX12_apartOf 14 = .ok (.iload_n 1, 1) := by decide +kernel
theorem dX12_apartOf_15 : decode cX12_apartOf 15 = .ok (.iaload, 1) := by decide +kernel
theorem dX12_apartOf_16 : decode cX12_apartOf 16 = .ok (.iload_n 2, 1) := by decide +kernel
theorem dX12_apartOf_17 : decode cX12_apartOf 17 = .ok (.aload_n 0, 1) := by decide +kernel
theorem dX12_apartOf_18 : decode cX12_apartOf 18 = .ok (.getfield 40, 3) := by decide +kernel
theorem dX12_apartOf_21 : decode cX12_apartOf 21 = .ok (.iload_n 2, 1) := by decide +kernel
theorem dX12_apartOf_22 : decode cX12_apartOf 22 = .ok (.iaload, 1) := by decide +kernel
theorem dX12_apartOf_23 : decode cX12_apartOf 23 = .ok (.invokevirtual 178, 3) := by decide +kernel
theorem dX12_apartOf_26 : decode cX12_apartOf 26 = .ok (.ireturn, 1) := by decide +kernel
theorem dX12_apartOf_27 : decode cX12_apartOf 27 = .ok (.aload_n 0, 1) := by decide +kernel
theorem dX12_apartOf_28 : decode cX12_apartOf 28 = .ok (.aload_n 0, 1) := by decide +kernel
theorem dX12_apartOf_29 : decode cX12_apartOf 29 = .ok (.getfield 31, 3) := by decide +kernel
theorem dX12_apartOf_32 : decode cX12_apartOf 32 = .ok (.iload_n 1, 1) := by decide +kernel
theorem dX12_apartOf_33 : decode cX12_apartOf 33 = .ok (.aload_n 0, 1) := by decide +kernel
theorem dX12_apartOf_34 : decode cX12_apartOf 34 = .ok (.getfield 34, 3) := by decide +kernel
theorem dX12_apartOf_37 : decode cX12_apartOf 37 = .ok (.iload_n 1, 1) := by decide +kernel
theorem dX12_apartOf_38 : decode cX12_apartOf 38 = .ok (.iaload, 1) := by decide +kernel
theorem dX12_apartOf_39 : decode cX12_apartOf 39 = .ok (.iload_n 2, 1) := by decide +kernel
theorem dX12_apartOf_40 : decode cX12_apartOf 40 = .ok (.aload_n 0, 1) := by decide +kernel
theorem dX12_apartOf_41 : decode cX12_apartOf 41 = .ok (.getfield 34, 3) := by decide +kernel
theorem dX12_apartOf_44 : decode cX12_apartOf 44 = .ok (.iload_n 2, 1) := by decide +kernel
theorem dX12_apartOf_45 : decode cX12_apartOf 45 = .ok (.iaload, 1) := by decide +kernel
theorem dX12_apartOf_46 : decode cX12_apartOf 46 = .ok (.invokevirtual 178, 3) := by decide +kernel
theorem dX12_apartOf_49 : decode cX12_apartOf 49 = .ok (.ireturn, 1) := by decide +kernel
theorem dX12_apart_0 : decode cX12_apart 0 = .ok (.aload_n 0, 1) := by decide +kernel
theorem dX12_apart_1 : decode cX12_apart 1 = .ok (.aload_n 0, 1) := by decide +kernel
theorem dX12_apart_2 : decode cX12_apart 2 = .ok (.iload_n 1, 1) := by decide +kernel
theorem dX12_apart_3 : decode cX12_apart 3 = .ok (.invokevirtual 175, 3) := by decide +kernel
theorem dX12_apart_6 : decode cX12_apart 6 = .ok (.ifCond .eq 15, 3) := by decide +kernel
theorem dX12_apart_9 : decode cX12_apart 9 = .ok (.aload_n 0, 1) := by decide +kernel
theorem dX12_apart_10 : decode cX12_apart 10 = .ok (.iload_n 2, 1) := by decide +kernel
theorem dX12_apart_11 : decode cX12_apart 11 = .ok (.invokevirtual 175, 3) := by decide +kernel
theorem dX12_apart_14 : decode cX12_apart 14 = .ok (.ifCond .eq 7, 3) := by decide +kernel
theorem dX12_apart_17 : decode cX12_apart 17 = .ok (.iconst 0, 1) := by decide +kernel
theorem dX12_apart_18 : decode cX12_apart 18 = .ok (.goto 4, 3) := by decide +kernel
theorem dX12_apart_21 : decode cX12_apart 21 = .ok (.iconst 1, 1) := by decide +kernel
theorem dX12_apart_22 : decode cX12_apart 22 = .ok (.invokevirtual 128, 3) := by decide +kernel
theorem dX12_apart_25 : decode cX12_apart 25 = .ok (.ifCond .eq 5, 3) := by decide +kernel
theorem dX12_apart_28 : decode cX12_apart 28 = .ok (.iconst 0, 1) := by decide +kernel
theorem dX12_apart_29 : decode cX12_apart 29 = .ok (.ireturn, 1) := by decide +kernel
theorem dX12_apart_30 : decode cX12_apart 30 = .ok (.aload_n 0, 1) := by decide +kernel
theorem dX12_apart_31 : decode cX12_apart 31 = .ok (.iload_n 1, 1) := by decide +kernel
theorem dX12_apart_32 : decode cX12_apart 32 = .ok (.iload_n 2, 1) := by decide +kernel
theorem dX12_apart_33 : decode cX12_apart 33 = .ok (.iload_n 3, 1) := by decide +kernel
theorem dX12_apart_34 : decode cX12_apart 34 = .ok (.invokevirtual 182, 3) := by decide +kernel
theorem dX12_apart_37 : decode cX12_apart 37 = .ok (.ireturn, 1) := by decide +kernel
theorem dX12_alike_0 : decode cX12_alike 0 = .ok (.iload_n 3, 1) := by decide +kernel
theorem dX12_alike_1 : decode cX12_alike 1 = .ok (.ifCond .eq 12, 3) := by decide +kernel
theorem dX12_alike_4 : decode cX12_alike 4 = .ok (.aload_n 0, 1) := by decide +kernel
theorem dX12_alike_5 : decode cX12_alike 5 = .ok (.getfield 40, 3) := by decide +kernel
theorem dX12_alike_8 : decode cX12_alike 8 = .ok (.iload_n 1, 1) := by decide +kernel
theorem dX12_alike_9 : decode cX12_alike 9 = .ok (.iaload, 1) := by decide +kernel
theorem dX12_alike_10 : decode cX12_alike 10 = .ok (.goto 9, 3) := by decide +kernel
theorem dX12_alike_13 : decode cX12_alike 13 = .ok (.aload_n 0, 1) := by decide +kernel
theorem dX12_alike_14 : decode cX12_alike 14 = .ok (.getfield 34, 3) := by decide +kernel
theorem dX12_alike_17 : decode cX12_alike 17 = .ok (.iload_n 1, 1) := by decide +kernel
theorem dX12_alike_18 : decode cX12_alike 18 = .ok (.iaload, 1) := by decide +kernel
theorem dX12_alike_19 : decode cX12_alike 19 = .ok (.istore 4, 2) := by decide +kernel
theorem dX12_alike_21 : decode cX12_alike 21 = .ok (.iload_n 3, 1) := by decide +kernel
theorem dX12_alike_22 : decode cX12_alike 22 = .ok (.ifCond .eq 12, 3) := by decide +kernel
theorem dX12_alike_25 : decode cX12_alike 25 = .ok (.aload_n 0, 1) := by decide +kernel
theorem dX12_alike_26 : decode cX12_alike 26 = .ok (.getfield 40, 3) := by decide +kernel
theorem dX12_alike_29 : decode cX12_alike 29 = .ok (.iload_n 2, 1) := by decide +kernel
theorem dX12_alike_30 : decode cX12_alike 30 = .ok (.iaload, 1) := by decide +kernel
theorem dX12_alike_31 : decode cX12_alike 31 = .ok (.goto 9, 3) := by decide +kernel
theorem dX12_alike_34 : decode cX12_alike 34 = .ok (.aload_n 0, 1) := by decide +kernel
theorem dX12_alike_35 : decode cX12_alike 35 = .ok (.getfield 34, 3) := by decide +kernel
theorem dX12_alike_38 : decode cX12_alike 38 = .ok (.iload_n 2, 1) := by decide +kernel
theorem dX12_alike_39 : decode cX12_alike 39 = .ok (.iaload, 1) := by decide +kernel
theorem dX12_alike_40 : decode cX12_alike 40 = .ok (.istore 5, 2) := by decide +kernel
theorem dX12_alike_42 : decode cX12_alike 42 = .ok (.iload 4, 2) := by decide +kernel
theorem dX12_alike_44 : decode cX12_alike 44 = .ok (.iload 5, 2) := by decide +kernel
theorem dX12_alike_46 : decode cX12_alike 46 = .ok (.if_icmp .le 8, 3) := by decide +kernel
theorem dX12_alike_49 : decode cX12_alike 49 = .ok (.iload 4, 2) := by decide +kernel
theorem dX12_alike_51 : decode cX12_alike 51 = .ok (.goto 5, 3) := by decide +kernel
theorem dX12_alike_54 : decode cX12_alike 54 = .ok (.iload 5, 2) := by decide +kernel
theorem dX12_alike_56 : decode cX12_alike 56 = .ok (.istore 6, 2) := by decide +kernel
theorem dX12_alike_58 : decode cX12_alike 58 = .ok (.iload 6, 2) := by decide +kernel
theorem dX12_alike_60 : decode cX12_alike 60 = .ok (.ifCond .ne 5, 3) := by decide +kernel
theorem dX12_alike_63 : decode cX12_alike 63 = .ok (.fconst 1, 1) := by decide +kernel
theorem dX12_alike_64 : decode cX12_alike 64 = .ok (.freturn, 1) := by decide +kernel
theorem dX12_alike_65 : decode cX12_alike 65 = .ok (.aload_n 0, 1) := by decide +kernel
theorem dX12_alike_66 : decode cX12_alike 66 = .ok (.iload_n 1, 1) := by decide +kernel
theorem dX12_alike_67 : decode cX12_alike 67 = .ok (.iload_n 2, 1) := by decide +kernel
theorem dX12_alike_68 : decode cX12_alike 68 = .ok (.iload_n 3, 1) := by decide +kernel
theorem dX12_alike_69 : decode cX12_alike 69 = .ok (.invokevirtual 182, 3) := by decide +kernel
theorem dX12_alike_72 : decode cX12_alike 72 = .ok (.i2f, 1) := by decide +kernel
theorem dX12_alike_73 : decode cX12_alike 73 = .ok (.iload 6, 2) := by decide +kernel
theorem dX12_alike_75 : decode cX12_alike 75 = .ok (.i2f, 1) := by decide +kernel
theorem dX12_alike_76 : decode cX12_alike 76 = .ok (.fdiv, 1) := by decide +kernel
theorem dX12_alike_77 : decode cX12_alike 77 = .ok (.fstore 7, 2) := by decide +kernel
theorem dX12_alike_79 : decode cX12_alike 79 = .ok (.fconst 1, 1) := by decide +kernel
theorem dX12_alike_80 : decode cX12_alike 80 = .ok (.fload 7, 2) := by decide +kernel
theorem dX12_alike_82 : decode cX12_alike 82 = .ok (.fsub, 1) := by decide +kernel
theorem dX12_alike_83 : decode cX12_alike 83 = .ok (.freturn, 1) := by decide +kernel
theorem dX12_likenessOf_0 : decode cX12_likenessOf 0 = .ok (.ldc 186, 2) := by decide +kernel
theorem dX12_likenessOf_2 : decode cX12_likenessOf 2 = .ok (.aload_n 0, 1) := by decide +kernel
theorem dX12_likenessOf_3 : decode cX12_likenessOf 3 = .ok (.iload_n 1, 1) := by decide +kernel
theorem dX12_likenessOf_4 : decode cX12_likenessOf 4 = .ok (.iload_n 2, 1) := by decide +kernel
theorem dX12_likenessOf_5 : decode cX12_likenessOf 5 = .ok (.iconst 0, 1) := by decide +kernel
theorem dX12_likenessOf_6 : decode cX12_likenessOf 6 = .ok (.invokevirtual 187, 3) := by decide +kernel
theorem dX12_likenessOf_9 : decode cX12_likenessOf 9 = .ok (.fmul, 1) := by decide +kernel
theorem dX12_likenessOf_10 : decode cX12_likenessOf 10 = .ok (.fstore_n 3, 1) := by decide +kernel
theorem dX12_likenessOf_11 : decode cX12_likenessOf 11 = .ok (.fload_n 3, 1) := by decide +kernel
theorem dX12_likenessOf_12 : decode cX12_likenessOf 12 = .ok (.ldc 191, 2) := by decide +kernel
theorem dX12_likenessOf_14 : decode cX12_likenessOf 14 = .ok (.aload_n 0, 1) := by decide +kernel
theorem dX12_likenessOf_15 : decode cX12_likenessOf 15 = .ok (.iload_n 1, 1) := by decide +kernel
theorem dX12_likenessOf_16 : decode cX12_likenessOf 16 = .ok (.iload_n 2, 1) := by decide +kernel
theorem dX12_likenessOf_17 : decode cX12_likenessOf 17 = .ok (.iconst 1, 1) := by decide +kernel
theorem dX12_likenessOf_18 : decode cX12_likenessOf 18 = .ok (.invokevirtual 187, 3) := by decide +kernel
theorem dX12_likenessOf_21 : decode cX12_likenessOf 21 = .ok (.fmul, 1) := by decide +kernel
theorem dX12_likenessOf_22 : decode cX12_likenessOf 22 = .ok (.fadd, 1) := by decide +kernel
theorem dX12_likenessOf_23 : decode cX12_likenessOf 23 = .ok (.fstore_n 3, 1) := by decide +kernel
theorem dX12_likenessOf_24 : decode cX12_likenessOf 24 = .ok (.fload_n 3, 1) := by decide +kernel
theorem dX12_likenessOf_25 : decode cX12_likenessOf 25 = .ok (.ldc 192, 2) := by decide +kernel
theorem dX12_likenessOf_27 : decode cX12_likenessOf 27 = .ok (.aload_n 0, 1) := by decide +kernel
theorem dX12_likenessOf_28 : decode cX12_likenessOf 28 = .ok (.getfield 43, 3) := by decide +kernel
theorem dX12_likenessOf_31 : decode cX12_likenessOf 31 = .ok (.iload_n 1, 1) := by decide +kernel
theorem dX12_likenessOf_32 : decode cX12_likenessOf 32 = .ok (.iaload, 1) := by decide +kernel
theorem dX12_likenessOf_33 : decode cX12_likenessOf 33 = .ok (.aload_n 0, 1) := by decide +kernel
theorem dX12_likenessOf_34 : decode cX12_likenessOf 34 = .ok (.getfield 43, 3) := by decide +kernel
theorem dX12_likenessOf_37 : decode cX12_likenessOf 37 = .ok (.iload_n 2, 1) := by decide +kernel
theorem dX12_likenessOf_38 : decode cX12_likenessOf 38 = .ok (.iaload, 1) := by decide +kernel
theorem dX12_likenessOf_39 : decode cX12_likenessOf 39 = .ok (.if_icmp .ne 7, 3) := by decide +kernel
theorem dX12_likenessOf_42 : decode cX12_likenessOf 42 = .ok (.fconst 1, 1) := by decide +kernel
theorem dX12_likenessOf_43 : decode cX12_likenessOf 43 = .ok (.goto 4, 3) := by decide +kernel
theorem dX12_likenessOf_46 : decode cX12_likenessOf 46 = .ok (.fconst 0, 1) := by decide +kernel
theorem dX12_likenessOf_47 : decode cX12_likenessOf 47 = .ok (.fmul, 1) := by decide +kernel
theorem dX12_likenessOf_48 : decode cX12_likenessOf 48 = .ok (.fadd, 1) := by decide +kernel
theorem dX12_likenessOf_49 : decode cX12_likenessOf 49 = .ok (.fstore_n 3, 1) := by decide +kernel
theorem dX12_likenessOf_50 : decode cX12_likenessOf 50 = .ok (.fload_n 3, 1) := by decide +kernel
theorem dX12_likenessOf_51 : decode cX12_likenessOf 51 = .ok (.ldc 193, 2) := by decide +kernel
theorem dX12_likenessOf_53 : decode cX12_likenessOf 53 = .ok (.aload_n 0, 1) := by decide +kernel
theorem dX12_likenessOf_54 : decode cX12_likenessOf 54 = .ok (.getfield 46, 3) := by decide +kernel
theorem dX12_likenessOf_57 : decode cX12_likenessOf 57 = .ok (.iload_n 1, 1) := by decide +kernel
theorem dX12_likenessOf_58 : decode cX12_likenessOf 58 = .ok (.iaload, 1) := by decide +kernel
theorem dX12_likenessOf_59 : decode cX12_likenessOf 59 = .ok (.aload_n 0, 1) := by decide +kernel
theorem dX12_likenessOf_60 : decode cX12_likenessOf 60 = .ok (.getfield 46, 3) := by decide +kernel
theorem dX12_likenessOf_63 : decode cX12_likenessOf 63 = .ok (.iload_n 2, 1) := by decide +kernel
theorem dX12_likenessOf_64 : decode cX12_likenessOf 64 = .ok (.iaload, 1) := by decide +kernel
theorem dX12_likenessOf_65 : decode cX12_likenessOf 65 = .ok (.if_icmp .ne 7, 3) := by decide +kernel
theorem dX12_likenessOf_68 : decode cX12_likenessOf 68 = .ok (.fconst 1, 1) := by decide +kernel
theorem dX12_likenessOf_69 : decode cX12_likenessOf 69 = .ok (.goto 4, 3) := by decide +kernel
theorem dX12_likenessOf_72 : decode cX12_likenessOf 72 = .ok (.fconst 0, 1) := by decide +kernel
theorem dX12_likenessOf_73 : decode cX12_likenessOf 73 = .ok (.fmul, 1) := by decide +kernel
theorem dX12_likenessOf_74 : decode cX12_likenessOf 74 = .ok (.fadd, 1) := by decide +kernel
theorem dX12_likenessOf_75 : decode cX12_likenessOf 75 = .ok (.fstore_n 3, 1) := by decide +kernel
theorem dX12_likenessOf_76 : decode cX12_likenessOf 76 = .ok (.fload_n 3, 1) := by decide +kernel
theorem dX12_likenessOf_77 : decode cX12_likenessOf 77 = .ok (.freturn, 1) := by decide +kernel
theorem dX12_likeness_0 : decode cX12_likeness 0 = .ok (.aload_n 0, 1) := by decide +kernel
theorem dX12_likeness_1 : decode cX12_likeness 1 = .ok (.aload_n 0, 1) := by decide +kernel
theorem dX12_likeness_2 : decode cX12_likeness 2 = .ok (.iload_n 1, 1) := by decide +kernel
theorem dX12_likeness_3 : decode cX12_likeness 3 = .ok (.invokevirtual 175, 3) := by decide +kernel
theorem dX12_likeness_6 : decode cX12_likeness 6 = .ok (.ifCond .eq 15, 3) := by decide +kernel
theorem dX12_likeness_9 : decode cX12_likeness 9 = .ok (.aload_n 0, 1) := by decide +kernel
theorem dX12_likeness_10 : decode cX12_likeness 10 = .ok (.iload_n 2, 1) := by decide +kernel
theorem dX12_likeness_11 : decode cX12_likeness 11 = .ok (.invokevirtual 175, 3) := by decide +kernel
theorem dX12_likeness_14 : decode cX12_likeness 14 = .ok (.ifCond .eq 7, 3) := by decide +kernel
theorem dX12_likeness_17 : decode cX12_likeness 17 = .ok (.iconst 0, 1) := by decide +kernel
theorem dX12_likeness_18 : decode cX12_likeness 18 = .ok (.goto 4, 3) := by decide +kernel
theorem dX12_likeness_21 : decode cX12_likeness 21 = .ok (.iconst 1, 1) := by decide +kernel
theorem dX12_likeness_22 : decode cX12_likeness 22 = .ok (.invokevirtual 128, 3) := by decide +kernel
theorem dX12_likeness_25 : decode cX12_likeness 25 = .ok (.ifCond .eq 5, 3) := by decide +kernel
theorem dX12_likeness_28 : decode cX12_likeness 28 = .ok (.iconst 0, 1) := by decide +kernel
theorem dX12_likeness_29 : decode cX12_likeness 29 = .ok (.ireturn, 1) := by decide +kernel
theorem dX12_likeness_30 : decode cX12_likeness 30 = .ok (.aload_n 0, 1) := by decide +kernel
theorem dX12_likeness_31 : decode cX12_likeness 31 = .ok (.iload_n 1, 1) := by decide +kernel
theorem dX12_likeness_32 : decode cX12_likeness 32 = .ok (.iload_n 2, 1) := by decide +kernel
theorem dX12_likeness_33 : decode cX12_likeness 33 = .ok (.invokevirtual 194, 3) := by decide +kernel
theorem dX12_likeness_36 : decode cX12_likeness 36 = .ok (.invokestatic 198, 3) := by decide +kernel
theorem dX12_likeness_39 : decode cX12_likeness 39 = .ok (.ireturn, 1) := by decide +kernel
theorem dX12_pairs_0 : decode cX12_pairs 0 = .ok (.aload_n 0, 1) := by decide +kernel
theorem dX12_pairs_1 : decode cX12_pairs 1 = .ok (.iload_n 1, 1) := by decide +kernel
theorem dX12_pairs_2 : decode cX12_pairs 2 = .ok (.ifCond .lt 13, 3) := by decide +kernel
theorem dX12_pairs_5 : decode cX12_pairs 5 = .ok (.iload_n 1, 1) := by decide +kernel
theorem dX12_pairs_6 : decode cX12_pairs 6 = .ok (.bipush 100, 2) := by decide +kernel
theorem dX12_pairs_8 : decode cX12_pairs 8 = .ok (.if_icmp .gt 7, 3) := by decide +kernel
theorem dX12_pairs_11 : decode cX12_pairs 11 = .ok (.iconst 0, 1) := by decide +kernel
theorem dX12_pairs_12 : decode cX12_pairs 12 = .ok (.goto 4, 3) := by decide +kernel
theorem dX12_pairs_15 : decode cX12_pairs 15 = .ok (.iconst 1, 1) := by decide +kernel
theorem dX12_pairs_16 : decode cX12_pairs 16 = .ok (.invokevirtual 128, 3) := by decide +kernel
theorem dX12_pairs_19 : decode cX12_pairs 19 = .ok (.ifCond .eq 5, 3) := by decide +kernel
theorem dX12_pairs_22 : decode cX12_pairs 22 = .ok (.iconst 0, 1) := by decide +kernel
theorem dX12_pairs_23 : decode cX12_pairs 23 = .ok (.ireturn, 1) := by decide +kernel
theorem dX12_pairs_24 : decode cX12_pairs 24 = .ok (.iload_n 1, 1) := by decide +kernel
theorem dX12_pairs_25 : decode cX12_pairs 25 = .ok (.i2f, 1) := by decide +kernel
theorem dX12_pairs_26 : decode cX12_pairs 26 = .ok (.ldc 204, 2) := by decide +kernel
theorem dX12_pairs_28 : decode cX12_pairs 28 = .ok (.fdiv, 1) := by decide +kernel
theorem dX12_pairs_29 : decode cX12_pairs 29 = .ok (.fstore_n 2, 1) := by decide +kernel
theorem dX12_pairs_30 : decode cX12_pairs 30 = .ok (.iconst 0, 1) := by decide +kernel
theorem dX12_pairs_31 : decode cX12_pairs 31 = .ok (.istore_n 3, 1) := by decide +kernel
theorem dX12_pairs_32 : decode cX12_pairs 32 = .ok (.iconst 0, 1) := by decide +kernel
theorem dX12_pairs_33 : decode cX12_pairs 33 = .ok (.istore 4, 2) := by decide +kernel
theorem dX12_pairs_35 : decode cX12_pairs 35 = .ok (.iload 4, 2) := by decide +kernel
theorem dX12_pairs_37 : decode cX12_pairs 37 = .ok (.aload_n 0, 1) := by decide +kernel
theorem dX12_pairs_38 : decode cX12_pairs 38 = .ok (.getfield 166, 3) := by decide +kernel
theorem dX12_pairs_41 : decode cX12_pairs 41 = .ok (.if_icmp .ge 51, 3) := by decide +kernel
theorem dX12_pairs_44 : decode cX12_pairs 44 = .ok (.iload 4, 2) := by decide +kernel
theorem dX12_pairs_46 : decode cX12_pairs 46 = .ok (.iconst 1, 1) := by decide +kernel
theorem dX12_pairs_47 : decode cX12_pairs 47 = .ok (.iadd, 1) := by decide +kernel
theorem dX12_pairs_48 : decode cX12_pairs 48 = .ok (.istore 5, 2) := by decide +kernel
theorem dX12_pairs_50 : decode cX12_pairs 50 = .ok (.iload 5, 2) := by decide +kernel
theorem dX12_pairs_52 : decode cX12_pairs 52 = .ok (.aload_n 0, 1) := by decide +kernel
theorem dX12_pairs_53 : decode cX12_pairs 53 = .ok (.getfield 166, 3) := by decide +kernel
theorem dX12_pairs_56 : decode cX12_pairs 56 = .ok (.if_icmp .ge 30, 3) := by decide +kernel
theorem dX12_pairs_59 : decode cX12_pairs 59 = .ok (.iload_n 3, 1) := by decide +kernel
theorem dX12_pairs_60 : decode cX12_pairs 60 = .ok (.aload_n 0, 1) := by decide +kernel
theorem dX12_pairs_61 : decode cX12_pairs 61 = .ok (.iload 4, 2) := by decide +kernel
theorem dX12_pairs_63 : decode cX12_pairs 63 = .ok (.iload 5, 2) := by decide +kernel
theorem dX12_pairs_65 : decode cX12_pairs 65 = .ok (.invokevirtual 194, 3) := by decide +kernel
theorem dX12_pairs_68 : decode cX12_pairs 68 = .ok (.fload_n 2, 1) := by decide +kernel
theorem dX12_pairs_69 : decode cX12_pairs 69 = .ok (.fcmp .l, 1) := by decide +kernel
theorem dX12_pairs_70 : decode cX12_pairs 70 = .ok (.ifCond .lt 7, 3) := by decide +kernel
theorem dX12_pairs_73 : decode cX12_pairs 73 = .ok (.iconst 1, 1) := by decide +kernel
theorem dX12_pairs_74 : decode cX12_pairs 74 = .ok (.goto 4, 3) := by decide +kernel
theorem dX12_pairs_77 : decode cX12_pairs 77 = .ok (.iconst 0, 1) := by decide +kernel
theorem dX12_pairs_78 : decode cX12_pairs 78 = .ok (.iadd, 1) := by decide +kernel
theorem dX12_pairs_79 : decode cX12_pairs 79 = .ok (.istore_n 3, 1) := by decide +kernel
theorem dX12_pairs_80 : decode cX12_pairs 80 = .ok (.iinc 5 1, 3) := by decide +kernel
theorem dX12_pairs_83 : decode cX12_pairs 83 = .ok (.goto (-33), 3) := by decide +kernel
theorem dX12_pairs_86 : decode cX12_pairs 86 = .ok (.iinc 4 1, 3) := by decide +kernel
theorem dX12_pairs_89 : decode cX12_pairs 89 = .ok (.goto (-54), 3) := by decide +kernel
theorem dX12_pairs_92 : decode cX12_pairs 92 = .ok (.iload_n 3, 1) := by decide +kernel
theorem dX12_pairs_93 : decode cX12_pairs 93 = .ok (.ireturn, 1) := by decide +kernel
theorem dX12_canMatch_0 : decode cX12_canMatch 0 = .ok (.iload_n 1, 1) := by decide +kernel
theorem dX12_canMatch_1 : decode cX12_canMatch 1 = .ok (.iload_n 2, 1) := by decide +kernel
theorem dX12_canMatch_2 : decode cX12_canMatch 2 = .ok (.if_icmp .eq 33, 3) := by decide +kernel
theorem dX12_canMatch_5 : decode cX12_canMatch 5 = .ok (.aload_n 0, 1) := by decide +kernel
theorem dX12_canMatch_6 : decode cX12_canMatch 6 = .ok (.getfield 52, 3) := by decide +kernel
theorem dX12_canMatch_9 : decode cX12_canMatch 9 = .ok (.bipush 12, 2) := by decide +kernel
theorem dX12_canMatch_11 : decode cX12_canMatch 11 = .ok (.iload_n 1, 1) := by decide +kernel
theorem dX12_canMatch_12 : decode cX12_canMatch 12 = .ok (.imul, 1) := by decide +kernel
theorem dX12_canMatch_13 : decode cX12_canMatch 13 = .ok (.iload_n 2, 1) := by decide +kernel
theorem dX12_canMatch_14 : decode cX12_canMatch 14 = .ok (.iadd, 1) := by decide +kernel
theorem dX12_canMatch_15 : decode cX12_canMatch 15 = .ok (.baload, 1) := by decide +kernel
theorem dX12_canMatch_16 : decode cX12_canMatch 16 = .ok (.ifCond .ne 15, 3) := by decide +kernel
theorem dX12_canMatch_19 : decode cX12_canMatch 19 = .ok (.aload_n 0, 1) := by decide +kernel
theorem dX12_canMatch_20 : decode cX12_canMatch 20 = .ok (.iload_n 1, 1) := by decide +kernel
theorem dX12_canMatch_21 : decode cX12_canMatch 21 = .ok (.iload_n 2, 1) := by decide +kernel
theorem dX12_canMatch_22 : decode cX12_canMatch 22 = .ok (.invokevirtual 194, 3) := by decide +kernel
theorem dX12_canMatch_25 : decode cX12_canMatch 25 = .ok (.ldc 205, 2) := by decide +kernel
theorem dX12_canMatch_27 : decode cX12_canMatch 27 = .ok (.fcmp .l, 1) := by decide +kernel
theorem dX12_canMatch_28 : decode cX12_canMatch 28 = .ok (.ifCond .lt 7, 3) := by decide +kernel
theorem dX12_canMatch_31 : decode cX12_canMatch 31 = .ok (.iconst 1, 1) := by decide +kernel
theorem dX12_canMatch_32 : decode cX12_canMatch 32 = .ok (.goto 4, 3) := by decide +kernel
theorem dX12_canMatch_35 : decode cX12_canMatch 35 = .ok (.iconst 0, 1) := by decide +kernel
theorem dX12_canMatch_36 : decode cX12_canMatch 36 = .ok (.ireturn, 1) := by decide +kernel
theorem dX12_match_0 : decode cX12_match 0 = .ok (.aload_n 0, 1) := by decide +kernel
theorem dX12_match_1 : decode cX12_match 1 = .ok (.iload_n 1, 1) := by decide +kernel
theorem dX12_match_2 : decode cX12_match 2 = .ok (.invokevirtual 175, 3) := by decide +kernel
theorem dX12_match_5 : decode cX12_match 5 = .ok (.ifCond .eq 15, 3) := by decide +kernel
theorem dX12_match_8 : decode cX12_match 8 = .ok (.aload_n 0, 1) := by decide +kernel
theorem dX12_match_9 : decode cX12_match 9 = .ok (.iload_n 2, 1) := by decide +kernel
theorem dX12_match_10 : decode cX12_match 10 = .ok (.invokevirtual 175, 3) := by decide +kernel
theorem dX12_match_13 : decode cX12_match 13 = .ok (.ifCond .eq 7, 3) := by decide +kernel
theorem dX12_match_16 : decode cX12_match 16 = .ok (.iconst 1, 1) := by decide +kernel
theorem dX12_match_17 : decode cX12_match 17 = .ok (.goto 4, 3) := by decide +kernel
theorem dX12_match_20 : decode cX12_match 20 = .ok (.iconst 0, 1) := by decide +kernel
theorem dX12_match_21 : decode cX12_match 21 = .ok (.istore_n 3, 1) := by decide +kernel
theorem dX12_match_22 : decode cX12_match 22 = .ok (.aload_n 0, 1) := by decide +kernel
theorem dX12_match_23 : decode cX12_match 23 = .ok (.iload_n 3, 1) := by decide +kernel
theorem dX12_match_24 : decode cX12_match 24 = .ok (.ifCond .ne 7, 3) := by decide +kernel
theorem dX12_match_27 : decode cX12_match 27 = .ok (.iconst 1, 1) := by decide +kernel
theorem dX12_match_28 : decode cX12_match 28 = .ok (.goto 17, 3) := by decide +kernel
theorem dX12_match_31 : decode cX12_match 31 = .ok (.aload_n 0, 1) := by decide +kernel
theorem dX12_match_32 : decode cX12_match 32 = .ok (.iload_n 1, 1) := by decide +kernel
theorem dX12_match_33 : decode cX12_match 33 = .ok (.iload_n 2, 1) := by decide +kernel
theorem dX12_match_34 : decode cX12_match 34 = .ok (.invokevirtual 206, 3) := by decide +kernel
theorem dX12_match_37 : decode cX12_match 37 = .ok (.ifCond .ne 7, 3) := by decide +kernel
theorem dX12_match_40 : decode cX12_match 40 = .ok (.iconst 2, 1) := by decide +kernel
theorem dX12_match_41 : decode cX12_match 41 = .ok (.goto 4, 3) := by decide +kernel
theorem dX12_match_44 : decode cX12_match 44 = .ok (.iconst 0, 1) := by decide +kernel
theorem dX12_match_45 : decode cX12_match 45 = .ok (.invokevirtual 128, 3) := by decide +kernel
theorem dX12_match_48 : decode cX12_match 48 = .ok (.ifCond .eq 5, 3) := by decide +kernel
theorem dX12_match_51 : decode cX12_match 51 = .ok (.iconst 0, 1) := by decide +kernel
theorem dX12_match_52 : decode cX12_match 52 = .ok (.ireturn, 1) := by decide +kernel
theorem dX12_match_53 : decode cX12_match 53 = .ok (.aload_n 0, 1) := by decide +kernel
theorem dX12_match_54 : decode cX12_match 54 = .ok (.getfield 52, 3) := by decide +kernel
theorem dX12_match_57 : decode cX12_match 57 = .ok (.bipush 12, 2) := by decide +kernel
theorem dX12_match_59 : decode cX12_match 59 = .ok (.iload_n 1, 1) := by decide +kernel
theorem dX12_match_60 : decode cX12_match 60 = .ok (.imul, 1) := by decide +kernel
theorem dX12_match_61 : decode cX12_match 61 = .ok (.iload_n 2, 1) := by decide +kernel
theorem dX12_match_62 : decode cX12_match 62 = .ok (.iadd, 1) := by decide +kernel
theorem dX12_match_63 : decode cX12_match 63 = .ok (.baload, 1) := by decide +kernel
theorem dX12_match_64 : decode cX12_match 64 = .ok (.ifCond .ne 7, 3) := by decide +kernel
theorem dX12_match_67 : decode cX12_match 67 = .ok (.iconst 1, 1) := by decide +kernel
theorem dX12_match_68 : decode cX12_match 68 = .ok (.goto 4, 3) := by decide +kernel
theorem dX12_match_71 : decode cX12_match 71 = .ok (.iconst 0, 1) := by decide +kernel
theorem dX12_match_72 : decode cX12_match 72 = .ok (.istore 4, 2) := by decide +kernel
theorem dX12_match_74 : decode cX12_match 74 = .ok (.aload_n 0, 1) := by decide +kernel
theorem dX12_match_75 : decode cX12_match 75 = .ok (.getfield 52, 3) := by decide +kernel
theorem dX12_match_78 : decode cX12_match 78 = .ok (.bipush 12, 2) := by decide +kernel
theorem dX12_match_80 : decode cX12_match 80 = .ok (.iload_n 1, 1) := by decide +kernel
theorem dX12_match_81 : decode cX12_match 81 = .ok (.imul, 1) := by decide +kernel
theorem dX12_match_82 : decode cX12_match 82 = .ok (.iload_n 2, 1) := by decide +kernel
theorem dX12_match_83 : decode cX12_match 83 = .ok (.iadd, 1) := by decide +kernel
theorem dX12_match_84 : decode cX12_match 84 = .ok (.iload 4, 2) := by decide +kernel
theorem dX12_match_86 : decode cX12_match 86 = .ok (.bastore, 1) := by decide +kernel
theorem dX12_match_87 : decode cX12_match 87 = .ok (.aload_n 0, 1) := by decide +kernel
theorem dX12_match_88 : decode cX12_match 88 = .ok (.getfield 52, 3) := by decide +kernel
theorem dX12_match_91 : decode cX12_match 91 = .ok (.bipush 12, 2) := by decide +kernel
theorem dX12_match_93 : decode cX12_match 93 = .ok (.iload_n 2, 1) := by decide +kernel
theorem dX12_match_94 : decode cX12_match 94 = .ok (.imul, 1) := by decide +kernel
theorem dX12_match_95 : decode cX12_match 95 = .ok (.iload_n 1, 1) := by decide +kernel
theorem dX12_match_96 : decode cX12_match 96 = .ok (.iadd, 1) := by decide +kernel
theorem dX12_match_97 : decode cX12_match 97 = .ok (.iload 4, 2) := by decide +kernel
theorem dX12_match_99 : decode cX12_match 99 = .ok (.bastore, 1) := by decide +kernel
theorem dX12_match_100 : decode cX12_match 100 = .ok (.iload 4, 2) := by decide +kernel
theorem dX12_match_102 : decode cX12_match 102 = .ok (.ireturn, 1) := by decide +kernel
theorem dX12_groupOf_0 : decode cX12_groupOf 0 = .ok (.iconst 1, 1) := by decide +kernel
theorem dX12_groupOf_1 : decode cX12_groupOf 1 = .ok (.iload_n 1, 1) := by decide +kernel
theorem dX12_groupOf_2 : decode cX12_groupOf 2 = .ok (.ishl, 1) := by decide +kernel
theorem dX12_groupOf_3 : decode cX12_groupOf 3 = .ok (.istore_n 2, 1) := by decide +kernel
theorem dX12_groupOf_4 : decode cX12_groupOf 4 = .ok (.iconst 0, 1) := by decide +kernel
theorem dX12_groupOf_5 : decode cX12_groupOf 5 = .ok (.istore_n 3, 1) := by decide +kernel
theorem dX12_groupOf_6 : decode cX12_groupOf 6 = .ok (.iload_n 2, 1) := by decide +kernel
theorem dX12_groupOf_7 : decode cX12_groupOf 7 = .ok (.iload_n 3, 1) := by decide +kernel
theorem dX12_groupOf_8 : decode cX12_groupOf 8 = .ok (.if_icmp .eq 77, 3) := by decide +kernel
theorem dX12_groupOf_11 : decode cX12_groupOf 11 = .ok (.iload_n 2, 1) := by decide +kernel
theorem dX12_groupOf_12 : decode cX12_groupOf 12 = .ok (.istore_n 3, 1) := by decide +kernel
theorem dX12_groupOf_13 : decode cX12_groupOf 13 = .ok (.iconst 0, 1) := by decide +kernel
theorem dX12_groupOf_14 : decode cX12_groupOf 14 = .ok (.istore 4, 2) := by decide +kernel
theorem dX12_groupOf_16 : decode cX12_groupOf 16 = .ok (.iload 4, 2) := by decide +kernel
theorem dX12_groupOf_18 : decode cX12_groupOf 18 = .ok (.aload_n 0, 1) := by decide +kernel
theorem dX12_groupOf_19 : decode cX12_groupOf 19 = .ok (.getfield 166, 3) := by decide +kernel
theorem dX12_groupOf_22 : decode cX12_groupOf 22 = .ok (.if_icmp .ge 60, 3) := by decide +kernel
theorem dX12_groupOf_25 : decode cX12_groupOf 25 = .ok (.iconst 0, 1) := by decide +kernel
theorem dX12_groupOf_26 : decode cX12_groupOf 26 = .ok (.istore 5, 2) := by decide +kernel
theorem dX12_groupOf_28 : decode cX12_groupOf 28 = .ok (.iload 5, 2) := by decide +kernel
theorem dX12_groupOf_30 : decode cX12_groupOf 30 = .ok (.aload_n 0, 1) := by decide +kernel
theorem dX12_groupOf_31 : decode cX12_groupOf 31 = .ok (.getfield 166, 3) := by decide +kernel
theorem dX12_groupOf_34 : decode cX12_groupOf 34 = .ok (.if_icmp .ge 42, 3) := by decide +kernel
theorem dX12_groupOf_37 : decode cX12_groupOf 37 = .ok (.iload_n 2, 1) := by decide +kernel
theorem dX12_groupOf_38 : decode cX12_groupOf 38 = .ok (.iload 4, 2) := by decide +kernel
theorem dX12_groupOf_40 : decode cX12_groupOf 40 = .ok (.ishr, 1) := by decide +kernel
theorem dX12_groupOf_41 : decode cX12_groupOf 41 = .ok (.iconst 1, 1) := by decide +kernel
theorem dX12_groupOf_42 : decode cX12_groupOf 42 = .ok (.iand, 1) := by decide +kernel
theorem dX12_groupOf_43 : decode cX12_groupOf 43 = .ok (.iconst 1, 1) := by decide +kernel
theorem dX12_groupOf_44 : decode cX12_groupOf 44 = .ok (.if_icmp .ne 26, 3) := by decide +kernel
theorem dX12_groupOf_47 : decode cX12_groupOf 47 = .ok (.aload_n 0, 1) := by decide +kernel
theorem dX12_groupOf_48 : decode cX12_groupOf 48 = .ok (.getfield 52, 3) := by decide +kernel
theorem dX12_groupOf_51 : decode cX12_groupOf 51 = .ok (.bipush 12, 2) := by decide +kernel
theorem dX12_groupOf_53 : decode cX12_groupOf 53 = .ok (.iload 4, 2) := by decide +kernel
theorem dX12_groupOf_55 : decode cX12_groupOf 55 = .ok (.imul, 1) := by decide +kernel
theorem dX12_groupOf_56 : decode cX12_groupOf 56 = .ok (.iload 5, 2) := by decide +kernel
theorem dX12_groupOf_58 : decode cX12_groupOf 58 = .ok (.iadd, 1) := by decide +kernel
theorem dX12_groupOf_59 : decode cX12_groupOf 59 = .ok (.baload, 1) := by decide +kernel
theorem dX12_groupOf_60 : decode cX12_groupOf 60 = .ok (.ifCond .eq 10, 3) := by decide +kernel
theorem dX12_groupOf_63 : decode cX12_groupOf 63 = .ok (.iload_n 2, 1) := by decide +kernel
theorem dX12_groupOf_64 : decode cX12_groupOf 64 = .ok (.iconst 1, 1) := by decide +kernel
theorem dX12_groupOf_65 : decode cX12_groupOf 65 = .ok (.iload 5, 2) := by decide +kernel
theorem dX12_groupOf_67 : decode cX12_groupOf 67 = .ok (.ishl, 1) := by decide +kernel
theorem dX12_groupOf_68 : decode cX12_groupOf 68 = .ok (.ior, 1) := by decide +kernel
theorem dX12_groupOf_69 : decode cX12_groupOf 69 = .ok (.istore_n 2, 1) := by decide +kernel
theorem dX12_groupOf_70 : decode cX12_groupOf 70 = .ok (.iinc 5 1, 3) := by decide +kernel
theorem dX12_groupOf_73 : decode cX12_groupOf 73 = .ok (.goto (-45), 3) := by decide +kernel
theorem dX12_groupOf_76 : decode cX12_groupOf 76 = .ok (.iinc 4 1, 3) := by decide +kernel
theorem dX12_groupOf_79 : decode cX12_groupOf 79 = .ok (.goto (-63), 3) := by decide +kernel
theorem dX12_groupOf_82 : decode cX12_groupOf 82 = .ok (.goto (-76), 3) := by decide +kernel
theorem dX12_groupOf_85 : decode cX12_groupOf 85 = .ok (.iload_n 2, 1) := by decide +kernel
theorem dX12_groupOf_86 : decode cX12_groupOf 86 = .ok (.ireturn, 1) := by decide +kernel
theorem dX12_group_0 : decode cX12_group 0 = .ok (.aload_n 0, 1) := by decide +kernel
theorem dX12_group_1 : decode cX12_group 1 = .ok (.aload_n 0, 1) := by decide +kernel
theorem dX12_group_2 : decode cX12_group 2 = .ok (.iload_n 1, 1) := by decide +kernel
theorem dX12_group_3 : decode cX12_group 3 = .ok (.invokevirtual 175, 3) := by decide +kernel
theorem dX12_group_6 : decode cX12_group 6 = .ok (.ifCond .eq 7, 3) := by decide +kernel
theorem dX12_group_9 : decode cX12_group 9 = .ok (.iconst 0, 1) := by decide +kernel
theorem dX12_group_10 : decode cX12_group 10 = .ok (.goto 4, 3) := by decide +kernel
theorem dX12_group_13 : decode cX12_group 13 = .ok (.iconst 1, 1) := by decide +kernel
theorem dX12_group_14 : decode cX12_group 14 = .ok (.invokevirtual 128, 3) := by decide +kernel
theorem dX12_group_17 : decode cX12_group 17 = .ok (.ifCond .eq 5, 3) := by decide +kernel
theorem dX12_group_20 : decode cX12_group 20 = .ok (.iconst 0, 1) := by decide +kernel
theorem dX12_group_21 : decode cX12_group 21 = .ok (.ireturn, 1) := by decide +kernel
theorem dX12_group_22 : decode cX12_group 22 = .ok (.aload_n 0, 1) := by decide +kernel
theorem dX12_group_23 : decode cX12_group 23 = .ok (.iload_n 1, 1) := by decide +kernel
theorem dX12_group_24 : decode cX12_group 24 = .ok (.invokevirtual 210, 3) := by decide +kernel
theorem dX12_group_27 : decode cX12_group 27 = .ok (.ireturn, 1) := by decide +kernel
theorem dX12_lowest_0 : decode cX12_lowest 0 = .ok (.iconst 0, 1) := by decide +kernel
theorem dX12_lowest_1 : decode cX12_lowest 1 = .ok (.istore_n 1, 1) := by decide +kernel
theorem dX12_lowest_2 : decode cX12_lowest 2 = .ok (.iload_n 0, 1) := by decide +kernel
theorem dX12_lowest_3 : decode cX12_lowest 3 = .ok (.iload_n 1, 1) := by decide +kernel
theorem dX12_lowest_4 : decode cX12_lowest 4 = .ok (.ishr, 1) := by decide +kernel
theorem dX12_lowest_5 : decode cX12_lowest 5 = .ok (.iconst 1, 1) := by decide +kernel
theorem dX12_lowest_6 : decode cX12_lowest 6 = .ok (.iand, 1) := by decide +kernel
theorem dX12_lowest_7 : decode cX12_lowest 7 = .ok (.ifCond .ne 9, 3) := by decide +kernel
theorem dX12_lowest_10 : decode cX12_lowest 10 = .ok (.iinc 1 1, 3) := by decide +kernel
theorem dX12_lowest_13 : decode cX12_lowest 13 = .ok (.goto (-11), 3) := by decide +kernel
theorem dX12_lowest_16 : decode cX12_lowest 16 = .ok (.iload_n 1, 1) := by decide +kernel
theorem dX12_lowest_17 : decode cX12_lowest 17 = .ok (.ireturn, 1) := by decide +kernel
theorem dX12_many_0 : decode cX12_many 0 = .ok (.iconst 0, 1) := by decide +kernel
theorem dX12_many_1 : decode cX12_many 1 = .ok (.istore_n 1, 1) := by decide +kernel
theorem dX12_many_2 : decode cX12_many 2 = .ok (.iconst 0, 1) := by decide +kernel
theorem dX12_many_3 : decode cX12_many 3 = .ok (.istore_n 2, 1) := by decide +kernel
theorem dX12_many_4 : decode cX12_many 4 = .ok (.iload_n 2, 1) := by decide +kernel
theorem dX12_many_5 : decode cX12_many 5 = .ok (.bipush 12, 2) := by decide +kernel
theorem dX12_many_7 : decode cX12_many 7 = .ok (.if_icmp .ge 17, 3) := by decide +kernel
theorem dX12_many_10 : decode cX12_many 10 = .ok (.iload_n 1, 1) := by decide +kernel
theorem dX12_many_11 : decode cX12_many 11 = .ok (.iload_n 0, 1) := by decide +kernel
theorem dX12_many_12 : decode cX12_many 12 = .ok (.iload_n 2, 1) := by decide +kernel
theorem dX12_many_13 : decode cX12_many 13 = .ok (.ishr, 1) := by decide +kernel
theorem dX12_many_14 : decode cX12_many 14 = .ok (.iconst 1, 1) := by decide +kernel
theorem dX12_many_15 : decode cX12_many 15 = .ok (.iand, 1) := by decide +kernel
theorem dX12_many_16 : decode cX12_many 16 = .ok (.iadd, 1) := by decide +kernel
theorem dX12_many_17 : decode cX12_many 17 = .ok (.istore_n 1, 1) := by decide +kernel
theorem dX12_many_18 : decode cX12_many 18 = .ok (.iinc 2 1, 3) := by decide +kernel
theorem dX12_many_21 : decode cX12_many 21 = .ok (.goto (-17), 3) := by decide +kernel
theorem dX12_many_24 : decode cX12_many 24 = .ok (.iload_n 1, 1) := by decide +kernel
theorem dX12_many_25 : decode cX12_many 25 = .ok (.ireturn, 1) := by decide +kernel
theorem dX12_giveRow_0 : decode cX12_giveRow 0 = .ok (.iconst 0, 1) := by decide +kernel
theorem dX12_giveRow_1 : decode cX12_giveRow 1 = .ok (.istore 4, 2) := by decide +kernel
theorem dX12_giveRow_3 : decode cX12_giveRow 3 = .ok (.iload 4, 2) := by decide +kernel
theorem dX12_giveRow_5 : decode cX12_giveRow 5 = .ok (.iload_n 3, 1) := by decide +kernel
theorem dX12_giveRow_6 : decode cX12_giveRow 6 = .ok (.if_icmp .ge 37, 3) := by decide +kernel
theorem dX12_giveRow_9 : decode cX12_giveRow 9 = .ok (.aload_n 0, 1) := by decide +kernel
theorem dX12_giveRow_10 : decode cX12_giveRow 10 = .ok (.getfield 111, 3) := by decide +kernel
theorem dX12_giveRow_13 : decode cX12_giveRow 13 = .ok (.aload_n 0, 1) := by decide +kernel
theorem dX12_giveRow_14 : decode cX12_giveRow 14 = .ok (.getfield 213, 3) := by decide +kernel
theorem dX12_giveRow_17 : decode cX12_giveRow 17 = .ok (.aload_n 1, 1) := by decide +kernel
theorem dX12_giveRow_18 : decode cX12_giveRow 18 = .ok (.bipush 12, 2) := by decide +kernel
theorem dX12_giveRow_20 : decode cX12_giveRow 20 = .ok (.iload_n 2, 1) := by decide +kernel
theorem dX12_giveRow_21 : decode cX12_giveRow 21 = .ok (.imul, 1) := by decide +kernel
theorem dX12_giveRow_22 : decode cX12_giveRow 22 = .ok (.iload 4, 2) := by decide +kernel
theorem dX12_giveRow_24 : decode cX12_giveRow 24 = .ok (.iadd, 1) := by decide +kernel
theorem dX12_giveRow_25 : decode cX12_giveRow 25 = .ok (.iaload, 1) := by decide +kernel
theorem dX12_giveRow_26 : decode cX12_giveRow 26 = .ok (.iastore, 1) := by decide +kernel
theorem dX12_giveRow_27 : decode cX12_giveRow 27 = .ok (.aload_n 0, 1) := by decide +kernel
theorem dX12_giveRow_28 : decode cX12_giveRow 28 = .ok (.dup, 1) := by decide +kernel
theorem dX12_giveRow_29 : decode cX12_giveRow 29 = .ok (.getfield 213, 3) := by decide +kernel
theorem dX12_giveRow_32 : decode cX12_giveRow 32 = .ok (.iconst 1, 1) := by decide +kernel
theorem dX12_giveRow_33 : decode cX12_giveRow 33 = .ok (.iadd, 1) := by decide +kernel
theorem dX12_giveRow_34 : decode cX12_giveRow 34 = .ok (.putfield 213, 3) := by decide +kernel
theorem dX12_giveRow_37 : decode cX12_giveRow 37 = .ok (.iinc 4 1, 3) := by decide +kernel
theorem dX12_giveRow_40 : decode cX12_giveRow 40 = .ok (.goto (-37), 3) := by decide +kernel
theorem dX12_giveRow_43 : decode cX12_giveRow 43 = .ok (.return_, 1) := by decide +kernel
theorem dX12_giveNumber_0 : decode cX12_giveNumber 0 = .ok (.iconst 1, 1) := by decide +kernel
theorem dX12_giveNumber_1 : decode cX12_giveNumber 1 = .ok (.istore_n 2, 1) := by decide +kernel
theorem dX12_giveNumber_2 : decode cX12_giveNumber 2 = .ok (.iload_n 1, 1) := by decide +kernel
theorem dX12_giveNumber_3 : decode cX12_giveNumber 3 = .ok (.iload_n 2, 1) := by decide +kernel
theorem dX12_giveNumber_4 : decode cX12_giveNumber 4 = .ok (.idiv, 1) := by decide +kernel
theorem dX12_giveNumber_5 : decode cX12_giveNumber 5 = .ok (.bipush 10, 2) := by decide +kernel
theorem dX12_giveNumber_7 : decode cX12_giveNumber 7 = .ok (.if_icmp .lt 11, 3) := by decide +kernel
theorem dX12_giveNumber_10 : decode cX12_giveNumber 10 = .ok (.iload_n 2, 1) := by decide +kernel
theorem dX12_giveNumber_11 : decode cX12_giveNumber 11 = .ok (.bipush 10, 2) := by decide +kernel
theorem dX12_giveNumber_13 : decode cX12_giveNumber 13 = .ok (.imul, 1) := by decide +kernel
theorem dX12_giveNumber_14 : decode cX12_giveNumber 14 = .ok (.istore_n 2, 1) := by decide +kernel
theorem dX12_giveNumber_15 : decode cX12_giveNumber 15 = .ok (.goto (-13), 3) := by decide +kernel
theorem dX12_giveNumber_18 : decode cX12_giveNumber 18 = .ok (.iload_n 2, 1) := by decide +kernel
theorem dX12_giveNumber_19 : decode cX12_giveNumber 19 = .ok (.ifCond .le 39, 3) := by decide +kernel
theorem dX12_giveNumber_22 : decode cX12_giveNumber 22 = .ok (.aload_n 0, 1) := by decide +kernel
theorem dX12_giveNumber_23 : decode cX12_giveNumber 23 = .ok (.getfield 111, 3) := by decide +kernel
theorem dX12_giveNumber_26 : decode cX12_giveNumber 26 = .ok (.aload_n 0, 1) := by decide +kernel
theorem dX12_giveNumber_27 : decode cX12_giveNumber 27 = .ok (.getfield 213, 3) := by decide +kernel
theorem dX12_giveNumber_30 : decode cX12_giveNumber 30 = .ok (.bipush 48, 2) := by decide +kernel
theorem dX12_giveNumber_32 : decode cX12_giveNumber 32 = .ok (.iload_n 1, 1) := by decide +kernel
theorem dX12_giveNumber_33 : decode cX12_giveNumber 33 = .ok (.iload_n 2, 1) := by decide +kernel
theorem dX12_giveNumber_34 : decode cX12_giveNumber 34 = .ok (.idiv, 1) := by decide +kernel
theorem dX12_giveNumber_35 : decode cX12_giveNumber 35 = .ok (.bipush 10, 2) := by decide +kernel
theorem dX12_giveNumber_37 : decode cX12_giveNumber 37 = .ok (.irem, 1) := by decide +kernel
theorem dX12_giveNumber_38 : decode cX12_giveNumber 38 = .ok (.iadd, 1) := by decide +kernel
theorem dX12_giveNumber_39 : decode cX12_giveNumber 39 = .ok (.iastore, 1) := by decide +kernel
theorem dX12_giveNumber_40 : decode cX12_giveNumber 40 = .ok (.aload_n 0, 1) := by decide +kernel
theorem dX12_giveNumber_41 : decode cX12_giveNumber 41 = .ok (.dup, 1) := by decide +kernel
theorem dX12_giveNumber_42 : decode cX12_giveNumber 42 = .ok (.getfield 213, 3) := by decide +kernel
theorem dX12_giveNumber_45 : decode cX12_giveNumber 45 = .ok (.iconst 1, 1) := by decide +kernel
theorem dX12_giveNumber_46 : decode cX12_giveNumber 46 = .ok (.iadd, 1) := by decide +kernel
theorem dX12_giveNumber_47 : decode cX12_giveNumber 47 = .ok (.putfield 213, 3) := by decide +kernel
theorem dX12_giveNumber_50 : decode cX12_giveNumber 50 = .ok (.iload_n 2, 1) := by decide +kernel
theorem dX12_giveNumber_51 : decode cX12_giveNumber 51 = .ok (.bipush 10, 2) := by decide +kernel
theorem dX12_giveNumber_53 : decode cX12_giveNumber 53 = .ok (.idiv, 1) := by decide +kernel
theorem dX12_giveNumber_54 : decode cX12_giveNumber 54 = .ok (.istore_n 2, 1) := by decide +kernel
theorem dX12_giveNumber_55 : decode cX12_giveNumber 55 = .ok (.goto (-37), 3) := by decide +kernel
theorem dX12_giveNumber_58 : decode cX12_giveNumber 58 = .ok (.return_, 1) := by decide +kernel
theorem dX12_pointsOf_0 : decode cX12_pointsOf 0 = .ok (.iconst 0, 1) := by decide +kernel
theorem dX12_pointsOf_1 : decode cX12_pointsOf 1 = .ok (.istore_n 2, 1) := by decide +kernel
theorem dX12_pointsOf_2 : decode cX12_pointsOf 2 = .ok (.iconst 0, 1) := by decide +kernel
theorem dX12_pointsOf_3 : decode cX12_pointsOf 3 = .ok (.istore_n 3, 1) := by decide +kernel
theorem dX12_pointsOf_4 : decode cX12_pointsOf 4 = .ok (.iload_n 3, 1) := by decide +kernel
theorem dX12_pointsOf_5 : decode cX12_pointsOf 5 = .ok (.bipush 12, 2) := by decide +kernel
theorem dX12_pointsOf_7 : decode cX12_pointsOf 7 = .ok (.if_icmp .ge 31, 3) := by decide +kernel
theorem dX12_pointsOf_10 : decode cX12_pointsOf 10 = .ok (.iload_n 2, 1) := by decide +kernel
theorem dX12_pointsOf_11 : decode cX12_pointsOf 11 = .ok (.iload_n 1, 1) := by decide +kernel
theorem dX12_pointsOf_12 : decode cX12_pointsOf 12 = .ok (.iload_n 3, 1) := by decide +kernel
theorem dX12_pointsOf_13 : decode cX12_pointsOf 13 = .ok (.ishr, 1) := by decide +kernel
theorem dX12_pointsOf_14 : decode cX12_pointsOf 14 = .ok (.iconst 1, 1) := by decide +kernel
theorem dX12_pointsOf_15 : decode cX12_pointsOf 15 = .ok (.iand, 1) := by decide +kernel
theorem dX12_pointsOf_16 : decode cX12_pointsOf 16 = .ok (.iconst 1, 1) := by decide +kernel
theorem dX12_pointsOf_17 : decode cX12_pointsOf 17 = .ok (.if_icmp .ne 12, 3) := by decide +kernel
theorem dX12_pointsOf_20 : decode cX12_pointsOf 20 = .ok (.aload_n 0, 1) := by decide +kernel
theorem dX12_pointsOf_21 : decode cX12_pointsOf 21 = .ok (.getfield 49, 3) := by decide +kernel
theorem dX12_pointsOf_24 : decode cX12_pointsOf 24 = .ok (.iload_n 3, 1) := by decide +kernel
theorem dX12_pointsOf_25 : decode cX12_pointsOf 25 = .ok (.iaload, 1) := by decide +kernel
theorem dX12_pointsOf_26 : decode cX12_pointsOf 26 = .ok (.goto 4, 3) := by decide +kernel
theorem dX12_pointsOf_29 : decode cX12_pointsOf 29 = .ok (.iconst 0, 1) := by decide +kernel
theorem dX12_pointsOf_30 : decode cX12_pointsOf 30 = .ok (.iadd, 1) := by decide +kernel
theorem dX12_pointsOf_31 : decode cX12_pointsOf 31 = .ok (.istore_n 2, 1) := by decide +kernel
theorem dX12_pointsOf_32 : decode cX12_pointsOf 32 = .ok (.iinc 3 1, 3) := by decide +kernel
theorem dX12_pointsOf_35 : decode cX12_pointsOf 35 = .ok (.goto (-31), 3) := by decide +kernel
theorem dX12_pointsOf_38 : decode cX12_pointsOf 38 = .ok (.iload_n 2, 1) := by decide +kernel
theorem dX12_pointsOf_39 : decode cX12_pointsOf 39 = .ok (.ireturn, 1) := by decide +kernel
theorem dX12_give_0 : decode cX12_give 0 = .ok (.iload_n 2, 1) := by decide +kernel
theorem dX12_give_1 : decode cX12_give 1 = .ok (.invokestatic 216, 3) := by decide +kernel
theorem dX12_give_4 : decode cX12_give 4 = .ok (.istore_n 3, 1) := by decide +kernel
theorem dX12_give_5 : decode cX12_give 5 = .ok (.aload_n 0, 1) := by decide +kernel
theorem dX12_give_6 : decode cX12_give 6 = .ok (.iconst 0, 1) := by decide +kernel
theorem dX12_give_7 : decode cX12_give 7 = .ok (.putfield 213, 3) := by decide +kernel
theorem dX12_give_10 : decode cX12_give 10 = .ok (.iload_n 1, 1) := by decide +kernel
theorem dX12_give_11 : decode cX12_give 11 = .ok (.bipush 110, 2) := by decide +kernel
theorem dX12_give_13 : decode cX12_give 13 = .ok (.if_icmp .ne 104, 3) := by decide +kernel
theorem dX12_give_16 : decode cX12_give 16 = .ok (.iconst 0, 1) := by decide +kernel
theorem dX12_give_17 : decode cX12_give 17 = .ok (.istore 4, 2) := by decide +kernel
theorem dX12_give_19 : decode cX12_give 19 = .ok (.iload 4, 2) := by decide +kernel
theorem dX12_give_21 : decode cX12_give 21 = .ok (.bipush 12, 2) := by decide +kernel
theorem dX12_give_23 : decode cX12_give 23 = .ok (.if_icmp .ge 89, 3) := by decide +kernel
theorem dX12_give_26 : decode cX12_give 26 = .ok (.iload_n 2, 1) := by decide +kernel
theorem dX12_give_27 : decode cX12_give 27 = .ok (.iload 4, 2) := by decide +kernel
theorem dX12_give_29 : decode cX12_give 29 = .ok (.ishr, 1) := by decide +kernel
theorem dX12_give_30 : decode cX12_give 30 = .ok (.iconst 1, 1) := by decide +kernel
theorem dX12_give_31 : decode cX12_give 31 = .ok (.iand, 1) := by decide +kernel
theorem dX12_give_32 : decode cX12_give 32 = .ok (.iconst 1, 1) := by decide +kernel
theorem dX12_give_33 : decode cX12_give 33 = .ok (.if_icmp .ne 73, 3) := by decide +kernel
theorem dX12_give_36 : decode cX12_give 36 = .ok (.iload 4, 2) := by decide +kernel
theorem dX12_give_38 : decode cX12_give 38 = .ok (.iload_n 3, 1) := by decide +kernel
theorem dX12_give_39 : decode cX12_give 39 = .ok (.if_icmp .le 50, 3) := by decide +kernel
theorem dX12_give_42 : decode cX12_give 42 = .ok (.aload_n 0, 1) := by decide +kernel
theorem dX12_give_43 : decode cX12_give 43 = .ok (.getfield 111, 3) := by decide +kernel
theorem dX12_give_46 : decode cX12_give 46 = .ok (.aload_n 0, 1) := by decide +kernel
theorem dX12_give_47 : decode cX12_give 47 = .ok (.getfield 213, 3) := by decide +kernel
theorem dX12_give_50 : decode cX12_give 50 = .ok (.bipush 32, 2) := by decide +kernel
theorem dX12_give_52 : decode cX12_give 52 = .ok (.iastore, 1) := by decide +kernel
theorem dX12_give_53 : decode cX12_give 53 = .ok (.aload_n 0, 1) := by decide +kernel
theorem dX12_give_54 : decode cX12_give 54 = .ok (.getfield 111, 3) := by decide +kernel
theorem dX12_give_57 : decode cX12_give 57 = .ok (.aload_n 0, 1) := by decide +kernel
theorem dX12_give_58 : decode cX12_give 58 = .ok (.getfield 213, 3) := by decide +kernel
theorem dX12_give_61 : decode cX12_give 61 = .ok (.iconst 1, 1) := by decide +kernel
theorem dX12_give_62 : decode cX12_give 62 = .ok (.iadd, 1) := by decide +kernel
theorem dX12_give_63 : decode cX12_give 63 = .ok (.bipush 38, 2) := by decide +kernel
theorem dX12_give_65 : decode cX12_give 65 = .ok (.iastore, 1) := by decide +kernel
theorem dX12_give_66 : decode cX12_give 66 = .ok (.aload_n 0, 1) := by decide +kernel
theorem dX12_give_67 : decode cX12_give 67 = .ok (.getfield 111, 3) := by decide +kernel
theorem dX12_give_70 : decode cX12_give 70 = .ok (.aload_n 0, 1) := by decide +kernel
theorem dX12_give_71 : decode cX12_give 71 = .ok (.getfield 213, 3) := by decide +kernel
theorem dX12_give_74 : decode cX12_give 74 = .ok (.iconst 2, 1) := by decide +kernel
theorem dX12_give_75 : decode cX12_give 75 = .ok (.iadd, 1) := by decide +kernel
theorem dX12_give_76 : decode cX12_give 76 = .ok (.bipush 32, 2) := by decide +kernel
theorem dX12_give_78 : decode cX12_give 78 = .ok (.iastore, 1) := by decide +kernel
theorem dX12_give_79 : decode cX12_give 79 = .ok (.aload_n 0, 1) := by decide +kernel
theorem dX12_give_80 : decode cX12_give 80 = .ok (.dup, 1) := by decide +kernel
theorem dX12_give_81 : decode cX12_give 81 = .ok (.getfield 213, 3) := by decide +kernel
theorem dX12_give_84 : decode cX12_give 84 = .ok (.iconst 3, 1) := by decide +kernel
theorem dX12_give_85 : decode cX12_give 85 = .ok (.iadd, 1) := by decide +kernel
theorem dX12_give_86 : decode cX12_give 86 = .ok (.putfield 213, 3) := by decide +kernel
theorem dX12_give_89 : decode cX12_give 89 = .ok (.aload_n 0, 1) := by decide +kernel
theorem dX12_give_90 : decode cX12_give 90 = .ok (.aload_n 0, 1) := by decide +kernel
theorem dX12_give_91 : decode cX12_give 91 = .ok (.getfield 19, 3) := by decide +kernel
theorem dX12_give_94 : decode cX12_give 94 = .ok (.iload 4, 2) := by decide +kernel
theorem dX12_give_96 : decode cX12_give 96 = .ok (.aload_n 0, 1) := by decide +kernel
theorem dX12_give_97 : decode cX12_give 97 = .ok (.getfield 22, 3) := by decide +kernel
theorem dX12_give_100 : decode cX12_give 100 = .ok (.iload 4, 2) := by decide +kernel
theorem dX12_give_102 : decode cX12_give 102 = .ok (.iaload, 1) := by decide +kernel
theorem dX12_give_103 : decode cX12_give 103 = .ok (.invokevirtual 219, 3) := by decide +kernel
theorem dX12_give_106 : decode cX12_give 106 = .ok (.iinc 4 1, 3) := by decide +kernel
theorem dX12_give_109 : decode cX12_give 109 = .ok (.goto (-90), 3) := by decide +kernel
theorem dX12_give_112 : decode cX12_give 112 = .ok (.aload_n 0, 1) := by decide +kernel
theorem dX12_give_113 : decode cX12_give 113 = .ok (.getfield 213, 3) := by decide +kernel
theorem dX12_give_116 : decode cX12_give 116 = .ok (.ireturn, 1) := by decide +kernel
theorem dX12_give_117 : decode cX12_give 117 = .ok (.iload_n 1, 1) := by decide +kernel
theorem dX12_give_118 : decode cX12_give 118 = .ok (.bipush 115, 2) := by decide +kernel
theorem dX12_give_120 : decode cX12_give 120 = .ok (.if_icmp .ne 23, 3) := by decide +kernel
theorem dX12_give_123 : decode cX12_give 123 = .ok (.aload_n 0, 1) := by decide +kernel
theorem dX12_give_124 : decode cX12_give 124 = .ok (.aload_n 0, 1) := by decide +kernel
theorem dX12_give_125 : decode cX12_give 125 = .ok (.getfield 25, 3) := by decide +kernel
theorem dX12_give_128 : decode cX12_give 128 = .ok (.iload_n 3, 1) := by decide +kernel
theorem dX12_give_129 : decode cX12_give 129 = .ok (.aload_n 0, 1) := by decide +kernel
theorem dX12_give_130 : decode cX12_give 130 = .ok (.getfield 28, 3) := by decide +kernel
theorem dX12_give_133 : decode cX12_give 133 = .ok (.iload_n 3, 1) := by decide +kernel
theorem dX12_give_134 : decode cX12_give 134 = .ok (.iaload, 1) := by decide +kernel
theorem dX12_give_135 : decode cX12_give 135 = .ok (.invokevirtual 219, 3) := by decide +kernel
theorem dX12_give_138 : decode cX12_give 138 = .ok (.aload_n 0, 1) := by decide +kernel
theorem dX12_give_139 : decode cX12_give 139 = .ok (.getfield 213, 3) := by decide +kernel
theorem dX12_give_142 : decode cX12_give 142 = .ok (.ireturn, 1) := by decide +kernel
theorem dX12_give_143 : decode cX12_give 143 = .ok (.iload_n 1, 1) := by decide +kernel
theorem dX12_give_144 : decode cX12_give 144 = .ok (.bipush 104, 2) := by decide +kernel
theorem dX12_give_146 : decode cX12_give 146 = .ok (.if_icmp .ne 12, 3) := by decide +kernel
theorem dX12_give_149 : decode cX12_give 149 = .ok (.aload_n 0, 1) := by decide +kernel
theorem dX12_give_150 : decode cX12_give 150 = .ok (.getfield 43, 3) := by decide +kernel
theorem dX12_give_153 : decode cX12_give 153 = .ok (.iload_n 3, 1) := by decide +kernel
theorem dX12_give_154 : decode cX12_give 154 = .ok (.iaload, 1) := by decide +kernel
theorem dX12_give_155 : decode cX12_give 155 = .ok (.goto 36, 3) := by decide +kernel
theorem dX12_give_158 : decode cX12_give 158 = .ok (.iload_n 1, 1) := by decide +kernel
theorem dX12_give_159 : decode cX12_give 159 = .ok (.bipush 122, 2) := by decide +kernel
theorem dX12_give_161 : decode cX12_give 161 = .ok (.if_icmp .ne 12, 3) := by decide +kernel
theorem dX12_give_164 : decode cX12_give 164 = .ok (.aload_n 0, 1) := by decide +kernel
theorem dX12_give_165 : decode cX12_give 165 = .ok (.getfield 46, 3) := by decide +kernel
theorem dX12_give_168 : decode cX12_give 168 = .ok (.iload_n 3, 1) := by decide +kernel
theorem dX12_give_169 : decode cX12_give 169 = .ok (.iaload, 1) := by decide +kernel
theorem dX12_give_170 : decode cX12_give 170 = .ok (.goto 21, 3) := by decide +kernel
theorem dX12_give_173 : decode cX12_give 173 = .ok (.iload_n 1, 1) := by decide +kernel
theorem dX12_give_174 : decode cX12_give 174 = .ok (.bipush 112, 2) := by decide +kernel
theorem dX12_give_176 : decode cX12_give 176 = .ok (.if_icmp .ne 11, 3) := by decide +kernel
theorem dX12_give_179 : decode cX12_give 179 = .ok (.aload_n 0, 1) := by decide +kernel
theorem dX12_give_180 : decode cX12_give 180 = .ok (.iload_n 2, 1) := by decide +kernel
theorem dX12_give_181 : decode cX12_give 181 = .ok (.invokevirtual 223, 3) := by decide +kernel
theorem dX12_give_184 : decode cX12_give 184 = .ok (.goto 7, 3) := by decide +kernel
theorem dX12_give_187 : decode cX12_give 187 = .ok (.iload_n 2, 1) := by decide +kernel
theorem dX12_give_188 : decode cX12_give 188 = .ok (.invokestatic 226, 3) := by decide +kernel
theorem dX12_give_191 : decode cX12_give 191 = .ok (.istore 4, 2) := by decide +kernel
theorem dX12_give_193 : decode cX12_give 193 = .ok (.aload_n 0, 1) := by decide +kernel
theorem dX12_give_194 : decode cX12_give 194 = .ok (.iload 4, 2) := by decide +kernel
theorem dX12_give_196 : decode cX12_give 196 = .ok (.invokevirtual 229, 3) := by decide +kernel
theorem dX12_give_199 : decode cX12_give 199 = .ok (.iload 4, 2) := by decide +kernel
theorem dX12_give_201 : decode cX12_give 201 = .ok (.ireturn, 1) := by decide +kernel
theorem dX12_inTrouble_0 : decode cX12_inTrouble 0 = .ok (.aload_n 0, 1) := by decide +kernel
theorem dX12_inTrouble_1 : decode cX12_inTrouble 1 = .ok (.iload_n 1, 1) := by decide +kernel
theorem dX12_inTrouble_2 : decode cX12_inTrouble 2 = .ok (.putfield 233, 3) := by decide +kernel
theorem dX12_inTrouble_5 : decode cX12_inTrouble 5 = .ok (.aload_n 0, 1) := by decide +kernel
theorem dX12_inTrouble_6 : decode cX12_inTrouble 6 = .ok (.getfield 93, 3) := by decide +kernel
theorem dX12_inTrouble_9 : decode cX12_inTrouble 9 = .ok (.iload 4, 2) := by decide +kernel
theorem dX12_inTrouble_11 : decode cX12_inTrouble 11 = .ok (.iload_n 2, 1) := by decide +kernel
theorem dX12_inTrouble_12 : decode cX12_inTrouble 12 = .ok (.iastore, 1) := by decide +kernel
theorem dX12_inTrouble_13 : decode cX12_inTrouble 13 = .ok (.aload_n 0, 1) := by decide +kernel
theorem dX12_inTrouble_14 : decode cX12_inTrouble 14 = .ok (.getfield 96, 3) := by decide +kernel
theorem dX12_inTrouble_17 : decode cX12_inTrouble 17 = .ok (.iload 4, 2) := by decide +kernel
theorem dX12_inTrouble_19 : decode cX12_inTrouble 19 = .ok (.iload_n 3, 1) := by decide +kernel
theorem dX12_inTrouble_20 : decode cX12_inTrouble 20 = .ok (.iastore, 1) := by decide +kernel
theorem dX12_inTrouble_21 : decode cX12_inTrouble 21 = .ok (.aload_n 0, 1) := by decide +kernel
theorem dX12_inTrouble_22 : decode cX12_inTrouble 22 = .ok (.iload 4, 2) := by decide +kernel
theorem dX12_inTrouble_24 : decode cX12_inTrouble 24 = .ok (.iconst 1, 1) := by decide +kernel
theorem dX12_inTrouble_25 : decode cX12_inTrouble 25 = .ok (.iadd, 1) := by decide +kernel
theorem dX12_inTrouble_26 : decode cX12_inTrouble 26 = .ok (.putfield 236, 3) := by decide +kernel
theorem dX12_inTrouble_29 : decode cX12_inTrouble 29 = .ok (.return_, 1) := by decide +kernel
theorem dX12_add_0 : decode cX12_add 0 = .ok (.iconst 0, 1) := by decide +kernel
theorem dX12_add_1 : decode cX12_add 1 = .ok (.istore 4, 2) := by decide +kernel
theorem dX12_add_3 : decode cX12_add 3 = .ok (.iload 4, 2) := by decide +kernel
theorem dX12_add_5 : decode cX12_add 5 = .ok (.aload_n 0, 1) := by decide +kernel
theorem dX12_add_6 : decode cX12_add 6 = .ok (.getfield 213, 3) := by decide +kernel
theorem dX12_add_9 : decode cX12_add 9 = .ok (.if_icmp .ge 63, 3) := by decide +kernel
theorem dX12_add_12 : decode cX12_add 12 = .ok (.aload_n 0, 1) := by decide +kernel
theorem dX12_add_13 : decode cX12_add 13 = .ok (.getfield 233, 3) := by decide +kernel
theorem dX12_add_16 : decode cX12_add 16 = .ok (.ifCond .ne 56, 3) := by decide +kernel
theorem dX12_add_19 : decode cX12_add 19 = .ok (.aload_n 0, 1) := by decide +kernel
theorem dX12_add_20 : decode cX12_add 20 = .ok (.getfield 239, 3) := by decide +kernel
theorem dX12_add_23 : decode cX12_add 23 = .ok (.sipush 160, 3) := by decide +kernel
theorem dX12_add_26 : decode cX12_add 26 = .ok (.if_icmp .ne 14, 3) := by decide +kernel
theorem dX12_add_29 : decode cX12_add 29 = .ok (.aload_n 0, 1) := by decide +kernel
theorem dX12_add_30 : decode cX12_add 30 = .ok (.iconst 3, 1) := by decide +kernel
theorem dX12_add_31 : decode cX12_add 31 = .ok (.iload_n 1, 1) := by decide +kernel
theorem dX12_add_32 : decode cX12_add 32 = .ok (.iload_n 2, 1) := by decide +kernel
theorem dX12_add_33 : decode cX12_add 33 = .ok (.iload_n 3, 1) := by decide +kernel
theorem dX12_add_34 : decode cX12_add 34 = .ok (.invokevirtual 242, 3) := by decide +kernel
theorem dX12_add_37 : decode cX12_add 37 = .ok (.goto 29, 3) := by decide +kernel
theorem dX12_add_40 : decode cX12_add 40 = .ok (.aload_n 0, 1) := by decide +kernel
theorem dX12_add_41 : decode cX12_add 41 = .ok (.getfield 90, 3) := by decide +kernel
theorem dX12_add_44 : decode cX12_add 44 = .ok (.aload_n 0, 1) := by decide +kernel
theorem dX12_add_45 : decode cX12_add 45 = .ok (.getfield 239, 3) := by decide +kernel
theorem dX12_add_48 : decode cX12_add 48 = .ok (.aload_n 0, 1) := by decide +kernel
theorem dX12_add_49 : decode cX12_add 49 = .ok (.getfield 111, 3) := by decide +kernel
theorem dX12_add_52 : decode cX12_add 52 = .ok (.iload 4, 2) := by decide +kernel
theorem dX12_add_54 : decode cX12_add 54 = .ok (.iaload, 1) := by decide +kernel
theorem dX12_add_55 : decode cX12_add 55 = .ok (.iastore, 1) := by decide +kernel
theorem dX12_add_56 : decode cX12_add 56 = .ok (.aload_n 0, 1) := by decide +kernel
theorem dX12_add_57 : decode cX12_add 57 = .ok (.dup, 1) := by decide +kernel
theorem dX12_add_58 : decode cX12_add 58 = .ok (.getfield 239, 3) := by decide +kernel
theorem dX12_add_61 : decode cX12_add 61 = .ok (.iconst 1, 1) := by decide +kernel
theorem dX12_add_62 : decode cX12_add 62 = .ok (.iadd, 1) := by decide +kernel
theorem dX12_add_63 : decode cX12_add 63 = .ok (.putfield 239, 3) := by decide +kernel
theorem dX12_add_66 : decode cX12_add 66 = .ok (.iinc 4 1, 3) := by decide +kernel
theorem dX12_add_69 : decode cX12_add 69 = .ok (.goto (-66), 3) := by decide +kernel
theorem dX12_add_72 : decode cX12_add 72 = .ok (.return_, 1) := by decide +kernel
theorem dX12_begin_0 : decode cX12_begin 0 = .ok (.aload_n 0, 1) := by decide +kernel
theorem dX12_begin_1 : decode cX12_begin 1 = .ok (.getfield 93, 3) := by decide +kernel
theorem dX12_begin_4 : decode cX12_begin 4 = .ok (.iload_n 2, 1) := by decide +kernel
theorem dX12_begin_5 : decode cX12_begin 5 = .ok (.iload_n 1, 1) := by decide +kernel
theorem dX12_begin_6 : decode cX12_begin 6 = .ok (.iastore, 1) := by decide +kernel
theorem dX12_begin_7 : decode cX12_begin 7 = .ok (.aload_n 0, 1) := by decide +kernel
theorem dX12_begin_8 : decode cX12_begin 8 = .ok (.getfield 99, 3) := by decide +kernel
theorem dX12_begin_11 : decode cX12_begin 11 = .ok (.iload_n 2, 1) := by decide +kernel
theorem dX12_begin_12 : decode cX12_begin 12 = .ok (.iconst 0, 1) := by decide +kernel
theorem dX12_begin_13 : decode cX12_begin 13 = .ok (.iastore, 1) := by decide +kernel
theorem dX12_begin_14 : decode cX12_begin 14 = .ok (.aload_n 0, 1) := by decide +kernel
theorem dX12_begin_15 : decode cX12_begin 15 = .ok (.getfield 102, 3) := by decide +kernel
theorem dX12_begin_18 : decode cX12_begin 18 = .ok (.iload_n 2, 1) := by decide +kernel
theorem dX12_begin_19 : decode cX12_begin 19 = .ok (.iconst 0, 1) := by decide +kernel
theorem dX12_begin_20 : decode cX12_begin 20 = .ok (.iastore, 1) := by decide +kernel
theorem dX12_begin_21 : decode cX12_begin 21 = .ok (.aload_n 0, 1) := by decide +kernel
theorem dX12_begin_22 : decode cX12_begin 22 = .ok (.getfield 105, 3) := by decide +kernel
theorem dX12_begin_25 : decode cX12_begin 25 = .ok (.iload_n 2, 1) := by decide +kernel
theorem dX12_begin_26 : decode cX12_begin 26 = .ok (.iconst 0, 1) := by decide +kernel
theorem dX12_begin_27 : decode cX12_begin 27 = .ok (.iastore, 1) := by decide +kernel
theorem dX12_begin_28 : decode cX12_begin 28 = .ok (.aload_n 0, 1) := by decide +kernel
theorem dX12_begin_29 : decode cX12_begin 29 = .ok (.getfield 108, 3) := by decide +kernel
theorem dX12_begin_32 : decode cX12_begin 32 = .ok (.iload_n 2, 1) := by decide +kernel
theorem dX12_begin_33 : decode cX12_begin 33 = .ok (.iconst 0, 1) := by decide +kernel
theorem dX12_begin_34 : decode cX12_begin 34 = .ok (.iastore, 1) := by decide +kernel
theorem dX12_begin_35 : decode cX12_begin 35 = .ok (.return_, 1) := by decide +kernel
theorem dX12_make_0 : decode cX12_make 0 = .ok (.iconst 0, 1) := by decide +kernel
theorem dX12_make_1 : decode cX12_make 1 = .ok (.istore_n 3, 1) := by decide +kernel
theorem dX12_make_2 : decode cX12_make 2 = .ok (.aload_n 0, 1) := by decide +kernel
theorem dX12_make_3 : decode cX12_make 3 = .ok (.iload_n 1, 1) := by decide +kernel
theorem dX12_make_4 : decode cX12_make 4 = .ok (.iconst 0, 1) := by decide +kernel
theorem dX12_make_5 : decode cX12_make 5 = .ok (.invokevirtual 246, 3) := by decide +kernel
theorem dX12_make_8 : decode cX12_make 8 = .ok (.iload_n 3, 1) := by decide +kernel
theorem dX12_make_9 : decode cX12_make 9 = .ok (.ifCond .lt 52, 3) := by decide +kernel
theorem dX12_make_12 : decode cX12_make 12 = .ok (.aload_n 0, 1) := by decide +kernel
theorem dX12_make_13 : decode cX12_make 13 = .ok (.getfield 233, 3) := by decide +kernel
theorem dX12_make_16 : decode cX12_make 16 = .ok (.ifCond .ne 45, 3) := by decide +kernel
theorem dX12_make_19 : decode cX12_make 19 = .ok (.aload_n 0, 1) := by decide +kernel
theorem dX12_make_20 : decode cX12_make 20 = .ok (.getfield 93, 3) := by decide +kernel
theorem dX12_make_23 : decode cX12_make 23 = .ok (.iload_n 3, 1) := by decide +kernel
theorem dX12_make_24 : decode cX12_make 24 = .ok (.iaload, 1) := by decide +kernel
theorem dX12_make_25 : decode cX12_make 25 = .ok (.istore 4, 2) := by decide +kernel
theorem dX12_make_27 : decode cX12_make 27 = .ok (.aload_n 0, 1) := by decide +kernel
theorem dX12_make_28 : decode cX12_make 28 = .ok (.getfield 99, 3) := by decide +kernel
theorem dX12_make_31 : decode cX12_make 31 = .ok (.iload_n 3, 1) := by decide +kernel
theorem dX12_make_32 : decode cX12_make 32 = .ok (.iaload, 1) := by decide +kernel
theorem dX12_make_33 : decode cX12_make 33 = .ok (.aload_n 0, 1) := by decide +kernel
theorem dX12_make_34 : decode cX12_make 34 = .ok (.getfield 16, 3) := by decide +kernel
theorem dX12_make_37 : decode cX12_make 37 = .ok (.iload 4, 2) := by decide +kernel
theorem dX12_make_39 : decode cX12_make 39 = .ok (.iaload, 1) := by decide +kernel
theorem dX12_make_40 : decode cX12_make 40 = .ok (.if_icmp .ne 9, 3) := by decide +kernel
theorem dX12_make_43 : decode cX12_make 43 = .ok (.iinc 3 (-1), 3) := by decide +kernel
theorem dX12_make_46 : decode cX12_make 46 = .ok (.goto 12, 3) := by decide +kernel
theorem dX12_make_49 : decode cX12_make 49 = .ok (.aload_n 0, 1) := by decide +kernel
theorem dX12_make_50 : decode cX12_make 50 = .ok (.iload 4, 2) := by decide +kernel
theorem dX12_make_52 : decode cX12_make 52 = .ok (.iload_n 3, 1) := by decide +kernel
theorem dX12_make_53 : decode cX12_make 53 = .ok (.iload_n 2, 1) := by decide +kernel
theorem dX12_make_54 : decode cX12_make 54 = .ok (.invokevirtual 250, 3) := by decide +kernel
theorem dX12_make_57 : decode cX12_make 57 = .ok (.istore_n 3, 1) := by decide +kernel
theorem dX12_make_58 : decode cX12_make 58 = .ok (.goto (-50), 3) := by decide +kernel
theorem dX12_make_61 : decode cX12_make 61 = .ok (.return_, 1) := by decide +kernel
theorem dX12_goOn_0 : decode cX12_goOn 0 = .ok (.aload_n 0, 1) := by decide +kernel
theorem dX12_goOn_1 : decode cX12_goOn 1 = .ok (.getfield 99, 3) := by decide +kernel
theorem dX12_goOn_4 : decode cX12_goOn 4 = .ok (.iload_n 2, 1) := by decide +kernel
theorem dX12_goOn_5 : decode cX12_goOn 5 = .ok (.iaload, 1) := by decide +kernel
theorem dX12_goOn_6 : decode cX12_goOn 6 = .ok (.istore 4, 2) := by decide +kernel
theorem dX12_goOn_8 : decode cX12_goOn 8 = .ok (.aload_n 0, 1) := by decide +kernel
theorem dX12_goOn_9 : decode cX12_goOn 9 = .ok (.getfield 13, 3) := by decide +kernel
theorem dX12_goOn_12 : decode cX12_goOn 12 = .ok (.bipush 96, 2) := by decide +kernel
theorem dX12_goOn_14 : decode cX12_goOn 14 = .ok (.iload_n 1, 1) := by decide +kernel
theorem dX12_goOn_15 : decode cX12_goOn 15 = .ok (.imul, 1) := by decide +kernel
theorem dX12_goOn_16 : decode cX12_goOn 16 = .ok (.iload 4, 2) := by decide +kernel
theorem dX12_goOn_18 : decode cX12_goOn 18 = .ok (.iadd, 1) := by decide +kernel
theorem dX12_goOn_19 : decode cX12_goOn 19 = .ok (.iaload, 1) := by decide +kernel
theorem dX12_goOn_20 : decode cX12_goOn 20 = .ok (.istore 5, 2) := by decide +kernel
theorem dX12_goOn_22 : decode cX12_goOn 22 = .ok (.aload_n 0, 1) := by decide +kernel
theorem dX12_goOn_23 : decode cX12_goOn 23 = .ok (.getfield 108, 3) := by decide +kernel
theorem dX12_goOn_26 : decode cX12_goOn 26 = .ok (.iload_n 2, 1) := by decide +kernel
theorem dX12_goOn_27 : decode cX12_goOn 27 = .ok (.iaload, 1) := by decide +kernel
theorem dX12_goOn_28 : decode cX12_goOn 28 = .ok (.ifCond .ne 7, 3) := by decide +kernel
theorem dX12_goOn_31 : decode cX12_goOn 31 = .ok (.iconst 1, 1) := by decide +kernel
theorem dX12_goOn_32 : decode cX12_goOn 32 = .ok (.goto 4, 3) := by decide +kernel
theorem dX12_goOn_35 : decode cX12_goOn 35 = .ok (.iconst 0, 1) := by decide +kernel
theorem dX12_goOn_36 : decode cX12_goOn 36 = .ok (.istore 6, 2) := by decide +kernel
theorem dX12_goOn_38 : decode cX12_goOn 38 = .ok (.iload 5, 2) := by decide +kernel
theorem dX12_goOn_40 : decode cX12_goOn 40 = .ok (.bipush 91, 2) := by decide +kernel
theorem dX12_goOn_42 : decode cX12_goOn 42 = .ok (.if_icmp .ne 13, 3) := by decide +kernel
theorem dX12_goOn_45 : decode cX12_goOn 45 = .ok (.aload_n 0, 1) := by decide +kernel
theorem dX12_goOn_46 : decode cX12_goOn 46 = .ok (.iload_n 1, 1) := by decide +kernel
theorem dX12_goOn_47 : decode cX12_goOn 47 = .ok (.iload_n 2, 1) := by decide +kernel
theorem dX12_goOn_48 : decode cX12_goOn 48 = .ok (.iload_n 3, 1) := by decide +kernel
theorem dX12_goOn_49 : decode cX12_goOn 49 = .ok (.invokevirtual 254, 3) := by decide +kernel
theorem dX12_goOn_52 : decode cX12_goOn 52 = .ok (.goto 261, 3) := by decide +kernel
theorem dX12_goOn_55 : decode cX12_goOn 55 = .ok (.iload 5, 2) := by decide +kernel
theorem dX12_goOn_57 : decode cX12_goOn 57 = .ok (.bipush 124, 2) := by decide +kernel
theorem dX12_goOn_59 : decode cX12_goOn 59 = .ok (.if_icmp .ne 97, 3) := by decide +kernel
theorem dX12_goOn_62 : decode cX12_goOn 62 = .ok (.aload_n 0, 1) := by decide +kernel
theorem dX12_goOn_63 : decode cX12_goOn 63 = .ok (.getfield 105, 3) := by decide +kernel
theorem dX12_goOn_66 : decode cX12_goOn 66 = .ok (.iload_n 2, 1) := by decide +kernel
theorem dX12_goOn_67 : decode cX12_goOn 67 = .ok (.iaload, 1) := by decide +kernel
theorem dX12_goOn_68 : decode cX12_goOn 68 = .ok (.aload_n 0, 1) := by decide +kernel
theorem dX12_goOn_69 : decode cX12_goOn 69 = .ok (.getfield 102, 3) := by decide +kernel
theorem dX12_goOn_72 : decode cX12_goOn 72 = .ok (.iload_n 2, 1) := by decide +kernel
theorem dX12_goOn_73 : decode cX12_goOn 73 = .ok (.iaload, 1) := by decide +kernel
theorem dX12_goOn_74 : decode cX12_goOn 74 = .ok (.ishr, 1) := by decide +kernel
theorem dX12_goOn_75 : decode cX12_goOn 75 = .ok (.iconst 1, 1) := by decide +kernel
theorem dX12_goOn_76 : decode cX12_goOn 76 = .ok (.iand, 1) := by decide +kernel
theorem dX12_goOn_77 : decode cX12_goOn 77 = .ok (.iconst 1, 1) := by decide +kernel
theorem dX12_goOn_78 : decode cX12_goOn 78 = .ok (.if_icmp .ne 7, 3) := by decide +kernel
theorem dX12_goOn_81 : decode cX12_goOn 81 = .ok (.iconst 1, 1) := by decide +kernel
theorem dX12_goOn_82 : decode cX12_goOn 82 = .ok (.goto 4, 3) := by decide +kernel
theorem dX12_goOn_85 : decode cX12_goOn 85 = .ok (.iconst 0, 1) := by decide +kernel
theorem dX12_goOn_86 : decode cX12_goOn 86 = .ok (.istore 7, 2) := by decide +kernel
theorem dX12_goOn_88 : decode cX12_goOn 88 = .ok (.aload_n 0, 1) := by decide +kernel
theorem dX12_goOn_89 : decode cX12_goOn 89 = .ok (.getfield 108, 3) := by decide +kernel
theorem dX12_goOn_92 : decode cX12_goOn 92 = .ok (.iload_n 2, 1) := by decide +kernel
theorem dX12_goOn_93 : decode cX12_goOn 93 = .ok (.iload 6, 2) := by decide +kernel
theorem dX12_goOn_95 : decode cX12_goOn 95 = .ok (.ifCond .eq 17, 3) := by decide +kernel
theorem dX12_goOn_98 : decode cX12_goOn 98 = .ok (.iload 7, 2) := by decide +kernel
theorem dX12_goOn_100 : decode cX12_goOn 100 = .ok (.ifCond .eq 12, 3) := by decide +kernel
theorem dX12_goOn_103 : decode cX12_goOn 103 = .ok (.aload_n 0, 1) := by decide +kernel
theorem dX12_goOn_104 : decode cX12_goOn 104 = .ok (.getfield 102, 3) := by decide +kernel
theorem dX12_goOn_107 : decode cX12_goOn 107 = .ok (.iload_n 2, 1) := by decide +kernel
theorem dX12_goOn_108 : decode cX12_goOn 108 = .ok (.iaload, 1) := by decide +kernel
theorem dX12_goOn_109 : decode cX12_goOn 109 = .ok (.goto 33, 3) := by decide +kernel
theorem dX12_goOn_112 : decode cX12_goOn 112 = .ok (.aload_n 0, 1) := by decide +kernel
theorem dX12_goOn_113 : decode cX12_goOn 113 = .ok (.getfield 108, 3) := by decide +kernel
theorem dX12_goOn_116 : decode cX12_goOn 116 = .ok (.iload_n 2, 1) := by decide +kernel
theorem dX12_goOn_117 : decode cX12_goOn 117 = .ok (.iaload, 1) := by decide +kernel
theorem dX12_goOn_118 : decode cX12_goOn 118 = .ok (.aload_n 0, 1) := by decide +kernel
theorem dX12_goOn_119 : decode cX12_goOn 119 = .ok (.getfield 102, 3) := by decide +kernel
theorem dX12_goOn_122 : decode cX12_goOn 122 = .ok (.iload_n 2, 1) := by decide +kernel
theorem dX12_goOn_123 : decode cX12_goOn 123 = .ok (.iaload, 1) := by decide +kernel
theorem dX12_goOn_124 : decode cX12_goOn 124 = .ok (.if_icmp .ne 12, 3) := by decide +kernel
theorem dX12_goOn_127 : decode cX12_goOn 127 = .ok (.iload 7, 2) := by decide +kernel
theorem dX12_goOn_129 : decode cX12_goOn 129 = .ok (.ifCond .ne 7, 3) := by decide +kernel
theorem dX12_goOn_132 : decode cX12_goOn 132 = .ok (.iconst 0, 1) := by decide +kernel
theorem dX12_goOn_133 : decode cX12_goOn 133 = .ok (.goto 9, 3) := by decide +kernel
theorem dX12_goOn_136 : decode cX12_goOn 136 = .ok (.aload_n 0, 1) := by decide +kernel
theorem dX12_goOn_137 : decode cX12_goOn 137 = .ok (.getfield 108, 3) := by decide +kernel
theorem dX12_goOn_140 : decode cX12_goOn 140 = .ok (.iload_n 2, 1) := by decide +kernel
theorem dX12_goOn_141 : decode cX12_goOn 141 = .ok (.iaload, 1) := by decide +kernel
theorem dX12_goOn_142 : decode cX12_goOn 142 = .ok (.iastore, 1) := by decide +kernel
theorem dX12_goOn_143 : decode cX12_goOn 143 = .ok (.aload_n 0, 1) := by decide +kernel
theorem dX12_goOn_144 : decode cX12_goOn 144 = .ok (.getfield 99, 3) := by decide +kernel
theorem dX12_goOn_147 : decode cX12_goOn 147 = .ok (.iload_n 2, 1) := by decide +kernel
theorem dX12_goOn_148 : decode cX12_goOn 148 = .ok (.dup2, 1) := by decide +kernel
theorem dX12_goOn_149 : decode cX12_goOn 149 = .ok (.iaload, 1) := by decide +kernel
theorem dX12_goOn_150 : decode cX12_goOn 150 = .ok (.iconst 1, 1) := by decide +kernel
theorem dX12_goOn_151 : decode cX12_goOn 151 = .ok (.iadd, 1) := by decide +kernel
theorem dX12_goOn_152 : decode cX12_goOn 152 = .ok (.iastore, 1) := by decide +kernel
theorem dX12_goOn_153 : decode cX12_goOn 153 = .ok (.goto 160, 3) := by decide +kernel
theorem dX12_goOn_156 : decode cX12_goOn 156 = .ok (.iload 5, 2) := by decide +kernel
theorem dX12_goOn_158 : decode cX12_goOn 158 = .ok (.bipush 93, 2) := by decide +kernel
theorem dX12_goOn_160 : decode cX12_goOn 160 = .ok (.if_icmp .ne 57, 3) := by decide +kernel
theorem dX12_goOn_163 : decode cX12_goOn 163 = .ok (.aload_n 0, 1) := by decide +kernel
theorem dX12_goOn_164 : decode cX12_goOn 164 = .ok (.getfield 108, 3) := by decide +kernel
theorem dX12_goOn_167 : decode cX12_goOn 167 = .ok (.iload_n 2, 1) := by decide +kernel
theorem dX12_goOn_168 : decode cX12_goOn 168 = .ok (.aload_n 0, 1) := by decide +kernel
theorem dX12_goOn_169 : decode cX12_goOn 169 = .ok (.getfield 108, 3) := by decide +kernel
theorem dX12_goOn_172 : decode cX12_goOn 172 = .ok (.iload_n 2, 1) := by decide +kernel
theorem dX12_goOn_173 : decode cX12_goOn 173 = .ok (.iaload, 1) := by decide +kernel
theorem dX12_goOn_174 : decode cX12_goOn 174 = .ok (.aload_n 0, 1) := by decide +kernel
theorem dX12_goOn_175 : decode cX12_goOn 175 = .ok (.getfield 102, 3) := by decide +kernel
theorem dX12_goOn_178 : decode cX12_goOn 178 = .ok (.iload_n 2, 1) := by decide +kernel
theorem dX12_goOn_179 : decode cX12_goOn 179 = .ok (.iaload, 1) := by decide +kernel
theorem dX12_goOn_180 : decode cX12_goOn 180 = .ok (.if_icmp .ne 7, 3) := by decide +kernel
theorem dX12_goOn_183 : decode cX12_goOn 183 = .ok (.iconst 0, 1) := by decide +kernel
theorem dX12_goOn_184 : decode cX12_goOn 184 = .ok (.goto 9, 3) := by decide +kernel
theorem dX12_goOn_187 : decode cX12_goOn 187 = .ok (.aload_n 0, 1) := by decide +kernel
theorem dX12_goOn_188 : decode cX12_goOn 188 = .ok (.getfield 108, 3) := by decide +kernel
theorem dX12_goOn_191 : decode cX12_goOn 191 = .ok (.iload_n 2, 1) := by decide +kernel
theorem dX12_goOn_192 : decode cX12_goOn 192 = .ok (.iaload, 1) := by decide +kernel
theorem dX12_goOn_193 : decode cX12_goOn 193 = .ok (.iastore, 1) := by decide +kernel
theorem dX12_goOn_194 : decode cX12_goOn 194 = .ok (.aload_n 0, 1) := by decide +kernel
theorem dX12_goOn_195 : decode cX12_goOn 195 = .ok (.getfield 102, 3) := by decide +kernel
theorem dX12_goOn_198 : decode cX12_goOn 198 = .ok (.iload_n 2, 1) := by decide +kernel
theorem dX12_goOn_199 : decode cX12_goOn 199 = .ok (.dup2, 1) := by decide +kernel
theorem dX12_goOn_200 : decode cX12_goOn 200 = .ok (.iaload, 1) := by decide +kernel
theorem dX12_goOn_201 : decode cX12_goOn 201 = .ok (.iconst 1, 1) := by decide +kernel
theorem dX12_goOn_202 : decode cX12_goOn 202 = .ok (.isub, 1) := by decide +kernel
theorem dX12_goOn_203 : decode cX12_goOn 203 = .ok (.iastore, 1) := by decide +kernel
theorem dX12_goOn_204 : decode cX12_goOn 204 = .ok (.aload_n 0, 1) := by decide +kernel
theorem dX12_goOn_205 : decode cX12_goOn 205 = .ok (.getfield 99, 3) := by decide +kernel
theorem dX12_goOn_208 : decode cX12_goOn 208 = .ok (.iload_n 2, 1) := by decide +kernel
theorem dX12_goOn_209 : decode cX12_goOn 209 = .ok (.dup2, 1) := by decide +kernel
theorem dX12_goOn_210 : decode cX12_goOn 210 = .ok (.iaload, 1) := by decide +kernel
theorem dX12_goOn_211 : decode cX12_goOn 211 = .ok (.iconst 1, 1) := by decide +kernel
theorem dX12_goOn_212 : decode cX12_goOn 212 = .ok (.iadd, 1) := by decide +kernel
theorem dX12_goOn_213 : decode cX12_goOn 213 = .ok (.iastore, 1) := by decide +kernel
theorem dX12_goOn_214 : decode cX12_goOn 214 = .ok (.goto 99, 3) := by decide +kernel
theorem dX12_goOn_217 : decode cX12_goOn 217 = .ok (.iload 5, 2) := by decide +kernel
theorem dX12_goOn_219 : decode cX12_goOn 219 = .ok (.bipush 64, 2) := by decide +kernel
theorem dX12_goOn_221 : decode cX12_goOn 221 = .ok (.if_icmp .ne 48, 3) := by decide +kernel
theorem dX12_goOn_224 : decode cX12_goOn 224 = .ok (.aload_n 0, 1) := by decide +kernel
theorem dX12_goOn_225 : decode cX12_goOn 225 = .ok (.getfield 99, 3) := by decide +kernel
theorem dX12_goOn_228 : decode cX12_goOn 228 = .ok (.iload_n 2, 1) := by decide +kernel
theorem dX12_goOn_229 : decode cX12_goOn 229 = .ok (.dup2, 1) := by decide +kernel
theorem dX12_goOn_230 : decode cX12_goOn 230 = .ok (.iaload, 1) := by decide +kernel
theorem dX12_goOn_231 : decode cX12_goOn 231 = .ok (.iconst 2, 1) := by decide +kernel
theorem dX12_goOn_232 : decode cX12_goOn 232 = .ok (.iadd, 1) := by decide +kernel
theorem dX12_goOn_233 : decode cX12_goOn 233 = .ok (.iastore, 1) := by decide +kernel
theorem dX12_goOn_234 : decode cX12_goOn 234 = .ok (.iload 6, 2) := by decide +kernel
theorem dX12_goOn_236 : decode cX12_goOn 236 = .ok (.ifCond .eq 31, 3) := by decide +kernel
theorem dX12_goOn_239 : decode cX12_goOn 239 = .ok (.aload_n 0, 1) := by decide +kernel
theorem dX12_goOn_240 : decode cX12_goOn 240 = .ok (.iload_n 1, 1) := by decide +kernel
theorem dX12_goOn_241 : decode cX12_goOn 241 = .ok (.aload_n 0, 1) := by decide +kernel
theorem dX12_goOn_242 : decode cX12_goOn 242 = .ok (.getfield 13, 3) := by decide +kernel
theorem dX12_goOn_245 : decode cX12_goOn 245 = .ok (.bipush 96, 2) := by decide +kernel
theorem dX12_goOn_247 : decode cX12_goOn 247 = .ok (.iload_n 1, 1) := by decide +kernel
theorem dX12_goOn_248 : decode cX12_goOn 248 = .ok (.imul, 1) := by decide +kernel
theorem dX12_goOn_249 : decode cX12_goOn 249 = .ok (.iload 4, 2) := by decide +kernel
theorem dX12_goOn_251 : decode cX12_goOn 251 = .ok (.iadd, 1) := by decide +kernel
theorem dX12_goOn_252 : decode cX12_goOn 252 = .ok (.iconst 1, 1) := by decide +kernel
theorem dX12_goOn_253 : decode cX12_goOn 253 = .ok (.iadd, 1) := by decide +kernel
theorem dX12_goOn_254 : decode cX12_goOn 254 = .ok (.iaload, 1) := by decide +kernel
theorem dX12_goOn_255 : decode cX12_goOn 255 = .ok (.bipush 48, 2) := by decide +kernel
theorem dX12_goOn_257 : decode cX12_goOn 257 = .ok (.isub, 1) := by decide +kernel
theorem dX12_goOn_258 : decode cX12_goOn 258 = .ok (.iload 4, 2) := by decide +kernel
theorem dX12_goOn_260 : decode cX12_goOn 260 = .ok (.iload_n 2, 1) := by decide +kernel
theorem dX12_goOn_261 : decode cX12_goOn 261 = .ok (.invokevirtual 258, 3) := by decide +kernel
theorem dX12_goOn_264 : decode cX12_goOn 264 = .ok (.goto 4, 3) := by decide +kernel
theorem dX12_goOn_267 : decode cX12_goOn 267 = .ok (.iload_n 2, 1) := by decide +kernel
theorem dX12_goOn_268 : decode cX12_goOn 268 = .ok (.ireturn, 1) := by decide +kernel
theorem dX12_goOn_269 : decode cX12_goOn 269 = .ok (.aload_n 0, 1) := by decide +kernel
theorem dX12_goOn_270 : decode cX12_goOn 270 = .ok (.getfield 99, 3) := by decide +kernel
theorem dX12_goOn_273 : decode cX12_goOn 273 = .ok (.iload_n 2, 1) := by decide +kernel
theorem dX12_goOn_274 : decode cX12_goOn 274 = .ok (.dup2, 1) := by decide +kernel
theorem dX12_goOn_275 : decode cX12_goOn 275 = .ok (.iaload, 1) := by decide +kernel
theorem dX12_goOn_276 : decode cX12_goOn 276 = .ok (.iload 5, 2) := by decide +kernel
theorem dX12_goOn_278 : decode cX12_goOn 278 = .ok (.bipush 60, 2) := by decide +kernel
theorem dX12_goOn_280 : decode cX12_goOn 280 = .ok (.if_icmp .ne 7, 3) := by decide +kernel
theorem dX12_goOn_283 : decode cX12_goOn 283 = .ok (.iconst 3, 1) := by decide +kernel
theorem dX12_goOn_284 : decode cX12_goOn 284 = .ok (.goto 4, 3) := by decide +kernel
theorem dX12_goOn_287 : decode cX12_goOn 287 = .ok (.iconst 1, 1) := by decide +kernel
theorem dX12_goOn_288 : decode cX12_goOn 288 = .ok (.iadd, 1) := by decide +kernel
theorem dX12_goOn_289 : decode cX12_goOn 289 = .ok (.iastore, 1) := by decide +kernel
theorem dX12_goOn_290 : decode cX12_goOn 290 = .ok (.iload 6, 2) := by decide +kernel
theorem dX12_goOn_292 : decode cX12_goOn 292 = .ok (.ifCond .eq 21, 3) := by decide +kernel
theorem dX12_goOn_295 : decode cX12_goOn 295 = .ok (.aload_n 0, 1) := by decide +kernel
theorem dX12_goOn_296 : decode cX12_goOn 296 = .ok (.iload_n 1, 1) := by decide +kernel
theorem dX12_goOn_297 : decode cX12_goOn 297 = .ok (.iload 4, 2) := by decide +kernel
theorem dX12_goOn_299 : decode cX12_goOn 299 = .ok (.iload 5, 2) := by decide +kernel
theorem dX12_goOn_301 : decode cX12_goOn 301 = .ok (.iload_n 3, 1) := by decide +kernel
theorem dX12_goOn_302 : decode cX12_goOn 302 = .ok (.invokevirtual 262, 3) := by decide +kernel
theorem dX12_goOn_305 : decode cX12_goOn 305 = .ok (.aload_n 0, 1) := by decide +kernel
theorem dX12_goOn_306 : decode cX12_goOn 306 = .ok (.iload_n 1, 1) := by decide +kernel
theorem dX12_goOn_307 : decode cX12_goOn 307 = .ok (.iload 4, 2) := by decide +kernel
theorem dX12_goOn_309 : decode cX12_goOn 309 = .ok (.iload_n 2, 1) := by decide +kernel
theorem dX12_goOn_310 : decode cX12_goOn 310 = .ok (.invokevirtual 265, 3) := by decide +kernel
theorem dX12_goOn_313 : decode cX12_goOn 313 = .ok (.iload_n 2, 1) := by decide +kernel
theorem dX12_goOn_314 : decode cX12_goOn 314 = .ok (.ireturn, 1) := by decide +kernel
theorem dX12_giveSign_0 : decode cX12_giveSign 0 = .ok (.iload_n 3, 1) := by decide +kernel
theorem dX12_giveSign_1 : decode cX12_giveSign 1 = .ok (.bipush 60, 2) := by decide +kernel
theorem dX12_giveSign_3 : decode cX12_giveSign 3 = .ok (.if_icmp .ne 26, 3) := by decide +kernel
theorem dX12_giveSign_6 : decode cX12_giveSign 6 = .ok (.aload_n 0, 1) := by decide +kernel
theorem dX12_giveSign_7 : decode cX12_giveSign 7 = .ok (.aload_n 0, 1) := by decide +kernel
theorem dX12_giveSign_8 : decode cX12_giveSign 8 = .ok (.getfield 13, 3) := by decide +kernel
theorem dX12_giveSign_11 : decode cX12_giveSign 11 = .ok (.bipush 96, 2) := by decide +kernel
theorem dX12_giveSign_13 : decode cX12_giveSign 13 = .ok (.iload_n 1, 1) := by decide +kernel
theorem dX12_giveSign_14 : decode cX12_giveSign 14 = .ok (.imul, 1) := by decide +kernel
theorem dX12_giveSign_15 : decode cX12_giveSign 15 = .ok (.iload_n 2, 1) := by decide +kernel
theorem dX12_giveSign_16 : decode cX12_giveSign 16 = .ok (.iadd, 1) := by decide +kernel
theorem dX12_giveSign_17 : decode cX12_giveSign 17 = .ok (.iconst 1, 1) := by decide +kernel
theorem dX12_giveSign_18 : decode cX12_giveSign 18 = .ok (.iadd, 1) := by decide +kernel
theorem dX12_giveSign_19 : decode cX12_giveSign 19 = .ok (.iaload, 1) := by decide +kernel
theorem dX12_giveSign_20 : decode cX12_giveSign 20 = .ok (.iload 4, 2) := by decide +kernel
theorem dX12_giveSign_22 : decode cX12_giveSign 22 = .ok (.invokevirtual 268, 3) := by decide +kernel
theorem dX12_giveSign_25 : decode cX12_giveSign 25 = .ok (.pop, 1) := by decide +kernel
theorem dX12_giveSign_26 : decode cX12_giveSign 26 = .ok (.goto 15, 3) := by decide +kernel
theorem dX12_giveSign_29 : decode cX12_giveSign 29 = .ok (.aload_n 0, 1) := by decide +kernel
theorem dX12_giveSign_30 : decode cX12_giveSign 30 = .ok (.getfield 111, 3) := by decide +kernel
theorem dX12_giveSign_33 : decode cX12_giveSign 33 = .ok (.iconst 0, 1) := by decide +kernel
theorem dX12_giveSign_34 : decode cX12_giveSign 34 = .ok (.iload_n 3, 1) := by decide +kernel
theorem dX12_giveSign_35 : decode cX12_giveSign 35 = .ok (.iastore, 1) := by decide +kernel
theorem dX12_giveSign_36 : decode cX12_giveSign 36 = .ok (.aload_n 0, 1) := by decide +kernel
theorem dX12_giveSign_37 : decode cX12_giveSign 37 = .ok (.iconst 1, 1) := by decide +kernel
theorem dX12_giveSign_38 : decode cX12_giveSign 38 = .ok (.putfield 213, 3) := by decide +kernel
theorem dX12_giveSign_41 : decode cX12_giveSign 41 = .ok (.return_, 1) := by decide +kernel
theorem dX12_open_0 : decode cX12_open 0 = .ok (.bipush 96, 2) := by decide +kernel
theorem dX12_open_2 : decode cX12_open 2 = .ok (.iload_n 1, 1) := by decide +kernel
theorem dX12_open_3 : decode cX12_open 3 = .ok (.imul, 1) := by decide +kernel
theorem dX12_open_4 : decode cX12_open 4 = .ok (.aload_n 0, 1) := by decide +kernel
theorem dX12_open_5 : decode cX12_open 5 = .ok (.getfield 99, 3) := by decide +kernel
theorem dX12_open_8 : decode cX12_open 8 = .ok (.iload_n 2, 1) := by decide +kernel
theorem dX12_open_9 : decode cX12_open 9 = .ok (.iaload, 1) := by decide +kernel
theorem dX12_open_10 : decode cX12_open 10 = .ok (.iadd, 1) := by decide +kernel
theorem dX12_open_11 : decode cX12_open 11 = .ok (.istore 4, 2) := by decide +kernel
theorem dX12_open_13 : decode cX12_open 13 = .ok (.iload 4, 2) := by decide +kernel
theorem dX12_open_15 : decode cX12_open 15 = .ok (.iconst 3, 1) := by decide +kernel
theorem dX12_open_16 : decode cX12_open 16 = .ok (.iadd, 1) := by decide +kernel
theorem dX12_open_17 : decode cX12_open 17 = .ok (.istore 5, 2) := by decide +kernel
theorem dX12_open_19 : decode cX12_open 19 = .ok (.iconst 0, 1) := by decide +kernel
theorem dX12_open_20 : decode cX12_open 20 = .ok (.istore 6, 2) := by decide +kernel
theorem dX12_open_22 : decode cX12_open 22 = .ok (.aload_n 0, 1) := by decide +kernel
theorem dX12_open_23 : decode cX12_open 23 = .ok (.getfield 13, 3) := by decide +kernel
theorem dX12_open_26 : decode cX12_open 26 = .ok (.iload 5, 2) := by decide +kernel
theorem dX12_open_28 : decode cX12_open 28 = .ok (.iaload, 1) := by decide +kernel
theorem dX12_open_29 : decode cX12_open 29 = .ok (.invokestatic 142, 3) := by decide +kernel
theorem dX12_open_32 : decode cX12_open 32 = .ok (.ifCond .eq 27, 3) := by decide +kernel
theorem dX12_open_35 : decode cX12_open 35 = .ok (.bipush 10, 2) := by decide +kernel
theorem dX12_open_37 : decode cX12_open 37 = .ok (.iload 6, 2) := by decide +kernel
theorem dX12_open_39 : decode cX12_open 39 = .ok (.imul, 1) := by decide +kernel
theorem dX12_open_40 : decode cX12_open 40 = .ok (.aload_n 0, 1) := by decide +kernel
theorem dX12_open_41 : decode cX12_open 41 = .ok (.getfield 13, 3) := by decide +kernel
theorem dX12_open_44 : decode cX12_open 44 = .ok (.iload 5, 2) := by decide +kernel
theorem dX12_open_46 : decode cX12_open 46 = .ok (.iaload, 1) := by decide +kernel
theorem dX12_open_47 : decode cX12_open 47 = .ok (.iadd, 1) := by decide +kernel
theorem dX12_open_48 : decode cX12_open 48 = .ok (.bipush 48, 2) := by decide +kernel
theorem dX12_open_50 : decode cX12_open 50 = .ok (.isub, 1) := by decide +kernel
theorem dX12_open_51 : decode cX12_open 51 = .ok (.istore 6, 2) := by decide +kernel
theorem dX12_open_53 : decode cX12_open 53 = .ok (.iinc 5 1, 3) := by decide +kernel
theorem dX12_open_56 : decode cX12_open 56 = .ok (.goto (-34), 3) := by decide +kernel
theorem dX12_open_59 : decode cX12_open 59 = .ok (.aload_n 0, 1) := by decide +kernel
theorem dX12_open_60 : decode cX12_open 60 = .ok (.aload_n 0, 1) := by decide +kernel
theorem dX12_open_61 : decode cX12_open 61 = .ok (.getfield 13, 3) := by decide +kernel
theorem dX12_open_64 : decode cX12_open 64 = .ok (.iload 4, 2) := by decide +kernel
theorem dX12_open_66 : decode cX12_open 66 = .ok (.iconst 1, 1) := by decide +kernel
theorem dX12_open_67 : decode cX12_open 67 = .ok (.iadd, 1) := by decide +kernel
theorem dX12_open_68 : decode cX12_open 68 = .ok (.iaload, 1) := by decide +kernel
theorem dX12_open_69 : decode cX12_open 69 = .ok (.iload_n 3, 1) := by decide +kernel
theorem dX12_open_70 : decode cX12_open 70 = .ok (.invokevirtual 268, 3) := by decide +kernel
theorem dX12_open_73 : decode cX12_open 73 = .ok (.istore 7, 2) := by decide +kernel
theorem dX12_open_75 : decode cX12_open 75 = .ok (.aload_n 0, 1) := by decide +kernel
theorem dX12_open_76 : decode cX12_open 76 = .ok (.getfield 13, 3) := by decide +kernel
theorem dX12_open_79 : decode cX12_open 79 = .ok (.iload 4, 2) := by decide +kernel
theorem dX12_open_81 : decode cX12_open 81 = .ok (.iconst 2, 1) := by decide +kernel
theorem dX12_open_82 : decode cX12_open 82 = .ok (.iadd, 1) := by decide +kernel
theorem dX12_open_83 : decode cX12_open 83 = .ok (.iaload, 1) := by decide +kernel
theorem dX12_open_84 : decode cX12_open 84 = .ok (.istore 8, 2) := by decide +kernel
theorem dX12_open_86 : decode cX12_open 86 = .ok (.iload 8, 2) := by decide +kernel
theorem dX12_open_88 : decode cX12_open 88 = .ok (.bipush 61, 2) := by decide +kernel
theorem dX12_open_90 : decode cX12_open 90 = .ok (.if_icmp .ne 18, 3) := by decide +kernel
theorem dX12_open_93 : decode cX12_open 93 = .ok (.iload 7, 2) := by decide +kernel
theorem dX12_open_95 : decode cX12_open 95 = .ok (.iload 6, 2) := by decide +kernel
theorem dX12_open_97 : decode cX12_open 97 = .ok (.if_icmp .ne 7, 3) := by decide +kernel
theorem dX12_open_100 : decode cX12_open 100 = .ok (.iconst 1, 1) := by decide +kernel
theorem dX12_open_101 : decode cX12_open 101 = .ok (.goto 41, 3) := by decide +kernel
theorem dX12_open_104 : decode cX12_open 104 = .ok (.iconst 0, 1) := by decide +kernel
theorem dX12_open_105 : decode cX12_open 105 = .ok (.goto 37, 3) := by decide +kernel
theorem dX12_open_108 : decode cX12_open 108 = .ok (.iload 8, 2) := by decide +kernel
theorem dX12_open_110 : decode cX12_open 110 = .ok (.bipush 60, 2) := by decide +kernel
theorem dX12_open_112 : decode cX12_open 112 = .ok (.if_icmp .ne 18, 3) := by decide +kernel
theorem dX12_open_115 : decode cX12_open 115 = .ok (.iload 7, 2) := by decide +kernel
theorem dX12_open_117 : decode cX12_open 117 = .ok (.iload 6, 2) := by decide +kernel
theorem dX12_open_119 : decode cX12_open 119 = .ok (.if_icmp .ge 7, 3) := by decide +kernel
theorem dX12_open_122 : decode cX12_open 122 = .ok (.iconst 1, 1) := by decide +kernel
theorem dX12_open_123 : decode cX12_open 123 = .ok (.goto 19, 3) := by decide +kernel
theorem dX12_open_126 : decode cX12_open 126 = .ok (.iconst 0, 1) := by decide +kernel
theorem dX12_open_127 : decode cX12_open 127 = .ok (.goto 15, 3) := by decide +kernel
theorem dX12_open_130 : decode cX12_open 130 = .ok (.iload 7, 2) := by decide +kernel
theorem dX12_open_132 : decode cX12_open 132 = .ok (.iload 6, 2) := by decide +kernel
theorem dX12_open_134 : decode cX12_open 134 = .ok (.if_icmp .le 7, 3) := by decide +kernel
theorem dX12_open_137 : decode cX12_open 137 = .ok (.iconst 1, 1) := by decide +kernel
theorem dX12_open_138 : decode cX12_open 138 = .ok (.goto 4, 3) := by decide +kernel
theorem dX12_open_141 : decode cX12_open 141 = .ok (.iconst 0, 1) := by decide +kernel
theorem dX12_open_142 : decode cX12_open 142 = .ok (.istore 9, 2) := by decide +kernel
theorem dX12_open_144 : decode cX12_open 144 = .ok (.aload_n 0, 1) := by decide +kernel
theorem dX12_open_145 : decode cX12_open 145 = .ok (.getfield 102, 3) := by decide +kernel
theorem dX12_open_148 : decode cX12_open 148 = .ok (.iload_n 2, 1) := by decide +kernel
theorem dX12_open_149 : decode cX12_open 149 = .ok (.dup2, 1) := by decide +kernel
theorem dX12_open_150 : decode cX12_open 150 = .ok (.iaload, 1) := by decide +kernel
theorem dX12_open_151 : decode cX12_open 151 = .ok (.iconst 1, 1) := by decide +kernel
theorem dX12_open_152 : decode cX12_open 152 = .ok (.iadd, 1) := by decide +kernel
theorem dX12_open_153 : decode cX12_open 153 = .ok (.iastore, 1) := by decide +kernel
theorem dX12_open_154 : decode cX12_open 154 = .ok (.iconst 1, 1) := by decide +kernel
theorem dX12_open_155 : decode cX12_open 155 = .ok (.aload_n 0, 1) := by decide +kernel
theorem dX12_open_156 : decode cX12_open 156 = .ok (.getfield 102, 3) := by decide +kernel
theorem dX12_open_159 : decode cX12_open 159 = .ok (.iload_n 2, 1) := by decide +kernel
theorem dX12_open_160 : decode cX12_open 160 = .ok (.iaload, 1) := by decide +kernel
theorem dX12_open_161 : decode cX12_open 161 = .ok (.ishl, 1) := by decide +kernel
theorem dX12_open_162 : decode cX12_open 162 = .ok (.istore 10, 2) := by decide +kernel
theorem dX12_open_164 : decode cX12_open 164 = .ok (.aload_n 0, 1) := by decide +kernel
theorem dX12_open_165 : decode cX12_open 165 = .ok (.getfield 105, 3) := by decide +kernel
theorem dX12_open_168 : decode cX12_open 168 = .ok (.iload_n 2, 1) := by decide +kernel
theorem dX12_open_169 : decode cX12_open 169 = .ok (.iload 9, 2) := by decide +kernel
theorem dX12_open_171 : decode cX12_open 171 = .ok (.ifCond .eq 15, 3) := by decide +kernel
theorem dX12_open_174 : decode cX12_open 174 = .ok (.aload_n 0, 1) := by decide +kernel
theorem dX12_open_175 : decode cX12_open 175 = .ok (.getfield 105, 3) := by decide +kernel
theorem dX12_open_178 : decode cX12_open 178 = .ok (.iload_n 2, 1) := by decide +kernel
theorem dX12_open_179 : decode cX12_open 179 = .ok (.iaload, 1) := by decide +kernel
theorem dX12_open_180 : decode cX12_open 180 = .ok (.iload 10, 2) := by decide +kernel
theorem dX12_open_182 : decode cX12_open 182 = .ok (.ior, 1) := by decide +kernel
theorem dX12_open_183 : decode cX12_open 183 = .ok (.goto 14, 3) := by decide +kernel
theorem dX12_open_186 : decode cX12_open 186 = .ok (.aload_n 0, 1) := by decide +kernel
theorem dX12_open_187 : decode cX12_open 187 = .ok (.getfield 105, 3) := by decide +kernel
theorem dX12_open_190 : decode cX12_open 190 = .ok (.iload_n 2, 1) := by decide +kernel
theorem dX12_open_191 : decode cX12_open 191 = .ok (.iaload, 1) := by decide +kernel
theorem dX12_open_192 : decode cX12_open 192 = .ok (.iload 10, 2) := by decide +kernel
theorem dX12_open_194 : decode cX12_open 194 = .ok (.iconst (-1), 1) := by decide +kernel
theorem dX12_open_195 : decode cX12_open 195 = .ok (.ixor, 1) := by decide +kernel
theorem dX12_open_196 : decode cX12_open 196 = .ok (.iand, 1) := by decide +kernel
theorem dX12_open_197 : decode cX12_open 197 = .ok (.iastore, 1) := by decide +kernel
theorem dX12_open_198 : decode cX12_open 198 = .ok (.aload_n 0, 1) := by decide +kernel
theorem dX12_open_199 : decode cX12_open 199 = .ok (.getfield 108, 3) := by decide +kernel
theorem dX12_open_202 : decode cX12_open 202 = .ok (.iload_n 2, 1) := by decide +kernel
theorem dX12_open_203 : decode cX12_open 203 = .ok (.aload_n 0, 1) := by decide +kernel
theorem dX12_open_204 : decode cX12_open 204 = .ok (.getfield 108, 3) := by decide +kernel
theorem dX12_open_207 : decode cX12_open 207 = .ok (.iload_n 2, 1) := by decide +kernel
theorem dX12_open_208 : decode cX12_open 208 = .ok (.iaload, 1) := by decide +kernel
theorem dX12_open_209 : decode cX12_open 209 = .ok (.ifCond .ne 17, 3) := by decide +kernel
theorem dX12_open_212 : decode cX12_open 212 = .ok (.iload 9, 2) := by decide +kernel
theorem dX12_open_214 : decode cX12_open 214 = .ok (.ifCond .ne 12, 3) := by decide +kernel
theorem dX12_open_217 : decode cX12_open 217 = .ok (.aload_n 0, 1) := by decide +kernel
theorem dX12_open_218 : decode cX12_open 218 = .ok (.getfield 102, 3) := by decide +kernel
theorem dX12_open_221 : decode cX12_open 221 = .ok (.iload_n 2, 1) := by decide +kernel
theorem dX12_open_222 : decode cX12_open 222 = .ok (.iaload, 1) := by decide +kernel
theorem dX12_open_223 : decode cX12_open 223 = .ok (.goto 9, 3) := by decide +kernel
theorem dX12_open_226 : decode cX12_open 226 = .ok (.aload_n 0, 1) := by decide +kernel
theorem dX12_open_227 : decode cX12_open 227 = .ok (.getfield 108, 3) := by decide +kernel
theorem dX12_open_230 : decode cX12_open 230 = .ok (.iload_n 2, 1) := by decide +kernel
theorem dX12_open_231 : decode cX12_open 231 = .ok (.iaload, 1) := by decide +kernel
theorem dX12_open_232 : decode cX12_open 232 = .ok (.iastore, 1) := by decide +kernel
theorem dX12_open_233 : decode cX12_open 233 = .ok (.aload_n 0, 1) := by decide +kernel
theorem dX12_open_234 : decode cX12_open 234 = .ok (.getfield 99, 3) := by decide +kernel
theorem dX12_open_237 : decode cX12_open 237 = .ok (.iload_n 2, 1) := by decide +kernel
theorem dX12_open_238 : decode cX12_open 238 = .ok (.iload 5, 2) := by decide +kernel
theorem dX12_open_240 : decode cX12_open 240 = .ok (.iconst 1, 1) := by decide +kernel
theorem dX12_open_241 : decode cX12_open 241 = .ok (.iadd, 1) := by decide +kernel
theorem dX12_open_242 : decode cX12_open 242 = .ok (.bipush 96, 2) := by decide +kernel
theorem dX12_open_244 : decode cX12_open 244 = .ok (.iload_n 1, 1) := by decide +kernel
theorem dX12_open_245 : decode cX12_open 245 = .ok (.imul, 1) := by decide +kernel
theorem dX12_open_246 : decode cX12_open 246 = .ok (.isub, 1) := by decide +kernel
theorem dX12_open_247 : decode cX12_open 247 = .ok (.iastore, 1) := by decide +kernel
theorem dX12_open_248 : decode cX12_open 248 = .ok (.return_, 1) := by decide +kernel
theorem dX12_goDown_0 : decode cX12_goDown 0 = .ok (.aload_n 0, 1) := by decide +kernel
theorem dX12_goDown_1 : decode cX12_goDown 1 = .ok (.getfield 16, 3) := by decide +kernel
theorem dX12_goDown_4 : decode cX12_goDown 4 = .ok (.iload_n 2, 1) := by decide +kernel
theorem dX12_goDown_5 : decode cX12_goDown 5 = .ok (.iaload, 1) := by decide +kernel
theorem dX12_goDown_6 : decode cX12_goDown 6 = .ok (.iconst (-1), 1) := by decide +kernel
theorem dX12_goDown_7 : decode cX12_goDown 7 = .ok (.if_icmp .ne 15, 3) := by decide +kernel
theorem dX12_goDown_10 : decode cX12_goDown 10 = .ok (.aload_n 0, 1) := by decide +kernel
theorem dX12_goDown_11 : decode cX12_goDown 11 = .ok (.iconst 1, 1) := by decide +kernel
theorem dX12_goDown_12 : decode cX12_goDown 12 = .ok (.iload_n 1, 1) := by decide +kernel
theorem dX12_goDown_13 : decode cX12_goDown 13 = .ok (.iload_n 3, 1) := by decide +kernel
theorem dX12_goDown_14 : decode cX12_goDown 14 = .ok (.iload 4, 2) := by decide +kernel
theorem dX12_goDown_16 : decode cX12_goDown 16 = .ok (.invokevirtual 242, 3) := by decide +kernel
theorem dX12_goDown_19 : decode cX12_goDown 19 = .ok (.iload 4, 2) := by decide +kernel
theorem dX12_goDown_21 : decode cX12_goDown 21 = .ok (.ireturn, 1) := by decide +kernel
theorem dX12_goDown_22 : decode cX12_goDown 22 = .ok (.iload 4, 2) := by decide +kernel
theorem dX12_goDown_24 : decode cX12_goDown 24 = .ok (.iconst 1, 1) := by decide +kernel
theorem dX12_goDown_25 : decode cX12_goDown 25 = .ok (.iadd, 1) := by decide +kernel
theorem dX12_goDown_26 : decode cX12_goDown 26 = .ok (.iconst 5, 1) := by decide +kernel
theorem dX12_goDown_27 : decode cX12_goDown 27 = .ok (.if_icmp .ne 15, 3) := by decide +kernel
theorem dX12_goDown_30 : decode cX12_goDown 30 = .ok (.aload_n 0, 1) := by decide +kernel
theorem dX12_goDown_31 : decode cX12_goDown 31 = .ok (.iconst 2, 1) := by decide +kernel
theorem dX12_goDown_32 : decode cX12_goDown 32 = .ok (.iload_n 1, 1) := by decide +kernel
theorem dX12_goDown_33 : decode cX12_goDown 33 = .ok (.iload_n 3, 1) := by decide +kernel
theorem dX12_goDown_34 : decode cX12_goDown 34 = .ok (.iload 4, 2) := by decide +kernel
theorem dX12_goDown_36 : decode cX12_goDown 36 = .ok (.invokevirtual 242, 3) := by decide +kernel
theorem dX12_goDown_39 : decode cX12_goDown 39 = .ok (.iload 4, 2) := by decide +kernel
theorem dX12_goDown_41 : decode cX12_goDown 41 = .ok (.ireturn, 1) := by decide +kernel
theorem dX12_goDown_42 : decode cX12_goDown 42 = .ok (.aload_n 0, 1) := by decide +kernel
theorem dX12_goDown_43 : decode cX12_goDown 43 = .ok (.getfield 96, 3) := by decide +kernel
theorem dX12_goDown_46 : decode cX12_goDown 46 = .ok (.iload 4, 2) := by decide +kernel
theorem dX12_goDown_48 : decode cX12_goDown 48 = .ok (.iload_n 3, 1) := by decide +kernel
theorem dX12_goDown_49 : decode cX12_goDown 49 = .ok (.iastore, 1) := by decide +kernel
theorem dX12_goDown_50 : decode cX12_goDown 50 = .ok (.aload_n 0, 1) := by decide +kernel
theorem dX12_goDown_51 : decode cX12_goDown 51 = .ok (.iload_n 2, 1) := by decide +kernel
theorem dX12_goDown_52 : decode cX12_goDown 52 = .ok (.iload 4, 2) := by decide +kernel
theorem dX12_goDown_54 : decode cX12_goDown 54 = .ok (.iconst 1, 1) := by decide +kernel
theorem dX12_goDown_55 : decode cX12_goDown 55 = .ok (.iadd, 1) := by decide +kernel
theorem dX12_goDown_56 : decode cX12_goDown 56 = .ok (.invokevirtual 246, 3) := by decide +kernel
theorem dX12_goDown_59 : decode cX12_goDown 59 = .ok (.iload 4, 2) := by decide +kernel
theorem dX12_goDown_61 : decode cX12_goDown 61 = .ok (.iconst 1, 1) := by decide +kernel
theorem dX12_goDown_62 : decode cX12_goDown 62 = .ok (.iadd, 1) := by decide +kernel
theorem dX12_goDown_63 : decode cX12_goDown 63 = .ok (.ireturn, 1) := by decide +kernel
theorem dX12_weightOf_0 : decode cX12_weightOf 0 = .ok (.bipush 8, 2) := by decide +kernel
theorem dX12_weightOf_2 : decode cX12_weightOf 2 = .ok (.iconst 3, 1) := by decide +kernel
theorem dX12_weightOf_3 : decode cX12_weightOf 3 = .ok (.iload_n 0, 1) := by decide +kernel
theorem dX12_weightOf_4 : decode cX12_weightOf 4 = .ok (.bipush 19, 2) := by decide +kernel
theorem dX12_weightOf_6 : decode cX12_weightOf 6 = .ok (.iadd, 1) := by decide +kernel
theorem dX12_weightOf_7 : decode cX12_weightOf 7 = .ok (.bipush 20, 2) := by decide +kernel
theorem dX12_weightOf_9 : decode cX12_weightOf 9 = .ok (.idiv, 1) := by decide +kernel
theorem dX12_weightOf_10 : decode cX12_weightOf 10 = .ok (.imul, 1) := by decide +kernel
theorem dX12_weightOf_11 : decode cX12_weightOf 11 = .ok (.iadd, 1) := by decide +kernel
theorem dX12_weightOf_12 : decode cX12_weightOf 12 = .ok (.iconst 2, 1) := by decide +kernel
theorem dX12_weightOf_13 : decode cX12_weightOf 13 = .ok (.iload_n 1, 1) := by decide +kernel
theorem dX12_weightOf_14 : decode cX12_weightOf 14 = .ok (.invokestatic 226, 3) := by decide +kernel
theorem dX12_weightOf_17 : decode cX12_weightOf 17 = .ok (.iconst 1, 1) := by decide +kernel
theorem dX12_weightOf_18 : decode cX12_weightOf 18 = .ok (.isub, 1) := by decide +kernel
theorem dX12_weightOf_19 : decode cX12_weightOf 19 = .ok (.imul, 1) := by decide +kernel
theorem dX12_weightOf_20 : decode cX12_weightOf 20 = .ok (.iadd, 1) := by decide +kernel
theorem dX12_weightOf_21 : decode cX12_weightOf 21 = .ok (.ireturn, 1) := by decide +kernel
theorem dX12_franked_0 : decode cX12_franked 0 = .ok (.iload_n 1, 1) := by decide +kernel
theorem dX12_franked_1 : decode cX12_franked 1 = .ok (.bipush 20, 2) := by decide +kernel
theorem dX12_franked_3 : decode cX12_franked 3 = .ok (.if_icmp .le 17, 3) := by decide +kernel
theorem dX12_franked_6 : decode cX12_franked 6 = .ok (.iload_n 1, 1) := by decide +kernel
theorem dX12_franked_7 : decode cX12_franked 7 = .ok (.bipush 20, 2) := by decide +kernel
theorem dX12_franked_9 : decode cX12_franked 9 = .ok (.isub, 1) := by decide +kernel
theorem dX12_franked_10 : decode cX12_franked 10 = .ok (.bipush 9, 2) := by decide +kernel
theorem dX12_franked_12 : decode cX12_franked 12 = .ok (.iadd, 1) := by decide +kernel
theorem dX12_franked_13 : decode cX12_franked 13 = .ok (.bipush 10, 2) := by decide +kernel
theorem dX12_franked_15 : decode cX12_franked 15 = .ok (.idiv, 1) := by decide +kernel
theorem dX12_franked_16 : decode cX12_franked 16 = .ok (.i2l, 1) := by decide +kernel
theorem dX12_franked_17 : decode cX12_franked 17 = .ok (.goto 4, 3) := by decide +kernel
theorem dX12_franked_20 : decode cX12_franked 20 = .ok (.lconst 0, 1) := by decide +kernel
theorem dX12_franked_21 : decode cX12_franked 21 = .ok (.lstore_n 3, 1) := by decide +kernel
theorem dX12_franked_22 : decode cX12_franked 22 = .ok (.aload_n 0, 1) := by decide +kernel
theorem dX12_franked_23 : decode cX12_franked 23 = .ok (.getfield 63, 3) := by decide +kernel
theorem dX12_franked_26 : decode cX12_franked 26 = .ok (.i2l, 1) := by decide +kernel
theorem dX12_franked_27 : decode cX12_franked 27 = .ok (.lload_n 3, 1) := by decide +kernel
theorem dX12_franked_28 : decode cX12_franked 28 = .ok (.lmul, 1) := by decide +kernel
theorem dX12_franked_29 : decode cX12_franked 29 = .ok (.lstore 5, 2) := by decide +kernel
theorem dX12_franked_31 : decode cX12_franked 31 = .ok (.lload 5, 2) := by decide +kernel
theorem dX12_franked_33 : decode cX12_franked 33 = .ok (.ldc2_w 271, 3) := by decide +kernel
theorem dX12_franked_36 : decode cX12_franked 36 = .ok (.lcmp, 1) := by decide +kernel
theorem dX12_franked_37 : decode cX12_franked 37 = .ok (.ifCond .gt 38, 3) := by decide +kernel
theorem dX12_franked_40 : decode cX12_franked 40 = .ok (.lload 5, 2) := by decide +kernel
theorem dX12_franked_42 : decode cX12_franked 42 = .ok (.aload_n 0, 1) := by decide +kernel
theorem dX12_franked_43 : decode cX12_franked 43 = .ok (.getfield 59, 3) := by decide +kernel
theorem dX12_franked_46 : decode cX12_franked 46 = .ok (.i2l, 1) := by decide +kernel
theorem dX12_franked_47 : decode cX12_franked 47 = .ok (.ladd, 1) := by decide +kernel
theorem dX12_franked_48 : decode cX12_franked 48 = .ok (.ldc2_w 271, 3) := by decide +kernel
theorem dX12_franked_51 : decode cX12_franked 51 = .ok (.lcmp, 1) := by decide +kernel
theorem dX12_franked_52 : decode cX12_franked 52 = .ok (.ifCond .gt 23, 3) := by decide +kernel
theorem dX12_franked_55 : decode cX12_franked 55 = .ok (.lload 5, 2) := by decide +kernel
theorem dX12_franked_57 : decode cX12_franked 57 = .ok (.aload_n 0, 1) := by decide +kernel
theorem dX12_franked_58 : decode cX12_franked 58 = .ok (.getfield 59, 3) := by decide +kernel
theorem dX12_franked_61 : decode cX12_franked 61 = .ok (.i2l, 1) := by decide +kernel
theorem dX12_franked_62 : decode cX12_franked 62 = .ok (.ladd, 1) := by decide +kernel
theorem dX12_franked_63 : decode cX12_franked 63 = .ok (.iload_n 2, 1) := by decide +kernel
theorem dX12_franked_64 : decode cX12_franked 64 = .ok (.iconst 2, 1) := by decide +kernel
theorem dX12_franked_65 : decode cX12_franked 65 = .ok (.iadd, 1) := by decide +kernel
theorem dX12_franked_66 : decode cX12_franked 66 = .ok (.i2l, 1) := by decide +kernel
theorem dX12_franked_67 : decode cX12_franked 67 = .ok (.lmul, 1) := by decide +kernel
theorem dX12_franked_68 : decode cX12_franked 68 = .ok (.ldc2_w 271, 3) := by decide +kernel
theorem dX12_franked_71 : decode cX12_franked 71 = .ok (.lcmp, 1) := by decide +kernel
theorem dX12_franked_72 : decode cX12_franked 72 = .ok (.ifCond .le 5, 3) := by decide +kernel
theorem dX12_franked_75 : decode cX12_franked 75 = .ok (.iconst (-1), 1) := by decide +kernel
theorem dX12_franked_76 : decode cX12_franked 76 = .ok (.ireturn, 1) := by decide +kernel
theorem dX12_franked_77 : decode cX12_franked 77 = .ok (.lload 5, 2) := by decide +kernel
theorem dX12_franked_79 : decode cX12_franked 79 = .ok (.aload_n 0, 1) := by decide +kernel
theorem dX12_franked_80 : decode cX12_franked 80 = .ok (.getfield 59, 3) := by decide +kernel
theorem dX12_franked_83 : decode cX12_franked 83 = .ok (.i2l, 1) := by decide +kernel
theorem dX12_franked_84 : decode cX12_franked 84 = .ok (.ladd, 1) := by decide +kernel
theorem dX12_franked_85 : decode cX12_franked 85 = .ok (.iload_n 2, 1) := by decide +kernel
theorem dX12_franked_86 : decode cX12_franked 86 = .ok (.iconst 2, 1) := by decide +kernel
theorem dX12_franked_87 : decode cX12_franked 87 = .ok (.iadd, 1) := by decide +kernel
theorem dX12_franked_88 : decode cX12_franked 88 = .ok (.i2l, 1) := by decide +kernel
theorem dX12_franked_89 : decode cX12_franked 89 = .ok (.lmul, 1) := by decide +kernel
theorem dX12_franked_90 : decode cX12_franked 90 = .ok (.l2i, 1) := by decide +kernel
theorem dX12_franked_91 : decode cX12_franked 91 = .ok (.ireturn, 1) := by decide +kernel
theorem dX12_letterOf_0 : decode cX12_letterOf 0 = .ok (.aload_n 0, 1) := by decide +kernel
theorem dX12_letterOf_1 : decode cX12_letterOf 1 = .ok (.iconst 0, 1) := by decide +kernel
theorem dX12_letterOf_2 : decode cX12_letterOf 2 = .ok (.putfield 239, 3) := by decide +kernel
theorem dX12_letterOf_5 : decode cX12_letterOf 5 = .ok (.aload_n 0, 1) := by decide +kernel
theorem dX12_letterOf_6 : decode cX12_letterOf 6 = .ok (.iconst 0, 1) := by decide +kernel
theorem dX12_letterOf_7 : decode cX12_letterOf 7 = .ok (.putfield 233, 3) := by decide +kernel
theorem dX12_letterOf_10 : decode cX12_letterOf 10 = .ok (.aload_n 0, 1) := by decide +kernel
theorem dX12_letterOf_11 : decode cX12_letterOf 11 = .ok (.iconst 0, 1) := by decide +kernel
theorem dX12_letterOf_12 : decode cX12_letterOf 12 = .ok (.putfield 236, 3) := by decide +kernel
theorem dX12_letterOf_15 : decode cX12_letterOf 15 = .ok (.aload_n 0, 1) := by decide +kernel
theorem dX12_letterOf_16 : decode cX12_letterOf 16 = .ok (.iconst (-1), 1) := by decide +kernel
theorem dX12_letterOf_17 : decode cX12_letterOf 17 = .ok (.putfield 273, 3) := by decide +kernel
theorem dX12_letterOf_20 : decode cX12_letterOf 20 = .ok (.aload_n 0, 1) := by decide +kernel
theorem dX12_letterOf_21 : decode cX12_letterOf 21 = .ok (.getfield 16, 3) := by decide +kernel
theorem dX12_letterOf_24 : decode cX12_letterOf 24 = .ok (.iload_n 1, 1) := by decide +kernel
theorem dX12_letterOf_25 : decode cX12_letterOf 25 = .ok (.iaload, 1) := by decide +kernel
theorem dX12_letterOf_26 : decode cX12_letterOf 26 = .ok (.iconst (-1), 1) := by decide +kernel
theorem dX12_letterOf_27 : decode cX12_letterOf 27 = .ok (.if_icmp .ne 12, 3) := by decide +kernel
theorem dX12_letterOf_30 : decode cX12_letterOf 30 = .ok (.aload_n 0, 1) := by decide +kernel
theorem dX12_letterOf_31 : decode cX12_letterOf 31 = .ok (.iconst 1, 1) := by decide +kernel
theorem dX12_letterOf_32 : decode cX12_letterOf 32 = .ok (.iload_n 1, 1) := by decide +kernel
theorem dX12_letterOf_33 : decode cX12_letterOf 33 = .ok (.iconst 0, 1) := by decide +kernel
theorem dX12_letterOf_34 : decode cX12_letterOf 34 = .ok (.iconst 0, 1) := by decide +kernel
theorem dX12_letterOf_35 : decode cX12_letterOf 35 = .ok (.invokevirtual 242, 3) := by decide +kernel
theorem dX12_letterOf_38 : decode cX12_letterOf 38 = .ok (.return_, 1) := by decide +kernel
theorem dX12_letterOf_39 : decode cX12_letterOf 39 = .ok (.aload_n 0, 1) := by decide +kernel
theorem dX12_letterOf_40 : decode cX12_letterOf 40 = .ok (.iload_n 1, 1) := by decide +kernel
theorem dX12_letterOf_41 : decode cX12_letterOf 41 = .ok (.iload_n 2, 1) := by decide +kernel
theorem dX12_letterOf_42 : decode cX12_letterOf 42 = .ok (.invokevirtual 276, 3) := by decide +kernel
theorem dX12_letterOf_45 : decode cX12_letterOf 45 = .ok (.aload_n 0, 1) := by decide +kernel
theorem dX12_letterOf_46 : decode cX12_letterOf 46 = .ok (.getfield 233, 3) := by decide +kernel
theorem dX12_letterOf_49 : decode cX12_letterOf 49 = .ok (.ifCond .ne 44, 3) := by decide +kernel
theorem dX12_letterOf_52 : decode cX12_letterOf 52 = .ok (.aload_n 0, 1) := by decide +kernel
theorem dX12_letterOf_53 : decode cX12_letterOf 53 = .ok (.aload_n 0, 1) := by decide +kernel
theorem dX12_letterOf_54 : decode cX12_letterOf 54 = .ok (.aload_n 0, 1) := by decide +kernel
theorem dX12_letterOf_55 : decode cX12_letterOf 55 = .ok (.getfield 239, 3) := by decide +kernel
theorem dX12_letterOf_58 : decode cX12_letterOf 58 = .ok (.iload_n 2, 1) := by decide +kernel
theorem dX12_letterOf_59 : decode cX12_letterOf 59 = .ok (.invokestatic 279, 3) := by decide +kernel
theorem dX12_letterOf_62 : decode cX12_letterOf 62 = .ok (.aload_n 0, 1) := by decide +kernel
theorem dX12_letterOf_63 : decode cX12_letterOf 63 = .ok (.getfield 46, 3) := by decide +kernel
theorem dX12_letterOf_66 : decode cX12_letterOf 66 = .ok (.iload_n 2, 1) := by decide +kernel
theorem dX12_letterOf_67 : decode cX12_letterOf 67 = .ok (.invokestatic 216, 3) := by decide +kernel
theorem dX12_letterOf_70 : decode cX12_letterOf 70 = .ok (.iaload, 1) := by decide +kernel
theorem dX12_letterOf_71 : decode cX12_letterOf 71 = .ok (.invokevirtual 282, 3) := by decide +kernel
theorem dX12_letterOf_74 : decode cX12_letterOf 74 = .ok (.putfield 273, 3) := by decide +kernel
theorem dX12_letterOf_77 : decode cX12_letterOf 77 = .ok (.aload_n 0, 1) := by decide +kernel
theorem dX12_letterOf_78 : decode cX12_letterOf 78 = .ok (.getfield 273, 3) := by decide +kernel
theorem dX12_letterOf_81 : decode cX12_letterOf 81 = .ok (.iconst (-1), 1) := by decide +kernel
theorem dX12_letterOf_82 : decode cX12_letterOf 82 = .ok (.if_icmp .ne 11, 3) := by decide +kernel
theorem dX12_letterOf_85 : decode cX12_letterOf 85 = .ok (.aload_n 0, 1) := by decide +kernel
theorem dX12_letterOf_86 : decode cX12_letterOf 86 = .ok (.iconst 4, 1) := by decide +kernel
theorem dX12_letterOf_87 : decode cX12_letterOf 87 = .ok (.iload_n 1, 1) := by decide +kernel
theorem dX12_letterOf_88 : decode cX12_letterOf 88 = .ok (.iconst 0, 1) := by decide +kernel
theorem dX12_letterOf_89 : decode cX12_letterOf 89 = .ok (.iconst 0, 1) := by decide +kernel
theorem dX12_letterOf_90 : decode cX12_letterOf 90 = .ok (.invokevirtual 242, 3) := by decide +kernel
theorem dX12_letterOf_93 : decode cX12_letterOf 93 = .ok (.return_, 1) := by decide +kernel
theorem dX12_franking_0 : decode cX12_franking 0 = .ok (.aload_n 0, 1) := by decide +kernel
theorem dX12_franking_1 : decode cX12_franking 1 = .ok (.iload_n 1, 1) := by decide +kernel
theorem dX12_franking_2 : decode cX12_franking 2 = .ok (.ifCond .lt 25, 3) := by decide +kernel
theorem dX12_franking_5 : decode cX12_franking 5 = .ok (.iload_n 1, 1) := by decide +kernel
theorem dX12_franking_6 : decode cX12_franking 6 = .ok (.ldc_w 285, 3) := by decide +kernel
theorem dX12_franking_9 : decode cX12_franking 9 = .ok (.if_icmp .gt 18, 3) := by decide +kernel
theorem dX12_franking_12 : decode cX12_franking 12 = .ok (.iload_n 2, 1) := by decide +kernel
theorem dX12_franking_13 : decode cX12_franking 13 = .ok (.ifCond .lt 14, 3) := by decide +kernel
theorem dX12_franking_16 : decode cX12_franking 16 = .ok (.iload_n 2, 1) := by decide +kernel
theorem dX12_franking_17 : decode cX12_franking 17 = .ok (.ldc_w 285, 3) := by decide +kernel
theorem dX12_franking_20 : decode cX12_franking 20 = .ok (.if_icmp .gt 7, 3) := by decide +kernel
theorem dX12_franking_23 : decode cX12_franking 23 = .ok (.iconst 0, 1) := by decide +kernel
theorem dX12_franking_24 : decode cX12_franking 24 = .ok (.goto 4, 3) := by decide +kernel
theorem dX12_franking_27 : decode cX12_franking 27 = .ok (.iconst 1, 1) := by decide +kernel
theorem dX12_franking_28 : decode cX12_franking 28 = .ok (.invokevirtual 128, 3) := by decide +kernel
theorem dX12_franking_31 : decode cX12_franking 31 = .ok (.ifCond .eq 5, 3) := by decide +kernel
theorem dX12_franking_34 : decode cX12_franking 34 = .ok (.iconst 0, 1) := by decide +kernel
theorem dX12_franking_35 : decode cX12_franking 35 = .ok (.ireturn, 1) := by decide +kernel
theorem dX12_franking_36 : decode cX12_franking 36 = .ok (.aload_n 0, 1) := by decide +kernel
theorem dX12_franking_37 : decode cX12_franking 37 = .ok (.iload_n 1, 1) := by decide +kernel
theorem dX12_franking_38 : decode cX12_franking 38 = .ok (.putfield 59, 3) := by decide +kernel
theorem dX12_franking_41 : decode cX12_franking 41 = .ok (.aload_n 0, 1) := by decide +kernel
theorem dX12_franking_42 : decode cX12_franking 42 = .ok (.iload_n 2, 1) := by decide +kernel
theorem dX12_franking_43 : decode cX12_franking 43 = .ok (.putfield 63, 3) := by decide +kernel
theorem dX12_franking_46 : decode cX12_franking 46 = .ok (.aload_n 0, 1) := by decide +kernel
theorem dX12_franking_47 : decode cX12_franking 47 = .ok (.bipush 11, 2) := by decide +kernel
theorem dX12_franking_49 : decode cX12_franking 49 = .ok (.iconst 5, 1) := by decide +kernel
theorem dX12_franking_50 : decode cX12_franking 50 = .ok (.invokevirtual 282, 3) := by decide +kernel
theorem dX12_franking_53 : decode cX12_franking 53 = .ok (.ireturn, 1) := by decide +kernel
theorem dX12_run_0 : decode cX12_run 0 = .ok (.aload_n 0, 1) := by decide +kernel
theorem dX12_run_1 : decode cX12_run 1 = .ok (.iload_n 1, 1) := by decide +kernel
theorem dX12_run_2 : decode cX12_run 2 = .ok (.ifCond .lt 9, 3) := by decide +kernel
theorem dX12_run_5 : decode cX12_run 5 = .ok (.iload_n 1, 1) := by decide +kernel
theorem dX12_run_6 : decode cX12_run 6 = .ok (.bipush 7, 2) := by decide +kernel
theorem dX12_run_8 : decode cX12_run 8 = .ok (.if_icmp .le 7, 3) := by decide +kernel
theorem dX12_run_11 : decode cX12_run 11 = .ok (.iconst 1, 1) := by decide +kernel
theorem dX12_run_12 : decode cX12_run 12 = .ok (.goto 31, 3) := by decide +kernel
theorem dX12_run_15 : decode cX12_run 15 = .ok (.iload_n 2, 1) := by decide +kernel
theorem dX12_run_16 : decode cX12_run 16 = .ok (.ifCond .lt 9, 3) := by decide +kernel
theorem dX12_run_19 : decode cX12_run 19 = .ok (.iload_n 2, 1) := by decide +kernel
theorem dX12_run_20 : decode cX12_run 20 = .ok (.bipush 7, 2) := by decide +kernel
theorem dX12_run_22 : decode cX12_run 22 = .ok (.if_icmp .le 7, 3) := by decide +kernel
theorem dX12_run_25 : decode cX12_run 25 = .ok (.iconst 2, 1) := by decide +kernel
theorem dX12_run_26 : decode cX12_run 26 = .ok (.goto 17, 3) := by decide +kernel
theorem dX12_run_29 : decode cX12_run 29 = .ok (.aload_n 0, 1) := by decide +kernel
theorem dX12_run_30 : decode cX12_run 30 = .ok (.getfield 286, 3) := by decide +kernel
theorem dX12_run_33 : decode cX12_run 33 = .ok (.bipush 8, 2) := by decide +kernel
theorem dX12_run_35 : decode cX12_run 35 = .ok (.if_icmp .ne 7, 3) := by decide +kernel
theorem dX12_run_38 : decode cX12_run 38 = .ok (.iconst 3, 1) := by decide +kernel
theorem dX12_run_39 : decode cX12_run 39 = .ok (.goto 4, 3) := by decide +kernel
theorem dX12_run_42 : decode cX12_run 42 = .ok (.iconst 0, 1) := by decide +kernel
theorem dX12_run_43 : decode cX12_run 43 = .ok (.invokevirtual 128, 3) := by decide +kernel
theorem dX12_run_46 : decode cX12_run 46 = .ok (.ifCond .eq 5, 3) := by decide +kernel
theorem dX12_run_49 : decode cX12_run 49 = .ok (.iconst 0, 1) := by decide +kernel
theorem dX12_run_50 : decode cX12_run 50 = .ok (.ireturn, 1) := by decide +kernel
theorem dX12_run_51 : decode cX12_run 51 = .ok (.aload_n 0, 1) := by decide +kernel
theorem dX12_run_52 : decode cX12_run 52 = .ok (.getfield 66, 3) := by decide +kernel
theorem dX12_run_55 : decode cX12_run 55 = .ok (.aload_n 0, 1) := by decide +kernel
theorem dX12_run_56 : decode cX12_run 56 = .ok (.getfield 286, 3) := by decide +kernel
theorem dX12_run_59 : decode cX12_run 59 = .ok (.iload_n 1, 1) := by decide +kernel
theorem dX12_run_60 : decode cX12_run 60 = .ok (.iastore, 1) := by decide +kernel
theorem dX12_run_61 : decode cX12_run 61 = .ok (.aload_n 0, 1) := by decide +kernel
theorem dX12_run_62 : decode cX12_run 62 = .ok (.getfield 69, 3) := by decide +kernel
theorem dX12_run_65 : decode cX12_run 65 = .ok (.aload_n 0, 1) := by decide +kernel
theorem dX12_run_66 : decode cX12_run 66 = .ok (.getfield 286, 3) := by decide +kernel
theorem dX12_run_69 : decode cX12_run 69 = .ok (.iload_n 2, 1) := by decide +kernel
theorem dX12_run_70 : decode cX12_run 70 = .ok (.iastore, 1) := by decide +kernel
theorem dX12_run_71 : decode cX12_run 71 = .ok (.aload_n 0, 1) := by decide +kernel
theorem dX12_run_72 : decode cX12_run 72 = .ok (.dup, 1) := by decide +kernel
theorem dX12_run_73 : decode cX12_run 73 = .ok (.getfield 286, 3) := by decide +kernel
theorem dX12_run_76 : decode cX12_run 76 = .ok (.iconst 1, 1) := by decide +kernel
theorem dX12_run_77 : decode cX12_run 77 = .ok (.iadd, 1) := by decide +kernel
theorem dX12_run_78 : decode cX12_run 78 = .ok (.putfield 286, 3) := by decide +kernel
theorem dX12_run_81 : decode cX12_run 81 = .ok (.aload_n 0, 1) := by decide +kernel
theorem dX12_run_82 : decode cX12_run 82 = .ok (.getfield 286, 3) := by decide +kernel
theorem dX12_run_85 : decode cX12_run 85 = .ok (.iconst 1, 1) := by decide +kernel
theorem dX12_run_86 : decode cX12_run 86 = .ok (.isub, 1) := by decide +kernel
theorem dX12_run_87 : decode cX12_run 87 = .ok (.ireturn, 1) := by decide +kernel
theorem dX12_openMembers_0 : decode cX12_openMembers 0 = .ok (.iload_n 2, 1) := by decide +kernel
theorem dX12_openMembers_1 : decode cX12_openMembers 1 = .ok (.istore_n 3, 1) := by decide +kernel
theorem dX12_openMembers_2 : decode cX12_openMembers 2 = .ok (.iconst 0, 1) := by decide +kernel
theorem dX12_openMembers_3 : decode cX12_openMembers 3 = .ok (.istore 4, 2) := by decide +kernel
theorem dX12_openMembers_5 : decode cX12_openMembers 5 = .ok (.iload 4, 2) := by decide +kernel
theorem dX12_openMembers_7 : decode cX12_openMembers 7 = .ok (.aload_n 0, 1) := by decide +kernel
theorem dX12_openMembers_8 : decode cX12_openMembers 8 = .ok (.getfield 166, 3) := by decide +kernel
theorem dX12_openMembers_11 : decode cX12_openMembers 11 = .ok (.if_icmp .ge 106, 3) := by decide +kernel
theorem dX12_openMembers_14 : decode cX12_openMembers 14 = .ok (.aload_n 0, 1) := by decide +kernel
theorem dX12_openMembers_15 : decode cX12_openMembers 15 = .ok (.iload 4, 2) := by decide +kernel
theorem dX12_openMembers_17 : decode cX12_openMembers 17 = .ok (.invokevirtual 210, 3) := by decide +kernel
theorem dX12_openMembers_20 : decode cX12_openMembers 20 = .ok (.istore 5, 2) := by decide +kernel
theorem dX12_openMembers_22 : decode cX12_openMembers 22 = .ok (.iconst 0, 1) := by decide +kernel
theorem dX12_openMembers_23 : decode cX12_openMembers 23 = .ok (.istore 6, 2) := by decide +kernel
theorem dX12_openMembers_25 : decode cX12_openMembers 25 = .ok (.iconst 0, 1) := by decide +kernel
theorem dX12_openMembers_26 : decode cX12_openMembers 26 = .ok (.istore 7, 2) := by decide +kernel
theorem dX12_openMembers_28 : decode cX12_openMembers 28 = .ok (.iload 7, 2) := by decide +kernel
theorem dX12_openMembers_30 : decode cX12_openMembers 30 = .ok (.aload_n 0, 1) := by decide +kernel
theorem dX12_openMembers_31 : decode cX12_openMembers 31 = .ok (.getfield 166, 3) := by decide +kernel
theorem dX12_openMembers_34 : decode cX12_openMembers 34 = .ok (.if_icmp .ge 52, 3) := by decide +kernel
theorem dX12_openMembers_37 : decode cX12_openMembers 37 = .ok (.iload 6, 2) := by decide +kernel
theorem dX12_openMembers_39 : decode cX12_openMembers 39 = .ok (.ifCond .ne 34, 3) := by decide +kernel
theorem dX12_openMembers_42 : decode cX12_openMembers 42 = .ok (.iload 5, 2) := by decide +kernel
theorem dX12_openMembers_44 : decode cX12_openMembers 44 = .ok (.iload 7, 2) := by decide +kernel
theorem dX12_openMembers_46 : decode cX12_openMembers 46 = .ok (.ishr, 1) := by decide +kernel
theorem dX12_openMembers_47 : decode cX12_openMembers 47 = .ok (.iconst 1, 1) := by decide +kernel
theorem dX12_openMembers_48 : decode cX12_openMembers 48 = .ok (.iand, 1) := by decide +kernel
theorem dX12_openMembers_49 : decode cX12_openMembers 49 = .ok (.iconst 1, 1) := by decide +kernel
theorem dX12_openMembers_50 : decode cX12_openMembers 50 = .ok (.if_icmp .ne 27, 3) := by decide +kernel
theorem dX12_openMembers_53 : decode cX12_openMembers 53 = .ok (.aload_n 0, 1) := by decide +kernel
theorem dX12_openMembers_54 : decode cX12_openMembers 54 = .ok (.getfield 56, 3) := by decide +kernel
theorem dX12_openMembers_57 : decode cX12_openMembers 57 = .ok (.iload 7, 2) := by decide +kernel
theorem dX12_openMembers_59 : decode cX12_openMembers 59 = .ok (.iaload, 1) := by decide +kernel
theorem dX12_openMembers_60 : decode cX12_openMembers 60 = .ok (.aload_n 0, 1) := by decide +kernel
theorem dX12_openMembers_61 : decode cX12_openMembers 61 = .ok (.getfield 69, 3) := by decide +kernel
theorem dX12_openMembers_64 : decode cX12_openMembers 64 = .ok (.iload_n 1, 1) := by decide +kernel
theorem dX12_openMembers_65 : decode cX12_openMembers 65 = .ok (.iaload, 1) := by decide +kernel
theorem dX12_openMembers_66 : decode cX12_openMembers 66 = .ok (.ishr, 1) := by decide +kernel
theorem dX12_openMembers_67 : decode cX12_openMembers 67 = .ok (.iconst 1, 1) := by decide +kernel
theorem dX12_openMembers_68 : decode cX12_openMembers 68 = .ok (.iand, 1) := by decide +kernel
theorem dX12_openMembers_69 : decode cX12_openMembers 69 = .ok (.iconst 1, 1) := by decide +kernel
theorem dX12_openMembers_70 : decode cX12_openMembers 70 = .ok (.if_icmp .ne 7, 3) := by decide +kernel
theorem dX12_openMembers_73 : decode cX12_openMembers 73 = .ok (.iconst 1, 1) := by decide +kernel
theorem dX12_openMembers_74 : decode cX12_openMembers 74 = .ok (.goto 4, 3) := by decide +kernel
theorem dX12_openMembers_77 : decode cX12_openMembers 77 = .ok (.iconst 0, 1) := by decide +kernel
theorem dX12_openMembers_78 : decode cX12_openMembers 78 = .ok (.istore 6, 2) := by decide +kernel
theorem dX12_openMembers_80 : decode cX12_openMembers 80 = .ok (.iinc 7 1, 3) := by decide +kernel
theorem dX12_openMembers_83 : decode cX12_openMembers 83 = .ok (.goto (-55), 3) := by decide +kernel
theorem dX12_openMembers_86 : decode cX12_openMembers 86 = .ok (.iload 5, 2) := by decide +kernel
theorem dX12_openMembers_88 : decode cX12_openMembers 88 = .ok (.invokestatic 216, 3) := by decide +kernel
theorem dX12_openMembers_91 : decode cX12_openMembers 91 = .ok (.iload 4, 2) := by decide +kernel
theorem dX12_openMembers_93 : decode cX12_openMembers 93 = .ok (.if_icmp .ne 18, 3) := by decide +kernel
theorem dX12_openMembers_96 : decode cX12_openMembers 96 = .ok (.iload 6, 2) := by decide +kernel
theorem dX12_openMembers_98 : decode cX12_openMembers 98 = .ok (.ifCond .ne 13, 3) := by decide +kernel
theorem dX12_openMembers_101 : decode cX12_openMembers 101 = .ok (.iload_n 3, 1) := by decide +kernel
theorem dX12_openMembers_102 : decode cX12_openMembers 102 = .ok (.ifCond .ne 6, 3) := by decide +kernel
theorem dX12_openMembers_105 : decode cX12_openMembers 105 = .ok (.iload 5, 2) := by decide +kernel
theorem dX12_openMembers_107 : decode cX12_openMembers 107 = .ok (.ireturn, 1) := by decide +kernel
theorem dX12_openMembers_108 : decode cX12_openMembers 108 = .ok (.iinc 3 (-1), 3) := by decide +kernel
theorem dX12_openMembers_111 : decode cX12_openMembers 111 = .ok (.iinc 4 1, 3) := by decide +kernel
theorem dX12_openMembers_114 : decode cX12_openMembers 114 = .ok (.goto (-109), 3) := by decide +kernel
theorem dX12_openMembers_117 : decode cX12_openMembers 117 = .ok (.iconst 0, 1) := by decide +kernel
theorem dX12_openMembers_118 : decode cX12_openMembers 118 = .ok (.ireturn, 1) := by decide +kernel
theorem dX12_isRun_0 : decode cX12_isRun 0 = .ok (.iload_n 1, 1) := by decide +kernel
theorem dX12_isRun_1 : decode cX12_isRun 1 = .ok (.ifCond .lt 15, 3) := by decide +kernel
theorem dX12_isRun_4 : decode cX12_isRun 4 = .ok (.iload_n 1, 1) := by decide +kernel
theorem dX12_isRun_5 : decode cX12_isRun 5 = .ok (.aload_n 0, 1) := by decide +kernel
theorem dX12_isRun_6 : decode cX12_isRun 6 = .ok (.getfield 286, 3) := by decide +kernel
theorem dX12_isRun_9 : decode cX12_isRun 9 = .ok (.if_icmp .ge 7, 3) := by decide +kernel
theorem dX12_isRun_12 : decode cX12_isRun 12 = .ok (.iconst 1, 1) := by decide +kernel
theorem dX12_isRun_13 : decode cX12_isRun 13 = .ok (.goto 4, 3) := by decide +kernel
theorem dX12_isRun_16 : decode cX12_isRun 16 = .ok (.iconst 0, 1) := by decide +kernel
theorem dX12_isRun_17 : decode cX12_isRun 17 = .ok (.ireturn, 1) := by decide +kernel
theorem dX12_lettersOf_0 : decode cX12_lettersOf 0 = .ok (.aload_n 0, 1) := by decide +kernel
theorem dX12_lettersOf_1 : decode cX12_lettersOf 1 = .ok (.getfield 72, 3) := by decide +kernel
theorem dX12_lettersOf_4 : decode cX12_lettersOf 4 = .ok (.iload_n 1, 1) := by decide +kernel
theorem dX12_lettersOf_5 : decode cX12_lettersOf 5 = .ok (.baload, 1) := by decide +kernel
theorem dX12_lettersOf_6 : decode cX12_lettersOf 6 = .ok (.ifCond .eq 10, 3) := by decide +kernel
theorem dX12_lettersOf_9 : decode cX12_lettersOf 9 = .ok (.aload_n 0, 1) := by decide +kernel
theorem dX12_lettersOf_10 : decode cX12_lettersOf 10 = .ok (.getfield 75, 3) := by decide +kernel
theorem dX12_lettersOf_13 : decode cX12_lettersOf 13 = .ok (.iload_n 1, 1) := by decide +kernel
theorem dX12_lettersOf_14 : decode cX12_lettersOf 14 = .ok (.iaload, 1) := by decide +kernel
theorem dX12_lettersOf_15 : decode cX12_lettersOf 15 = .ok (.ireturn, 1) := by decide +kernel
theorem dX12_lettersOf_16 : decode cX12_lettersOf 16 = .ok (.iconst 0, 1) := by decide +kernel
theorem dX12_lettersOf_17 : decode cX12_lettersOf 17 = .ok (.istore_n 2, 1) := by decide +kernel
theorem dX12_lettersOf_18 : decode cX12_lettersOf 18 = .ok (.aload_n 0, 1) := by decide +kernel
theorem dX12_lettersOf_19 : decode cX12_lettersOf 19 = .ok (.iload_n 1, 1) := by decide +kernel
theorem dX12_lettersOf_20 : decode cX12_lettersOf 20 = .ok (.iload_n 2, 1) := by decide +kernel
theorem dX12_lettersOf_21 : decode cX12_lettersOf 21 = .ok (.invokevirtual 289, 3) := by decide +kernel
theorem dX12_lettersOf_24 : decode cX12_lettersOf 24 = .ok (.ifCond .eq 9, 3) := by decide +kernel
theorem dX12_lettersOf_27 : decode cX12_lettersOf 27 = .ok (.iinc 2 1, 3) := by decide +kernel
theorem dX12_lettersOf_30 : decode cX12_lettersOf 30 = .ok (.goto (-12), 3) := by decide +kernel
theorem dX12_lettersOf_33 : decode cX12_lettersOf 33 = .ok (.iload_n 2, 1) := by decide +kernel
theorem dX12_lettersOf_34 : decode cX12_lettersOf 34 = .ok (.ireturn, 1) := by decide +kernel
theorem dX12_letters_0 : decode cX12_letters 0 = .ok (.aload_n 0, 1) := by decide +kernel
theorem dX12_letters_1 : decode cX12_letters 1 = .ok (.aload_n 0, 1) := by decide +kernel
theorem dX12_letters_2 : decode cX12_letters 2 = .ok (.iload_n 1, 1) := by decide +kernel
theorem dX12_letters_3 : decode cX12_letters 3 = .ok (.invokevirtual 292, 3) := by decide +kernel
theorem dX12_letters_6 : decode cX12_letters 6 = .ok (.ifCond .eq 7, 3) := by decide +kernel
theorem dX12_letters_9 : decode cX12_letters 9 = .ok (.iconst 0, 1) := by decide +kernel
theorem dX12_letters_10 : decode cX12_letters 10 = .ok (.goto 4, 3) := by decide +kernel
theorem dX12_letters_13 : decode cX12_letters 13 = .ok (.iconst 1, 1) := by decide +kernel
theorem dX12_letters_14 : decode cX12_letters 14 = .ok (.invokevirtual 128, 3) := by decide +kernel
theorem dX12_letters_17 : decode cX12_letters 17 = .ok (.ifCond .eq 5, 3) := by decide +kernel
theorem dX12_letters_20 : decode cX12_letters 20 = .ok (.iconst 0, 1) := by decide +kernel
theorem dX12_letters_21 : decode cX12_letters 21 = .ok (.ireturn, 1) := by decide +kernel
theorem dX12_letters_22 : decode cX12_letters 22 = .ok (.aload_n 0, 1) := by decide +kernel
theorem dX12_letters_23 : decode cX12_letters 23 = .ok (.iload_n 1, 1) := by decide +kernel
theorem dX12_letters_24 : decode cX12_letters 24 = .ok (.invokevirtual 295, 3) := by decide +kernel
theorem dX12_letters_27 : decode cX12_letters 27 = .ok (.ireturn, 1) := by decide +kernel
theorem dX12_isLetter_0 : decode cX12_isLetter 0 = .ok (.aload_n 0, 1) := by decide +kernel
theorem dX12_isLetter_1 : decode cX12_isLetter 1 = .ok (.iload_n 1, 1) := by decide +kernel
theorem dX12_isLetter_2 : decode cX12_isLetter 2 = .ok (.invokevirtual 292, 3) := by decide +kernel
theorem dX12_isLetter_5 : decode cX12_isLetter 5 = .ok (.ifCond .eq 20, 3) := by decide +kernel
theorem dX12_isLetter_8 : decode cX12_isLetter 8 = .ok (.iload_n 2, 1) := by decide +kernel
theorem dX12_isLetter_9 : decode cX12_isLetter 9 = .ok (.ifCond .lt 16, 3) := by decide +kernel
theorem dX12_isLetter_12 : decode cX12_isLetter 12 = .ok (.iload_n 2, 1) := by decide +kernel
theorem dX12_isLetter_13 : decode cX12_isLetter 13 = .ok (.aload_n 0, 1) := by decide +kernel
theorem dX12_isLetter_14 : decode cX12_isLetter 14 = .ok (.iload_n 1, 1) := by decide +kernel
theorem dX12_isLetter_15 : decode cX12_isLetter 15 = .ok (.invokevirtual 295, 3) := by decide +kernel
theorem dX12_isLetter_18 : decode cX12_isLetter 18 = .ok (.if_icmp .ge 7, 3) := by decide +kernel
theorem dX12_isLetter_21 : decode cX12_isLetter 21 = .ok (.iconst 1, 1) := by decide +kernel
theorem dX12_isLetter_22 : decode cX12_isLetter 22 = .ok (.goto 4, 3) := by decide +kernel
theorem dX12_isLetter_25 : decode cX12_isLetter 25 = .ok (.iconst 0, 1) := by decide +kernel
theorem dX12_isLetter_26 : decode cX12_isLetter 26 = .ok (.ireturn, 1) := by decide +kernel
theorem dX12_membersOf_0 : decode cX12_membersOf 0 = .ok (.aload_n 0, 1) := by decide +kernel
theorem dX12_membersOf_1 : decode cX12_membersOf 1 = .ok (.getfield 72, 3) := by decide +kernel
theorem dX12_membersOf_4 : decode cX12_membersOf 4 = .ok (.iload_n 1, 1) := by decide +kernel
theorem dX12_membersOf_5 : decode cX12_membersOf 5 = .ok (.baload, 1) := by decide +kernel
theorem dX12_membersOf_6 : decode cX12_membersOf 6 = .ok (.ifCond .eq 17, 3) := by decide +kernel
theorem dX12_membersOf_9 : decode cX12_membersOf 9 = .ok (.aload_n 0, 1) := by decide +kernel
theorem dX12_membersOf_10 : decode cX12_membersOf 10 = .ok (.getfield 78, 3) := by decide +kernel
theorem dX12_membersOf_13 : decode cX12_membersOf 13 = .ok (.bipush 12, 2) := by decide +kernel
theorem dX12_membersOf_15 : decode cX12_membersOf 15 = .ok (.iload_n 1, 1) := by decide +kernel
theorem dX12_membersOf_16 : decode cX12_membersOf 16 = .ok (.imul, 1) := by decide +kernel
theorem dX12_membersOf_17 : decode cX12_membersOf 17 = .ok (.iload_n 2, 1) := by decide +kernel
theorem dX12_membersOf_18 : decode cX12_membersOf 18 = .ok (.iadd, 1) := by decide +kernel
theorem dX12_membersOf_19 : decode cX12_membersOf 19 = .ok (.iaload, 1) := by decide +kernel
theorem dX12_membersOf_20 : decode cX12_membersOf 20 = .ok (.goto 9, 3) := by decide +kernel
theorem dX12_membersOf_23 : decode cX12_membersOf 23 = .ok (.aload_n 0, 1) := by decide +kernel
theorem dX12_membersOf_24 : decode cX12_membersOf 24 = .ok (.iload_n 1, 1) := by decide +kernel
theorem dX12_membersOf_25 : decode cX12_membersOf 25 = .ok (.iload_n 2, 1) := by decide +kernel
theorem dX12_membersOf_26 : decode cX12_membersOf 26 = .ok (.invokevirtual 289, 3) := by decide +kernel
theorem dX12_membersOf_29 : decode cX12_membersOf 29 = .ok (.ireturn, 1) := by decide +kernel
theorem dX12_layLetter_0 : decode cX12_layLetter 0 = .ok (.aload_n 0, 1) := by decide +kernel
theorem dX12_layLetter_1 : decode cX12_layLetter 1 = .ok (.getfield 72, 3) := by decide +kernel
theorem dX12_layLetter_4 : decode cX12_layLetter 4 = .ok (.iload_n 1, 1) := by decide +kernel
theorem dX12_layLetter_5 : decode cX12_layLetter 5 = .ok (.baload, 1) := by decide +kernel
theorem dX12_layLetter_6 : decode cX12_layLetter 6 = .ok (.ifCond .ne 20, 3) := by decide +kernel
theorem dX12_layLetter_9 : decode cX12_layLetter 9 = .ok (.aload_n 0, 1) := by decide +kernel
theorem dX12_layLetter_10 : decode cX12_layLetter 10 = .ok (.aload_n 0, 1) := by decide +kernel
theorem dX12_layLetter_11 : decode cX12_layLetter 11 = .ok (.getfield 66, 3) := by decide +kernel
theorem dX12_layLetter_14 : decode cX12_layLetter 14 = .ok (.iload_n 1, 1) := by decide +kernel
theorem dX12_layLetter_15 : decode cX12_layLetter 15 = .ok (.iaload, 1) := by decide +kernel
theorem dX12_layLetter_16 : decode cX12_layLetter 16 = .ok (.aload_n 0, 1) := by decide +kernel
theorem dX12_layLetter_17 : decode cX12_layLetter 17 = .ok (.iload_n 1, 1) := by decide +kernel
theorem dX12_layLetter_18 : decode cX12_layLetter 18 = .ok (.iload_n 2, 1) := by decide +kernel
theorem dX12_layLetter_19 : decode cX12_layLetter 19 = .ok (.invokevirtual 289, 3) := by decide +kernel
theorem dX12_layLetter_22 : decode cX12_layLetter 22 = .ok (.invokevirtual 298, 3) := by decide +kernel
theorem dX12_layLetter_25 : decode cX12_layLetter 25 = .ok (.return_, 1) := by decide +kernel
theorem dX12_layLetter_26 : decode cX12_layLetter 26 = .ok (.aload_n 0, 1) := by decide +kernel
theorem dX12_layLetter_27 : decode cX12_layLetter 27 = .ok (.iconst 0, 1) := by decide +kernel
theorem dX12_layLetter_28 : decode cX12_layLetter 28 = .ok (.putfield 233, 3) := by decide +kernel
theorem dX12_layLetter_31 : decode cX12_layLetter 31 = .ok (.aload_n 0, 1) := by decide +kernel
theorem dX12_layLetter_32 : decode cX12_layLetter 32 = .ok (.iconst 0, 1) := by decide +kernel
theorem dX12_layLetter_33 : decode cX12_layLetter 33 = .ok (.putfield 236, 3) := by decide +kernel
theorem dX12_layLetter_36 : decode cX12_layLetter 36 = .ok (.aload_n 0, 1) := by decide +kernel
theorem dX12_layLetter_37 : decode cX12_layLetter 37 = .ok (.aload_n 0, 1) := by decide +kernel
theorem dX12_layLetter_38 : decode cX12_layLetter 38 = .ok (.getfield 81, 3) := by decide +kernel
theorem dX12_layLetter_41 : decode cX12_layLetter 41 = .ok (.bipush 12, 2) := by decide +kernel
theorem dX12_layLetter_43 : decode cX12_layLetter 43 = .ok (.iload_n 1, 1) := by decide +kernel
theorem dX12_layLetter_44 : decode cX12_layLetter 44 = .ok (.imul, 1) := by decide +kernel
theorem dX12_layLetter_45 : decode cX12_layLetter 45 = .ok (.iload_n 2, 1) := by decide +kernel
theorem dX12_layLetter_46 : decode cX12_layLetter 46 = .ok (.iadd, 1) := by decide +kernel
theorem dX12_layLetter_47 : decode cX12_layLetter 47 = .ok (.iaload, 1) := by decide +kernel
theorem dX12_layLetter_48 : decode cX12_layLetter 48 = .ok (.putfield 239, 3) := by decide +kernel
theorem dX12_layLetter_51 : decode cX12_layLetter 51 = .ok (.aload_n 0, 1) := by decide +kernel
theorem dX12_layLetter_52 : decode cX12_layLetter 52 = .ok (.aload_n 0, 1) := by decide +kernel
theorem dX12_layLetter_53 : decode cX12_layLetter 53 = .ok (.getfield 84, 3) := by decide +kernel
theorem dX12_layLetter_56 : decode cX12_layLetter 56 = .ok (.bipush 12, 2) := by decide +kernel
theorem dX12_layLetter_58 : decode cX12_layLetter 58 = .ok (.iload_n 1, 1) := by decide +kernel
theorem dX12_layLetter_59 : decode cX12_layLetter 59 = .ok (.imul, 1) := by decide +kernel
theorem dX12_layLetter_60 : decode cX12_layLetter 60 = .ok (.iload_n 2, 1) := by decide +kernel
theorem dX12_layLetter_61 : decode cX12_layLetter 61 = .ok (.iadd, 1) := by decide +kernel
theorem dX12_layLetter_62 : decode cX12_layLetter 62 = .ok (.iaload, 1) := by decide +kernel
theorem dX12_layLetter_63 : decode cX12_layLetter 63 = .ok (.putfield 273, 3) := by decide +kernel
theorem dX12_layLetter_66 : decode cX12_layLetter 66 = .ok (.iconst 0, 1) := by decide +kernel
theorem dX12_layLetter_67 : decode cX12_layLetter 67 = .ok (.istore_n 3, 1) := by decide +kernel
theorem dX12_layLetter_68 : decode cX12_layLetter 68 = .ok (.iload_n 3, 1) := by decide +kernel
theorem dX12_layLetter_69 : decode cX12_layLetter 69 = .ok (.aload_n 0, 1) := by decide +kernel
theorem dX12_layLetter_70 : decode cX12_layLetter 70 = .ok (.getfield 239, 3) := by decide +kernel
theorem dX12_layLetter_73 : decode cX12_layLetter 73 = .ok (.if_icmp .ge 32, 3) := by decide +kernel
theorem dX12_layLetter_76 : decode cX12_layLetter 76 = .ok (.aload_n 0, 1) := by decide +kernel
theorem dX12_layLetter_77 : decode cX12_layLetter 77 = .ok (.getfield 90, 3) := by decide +kernel
theorem dX12_layLetter_80 : decode cX12_layLetter 80 = .ok (.iload_n 3, 1) := by decide +kernel
theorem dX12_layLetter_81 : decode cX12_layLetter 81 = .ok (.aload_n 0, 1) := by decide +kernel
theorem dX12_layLetter_82 : decode cX12_layLetter 82 = .ok (.getfield 87, 3) := by decide +kernel
theorem dX12_layLetter_85 : decode cX12_layLetter 85 = .ok (.sipush 160, 3) := by decide +kernel
theorem dX12_layLetter_88 : decode cX12_layLetter 88 = .ok (.bipush 12, 2) := by decide +kernel
theorem dX12_layLetter_90 : decode cX12_layLetter 90 = .ok (.iload_n 1, 1) := by decide +kernel
theorem dX12_layLetter_91 : decode cX12_layLetter 91 = .ok (.imul, 1) := by decide +kernel
theorem dX12_layLetter_92 : decode cX12_layLetter 92 = .ok (.iload_n 2, 1) := by decide +kernel
theorem dX12_layLetter_93 : decode cX12_layLetter 93 = .ok (.iadd, 1) := by decide +kernel
theorem dX12_layLetter_94 : decode cX12_layLetter 94 = .ok (.imul, 1) := by decide +kernel
theorem dX12_layLetter_95 : decode cX12_layLetter 95 = .ok (.iload_n 3, 1) := by decide +kernel
theorem dX12_layLetter_96 : decode cX12_layLetter 96 = .ok (.iadd, 1) := by decide +kernel
theorem dX12_layLetter_97 : decode cX12_layLetter 97 = .ok (.iaload, 1) := by decide +kernel
theorem dX12_layLetter_98 : decode cX12_layLetter 98 = .ok (.iastore, 1) := by decide +kernel
theorem dX12_layLetter_99 : decode cX12_layLetter 99 = .ok (.iinc 3 1, 3) := by decide +kernel
theorem dX12_layLetter_102 : decode cX12_layLetter 102 = .ok (.goto (-34), 3) := by decide +kernel
theorem dX12_layLetter_105 : decode cX12_layLetter 105 = .ok (.return_, 1) := by decide +kernel
theorem dX12_letter_0 : decode cX12_letter 0 = .ok (.aload_n 0, 1) := by decide +kernel
theorem dX12_letter_1 : decode cX12_letter 1 = .ok (.aload_n 0, 1) := by decide +kernel
theorem dX12_letter_2 : decode cX12_letter 2 = .ok (.iload_n 1, 1) := by decide +kernel
theorem dX12_letter_3 : decode cX12_letter 3 = .ok (.iload_n 2, 1) := by decide +kernel
theorem dX12_letter_4 : decode cX12_letter 4 = .ok (.invokevirtual 301, 3) := by decide +kernel
theorem dX12_letter_7 : decode cX12_letter 7 = .ok (.ifCond .ne 7, 3) := by decide +kernel
theorem dX12_letter_10 : decode cX12_letter 10 = .ok (.iconst 1, 1) := by decide +kernel
theorem dX12_letter_11 : decode cX12_letter 11 = .ok (.goto 17, 3) := by decide +kernel
theorem dX12_letter_14 : decode cX12_letter 14 = .ok (.iload_n 3, 1) := by decide +kernel
theorem dX12_letter_15 : decode cX12_letter 15 = .ok (.ifCond .lt 8, 3) := by decide +kernel
theorem dX12_letter_18 : decode cX12_letter 18 = .ok (.iload_n 3, 1) := by decide +kernel
theorem dX12_letter_19 : decode cX12_letter 19 = .ok (.iconst 4, 1) := by decide +kernel
theorem dX12_letter_20 : decode cX12_letter 20 = .ok (.if_icmp .le 7, 3) := by decide +kernel
theorem dX12_letter_23 : decode cX12_letter 23 = .ok (.iconst 2, 1) := by decide +kernel
theorem dX12_letter_24 : decode cX12_letter 24 = .ok (.goto 4, 3) := by decide +kernel
theorem dX12_letter_27 : decode cX12_letter 27 = .ok (.iconst 0, 1) := by decide +kernel
theorem dX12_letter_28 : decode cX12_letter 28 = .ok (.invokevirtual 128, 3) := by decide +kernel
theorem dX12_letter_31 : decode cX12_letter 31 = .ok (.ifCond .eq 5, 3) := by decide +kernel
theorem dX12_letter_34 : decode cX12_letter 34 = .ok (.iconst 0, 1) := by decide +kernel
theorem dX12_letter_35 : decode cX12_letter 35 = .ok (.ireturn, 1) := by decide +kernel
theorem dX12_letter_36 : decode cX12_letter 36 = .ok (.aload_n 0, 1) := by decide +kernel
theorem dX12_letter_37 : decode cX12_letter 37 = .ok (.iload_n 1, 1) := by decide +kernel
theorem dX12_letter_38 : decode cX12_letter 38 = .ok (.iload_n 2, 1) := by decide +kernel
theorem dX12_letter_39 : decode cX12_letter 39 = .ok (.invokevirtual 304, 3) := by decide +kernel
theorem dX12_letter_42 : decode cX12_letter 42 = .ok (.istore 4, 2) := by decide +kernel
theorem dX12_letter_44 : decode cX12_letter 44 = .ok (.iload_n 3, 1) := by decide +kernel
theorem dX12_letter_45 : decode cX12_letter 45 = .ok (.ifCond .ne 6, 3) := by decide +kernel
theorem dX12_letter_48 : decode cX12_letter 48 = .ok (.iload 4, 2) := by decide +kernel
theorem dX12_letter_50 : decode cX12_letter 50 = .ok (.ireturn, 1) := by decide +kernel
theorem dX12_letter_51 : decode cX12_letter 51 = .ok (.aload_n 0, 1) := by decide +kernel
theorem dX12_letter_52 : decode cX12_letter 52 = .ok (.iload_n 1, 1) := by decide +kernel
theorem dX12_letter_53 : decode cX12_letter 53 = .ok (.iload_n 2, 1) := by decide +kernel
theorem dX12_letter_54 : decode cX12_letter 54 = .ok (.invokevirtual 307, 3) := by decide +kernel
theorem dX12_letter_57 : decode cX12_letter 57 = .ok (.iload_n 3, 1) := by decide +kernel
theorem dX12_letter_58 : decode cX12_letter 58 = .ok (.iconst 1, 1) := by decide +kernel
theorem dX12_letter_59 : decode cX12_letter 59 = .ok (.if_icmp .ne 8, 3) := by decide +kernel
theorem dX12_letter_62 : decode cX12_letter 62 = .ok (.aload_n 0, 1) := by decide +kernel
theorem dX12_letter_63 : decode cX12_letter 63 = .ok (.getfield 233, 3) := by decide +kernel
theorem dX12_letter_66 : decode cX12_letter 66 = .ok (.ireturn, 1) := by decide +kernel
theorem dX12_letter_67 : decode cX12_letter 67 = .ok (.aload_n 0, 1) := by decide +kernel
theorem dX12_letter_68 : decode cX12_letter 68 = .ok (.getfield 233, 3) := by decide +kernel
theorem dX12_letter_71 : decode cX12_letter 71 = .ok (.ifCond .eq 5, 3) := by decide +kernel
theorem dX12_letter_74 : decode cX12_letter 74 = .ok (.iconst (-1), 1) := by decide +kernel
theorem dX12_letter_75 : decode cX12_letter 75 = .ok (.ireturn, 1) := by decide +kernel
theorem dX12_letter_76 : decode cX12_letter 76 = .ok (.iload_n 3, 1) := by decide +kernel
theorem dX12_letter_77 : decode cX12_letter 77 = .ok (.iconst 2, 1) := by decide +kernel
theorem dX12_letter_78 : decode cX12_letter 78 = .ok (.if_icmp .ne 10, 3) := by decide +kernel
theorem dX12_letter_81 : decode cX12_letter 81 = .ok (.aload_n 0, 1) := by decide +kernel
theorem dX12_letter_82 : decode cX12_letter 82 = .ok (.getfield 239, 3) := by decide +kernel
theorem dX12_letter_85 : decode cX12_letter 85 = .ok (.goto 24, 3) := by decide +kernel
theorem dX12_letter_88 : decode cX12_letter 88 = .ok (.iload_n 3, 1) := by decide +kernel
theorem dX12_letter_89 : decode cX12_letter 89 = .ok (.iconst 3, 1) := by decide +kernel
theorem dX12_letter_90 : decode cX12_letter 90 = .ok (.if_icmp .ne 15, 3) := by decide +kernel
theorem dX12_letter_93 : decode cX12_letter 93 = .ok (.aload_n 0, 1) := by decide +kernel
theorem dX12_letter_94 : decode cX12_letter 94 = .ok (.getfield 239, 3) := by decide +kernel
theorem dX12_letter_97 : decode cX12_letter 97 = .ok (.iload 4, 2) := by decide +kernel
theorem dX12_letter_99 : decode cX12_letter 99 = .ok (.invokestatic 279, 3) := by decide +kernel
theorem dX12_letter_102 : decode cX12_letter 102 = .ok (.goto 7, 3) := by decide +kernel
theorem dX12_letter_105 : decode cX12_letter 105 = .ok (.aload_n 0, 1) := by decide +kernel
theorem dX12_letter_106 : decode cX12_letter 106 = .ok (.getfield 273, 3) := by decide +kernel
theorem dX12_letter_109 : decode cX12_letter 109 = .ok (.ireturn, 1) := by decide +kernel
theorem dX12_sign_0 : decode cX12_sign 0 = .ok (.aload_n 0, 1) := by decide +kernel
theorem dX12_sign_1 : decode cX12_sign 1 = .ok (.aload_n 0, 1) := by decide +kernel
theorem dX12_sign_2 : decode cX12_sign 2 = .ok (.iload_n 1, 1) := by decide +kernel
theorem dX12_sign_3 : decode cX12_sign 3 = .ok (.iload_n 2, 1) := by decide +kernel
theorem dX12_sign_4 : decode cX12_sign 4 = .ok (.invokevirtual 301, 3) := by decide +kernel
theorem dX12_sign_7 : decode cX12_sign 7 = .ok (.ifCond .eq 11, 3) := by decide +kernel
theorem dX12_sign_10 : decode cX12_sign 10 = .ok (.iload_n 3, 1) := by decide +kernel
theorem dX12_sign_11 : decode cX12_sign 11 = .ok (.ifCond .lt 7, 3) := by decide +kernel
theorem dX12_sign_14 : decode cX12_sign 14 = .ok (.iconst 0, 1) := by decide +kernel
theorem dX12_sign_15 : decode cX12_sign 15 = .ok (.goto 4, 3) := by decide +kernel
theorem dX12_sign_18 : decode cX12_sign 18 = .ok (.iconst 1, 1) := by decide +kernel
theorem dX12_sign_19 : decode cX12_sign 19 = .ok (.invokevirtual 128, 3) := by decide +kernel
theorem dX12_sign_22 : decode cX12_sign 22 = .ok (.ifCond .eq 5, 3) := by decide +kernel
theorem dX12_sign_25 : decode cX12_sign 25 = .ok (.iconst 0, 1) := by decide +kernel
theorem dX12_sign_26 : decode cX12_sign 26 = .ok (.ireturn, 1) := by decide +kernel
theorem dX12_sign_27 : decode cX12_sign 27 = .ok (.aload_n 0, 1) := by decide +kernel
theorem dX12_sign_28 : decode cX12_sign 28 = .ok (.iload_n 1, 1) := by decide +kernel
theorem dX12_sign_29 : decode cX12_sign 29 = .ok (.iload_n 2, 1) := by decide +kernel
theorem dX12_sign_30 : decode cX12_sign 30 = .ok (.invokevirtual 307, 3) := by decide +kernel
theorem dX12_sign_33 : decode cX12_sign 33 = .ok (.aload_n 0, 1) := by decide +kernel
theorem dX12_sign_34 : decode cX12_sign 34 = .ok (.getfield 233, 3) := by decide +kernel
theorem dX12_sign_37 : decode cX12_sign 37 = .ok (.ifCond .ne 20, 3) := by decide +kernel
theorem dX12_sign_40 : decode cX12_sign 40 = .ok (.iload_n 3, 1) := by decide +kernel
theorem dX12_sign_41 : decode cX12_sign 41 = .ok (.aload_n 0, 1) := by decide +kernel
theorem dX12_sign_42 : decode cX12_sign 42 = .ok (.getfield 239, 3) := by decide +kernel
theorem dX12_sign_45 : decode cX12_sign 45 = .ok (.if_icmp .ge 12, 3) := by decide +kernel
theorem dX12_sign_48 : decode cX12_sign 48 = .ok (.aload_n 0, 1) := by decide +kernel
theorem dX12_sign_49 : decode cX12_sign 49 = .ok (.getfield 90, 3) := by decide +kernel
theorem dX12_sign_52 : decode cX12_sign 52 = .ok (.iload_n 3, 1) := by decide +kernel
theorem dX12_sign_53 : decode cX12_sign 53 = .ok (.iaload, 1) := by decide +kernel
theorem dX12_sign_54 : decode cX12_sign 54 = .ok (.goto 4, 3) := by decide +kernel
theorem dX12_sign_57 : decode cX12_sign 57 = .ok (.iconst 0, 1) := by decide +kernel
theorem dX12_sign_58 : decode cX12_sign 58 = .ok (.istore 4, 2) := by decide +kernel
theorem dX12_sign_60 : decode cX12_sign 60 = .ok (.iload 4, 2) := by decide +kernel
theorem dX12_sign_62 : decode cX12_sign 62 = .ok (.i2c, 1) := by decide +kernel
theorem dX12_sign_63 : decode cX12_sign 63 = .ok (.ireturn, 1) := by decide +kernel
theorem dX12_anew_0 : decode cX12_anew 0 = .ok (.aload_n 0, 1) := by decide +kernel
theorem dX12_anew_1 : decode cX12_anew 1 = .ok (.aload_n 0, 1) := by decide +kernel
theorem dX12_anew_2 : decode cX12_anew 2 = .ok (.iload_n 1, 1) := by decide +kernel
theorem dX12_anew_3 : decode cX12_anew 3 = .ok (.iload_n 2, 1) := by decide +kernel
theorem dX12_anew_4 : decode cX12_anew 4 = .ok (.invokevirtual 301, 3) := by decide +kernel
theorem dX12_anew_7 : decode cX12_anew 7 = .ok (.ifCond .eq 7, 3) := by decide +kernel
theorem dX12_anew_10 : decode cX12_anew 10 = .ok (.iconst 0, 1) := by decide +kernel
theorem dX12_anew_11 : decode cX12_anew 11 = .ok (.goto 4, 3) := by decide +kernel
theorem dX12_anew_14 : decode cX12_anew 14 = .ok (.iconst 1, 1) := by decide +kernel
theorem dX12_anew_15 : decode cX12_anew 15 = .ok (.invokevirtual 128, 3) := by decide +kernel
theorem dX12_anew_18 : decode cX12_anew 18 = .ok (.ifCond .eq 5, 3) := by decide +kernel
theorem dX12_anew_21 : decode cX12_anew 21 = .ok (.iconst 0, 1) := by decide +kernel
theorem dX12_anew_22 : decode cX12_anew 22 = .ok (.ireturn, 1) := by decide +kernel
theorem dX12_anew_23 : decode cX12_anew 23 = .ok (.aload_n 0, 1) := by decide +kernel
theorem dX12_anew_24 : decode cX12_anew 24 = .ok (.iload_n 1, 1) := by decide +kernel
theorem dX12_anew_25 : decode cX12_anew 25 = .ok (.iload_n 2, 1) := by decide +kernel
theorem dX12_anew_26 : decode cX12_anew 26 = .ok (.invokevirtual 307, 3) := by decide +kernel
theorem dX12_anew_29 : decode cX12_anew 29 = .ok (.aload_n 0, 1) := by decide +kernel
theorem dX12_anew_30 : decode cX12_anew 30 = .ok (.getfield 233, 3) := by decide +kernel
theorem dX12_anew_33 : decode cX12_anew 33 = .ok (.ifCond .eq 5, 3) := by decide +kernel
theorem dX12_anew_36 : decode cX12_anew 36 = .ok (.iconst 0, 1) := by decide +kernel
theorem dX12_anew_37 : decode cX12_anew 37 = .ok (.ireturn, 1) := by decide +kernel
theorem dX12_anew_38 : decode cX12_anew 38 = .ok (.aload_n 0, 1) := by decide +kernel
theorem dX12_anew_39 : decode cX12_anew 39 = .ok (.iload_n 1, 1) := by decide +kernel
theorem dX12_anew_40 : decode cX12_anew 40 = .ok (.iload_n 2, 1) := by decide +kernel
theorem dX12_anew_41 : decode cX12_anew 41 = .ok (.invokevirtual 304, 3) := by decide +kernel
theorem dX12_anew_44 : decode cX12_anew 44 = .ok (.istore_n 3, 1) := by decide +kernel
theorem dX12_anew_45 : decode cX12_anew 45 = .ok (.aload_n 0, 1) := by decide +kernel
theorem dX12_anew_46 : decode cX12_anew 46 = .ok (.getfield 239, 3) := by decide +kernel
theorem dX12_anew_49 : decode cX12_anew 49 = .ok (.istore 4, 2) := by decide +kernel
theorem dX12_anew_51 : decode cX12_anew 51 = .ok (.iconst 0, 1) := by decide +kernel
theorem dX12_anew_52 : decode cX12_anew 52 = .ok (.istore 5, 2) := by decide +kernel
theorem dX12_anew_54 : decode cX12_anew 54 = .ok (.iload 5, 2) := by decide +kernel
theorem dX12_anew_56 : decode cX12_anew 56 = .ok (.iload 4, 2) := by decide +kernel
theorem dX12_anew_58 : decode cX12_anew 58 = .ok (.if_icmp .ge 23, 3) := by decide +kernel
theorem dX12_anew_61 : decode cX12_anew 61 = .ok (.aload_n 0, 1) := by decide +kernel
theorem dX12_anew_62 : decode cX12_anew 62 = .ok (.getfield 117, 3) := by decide +kernel
theorem dX12_anew_65 : decode cX12_anew 65 = .ok (.iload 5, 2) := by decide +kernel
theorem dX12_anew_67 : decode cX12_anew 67 = .ok (.aload_n 0, 1) := by decide +kernel
theorem dX12_anew_68 : decode cX12_anew 68 = .ok (.getfield 90, 3) := by decide +kernel
theorem dX12_anew_71 : decode cX12_anew 71 = .ok (.iload 5, 2) := by decide +kernel
theorem dX12_anew_73 : decode cX12_anew 73 = .ok (.iaload, 1) := by decide +kernel
theorem dX12_anew_74 : decode cX12_anew 74 = .ok (.iastore, 1) := by decide +kernel
theorem dX12_anew_75 : decode cX12_anew 75 = .ok (.iinc 5 1, 3) := by decide +kernel
theorem dX12_anew_78 : decode cX12_anew 78 = .ok (.goto (-24), 3) := by decide +kernel
theorem dX12_anew_81 : decode cX12_anew 81 = .ok (.aload_n 0, 1) := by decide +kernel
theorem dX12_anew_82 : decode cX12_anew 82 = .ok (.aload_n 0, 1) := by decide +kernel
theorem dX12_anew_83 : decode cX12_anew 83 = .ok (.getfield 66, 3) := by decide +kernel
theorem dX12_anew_86 : decode cX12_anew 86 = .ok (.iload_n 1, 1) := by decide +kernel
theorem dX12_anew_87 : decode cX12_anew 87 = .ok (.iaload, 1) := by decide +kernel
theorem dX12_anew_88 : decode cX12_anew 88 = .ok (.iload_n 3, 1) := by decide +kernel
theorem dX12_anew_89 : decode cX12_anew 89 = .ok (.invokevirtual 298, 3) := by decide +kernel
theorem dX12_anew_92 : decode cX12_anew 92 = .ok (.aload_n 0, 1) := by decide +kernel
theorem dX12_anew_93 : decode cX12_anew 93 = .ok (.getfield 233, 3) := by decide +kernel
theorem dX12_anew_96 : decode cX12_anew 96 = .ok (.ifCond .eq 5, 3) := by decide +kernel
theorem dX12_anew_99 : decode cX12_anew 99 = .ok (.iconst (-1), 1) := by decide +kernel
theorem dX12_anew_100 : decode cX12_anew 100 = .ok (.ireturn, 1) := by decide +kernel
theorem dX12_anew_101 : decode cX12_anew 101 = .ok (.iload 4, 2) := by decide +kernel
theorem dX12_anew_103 : decode cX12_anew 103 = .ok (.aload_n 0, 1) := by decide +kernel
theorem dX12_anew_104 : decode cX12_anew 104 = .ok (.getfield 239, 3) := by decide +kernel
theorem dX12_anew_107 : decode cX12_anew 107 = .ok (.if_icmp .ge 8, 3) := by decide +kernel
theorem dX12_anew_110 : decode cX12_anew 110 = .ok (.iload 4, 2) := by decide +kernel
theorem dX12_anew_112 : decode cX12_anew 112 = .ok (.goto 7, 3) := by decide +kernel
theorem dX12_anew_115 : decode cX12_anew 115 = .ok (.aload_n 0, 1) := by decide +kernel
theorem dX12_anew_116 : decode cX12_anew 116 = .ok (.getfield 239, 3) := by decide +kernel
theorem dX12_anew_119 : decode cX12_anew 119 = .ok (.istore 5, 2) := by decide +kernel
theorem dX12_anew_121 : decode cX12_anew 121 = .ok (.iload 4, 2) := by decide +kernel
theorem dX12_anew_123 : decode cX12_anew 123 = .ok (.aload_n 0, 1) := by decide +kernel
theorem dX12_anew_124 : decode cX12_anew 124 = .ok (.getfield 239, 3) := by decide +kernel
theorem dX12_anew_127 : decode cX12_anew 127 = .ok (.iadd, 1) := by decide +kernel
theorem dX12_anew_128 : decode cX12_anew 128 = .ok (.iconst 2, 1) := by decide +kernel
theorem dX12_anew_129 : decode cX12_anew 129 = .ok (.iload 5, 2) := by decide +kernel
theorem dX12_anew_131 : decode cX12_anew 131 = .ok (.imul, 1) := by decide +kernel
theorem dX12_anew_132 : decode cX12_anew 132 = .ok (.isub, 1) := by decide +kernel
theorem dX12_anew_133 : decode cX12_anew 133 = .ok (.istore 6, 2) := by decide +kernel
theorem dX12_anew_135 : decode cX12_anew 135 = .ok (.iconst 0, 1) := by decide +kernel
theorem dX12_anew_136 : decode cX12_anew 136 = .ok (.istore 7, 2) := by decide +kernel
theorem dX12_anew_138 : decode cX12_anew 138 = .ok (.iload 7, 2) := by decide +kernel
theorem dX12_anew_140 : decode cX12_anew 140 = .ok (.iload 5, 2) := by decide +kernel
theorem dX12_anew_142 : decode cX12_anew 142 = .ok (.if_icmp .ge 36, 3) := by decide +kernel
theorem dX12_anew_145 : decode cX12_anew 145 = .ok (.iload 6, 2) := by decide +kernel
theorem dX12_anew_147 : decode cX12_anew 147 = .ok (.aload_n 0, 1) := by decide +kernel
theorem dX12_anew_148 : decode cX12_anew 148 = .ok (.getfield 117, 3) := by decide +kernel
theorem dX12_anew_151 : decode cX12_anew 151 = .ok (.iload 7, 2) := by decide +kernel
theorem dX12_anew_153 : decode cX12_anew 153 = .ok (.iaload, 1) := by decide +kernel
theorem dX12_anew_154 : decode cX12_anew 154 = .ok (.aload_n 0, 1) := by decide +kernel
theorem dX12_anew_155 : decode cX12_anew 155 = .ok (.getfield 90, 3) := by decide +kernel
theorem dX12_anew_158 : decode cX12_anew 158 = .ok (.iload 7, 2) := by decide +kernel
theorem dX12_anew_160 : decode cX12_anew 160 = .ok (.iaload, 1) := by decide +kernel
theorem dX12_anew_161 : decode cX12_anew 161 = .ok (.if_icmp .ne 7, 3) := by decide +kernel
theorem dX12_anew_164 : decode cX12_anew 164 = .ok (.iconst 0, 1) := by decide +kernel
theorem dX12_anew_165 : decode cX12_anew 165 = .ok (.goto 4, 3) := by decide +kernel
theorem dX12_anew_168 : decode cX12_anew 168 = .ok (.iconst 1, 1) := by decide +kernel
theorem dX12_anew_169 : decode cX12_anew 169 = .ok (.iadd, 1) := by decide +kernel
theorem dX12_anew_170 : decode cX12_anew 170 = .ok (.istore 6, 2) := by decide +kernel
theorem dX12_anew_172 : decode cX12_anew 172 = .ok (.iinc 7 1, 3) := by decide +kernel
theorem dX12_anew_175 : decode cX12_anew 175 = .ok (.goto (-37), 3) := by decide +kernel
theorem dX12_anew_178 : decode cX12_anew 178 = .ok (.iload 6, 2) := by decide +kernel
theorem dX12_anew_180 : decode cX12_anew 180 = .ok (.ireturn, 1) := by decide +kernel
theorem dX12_trouble_0 : decode cX12_trouble 0 = .ok (.aload_n 0, 1) := by decide +kernel
theorem dX12_trouble_1 : decode cX12_trouble 1 = .ok (.aload_n 0, 1) := by decide +kernel
theorem dX12_trouble_2 : decode cX12_trouble 2 = .ok (.iload_n 1, 1) := by decide +kernel
theorem dX12_trouble_3 : decode cX12_trouble 3 = .ok (.iload_n 2, 1) := by decide +kernel
theorem dX12_trouble_4 : decode cX12_trouble 4 = .ok (.invokevirtual 301, 3) := by decide +kernel
theorem dX12_trouble_7 : decode cX12_trouble 7 = .ok (.ifCond .eq 11, 3) := by decide +kernel
theorem dX12_trouble_10 : decode cX12_trouble 10 = .ok (.iload_n 3, 1) := by decide +kernel
theorem dX12_trouble_11 : decode cX12_trouble 11 = .ok (.ifCond .lt 7, 3) := by decide +kernel
theorem dX12_trouble_14 : decode cX12_trouble 14 = .ok (.iconst 0, 1) := by decide +kernel
theorem dX12_trouble_15 : decode cX12_trouble 15 = .ok (.goto 4, 3) := by decide +kernel
theorem dX12_trouble_18 : decode cX12_trouble 18 = .ok (.iconst 1, 1) := by decide +kernel
theorem dX12_trouble_19 : decode cX12_trouble 19 = .ok (.invokevirtual 128, 3) := by decide +kernel
theorem dX12_trouble_22 : decode cX12_trouble 22 = .ok (.ifCond .eq 5, 3) := by decide +kernel
theorem dX12_trouble_25 : decode cX12_trouble 25 = .ok (.iconst 0, 1) := by decide +kernel
theorem dX12_trouble_26 : decode cX12_trouble 26 = .ok (.ireturn, 1) := by decide +kernel
theorem dX12_trouble_27 : decode cX12_trouble 27 = .ok (.aload_n 0, 1) := by decide +kernel
theorem dX12_trouble_28 : decode cX12_trouble 28 = .ok (.iload_n 1, 1) := by decide +kernel
theorem dX12_trouble_29 : decode cX12_trouble 29 = .ok (.iload_n 2, 1) := by decide +kernel
theorem dX12_trouble_30 : decode cX12_trouble 30 = .ok (.invokevirtual 307, 3) := by decide +kernel
theorem dX12_trouble_33 : decode cX12_trouble 33 = .ok (.aload_n 0, 1) := by decide +kernel
theorem dX12_trouble_34 : decode cX12_trouble 34 = .ok (.getfield 233, 3) := by decide +kernel
theorem dX12_trouble_37 : decode cX12_trouble 37 = .ok (.ifCond .eq 11, 3) := by decide +kernel
theorem dX12_trouble_40 : decode cX12_trouble 40 = .ok (.iload_n 3, 1) := by decide +kernel
theorem dX12_trouble_41 : decode cX12_trouble 41 = .ok (.aload_n 0, 1) := by decide +kernel
theorem dX12_trouble_42 : decode cX12_trouble 42 = .ok (.getfield 236, 3) := by decide +kernel
theorem dX12_trouble_45 : decode cX12_trouble 45 = .ok (.if_icmp .lt 5, 3) := by decide +kernel
theorem dX12_trouble_48 : decode cX12_trouble 48 = .ok (.iconst (-1), 1) := by decide +kernel
theorem dX12_trouble_49 : decode cX12_trouble 49 = .ok (.ireturn, 1) := by decide +kernel
theorem dX12_trouble_50 : decode cX12_trouble 50 = .ok (.iload 4, 2) := by decide +kernel
theorem dX12_trouble_52 : decode cX12_trouble 52 = .ok (.ifCond .eq 12, 3) := by decide +kernel
theorem dX12_trouble_55 : decode cX12_trouble 55 = .ok (.aload_n 0, 1) := by decide +kernel
theorem dX12_trouble_56 : decode cX12_trouble 56 = .ok (.getfield 96, 3) := by decide +kernel
theorem dX12_trouble_59 : decode cX12_trouble 59 = .ok (.iload_n 3, 1) := by decide +kernel
theorem dX12_trouble_60 : decode cX12_trouble 60 = .ok (.iaload, 1) := by decide +kernel
theorem dX12_trouble_61 : decode cX12_trouble 61 = .ok (.goto 9, 3) := by decide +kernel
theorem dX12_trouble_64 : decode cX12_trouble 64 = .ok (.aload_n 0, 1) := by decide +kernel
theorem dX12_trouble_65 : decode cX12_trouble 65 = .ok (.getfield 93, 3) := by decide +kernel
theorem dX12_trouble_68 : decode cX12_trouble 68 = .ok (.iload_n 3, 1) := by decide +kernel
theorem dX12_trouble_69 : decode cX12_trouble 69 = .ok (.iaload, 1) := by decide +kernel
theorem dX12_trouble_70 : decode cX12_trouble 70 = .ok (.ireturn, 1) := by decide +kernel
theorem dX12_post_0 : decode cX12_post 0 = .ok (.aload_n 0, 1) := by decide +kernel
theorem dX12_post_1 : decode cX12_post 1 = .ok (.aload_n 0, 1) := by decide +kernel
theorem dX12_post_2 : decode cX12_post 2 = .ok (.iload_n 1, 1) := by decide +kernel
theorem dX12_post_3 : decode cX12_post 3 = .ok (.invokevirtual 292, 3) := by decide +kernel
theorem dX12_post_6 : decode cX12_post 6 = .ok (.ifCond .ne 7, 3) := by decide +kernel
theorem dX12_post_9 : decode cX12_post 9 = .ok (.iconst 1, 1) := by decide +kernel
theorem dX12_post_10 : decode cX12_post 10 = .ok (.goto 17, 3) := by decide +kernel
theorem dX12_post_13 : decode cX12_post 13 = .ok (.aload_n 0, 1) := by decide +kernel
theorem dX12_post_14 : decode cX12_post 14 = .ok (.getfield 72, 3) := by decide +kernel
theorem dX12_post_17 : decode cX12_post 17 = .ok (.iload_n 1, 1) := by decide +kernel
theorem dX12_post_18 : decode cX12_post 18 = .ok (.baload, 1) := by decide +kernel
theorem dX12_post_19 : decode cX12_post 19 = .ok (.ifCond .eq 7, 3) := by decide +kernel
theorem dX12_post_22 : decode cX12_post 22 = .ok (.iconst 2, 1) := by decide +kernel
theorem dX12_post_23 : decode cX12_post 23 = .ok (.goto 4, 3) := by decide +kernel
theorem dX12_post_26 : decode cX12_post 26 = .ok (.iconst 0, 1) := by decide +kernel
theorem dX12_post_27 : decode cX12_post 27 = .ok (.invokevirtual 128, 3) := by decide +kernel
theorem dX12_post_30 : decode cX12_post 30 = .ok (.ifCond .eq 5, 3) := by decide +kernel
theorem dX12_post_33 : decode cX12_post 33 = .ok (.iconst 0, 1) := by decide +kernel
theorem dX12_post_34 : decode cX12_post 34 = .ok (.ireturn, 1) := by decide +kernel
theorem dX12_post_35 : decode cX12_post 35 = .ok (.aload_n 0, 1) := by decide +kernel
theorem dX12_post_36 : decode cX12_post 36 = .ok (.iload_n 1, 1) := by decide +kernel
theorem dX12_post_37 : decode cX12_post 37 = .ok (.invokevirtual 295, 3) := by decide +kernel
theorem dX12_post_40 : decode cX12_post 40 = .ok (.istore_n 2, 1) := by decide +kernel
theorem dX12_post_41 : decode cX12_post 41 = .ok (.iconst 0, 1) := by decide +kernel
theorem dX12_post_42 : decode cX12_post 42 = .ok (.istore_n 3, 1) := by decide +kernel
theorem dX12_post_43 : decode cX12_post 43 = .ok (.iload_n 3, 1) := by decide +kernel
theorem dX12_post_44 : decode cX12_post 44 = .ok (.iload_n 2, 1) := by decide +kernel
theorem dX12_post_45 : decode cX12_post 45 = .ok (.if_icmp .ge 43, 3) := by decide +kernel
theorem dX12_post_48 : decode cX12_post 48 = .ok (.aload_n 0, 1) := by decide +kernel
theorem dX12_post_49 : decode cX12_post 49 = .ok (.iload_n 1, 1) := by decide +kernel
theorem dX12_post_50 : decode cX12_post 50 = .ok (.iload_n 3, 1) := by decide +kernel
theorem dX12_post_51 : decode cX12_post 51 = .ok (.invokevirtual 289, 3) := by decide +kernel
theorem dX12_post_54 : decode cX12_post 54 = .ok (.istore 4, 2) := by decide +kernel
theorem dX12_post_56 : decode cX12_post 56 = .ok (.aload_n 0, 1) := by decide +kernel
theorem dX12_post_57 : decode cX12_post 57 = .ok (.aload_n 0, 1) := by decide +kernel
theorem dX12_post_58 : decode cX12_post 58 = .ok (.getfield 66, 3) := by decide +kernel
theorem dX12_post_61 : decode cX12_post 61 = .ok (.iload_n 1, 1) := by decide +kernel
theorem dX12_post_62 : decode cX12_post 62 = .ok (.iaload, 1) := by decide +kernel
theorem dX12_post_63 : decode cX12_post 63 = .ok (.iload 4, 2) := by decide +kernel
theorem dX12_post_65 : decode cX12_post 65 = .ok (.invokevirtual 298, 3) := by decide +kernel
theorem dX12_post_68 : decode cX12_post 68 = .ok (.aload_n 0, 1) := by decide +kernel
theorem dX12_post_69 : decode cX12_post 69 = .ok (.getfield 233, 3) := by decide +kernel
theorem dX12_post_72 : decode cX12_post 72 = .ok (.ifCond .ne 10, 3) := by decide +kernel
theorem dX12_post_75 : decode cX12_post 75 = .ok (.aload_n 0, 1) := by decide +kernel
theorem dX12_post_76 : decode cX12_post 76 = .ok (.iload_n 1, 1) := by decide +kernel
theorem dX12_post_77 : decode cX12_post 77 = .ok (.iload 4, 2) := by decide +kernel
theorem dX12_post_79 : decode cX12_post 79 = .ok (.invokevirtual 310, 3) := by decide +kernel
theorem dX12_post_82 : decode cX12_post 82 = .ok (.iinc 3 1, 3) := by decide +kernel
theorem dX12_post_85 : decode cX12_post 85 = .ok (.goto (-42), 3) := by decide +kernel
theorem dX12_post_88 : decode cX12_post 88 = .ok (.aload_n 0, 1) := by decide +kernel
theorem dX12_post_89 : decode cX12_post 89 = .ok (.getfield 72, 3) := by decide +kernel
theorem dX12_post_92 : decode cX12_post 92 = .ok (.iload_n 1, 1) := by decide +kernel
theorem dX12_post_93 : decode cX12_post 93 = .ok (.iconst 1, 1) := by decide +kernel
theorem dX12_post_94 : decode cX12_post 94 = .ok (.bastore, 1) := by decide +kernel
theorem dX12_post_95 : decode cX12_post 95 = .ok (.iconst 0, 1) := by decide +kernel
theorem dX12_post_96 : decode cX12_post 96 = .ok (.istore_n 3, 1) := by decide +kernel
theorem dX12_post_97 : decode cX12_post 97 = .ok (.iload_n 3, 1) := by decide +kernel
theorem dX12_post_98 : decode cX12_post 98 = .ok (.aload_n 0, 1) := by decide +kernel
theorem dX12_post_99 : decode cX12_post 99 = .ok (.getfield 75, 3) := by decide +kernel
theorem dX12_post_102 : decode cX12_post 102 = .ok (.iload_n 1, 1) := by decide +kernel
theorem dX12_post_103 : decode cX12_post 103 = .ok (.iaload, 1) := by decide +kernel
theorem dX12_post_104 : decode cX12_post 104 = .ok (.if_icmp .ge 65, 3) := by decide +kernel
theorem dX12_post_107 : decode cX12_post 107 = .ok (.iconst 0, 1) := by decide +kernel
theorem dX12_post_108 : decode cX12_post 108 = .ok (.istore 4, 2) := by decide +kernel
theorem dX12_post_110 : decode cX12_post 110 = .ok (.iload 4, 2) := by decide +kernel
theorem dX12_post_112 : decode cX12_post 112 = .ok (.aload_n 0, 1) := by decide +kernel
theorem dX12_post_113 : decode cX12_post 113 = .ok (.getfield 166, 3) := by decide +kernel
theorem dX12_post_116 : decode cX12_post 116 = .ok (.if_icmp .ge 47, 3) := by decide +kernel
theorem dX12_post_119 : decode cX12_post 119 = .ok (.aload_n 0, 1) := by decide +kernel
theorem dX12_post_120 : decode cX12_post 120 = .ok (.getfield 78, 3) := by decide +kernel
theorem dX12_post_123 : decode cX12_post 123 = .ok (.bipush 12, 2) := by decide +kernel
theorem dX12_post_125 : decode cX12_post 125 = .ok (.iload_n 1, 1) := by decide +kernel
theorem dX12_post_126 : decode cX12_post 126 = .ok (.imul, 1) := by decide +kernel
theorem dX12_post_127 : decode cX12_post 127 = .ok (.iload_n 3, 1) := by decide +kernel
theorem dX12_post_128 : decode cX12_post 128 = .ok (.iadd, 1) := by decide +kernel
theorem dX12_post_129 : decode cX12_post 129 = .ok (.iaload, 1) := by decide +kernel
theorem dX12_post_130 : decode cX12_post 130 = .ok (.iload 4, 2) := by decide +kernel
theorem dX12_post_132 : decode cX12_post 132 = .ok (.ishr, 1) := by decide +kernel
theorem dX12_post_133 : decode cX12_post 133 = .ok (.iconst 1, 1) := by decide +kernel
theorem dX12_post_134 : decode cX12_post 134 = .ok (.iand, 1) := by decide +kernel
theorem dX12_post_135 : decode cX12_post 135 = .ok (.iconst 1, 1) := by decide +kernel
theorem dX12_post_136 : decode cX12_post 136 = .ok (.if_icmp .ne 21, 3) := by decide +kernel
theorem dX12_post_139 : decode cX12_post 139 = .ok (.aload_n 0, 1) := by decide +kernel
theorem dX12_post_140 : decode cX12_post 140 = .ok (.getfield 56, 3) := by decide +kernel
theorem dX12_post_143 : decode cX12_post 143 = .ok (.iload 4, 2) := by decide +kernel
theorem dX12_post_145 : decode cX12_post 145 = .ok (.dup2, 1) := by decide +kernel
theorem dX12_post_146 : decode cX12_post 146 = .ok (.iaload, 1) := by decide +kernel
theorem dX12_post_147 : decode cX12_post 147 = .ok (.iconst 1, 1) := by decide +kernel
theorem dX12_post_148 : decode cX12_post 148 = .ok (.aload_n 0, 1) := by decide +kernel
theorem dX12_post_149 : decode cX12_post 149 = .ok (.getfield 69, 3) := by decide +kernel
theorem dX12_post_152 : decode cX12_post 152 = .ok (.iload_n 1, 1) := by decide +kernel
theorem dX12_post_153 : decode cX12_post 153 = .ok (.iaload, 1) := by decide +kernel
theorem dX12_post_154 : decode cX12_post 154 = .ok (.ishl, 1) := by decide +kernel
theorem dX12_post_155 : decode cX12_post 155 = .ok (.ior, 1) := by decide +kernel
theorem dX12_post_156 : decode cX12_post 156 = .ok (.iastore, 1) := by decide +kernel
theorem dX12_post_157 : decode cX12_post 157 = .ok (.iinc 4 1, 3) := by decide +kernel
theorem dX12_post_160 : decode cX12_post 160 = .ok (.goto (-50), 3) := by decide +kernel
theorem dX12_post_163 : decode cX12_post 163 = .ok (.iinc 3 1, 3) := by decide +kernel
theorem dX12_post_166 : decode cX12_post 166 = .ok (.goto (-69), 3) := by decide +kernel
theorem dX12_post_169 : decode cX12_post 169 = .ok (.aload_n 0, 1) := by decide +kernel
theorem dX12_post_170 : decode cX12_post 170 = .ok (.getfield 75, 3) := by decide +kernel
theorem dX12_post_173 : decode cX12_post 173 = .ok (.iload_n 1, 1) := by decide +kernel
theorem dX12_post_174 : decode cX12_post 174 = .ok (.iaload, 1) := by decide +kernel
theorem dX12_post_175 : decode cX12_post 175 = .ok (.ireturn, 1) := by decide +kernel
theorem dX12_keep_0 : decode cX12_keep 0 = .ok (.bipush 12, 2) := by decide +kernel
theorem dX12_keep_2 : decode cX12_keep 2 = .ok (.iload_n 1, 1) := by decide +kernel
theorem dX12_keep_3 : decode cX12_keep 3 = .ok (.imul, 1) := by decide +kernel
theorem dX12_keep_4 : decode cX12_keep 4 = .ok (.aload_n 0, 1) := by decide +kernel
theorem dX12_keep_5 : decode cX12_keep 5 = .ok (.getfield 75, 3) := by decide +kernel
theorem dX12_keep_8 : decode cX12_keep 8 = .ok (.iload_n 1, 1) := by decide +kernel
theorem dX12_keep_9 : decode cX12_keep 9 = .ok (.iaload, 1) := by decide +kernel
theorem dX12_keep_10 : decode cX12_keep 10 = .ok (.iadd, 1) := by decide +kernel
theorem dX12_keep_11 : decode cX12_keep 11 = .ok (.istore_n 3, 1) := by decide +kernel
theorem dX12_keep_12 : decode cX12_keep 12 = .ok (.aload_n 0, 1) := by decide +kernel
theorem dX12_keep_13 : decode cX12_keep 13 = .ok (.getfield 78, 3) := by decide +kernel
theorem dX12_keep_16 : decode cX12_keep 16 = .ok (.iload_n 3, 1) := by decide +kernel
theorem dX12_keep_17 : decode cX12_keep 17 = .ok (.iload_n 2, 1) := by decide +kernel
theorem dX12_keep_18 : decode cX12_keep 18 = .ok (.iastore, 1) := by decide +kernel
theorem dX12_keep_19 : decode cX12_keep 19 = .ok (.aload_n 0, 1) := by decide +kernel
theorem dX12_keep_20 : decode cX12_keep 20 = .ok (.getfield 81, 3) := by decide +kernel
theorem dX12_keep_23 : decode cX12_keep 23 = .ok (.iload_n 3, 1) := by decide +kernel
theorem dX12_keep_24 : decode cX12_keep 24 = .ok (.aload_n 0, 1) := by decide +kernel
theorem dX12_keep_25 : decode cX12_keep 25 = .ok (.getfield 239, 3) := by decide +kernel
theorem dX12_keep_28 : decode cX12_keep 28 = .ok (.iastore, 1) := by decide +kernel
theorem dX12_keep_29 : decode cX12_keep 29 = .ok (.aload_n 0, 1) := by decide +kernel
theorem dX12_keep_30 : decode cX12_keep 30 = .ok (.getfield 84, 3) := by decide +kernel
theorem dX12_keep_33 : decode cX12_keep 33 = .ok (.iload_n 3, 1) := by decide +kernel
theorem dX12_keep_34 : decode cX12_keep 34 = .ok (.aload_n 0, 1) := by decide +kernel
theorem dX12_keep_35 : decode cX12_keep 35 = .ok (.getfield 273, 3) := by decide +kernel
theorem dX12_keep_38 : decode cX12_keep 38 = .ok (.iastore, 1) := by decide +kernel
theorem dX12_keep_39 : decode cX12_keep 39 = .ok (.iconst 0, 1) := by decide +kernel
theorem dX12_keep_40 : decode cX12_keep 40 = .ok (.istore 4, 2) := by decide +kernel
theorem dX12_keep_42 : decode cX12_keep 42 = .ok (.iload 4, 2) := by decide +kernel
theorem dX12_keep_44 : decode cX12_keep 44 = .ok (.aload_n 0, 1) := by decide +kernel
theorem dX12_keep_45 : decode cX12_keep 45 = .ok (.getfield 239, 3) := by decide +kernel
theorem dX12_keep_48 : decode cX12_keep 48 = .ok (.if_icmp .ge 29, 3) := by decide +kernel
theorem dX12_keep_51 : decode cX12_keep 51 = .ok (.aload_n 0, 1) := by decide +kernel
theorem dX12_keep_52 : decode cX12_keep 52 = .ok (.getfield 87, 3) := by decide +kernel
theorem dX12_keep_55 : decode cX12_keep 55 = .ok (.sipush 160, 3) := by decide +kernel
theorem dX12_keep_58 : decode cX12_keep 58 = .ok (.iload_n 3, 1) := by decide +kernel
theorem dX12_keep_59 : decode cX12_keep 59 = .ok (.imul, 1) := by decide +kernel
theorem dX12_keep_60 : decode cX12_keep 60 = .ok (.iload 4, 2) := by decide +kernel
theorem dX12_keep_62 : decode cX12_keep 62 = .ok (.iadd, 1) := by decide +kernel
theorem dX12_keep_63 : decode cX12_keep 63 = .ok (.aload_n 0, 1) := by decide +kernel
theorem dX12_keep_64 : decode cX12_keep 64 = .ok (.getfield 90, 3) := by decide +kernel
theorem dX12_keep_67 : decode cX12_keep 67 = .ok (.iload 4, 2) := by decide +kernel
theorem dX12_keep_69 : decode cX12_keep 69 = .ok (.iaload, 1) := by decide +kernel
theorem dX12_keep_70 : decode cX12_keep 70 = .ok (.iastore, 1) := by decide +kernel
theorem dX12_keep_71 : decode cX12_keep 71 = .ok (.iinc 4 1, 3) := by decide +kernel
theorem dX12_keep_74 : decode cX12_keep 74 = .ok (.goto (-32), 3) := by decide +kernel
theorem dX12_keep_77 : decode cX12_keep 77 = .ok (.aload_n 0, 1) := by decide +kernel
theorem dX12_keep_78 : decode cX12_keep 78 = .ok (.getfield 75, 3) := by decide +kernel
theorem dX12_keep_81 : decode cX12_keep 81 = .ok (.iload_n 1, 1) := by decide +kernel
theorem dX12_keep_82 : decode cX12_keep 82 = .ok (.dup2, 1) := by decide +kernel
theorem dX12_keep_83 : decode cX12_keep 83 = .ok (.iaload, 1) := by decide +kernel
theorem dX12_keep_84 : decode cX12_keep 84 = .ok (.iconst 1, 1) := by decide +kernel
theorem dX12_keep_85 : decode cX12_keep 85 = .ok (.iadd, 1) := by decide +kernel
theorem dX12_keep_86 : decode cX12_keep 86 = .ok (.iastore, 1) := by decide +kernel
theorem dX12_keep_87 : decode cX12_keep 87 = .ok (.aload_n 0, 1) := by decide +kernel
theorem dX12_keep_88 : decode cX12_keep 88 = .ok (.aload_n 0, 1) := by decide +kernel
theorem dX12_keep_89 : decode cX12_keep 89 = .ok (.getfield 313, 3) := by decide +kernel
theorem dX12_keep_92 : decode cX12_keep 92 = .ok (.ldc_w 316, 3) := by decide +kernel
theorem dX12_keep_95 : decode cX12_keep 95 = .ok (.aload_n 0, 1) := by decide +kernel
theorem dX12_keep_96 : decode cX12_keep 96 = .ok (.getfield 273, 3) := by decide +kernel
theorem dX12_keep_99 : decode cX12_keep 99 = .ok (.isub, 1) := by decide +kernel
theorem dX12_keep_100 : decode cX12_keep 100 = .ok (.if_icmp .le 9, 3) := by decide +kernel
theorem dX12_keep_103 : decode cX12_keep 103 = .ok (.ldc_w 316, 3) := by decide +kernel
theorem dX12_keep_106 : decode cX12_keep 106 = .ok (.goto 12, 3) := by decide +kernel
theorem dX12_keep_109 : decode cX12_keep 109 = .ok (.aload_n 0, 1) := by decide +kernel
theorem dX12_keep_110 : decode cX12_keep 110 = .ok (.getfield 313, 3) := by decide +kernel
theorem dX12_keep_113 : decode cX12_keep 113 = .ok (.aload_n 0, 1) := by decide +kernel
theorem dX12_keep_114 : decode cX12_keep 114 = .ok (.getfield 273, 3) := by decide +kernel
theorem dX12_keep_117 : decode cX12_keep 117 = .ok (.iadd, 1) := by decide +kernel
theorem dX12_keep_118 : decode cX12_keep 118 = .ok (.putfield 313, 3) := by decide +kernel
theorem dX12_keep_121 : decode cX12_keep 121 = .ok (.return_, 1) := by decide +kernel
theorem dX12_spent_0 : decode cX12_spent 0 = .ok (.aload_n 0, 1) := by decide +kernel
theorem dX12_spent_1 : decode cX12_spent 1 = .ok (.getfield 313, 3) := by decide +kernel
theorem dX12_spent_4 : decode cX12_spent 4 = .ok (.ireturn, 1) := by decide +kernel
theorem dX12_reasons_0 : decode cX12_reasons 0 = .ok (.aload_n 0, 1) := by decide +kernel
theorem dX12_reasons_1 : decode cX12_reasons 1 = .ok (.aload_n 0, 1) := by decide +kernel
theorem dX12_reasons_2 : decode cX12_reasons 2 = .ok (.iload_n 1, 1) := by decide +kernel
theorem dX12_reasons_3 : decode cX12_reasons 3 = .ok (.invokevirtual 175, 3) := by decide +kernel
theorem dX12_reasons_6 : decode cX12_reasons 6 = .ok (.ifCond .eq 7, 3) := by decide +kernel
theorem dX12_reasons_9 : decode cX12_reasons 9 = .ok (.iconst 0, 1) := by decide +kernel
theorem dX12_reasons_10 : decode cX12_reasons 10 = .ok (.goto 4, 3) := by decide +kernel
theorem dX12_reasons_13 : decode cX12_reasons 13 = .ok (.iconst 1, 1) := by decide +kernel
theorem dX12_reasons_14 : decode cX12_reasons 14 = .ok (.invokevirtual 128, 3) := by decide +kernel
theorem dX12_reasons_17 : decode cX12_reasons 17 = .ok (.ifCond .eq 5, 3) := by decide +kernel
theorem dX12_reasons_20 : decode cX12_reasons 20 = .ok (.iconst 0, 1) := by decide +kernel
theorem dX12_reasons_21 : decode cX12_reasons 21 = .ok (.ireturn, 1) := by decide +kernel
theorem dX12_reasons_22 : decode cX12_reasons 22 = .ok (.aload_n 0, 1) := by decide +kernel
theorem dX12_reasons_23 : decode cX12_reasons 23 = .ok (.getfield 56, 3) := by decide +kernel
theorem dX12_reasons_26 : decode cX12_reasons 26 = .ok (.iload_n 1, 1) := by decide +kernel
theorem dX12_reasons_27 : decode cX12_reasons 27 = .ok (.iaload, 1) := by decide +kernel
theorem dX12_reasons_28 : decode cX12_reasons 28 = .ok (.ireturn, 1) := by decide +kernel
theorem dJ11_isValidCodePoint_9a6ad_0 : decode cJ11_isValidCodePoint_9a6ad 0 = .ok (.iload_n 0, 1) := by decide +kernel
theorem dJ11_isValidCodePoint_9a6ad_1 : decode cJ11_isValidCodePoint_9a6ad 1 = .ok (.bipush 16, 2) := by decide +kernel
theorem dJ11_isValidCodePoint_9a6ad_3 : decode cJ11_isValidCodePoint_9a6ad 3 = .ok (.iushr, 1) := by decide +kernel
theorem dJ11_isValidCodePoint_9a6ad_4 : decode cJ11_isValidCodePoint_9a6ad 4 = .ok (.istore_n 1, 1) := by decide +kernel
theorem dJ11_isValidCodePoint_9a6ad_5 : decode cJ11_isValidCodePoint_9a6ad 5 = .ok (.iload_n 1, 1) := by decide +kernel
theorem dJ11_isValidCodePoint_9a6ad_6 : decode cJ11_isValidCodePoint_9a6ad 6 = .ok (.bipush 17, 2) := by decide +kernel
theorem dJ11_isValidCodePoint_9a6ad_8 : decode cJ11_isValidCodePoint_9a6ad 8 = .ok (.if_icmp .ge 7, 3) := by decide +kernel
theorem dJ11_isValidCodePoint_9a6ad_11 : decode cJ11_isValidCodePoint_9a6ad 11 = .ok (.iconst 1, 1) := by decide +kernel
theorem dJ11_isValidCodePoint_9a6ad_12 : decode cJ11_isValidCodePoint_9a6ad 12 = .ok (.goto 4, 3) := by decide +kernel
theorem dJ11_isValidCodePoint_9a6ad_15 : decode cJ11_isValidCodePoint_9a6ad 15 = .ok (.iconst 0, 1) := by decide +kernel
theorem dJ11_isValidCodePoint_9a6ad_16 : decode cJ11_isValidCodePoint_9a6ad 16 = .ok (.ireturn, 1) := by decide +kernel
theorem dJ11_highSurrogate_5068e_0 : decode cJ11_highSurrogate_5068e 0 = .ok (.iload_n 0, 1) := by decide +kernel
theorem dJ11_highSurrogate_5068e_1 : decode cJ11_highSurrogate_5068e 1 = .ok (.bipush 10, 2) := by decide +kernel
theorem dJ11_highSurrogate_5068e_3 : decode cJ11_highSurrogate_5068e 3 = .ok (.iushr, 1) := by decide +kernel
theorem dJ11_highSurrogate_5068e_4 : decode cJ11_highSurrogate_5068e 4 = .ok (.ldc 110, 2) := by decide +kernel
theorem dJ11_highSurrogate_5068e_6 : decode cJ11_highSurrogate_5068e 6 = .ok (.iadd, 1) := by decide +kernel
theorem dJ11_highSurrogate_5068e_7 : decode cJ11_highSurrogate_5068e 7 = .ok (.i2c, 1) := by decide +kernel
theorem dJ11_highSurrogate_5068e_8 : decode cJ11_highSurrogate_5068e 8 = .ok (.ireturn, 1) := by decide +kernel
theorem dJ11_lowSurrogate_5068e_0 : decode cJ11_lowSurrogate_5068e 0 = .ok (.iload_n 0, 1) := by decide +kernel
theorem dJ11_lowSurrogate_5068e_1 : decode cJ11_lowSurrogate_5068e 1 = .ok (.sipush 1023, 3) := by decide +kernel
theorem dJ11_lowSurrogate_5068e_4 : decode cJ11_lowSurrogate_5068e 4 = .ok (.iand, 1) := by decide +kernel
theorem dJ11_lowSurrogate_5068e_5 : decode cJ11_lowSurrogate_5068e 5 = .ok (.ldc 76, 2) := by decide +kernel
theorem dJ11_lowSurrogate_5068e_7 : decode cJ11_lowSurrogate_5068e 7 = .ok (.iadd, 1) := by decide +kernel
theorem dJ11_lowSurrogate_5068e_8 : decode cJ11_lowSurrogate_5068e 8 = .ok (.i2c, 1) := by decide +kernel
theorem dJ11_lowSurrogate_5068e_9 : decode cJ11_lowSurrogate_5068e 9 = .ok (.ireturn, 1) := by decide +kernel
theorem dJxf58ca_isNaN_12338_0 : decode cJxf58ca_isNaN_12338 0 = .ok (.fload_n 0, 1) := by decide +kernel
theorem dJxf58ca_isNaN_12338_1 : decode cJxf58ca_isNaN_12338 1 = .ok (.fload_n 0, 1) := by decide +kernel
theorem dJxf58ca_isNaN_12338_2 : decode cJxf58ca_isNaN_12338 2 = .ok (.fcmp .l, 1) := by decide +kernel
theorem dJxf58ca_isNaN_12338_3 : decode cJxf58ca_isNaN_12338 3 = .ok (.ifCond .eq 7, 3) := by decide +kernel
theorem dJxf58ca_isNaN_12338_6 : decode cJxf58ca_isNaN_12338 6 = .ok (.iconst 1, 1) := by decide +kernel
theorem dJxf58ca_isNaN_12338_7 : decode cJxf58ca_isNaN_12338 7 = .ok (.goto 4, 3) := by decide +kernel
theorem dJxf58ca_isNaN_12338_10 : decode cJxf58ca_isNaN_12338 10 = .ok (.iconst 0, 1) := by decide +kernel
theorem dJxf58ca_isNaN_12338_11 : decode cJxf58ca_isNaN_12338 11 = .ok (.ireturn, 1) := by decide +kernel
theorem dJxf58ca_floatToIntBits_5c35a_0 : decode cJxf58ca_floatToIntBits_5c35a 0 = .ok (.fload_n 0, 1) := by decide +kernel
theorem dJxf58ca_floatToIntBits_5c35a_1 : decode cJxf58ca_floatToIntBits_5c35a 1 = .ok (.invokestatic 59, 3) := by decide +kernel
theorem dJxf58ca_floatToIntBits_5c35a_4 : decode cJxf58ca_floatToIntBits_5c35a 4 = .ok (.ifCond .ne 8, 3) := by decide +kernel
theorem dJxf58ca_floatToIntBits_5c35a_7 : decode cJxf58ca_floatToIntBits_5c35a 7 = .ok (.fload_n 0, 1) := by decide +kernel
theorem dJxf58ca_floatToIntBits_5c35a_8 : decode cJxf58ca_floatToIntBits_5c35a 8 = .ok (.invokestatic 74, 3) := by decide +kernel
theorem dJxf58ca_floatToIntBits_5c35a_11 : decode cJxf58ca_floatToIntBits_5c35a 11 = .ok (.ireturn, 1) := by decide +kernel
theorem dJxf58ca_floatToIntBits_5c35a_12 : decode cJxf58ca_floatToIntBits_5c35a 12 = .ok (.ldc 77, 2) := by decide +kernel
theorem dJxf58ca_floatToIntBits_5c35a_14 : decode cJxf58ca_floatToIntBits_5c35a 14 = .ok (.ireturn, 1) := by decide +kernel
theorem dJ9_max_7cf53_0 : decode cJ9_max_7cf53 0 = .ok (.iload_n 0, 1) := by decide +kernel
theorem dJ9_max_7cf53_1 : decode cJ9_max_7cf53 1 = .ok (.iload_n 1, 1) := by decide +kernel
theorem dJ9_max_7cf53_2 : decode cJ9_max_7cf53 2 = .ok (.if_icmp .lt 7, 3) := by decide +kernel
theorem dJ9_max_7cf53_5 : decode cJ9_max_7cf53 5 = .ok (.iload_n 0, 1) := by decide +kernel
theorem dJ9_max_7cf53_6 : decode cJ9_max_7cf53 6 = .ok (.goto 4, 3) := by decide +kernel
theorem dJ9_max_7cf53_9 : decode cJ9_max_7cf53 9 = .ok (.iload_n 1, 1) := by decide +kernel
theorem dJ9_max_7cf53_10 : decode cJ9_max_7cf53 10 = .ok (.ireturn, 1) := by decide +kernel
theorem dJ9_min_7cf53_0 : decode cJ9_min_7cf53 0 = .ok (.iload_n 0, 1) := by decide +kernel
theorem dJ9_min_7cf53_1 : decode cJ9_min_7cf53 1 = .ok (.iload_n 1, 1) := by decide +kernel
theorem dJ9_min_7cf53_2 : decode cJ9_min_7cf53 2 = .ok (.if_icmp .gt 7, 3) := by decide +kernel
theorem dJ9_min_7cf53_5 : decode cJ9_min_7cf53 5 = .ok (.iload_n 0, 1) := by decide +kernel
theorem dJ9_min_7cf53_6 : decode cJ9_min_7cf53 6 = .ok (.goto 4, 3) := by decide +kernel
theorem dJ9_min_7cf53_9 : decode cJ9_min_7cf53 9 = .ok (.iload_n 1, 1) := by decide +kernel
theorem dJ9_min_7cf53_10 : decode cJ9_min_7cf53 10 = .ok (.ireturn, 1) := by decide +kernel
theorem dJ0_length_8abf5_0 : decode cJ0_length_8abf5 0 = .ok (.aload_n 0, 1) := by decide +kernel
theorem dJ0_length_8abf5_1 : decode cJ0_length_8abf5 1 = .ok (.getfield 9, 3) := by decide +kernel
theorem dJ0_length_8abf5_4 : decode cJ0_length_8abf5 4 = .ok (.arraylength, 1) := by decide +kernel
theorem dJ0_length_8abf5_5 : decode cJ0_length_8abf5 5 = .ok (.aload_n 0, 1) := by decide +kernel
theorem dJ0_length_8abf5_6 : decode cJ0_length_8abf5 6 = .ok (.invokevirtual 335, 3) := by decide +kernel
theorem dJ0_length_8abf5_9 : decode cJ0_length_8abf5 9 = .ok (.ishr, 1) := by decide +kernel
theorem dJ0_length_8abf5_10 : decode cJ0_length_8abf5 10 = .ok (.ireturn, 1) := by decide +kernel
theorem dJ0_indexOf_0f7a4_0 : decode cJ0_indexOf_0f7a4 0 = .ok (.aload_n 0, 1) := by decide +kernel
theorem dJ0_indexOf_0f7a4_1 : decode cJ0_indexOf_0f7a4 1 = .ok (.iload_n 1, 1) := by decide +kernel
theorem dJ0_indexOf_0f7a4_2 : decode cJ0_indexOf_0f7a4 2 = .ok (.iconst 0, 1) := by decide +kernel
theorem dJ0_indexOf_0f7a4_3 : decode cJ0_indexOf_0f7a4 3 = .ok (.invokevirtual 633, 3) := by decide +kernel
theorem dJ0_indexOf_0f7a4_6 : decode cJ0_indexOf_0f7a4 6 = .ok (.ireturn, 1) := by decide +kernel
theorem dJ0_indexOf_7cf53_0 : decode cJ0_indexOf_7cf53 0 = .ok (.aload_n 0, 1) := by decide +kernel
theorem dJ0_indexOf_7cf53_1 : decode cJ0_indexOf_7cf53 1 = .ok (.invokevirtual 492, 3) := by decide +kernel
theorem dJ0_indexOf_7cf53_4 : decode cJ0_indexOf_7cf53 4 = .ok (.ifCond .eq 19, 3) := by decide +kernel
theorem dJ0_indexOf_7cf53_7 : decode cJ0_indexOf_7cf53 7 = .ok (.aload_n 0, 1) := by decide +kernel
theorem dJ0_indexOf_7cf53_8 : decode cJ0_indexOf_7cf53 8 = .ok (.getfield 9, 3) := by decide +kernel
theorem dJ0_indexOf_7cf53_11 : decode cJ0_indexOf_7cf53 11 = .ok (.iload_n 1, 1) := by decide +kernel
theorem dJ0_indexOf_7cf53_12 : decode cJ0_indexOf_7cf53 12 = .ok (.iload_n 2, 1) := by decide +kernel
theorem dJ0_indexOf_7cf53_13 : decode cJ0_indexOf_7cf53 13 = .ok (.aload_n 0, 1) := by decide +kernel
theorem dJ0_indexOf_7cf53_14 : decode cJ0_indexOf_7cf53 14 = .ok (.invokevirtual 505, 3) := by decide +kernel
theorem dJ0_indexOf_7cf53_17 : decode cJ0_indexOf_7cf53 17 = .ok (.invokestatic 637, 3) := by decide +kernel
theorem dJ0_indexOf_7cf53_20 : decode cJ0_indexOf_7cf53 20 = .ok (.goto 16, 3) := by decide +kernel
theorem dJ0_indexOf_7cf53_23 : decode cJ0_indexOf_7cf53 23 = .ok (.aload_n 0, 1) := by decide +kernel
theorem dJ0_indexOf_7cf53_24 : decode cJ0_indexOf_7cf53 24 = .ok (.getfield 9, 3) := by decide +kernel
theorem dJ0_indexOf_7cf53_27 : decode cJ0_indexOf_7cf53 27 = .ok (.iload_n 1, 1) := by decide +kernel
theorem dJ0_indexOf_7cf53_28 : decode cJ0_indexOf_7cf53 28 = .ok (.iload_n 2, 1) := by decide +kernel
theorem dJ0_indexOf_7cf53_29 : decode cJ0_indexOf_7cf53 29 = .ok (.aload_n 0, 1) := by decide +kernel
theorem dJ0_indexOf_7cf53_30 : decode cJ0_indexOf_7cf53 30 = .ok (.invokevirtual 505, 3) := by decide +kernel
theorem dJ0_indexOf_7cf53_33 : decode cJ0_indexOf_7cf53 33 = .ok (.invokestatic 640, 3) := by decide +kernel
theorem dJ0_indexOf_7cf53_36 : decode cJ0_indexOf_7cf53 36 = .ok (.ireturn, 1) := by decide +kernel
theorem dJ0_coder_7d493_0 : decode cJ0_coder_7d493 0 = .ok (.getstatic 38, 3) := by decide +kernel
theorem dJ0_coder_7d493_3 : decode cJ0_coder_7d493 3 = .ok (.ifCond .eq 10, 3) := by decide +kernel
theorem dJ0_coder_7d493_6 : decode cJ0_coder_7d493 6 = .ok (.aload_n 0, 1) := by decide +kernel
theorem dJ0_coder_7d493_7 : decode cJ0_coder_7d493 7 = .ok (.getfield 15, 3) := by decide +kernel
theorem dJ0_coder_7d493_10 : decode cJ0_coder_7d493 10 = .ok (.goto 4, 3) := by decide +kernel
theorem dJ0_coder_7d493_13 : decode cJ0_coder_7d493 13 = .ok (.iconst 1, 1) := by decide +kernel
theorem dJ0_coder_7d493_14 : decode cJ0_coder_7d493 14 = .ok (.ireturn, 1) := by decide +kernel
theorem dJ0_isLatin1_aae02_0 : decode cJ0_isLatin1_aae02 0 = .ok (.getstatic 38, 3) := by decide +kernel
theorem dJ0_isLatin1_aae02_3 : decode cJ0_isLatin1_aae02 3 = .ok (.ifCond .eq 14, 3) := by decide +kernel
theorem dJ0_isLatin1_aae02_6 : decode cJ0_isLatin1_aae02 6 = .ok (.aload_n 0, 1) := by decide +kernel
theorem dJ0_isLatin1_aae02_7 : decode cJ0_isLatin1_aae02 7 = .ok (.getfield 15, 3) := by decide +kernel
theorem dJ0_isLatin1_aae02_10 : decode cJ0_isLatin1_aae02 10 = .ok (.ifCond .ne 7, 3) := by decide +kernel
theorem dJ0_isLatin1_aae02_13 : decode cJ0_isLatin1_aae02 13 = .ok (.iconst 1, 1) := by decide +kernel
theorem dJ0_isLatin1_aae02_14 : decode cJ0_isLatin1_aae02 14 = .ok (.goto 4, 3) := by decide +kernel
theorem dJ0_isLatin1_aae02_17 : decode cJ0_isLatin1_aae02 17 = .ok (.iconst 0, 1) := by decide +kernel
theorem dJ0_isLatin1_aae02_18 : decode cJ0_isLatin1_aae02 18 = .ok (.ireturn, 1) := by decide +kernel
theorem dJ0_checkBoundsBeginEnd_23922_0 : decode cJ0_checkBoundsBeginEnd_23922 0 = .ok (.iload_n 0, 1) := by decide +kernel
theorem dJ0_checkBoundsBeginEnd_23922_1 : decode cJ0_checkBoundsBeginEnd_23922 1 = .ok (.iload_n 1, 1) := by decide +kernel
theorem dJ0_checkBoundsBeginEnd_23922_2 : decode cJ0_checkBoundsBeginEnd_23922 2 = .ok (.iload_n 2, 1) := by decide +kernel
theorem dJ0_checkBoundsBeginEnd_23922_3 : decode cJ0_checkBoundsBeginEnd_23922 3 = .ok (.getstatic 1053, 3) := by decide +kernel
theorem dJ0_checkBoundsBeginEnd_23922_6 : decode cJ0_checkBoundsBeginEnd_23922 6 = .ok (.invokestatic 1062, 3) := by decide +kernel
theorem dJ0_checkBoundsBeginEnd_23922_9 : decode cJ0_checkBoundsBeginEnd_23922 9 = .ok (.pop, 1) := by decide +kernel
theorem dJ0_checkBoundsBeginEnd_23922_10 : decode cJ0_checkBoundsBeginEnd_23922 10 = .ok (.return_, 1) := by decide +kernel
theorem dJ1_canEncode_9a6ad_0 : decode cJ1_canEncode_9a6ad 0 = .ok (.iload_n 0, 1) := by decide +kernel
theorem dJ1_canEncode_9a6ad_1 : decode cJ1_canEncode_9a6ad 1 = .ok (.ifCond .lt 14, 3) := by decide +kernel
theorem dJ1_canEncode_9a6ad_4 : decode cJ1_canEncode_9a6ad 4 = .ok (.iload_n 0, 1) := by decide +kernel
theorem dJ1_canEncode_9a6ad_5 : decode cJ1_canEncode_9a6ad 5 = .ok (.sipush 255, 3) := by decide +kernel
theorem dJ1_canEncode_9a6ad_8 : decode cJ1_canEncode_9a6ad 8 = .ok (.if_icmp .gt 7, 3) := by decide +kernel
theorem dJ1_canEncode_9a6ad_11 : decode cJ1_canEncode_9a6ad 11 = .ok (.iconst 1, 1) := by decide +kernel
theorem dJ1_canEncode_9a6ad_12 : decode cJ1_canEncode_9a6ad 12 = .ok (.goto 4, 3) := by decide +kernel
theorem dJ1_canEncode_9a6ad_15 : decode cJ1_canEncode_9a6ad 15 = .ok (.iconst 0, 1) := by decide +kernel
theorem dJ1_canEncode_9a6ad_16 : decode cJ1_canEncode_9a6ad 16 = .ok (.ireturn, 1) := by decide +kernel
theorem dJ1_indexOf_4cfef_0 : decode cJ1_indexOf_4cfef 0 = .ok (.iload_n 1, 1) := by decide +kernel
theorem dJ1_indexOf_4cfef_1 : decode cJ1_indexOf_4cfef 1 = .ok (.invokestatic 88, 3) := by decide +kernel
theorem dJ1_indexOf_4cfef_4 : decode cJ1_indexOf_4cfef 4 = .ok (.ifCond .ne 5, 3) := by decide +kernel
theorem dJ1_indexOf_4cfef_7 : decode cJ1_indexOf_4cfef 7 = .ok (.iconst (-1), 1) := by decide +kernel
theorem dJ1_indexOf_4cfef_8 : decode cJ1_indexOf_4cfef 8 = .ok (.ireturn, 1) := by decide +kernel
theorem dJ1_indexOf_4cfef_9 : decode cJ1_indexOf_4cfef 9 = .ok (.iload_n 2, 1) := by decide +kernel
theorem dJ1_indexOf_4cfef_10 : decode cJ1_indexOf_4cfef 10 = .ok (.iconst 0, 1) := by decide +kernel
theorem dJ1_indexOf_4cfef_11 : decode cJ1_indexOf_4cfef 11 = .ok (.invokestatic 92, 3) := by decide +kernel
theorem dJ1_indexOf_4cfef_14 : decode cJ1_indexOf_4cfef 14 = .ok (.istore_n 2, 1) := by decide +kernel
theorem dJ1_indexOf_4cfef_15 : decode cJ1_indexOf_4cfef 15 = .ok (.iload_n 3, 1) := by decide +kernel
theorem dJ1_indexOf_4cfef_16 : decode cJ1_indexOf_4cfef 16 = .ok (.aload_n 0, 1) := by decide +kernel
theorem dJ1_indexOf_4cfef_17 : decode cJ1_indexOf_4cfef 17 = .ok (.arraylength, 1) := by decide +kernel
theorem dJ1_indexOf_4cfef_18 : decode cJ1_indexOf_4cfef 18 = .ok (.invokestatic 38, 3) := by decide +kernel
theorem dJ1_indexOf_4cfef_21 : decode cJ1_indexOf_4cfef 21 = .ok (.istore_n 3, 1) := by decide +kernel
theorem dJ1_indexOf_4cfef_22 : decode cJ1_indexOf_4cfef 22 = .ok (.iload_n 2, 1) := by decide +kernel
theorem dJ1_indexOf_4cfef_23 : decode cJ1_indexOf_4cfef 23 = .ok (.iload_n 3, 1) := by decide +kernel
theorem dJ1_indexOf_4cfef_24 : decode cJ1_indexOf_4cfef 24 = .ok (.if_icmp .lt 5, 3) := by decide +kernel
theorem dJ1_indexOf_4cfef_27 : decode cJ1_indexOf_4cfef 27 = .ok (.iconst (-1), 1) := by decide +kernel
theorem dJ1_indexOf_4cfef_28 : decode cJ1_indexOf_4cfef 28 = .ok (.ireturn, 1) := by decide +kernel
theorem dJ1_indexOf_4cfef_29 : decode cJ1_indexOf_4cfef 29 = .ok (.aload_n 0, 1) := by decide +kernel
theorem dJ1_indexOf_4cfef_30 : decode cJ1_indexOf_4cfef 30 = .ok (.iload_n 1, 1) := by decide +kernel
theorem dJ1_indexOf_4cfef_31 : decode cJ1_indexOf_4cfef 31 = .ok (.iload_n 2, 1) := by decide +kernel
theorem dJ1_indexOf_4cfef_32 : decode cJ1_indexOf_4cfef 32 = .ok (.iload_n 3, 1) := by decide +kernel
theorem dJ1_indexOf_4cfef_33 : decode cJ1_indexOf_4cfef 33 = .ok (.invokestatic 95, 3) := by decide +kernel
theorem dJ1_indexOf_4cfef_36 : decode cJ1_indexOf_4cfef 36 = .ok (.ireturn, 1) := by decide +kernel
theorem dJ1_indexOfChar_4cfef_0 : decode cJ1_indexOfChar_4cfef 0 = .ok (.iload_n 1, 1) := by decide +kernel
theorem dJ1_indexOfChar_4cfef_1 : decode cJ1_indexOfChar_4cfef 1 = .ok (.i2b, 1) := by decide +kernel
theorem dJ1_indexOfChar_4cfef_2 : decode cJ1_indexOfChar_4cfef 2 = .ok (.istore 4, 2) := by decide +kernel
theorem dJ1_indexOfChar_4cfef_4 : decode cJ1_indexOfChar_4cfef 4 = .ok (.iload_n 2, 1) := by decide +kernel
theorem dJ1_indexOfChar_4cfef_5 : decode cJ1_indexOfChar_4cfef 5 = .ok (.istore 5, 2) := by decide +kernel
theorem dJ1_indexOfChar_4cfef_7 : decode cJ1_indexOfChar_4cfef 7 = .ok (.iload 5, 2) := by decide +kernel
theorem dJ1_indexOfChar_4cfef_9 : decode cJ1_indexOfChar_4cfef 9 = .ok (.iload_n 3, 1) := by decide +kernel
theorem dJ1_indexOfChar_4cfef_10 : decode cJ1_indexOfChar_4cfef 10 = .ok (.if_icmp .ge 21, 3) := by decide +kernel
theorem dJ1_indexOfChar_4cfef_13 : decode cJ1_indexOfChar_4cfef 13 = .ok (.aload_n 0, 1) := by decide +kernel
theorem dJ1_indexOfChar_4cfef_14 : decode cJ1_indexOfChar_4cfef 14 = .ok (.iload 5, 2) := by decide +kernel
theorem dJ1_indexOfChar_4cfef_16 : decode cJ1_indexOfChar_4cfef 16 = .ok (.baload, 1) := by decide +kernel
theorem dJ1_indexOfChar_4cfef_17 : decode cJ1_indexOfChar_4cfef 17 = .ok (.iload 4, 2) := by decide +kernel
theorem dJ1_indexOfChar_4cfef_19 : decode cJ1_indexOfChar_4cfef 19 = .ok (.if_icmp .ne 6, 3) := by decide +kernel
theorem dJ1_indexOfChar_4cfef_22 : decode cJ1_indexOfChar_4cfef 22 = .ok (.iload 5, 2) := by decide +kernel
theorem dJ1_indexOfChar_4cfef_24 : decode cJ1_indexOfChar_4cfef 24 = .ok (.ireturn, 1) := by decide +kernel
theorem dJ1_indexOfChar_4cfef_25 : decode cJ1_indexOfChar_4cfef 25 = .ok (.iinc 5 1, 3) := by decide +kernel
theorem dJ1_indexOfChar_4cfef_28 : decode cJ1_indexOfChar_4cfef 28 = .ok (.goto (-21), 3) := by decide +kernel
theorem dJ1_indexOfChar_4cfef_31 : decode cJ1_indexOfChar_4cfef 31 = .ok (.iconst (-1), 1) := by decide +kernel
theorem dJ1_indexOfChar_4cfef_32 : decode cJ1_indexOfChar_4cfef 32 = .ok (.ireturn, 1) := by decide +kernel
theorem dJ2_getChar_3b067_0 : decode cJ2_getChar_3b067 0 = .ok (.getstatic 44, 3) := by decide +kernel
theorem dJ2_getChar_3b067_3 : decode cJ2_getChar_3b067 3 = .ok (.ifCond .ne 25, 3) := by decide +kernel
theorem dJ2_getChar_3b067_6 : decode cJ2_getChar_3b067 6 = .ok (.iload_n 1, 1) := by decide +kernel
theorem dJ2_getChar_3b067_7 : decode cJ2_getChar_3b067 7 = .ok (.ifCond .lt 11, 3) := by decide +kernel
theorem dJ2_getChar_3b067_10 : decode cJ2_getChar_3b067 10 = .ok (.iload_n 1, 1) := by decide +kernel
theorem dJ2_getChar_3b067_11 : decode cJ2_getChar_3b067 11 = .ok (.aload_n 0, 1) := by decide +kernel
theorem dJ2_getChar_3b067_12 : decode cJ2_getChar_3b067 12 = .ok (.invokestatic 48, 3) := by decide +kernel
theorem dJ2_getChar_3b067_15 : decode cJ2_getChar_3b067 15 = .ok (.if_icmp .lt 13, 3) := by decide +kernel
theorem dJ2_getChar_3b067_18 : decode cJ2_getChar_3b067 18 = .ok (.new 52, 3) := by decide +kernel
theorem dJ2_getChar_3b067_21 : decode cJ2_getChar_3b067 21 = .ok (.dup, 1) := by decide +kernel
theorem dJ2_getChar_3b067_22 : decode cJ2_getChar_3b067 22 = .ok (.ldc 54, 2) := by decide +kernel
theorem dJ2_getChar_3b067_24 : decode cJ2_getChar_3b067 24 = .ok (.invokespecial 56, 3) := by decide +kernel
theorem dJ2_getChar_3b067_27 : decode cJ2_getChar_3b067 27 = .ok (.athrow, 1) := by decide +kernel
theorem dJ2_getChar_3b067_28 : decode cJ2_getChar_3b067 28 = .ok (.iload_n 1, 1) := by decide +kernel
theorem dJ2_getChar_3b067_29 : decode cJ2_getChar_3b067 29 = .ok (.iconst 1, 1) := by decide +kernel
theorem dJ2_getChar_3b067_30 : decode cJ2_getChar_3b067 30 = .ok (.ishl, 1) := by decide +kernel
theorem dJ2_getChar_3b067_31 : decode cJ2_getChar_3b067 31 = .ok (.istore_n 1, 1) := by decide +kernel
theorem dJ2_getChar_3b067_32 : decode cJ2_getChar_3b067 32 = .ok (.aload_n 0, 1) := by decide +kernel
theorem dJ2_getChar_3b067_33 : decode cJ2_getChar_3b067 33 = .ok (.iload_n 1, 1) := by decide +kernel
theorem dJ2_getChar_3b067_34 : decode cJ2_getChar_3b067 34 = .ok (.iinc 1 1, 3) := by decide +kernel
theorem dJ2_getChar_3b067_37 : decode cJ2_getChar_3b067 37 = .ok (.baload, 1) := by decide +kernel
theorem dJ2_getChar_3b067_38 : decode cJ2_getChar_3b067 38 = .ok (.sipush 255, 3) := by decide +kernel
theorem dJ2_getChar_3b067_41 : decode cJ2_getChar_3b067 41 = .ok (.iand, 1) := by decide +kernel
theorem dJ2_getChar_3b067_42 : decode cJ2_getChar_3b067 42 = .ok (.getstatic 59, 3) := by decide +kernel
theorem dJ2_getChar_3b067_45 : decode cJ2_getChar_3b067 45 = .ok (.ishl, 1) := by decide +kernel
theorem dJ2_getChar_3b067_46 : decode cJ2_getChar_3b067 46 = .ok (.aload_n 0, 1) := by decide +kernel
theorem dJ2_getChar_3b067_47 : decode cJ2_getChar_3b067 47 = .ok (.iload_n 1, 1) := by decide +kernel
theorem dJ2_getChar_3b067_48 : decode cJ2_getChar_3b067 48 = .ok (.baload, 1) := by decide +kernel
theorem dJ2_getChar_3b067_49 : decode cJ2_getChar_3b067 49 = .ok (.sipush 255, 3) := by decide +kernel
theorem dJ2_getChar_3b067_52 : decode cJ2_getChar_3b067 52 = .ok (.iand, 1) := by decide +kernel
theorem dJ2_getChar_3b067_53 : decode cJ2_getChar_3b067 53 = .ok (.getstatic 63, 3) := by decide +kernel
theorem dJ2_getChar_3b067_56 : decode cJ2_getChar_3b067 56 = .ok (.ishl, 1) := by decide +kernel
theorem dJ2_getChar_3b067_57 : decode cJ2_getChar_3b067 57 = .ok (.ior, 1) := by decide +kernel
theorem dJ2_getChar_3b067_58 : decode cJ2_getChar_3b067 58 = .ok (.i2c, 1) := by decide +kernel
theorem dJ2_getChar_3b067_59 : decode cJ2_getChar_3b067 59 = .ok (.ireturn, 1) := by decide +kernel
theorem dJ2_length_9d52b_0 : decode cJ2_length_9d52b 0 = .ok (.aload_n 0, 1) := by decide +kernel
theorem dJ2_length_9d52b_1 : decode cJ2_length_9d52b 1 = .ok (.arraylength, 1) := by decide +kernel
theorem dJ2_length_9d52b_2 : decode cJ2_length_9d52b 2 = .ok (.iconst 1, 1) := by decide +kernel
theorem dJ2_length_9d52b_3 : decode cJ2_length_9d52b 3 = .ok (.ishr, 1) := by decide +kernel
theorem dJ2_length_9d52b_4 : decode cJ2_length_9d52b 4 = .ok (.ireturn, 1) := by decide +kernel
theorem dJ2_indexOf_4cfef_0 : decode cJ2_indexOf_4cfef 0 = .ok (.iload_n 2, 1) := by decide +kernel
theorem dJ2_indexOf_4cfef_1 : decode cJ2_indexOf_4cfef 1 = .ok (.iconst 0, 1) := by decide +kernel
theorem dJ2_indexOf_4cfef_2 : decode cJ2_indexOf_4cfef 2 = .ok (.invokestatic 224, 3) := by decide +kernel
theorem dJ2_indexOf_4cfef_5 : decode cJ2_indexOf_4cfef 5 = .ok (.istore_n 2, 1) := by decide +kernel
theorem dJ2_indexOf_4cfef_6 : decode cJ2_indexOf_4cfef 6 = .ok (.iload_n 3, 1) := by decide +kernel
theorem dJ2_indexOf_4cfef_7 : decode cJ2_indexOf_4cfef 7 = .ok (.aload_n 0, 1) := by decide +kernel
theorem dJ2_indexOf_4cfef_8 : decode cJ2_indexOf_4cfef 8 = .ok (.arraylength, 1) := by decide +kernel
theorem dJ2_indexOf_4cfef_9 : decode cJ2_indexOf_4cfef 9 = .ok (.iconst 1, 1) := by decide +kernel
theorem dJ2_indexOf_4cfef_10 : decode cJ2_indexOf_4cfef 10 = .ok (.ishr, 1) := by decide +kernel
theorem dJ2_indexOf_4cfef_11 : decode cJ2_indexOf_4cfef 11 = .ok (.invokestatic 183, 3) := by decide +kernel
theorem dJ2_indexOf_4cfef_14 : decode cJ2_indexOf_4cfef 14 = .ok (.istore_n 3, 1) := by decide +kernel
theorem dJ2_indexOf_4cfef_15 : decode cJ2_indexOf_4cfef 15 = .ok (.iload_n 2, 1) := by decide +kernel
theorem dJ2_indexOf_4cfef_16 : decode cJ2_indexOf_4cfef 16 = .ok (.iload_n 3, 1) := by decide +kernel
theorem dJ2_indexOf_4cfef_17 : decode cJ2_indexOf_4cfef 17 = .ok (.if_icmp .lt 5, 3) := by decide +kernel
theorem dJ2_indexOf_4cfef_20 : decode cJ2_indexOf_4cfef 20 = .ok (.iconst (-1), 1) := by decide +kernel
theorem dJ2_indexOf_4cfef_21 : decode cJ2_indexOf_4cfef 21 = .ok (.ireturn, 1) := by decide +kernel
theorem dJ2_indexOf_4cfef_22 : decode cJ2_indexOf_4cfef 22 = .ok (.iload_n 1, 1) := by decide +kernel
theorem dJ2_indexOf_4cfef_23 : decode cJ2_indexOf_4cfef 23 = .ok (.ldc 227, 2) := by decide +kernel
theorem dJ2_indexOf_4cfef_25 : decode cJ2_indexOf_4cfef 25 = .ok (.if_icmp .ge 11, 3) := by decide +kernel
theorem dJ2_indexOf_4cfef_28 : decode cJ2_indexOf_4cfef 28 = .ok (.aload_n 0, 1) := by decide +kernel
theorem dJ2_indexOf_4cfef_29 : decode cJ2_indexOf_4cfef 29 = .ok (.iload_n 1, 1) := by decide +kernel
theorem dJ2_indexOf_4cfef_30 : decode cJ2_indexOf_4cfef 30 = .ok (.iload_n 2, 1) := by decide +kernel
theorem dJ2_indexOf_4cfef_31 : decode cJ2_indexOf_4cfef 31 = .ok (.iload_n 3, 1) := by decide +kernel
theorem dJ2_indexOf_4cfef_32 : decode cJ2_indexOf_4cfef 32 = .ok (.invokestatic 228, 3) := by decide +kernel
theorem dJ2_indexOf_4cfef_35 : decode cJ2_indexOf_4cfef 35 = .ok (.ireturn, 1) := by decide +kernel
theorem dJ2_indexOf_4cfef_36 : decode cJ2_indexOf_4cfef 36 = .ok (.aload_n 0, 1) := by decide +kernel
theorem dJ2_indexOf_4cfef_37 : decode cJ2_indexOf_4cfef 37 = .ok (.iload_n 1, 1) := by decide +kernel
theorem dJ2_indexOf_4cfef_38 : decode cJ2_indexOf_4cfef 38 = .ok (.iload_n 2, 1) := by decide +kernel
theorem dJ2_indexOf_4cfef_39 : decode cJ2_indexOf_4cfef 39 = .ok (.iload_n 3, 1) := by decide +kernel
theorem dJ2_indexOf_4cfef_40 : decode cJ2_indexOf_4cfef 40 = .ok (.invokestatic 232, 3) := by decide +kernel
theorem dJ2_indexOf_4cfef_43 : decode cJ2_indexOf_4cfef 43 = .ok (.ireturn, 1) := by decide +kernel
theorem dJ2_indexOfChar_4cfef_0 : decode cJ2_indexOfChar_4cfef 0 = .ok (.iload_n 2, 1) := by decide +kernel
theorem dJ2_indexOfChar_4cfef_1 : decode cJ2_indexOfChar_4cfef 1 = .ok (.iload_n 3, 1) := by decide +kernel
theorem dJ2_indexOfChar_4cfef_2 : decode cJ2_indexOfChar_4cfef 2 = .ok (.aload_n 0, 1) := by decide +kernel
theorem dJ2_indexOfChar_4cfef_3 : decode cJ2_indexOfChar_4cfef 3 = .ok (.invokestatic 96, 3) := by decide +kernel
theorem dJ2_indexOfChar_4cfef_6 : decode cJ2_indexOfChar_4cfef 6 = .ok (.aload_n 0, 1) := by decide +kernel
theorem dJ2_indexOfChar_4cfef_7 : decode cJ2_indexOfChar_4cfef 7 = .ok (.iload_n 1, 1) := by decide +kernel
theorem dJ2_indexOfChar_4cfef_8 : decode cJ2_indexOfChar_4cfef 8 = .ok (.iload_n 2, 1) := by decide +kernel
theorem dJ2_indexOfChar_4cfef_9 : decode cJ2_indexOfChar_4cfef 9 = .ok (.iload_n 3, 1) := by decide +kernel
theorem dJ2_indexOfChar_4cfef_10 : decode cJ2_indexOfChar_4cfef 10 = .ok (.invokestatic 244, 3) := by decide +kernel
theorem dJ2_indexOfChar_4cfef_13 : decode cJ2_indexOfChar_4cfef 13 = .ok (.ireturn, 1) := by decide +kernel
theorem dJ2_indexOfCharUnsafe_4cfef_0 : decode cJ2_indexOfCharUnsafe_4cfef 0 = .ok (.iload_n 2, 1) := by decide +kernel
theorem dJ2_indexOfCharUnsafe_4cfef_1 : decode cJ2_indexOfCharUnsafe_4cfef 1 = .ok (.istore 4, 2) := by decide +kernel
theorem dJ2_indexOfCharUnsafe_4cfef_3 : decode cJ2_indexOfCharUnsafe_4cfef 3 = .ok (.iload 4, 2) := by decide +kernel
theorem dJ2_indexOfCharUnsafe_4cfef_5 : decode cJ2_indexOfCharUnsafe_4cfef 5 = .ok (.iload_n 3, 1) := by decide +kernel
theorem dJ2_indexOfCharUnsafe_4cfef_6 : decode cJ2_indexOfCharUnsafe_4cfef 6 = .ok (.if_icmp .ge 22, 3) := by decide +kernel
theorem dJ2_indexOfCharUnsafe_4cfef_9 : decode cJ2_indexOfCharUnsafe_4cfef 9 = .ok (.aload_n 0, 1) := by decide +kernel
theorem dJ2_indexOfCharUnsafe_4cfef_10 : decode cJ2_indexOfCharUnsafe_4cfef 10 = .ok (.iload 4, 2) := by decide +kernel
theorem dJ2_indexOfCharUnsafe_4cfef_12 : decode cJ2_indexOfCharUnsafe_4cfef 12 = .ok (.invokestatic 71, 3) := by decide +kernel
theorem dJ2_indexOfCharUnsafe_4cfef_15 : decode cJ2_indexOfCharUnsafe_4cfef 15 = .ok (.iload_n 1, 1) := by decide +kernel
theorem dJ2_indexOfCharUnsafe_4cfef_16 : decode cJ2_indexOfCharUnsafe_4cfef 16 = .ok (.if_icmp .ne 6, 3) := by decide +kernel
theorem dJ2_indexOfCharUnsafe_4cfef_19 : decode cJ2_indexOfCharUnsafe_4cfef 19 = .ok (.iload 4, 2) := by decide +kernel
theorem dJ2_indexOfCharUnsafe_4cfef_21 : decode cJ2_indexOfCharUnsafe_4cfef 21 = .ok (.ireturn, 1) := by decide +kernel
theorem dJ2_indexOfCharUnsafe_4cfef_22 : decode cJ2_indexOfCharUnsafe_4cfef 22 = .ok (.iinc 4 1, 3) := by decide +kernel
theorem dJ2_indexOfCharUnsafe_4cfef_25 : decode cJ2_indexOfCharUnsafe_4cfef 25 = .ok (.goto (-22), 3) := by decide +kernel
theorem dJ2_indexOfCharUnsafe_4cfef_28 : decode cJ2_indexOfCharUnsafe_4cfef 28 = .ok (.iconst (-1), 1) := by decide +kernel
theorem dJ2_indexOfCharUnsafe_4cfef_29 : decode cJ2_indexOfCharUnsafe_4cfef 29 = .ok (.ireturn, 1) := by decide +kernel
theorem dJ2_indexOfSupplementary_4cfef_0 : decode cJ2_indexOfSupplementary_4cfef 0 = .ok (.iload_n 1, 1) := by decide +kernel
theorem dJ2_indexOfSupplementary_4cfef_1 : decode cJ2_indexOfSupplementary_4cfef 1 = .ok (.invokestatic 164, 3) := by decide +kernel
theorem dJ2_indexOfSupplementary_4cfef_4 : decode cJ2_indexOfSupplementary_4cfef 4 = .ok (.ifCond .eq 65, 3) := by decide +kernel
theorem dJ2_indexOfSupplementary_4cfef_7 : decode cJ2_indexOfSupplementary_4cfef 7 = .ok (.iload_n 1, 1) := by decide +kernel
theorem dJ2_indexOfSupplementary_4cfef_8 : decode cJ2_indexOfSupplementary_4cfef 8 = .ok (.invokestatic 157, 3) := by decide +kernel
theorem dJ2_indexOfSupplementary_4cfef_11 : decode cJ2_indexOfSupplementary_4cfef 11 = .ok (.istore 4, 2) := by decide +kernel
theorem dJ2_indexOfSupplementary_4cfef_13 : decode cJ2_indexOfSupplementary_4cfef 13 = .ok (.iload_n 1, 1) := by decide +kernel
theorem dJ2_indexOfSupplementary_4cfef_14 : decode cJ2_indexOfSupplementary_4cfef 14 = .ok (.invokestatic 161, 3) := by decide +kernel
theorem dJ2_indexOfSupplementary_4cfef_17 : decode cJ2_indexOfSupplementary_4cfef 17 = .ok (.istore 5, 2) := by decide +kernel
theorem dJ2_indexOfSupplementary_4cfef_19 : decode cJ2_indexOfSupplementary_4cfef 19 = .ok (.iload_n 2, 1) := by decide +kernel
theorem dJ2_indexOfSupplementary_4cfef_20 : decode cJ2_indexOfSupplementary_4cfef 20 = .ok (.iload_n 3, 1) := by decide +kernel
theorem dJ2_indexOfSupplementary_4cfef_21 : decode cJ2_indexOfSupplementary_4cfef 21 = .ok (.aload_n 0, 1) := by decide +kernel
theorem dJ2_indexOfSupplementary_4cfef_22 : decode cJ2_indexOfSupplementary_4cfef 22 = .ok (.invokestatic 96, 3) := by decide +kernel
theorem dJ2_indexOfSupplementary_4cfef_25 : decode cJ2_indexOfSupplementary_4cfef 25 = .ok (.iload_n 2, 1) := by decide +kernel
theorem dJ2_indexOfSupplementary_4cfef_26 : decode cJ2_indexOfSupplementary_4cfef 26 = .ok (.istore 6, 2) := by decide +kernel
theorem dJ2_indexOfSupplementary_4cfef_28 : decode cJ2_indexOfSupplementary_4cfef 28 = .ok (.iload 6, 2) := by decide +kernel
theorem dJ2_indexOfSupplementary_4cfef_30 : decode cJ2_indexOfSupplementary_4cfef 30 = .ok (.iload_n 3, 1) := by decide +kernel
theorem dJ2_indexOfSupplementary_4cfef_31 : decode cJ2_indexOfSupplementary_4cfef 31 = .ok (.iconst 1, 1) := by decide +kernel
theorem dJ2_indexOfSupplementary_4cfef_32 : decode cJ2_indexOfSupplementary_4cfef 32 = .ok (.isub, 1) := by decide +kernel
theorem dJ2_indexOfSupplementary_4cfef_33 : decode cJ2_indexOfSupplementary_4cfef 33 = .ok (.if_icmp .ge 36, 3) := by decide +kernel
theorem dJ2_indexOfSupplementary_4cfef_36 : decode cJ2_indexOfSupplementary_4cfef 36 = .ok (.aload_n 0, 1) := by decide +kernel
theorem dJ2_indexOfSupplementary_4cfef_37 : decode cJ2_indexOfSupplementary_4cfef 37 = .ok (.iload 6, 2) := by decide +kernel
theorem dJ2_indexOfSupplementary_4cfef_39 : decode cJ2_indexOfSupplementary_4cfef 39 = .ok (.invokestatic 71, 3) := by decide +kernel
theorem dJ2_indexOfSupplementary_4cfef_42 : decode cJ2_indexOfSupplementary_4cfef 42 = .ok (.iload 4, 2) := by decide +kernel
theorem dJ2_indexOfSupplementary_4cfef_44 : decode cJ2_indexOfSupplementary_4cfef 44 = .ok (.if_icmp .ne 19, 3) := by decide +kernel
theorem dJ2_indexOfSupplementary_4cfef_47 : decode cJ2_indexOfSupplementary_4cfef 47 = .ok (.aload_n 0, 1) := by decide +kernel
theorem dJ2_indexOfSupplementary_4cfef_48 : decode cJ2_indexOfSupplementary_4cfef 48 = .ok (.iload 6, 2) := by decide +kernel
theorem dJ2_indexOfSupplementary_4cfef_50 : decode cJ2_indexOfSupplementary_4cfef 50 = .ok (.iconst 1, 1) := by decide +kernel
theorem dJ2_indexOfSupplementary_4cfef_51 : decode cJ2_indexOfSupplementary_4cfef 51 = .ok (.iadd, 1) := by decide +kernel
theorem dJ2_indexOfSupplementary_4cfef_52 : decode cJ2_indexOfSupplementary_4cfef 52 = .ok (.invokestatic 71, 3) := by decide +kernel
theorem dJ2_indexOfSupplementary_4cfef_55 : decode cJ2_indexOfSupplementary_4cfef 55 = .ok (.iload 5, 2) := by decide +kernel
theorem dJ2_indexOfSupplementary_4cfef_57 : decode cJ2_indexOfSupplementary_4cfef 57 = .ok (.if_icmp .ne 6, 3) := by decide +kernel
theorem dJ2_indexOfSupplementary_4cfef_60 : decode cJ2_indexOfSupplementary_4cfef 60 = .ok (.iload 6, 2) := by decide +kernel
theorem dJ2_indexOfSupplementary_4cfef_62 : decode cJ2_indexOfSupplementary_4cfef 62 = .ok (.ireturn, 1) := by decide +kernel
theorem dJ2_indexOfSupplementary_4cfef_63 : decode cJ2_indexOfSupplementary_4cfef 63 = .ok (.iinc 6 1, 3) := by decide +kernel
theorem dJ2_indexOfSupplementary_4cfef_66 : decode cJ2_indexOfSupplementary_4cfef 66 = .ok (.goto (-38), 3) := by decide +kernel
theorem dJ2_indexOfSupplementary_4cfef_69 : decode cJ2_indexOfSupplementary_4cfef 69 = .ok (.iconst (-1), 1) := by decide +kernel
theorem dJ2_indexOfSupplementary_4cfef_70 : decode cJ2_indexOfSupplementary_4cfef 70 = .ok (.ireturn, 1) := by decide +kernel
theorem dJ2_checkBoundsBeginEnd_d044e_0 : decode cJ2_checkBoundsBeginEnd_d044e 0 = .ok (.iload_n 0, 1) := by decide +kernel
theorem dJ2_checkBoundsBeginEnd_d044e_1 : decode cJ2_checkBoundsBeginEnd_d044e 1 = .ok (.iload_n 1, 1) := by decide +kernel
theorem dJ2_checkBoundsBeginEnd_d044e_2 : decode cJ2_checkBoundsBeginEnd_d044e 2 = .ok (.aload_n 2, 1) := by decide +kernel
theorem dJ2_checkBoundsBeginEnd_d044e_3 : decode cJ2_checkBoundsBeginEnd_d044e 3 = .ok (.invokestatic 48, 3) := by decide +kernel
theorem dJ2_checkBoundsBeginEnd_d044e_6 : decode cJ2_checkBoundsBeginEnd_d044e 6 = .ok (.invokestatic 241, 3) := by decide +kernel
theorem dJ2_checkBoundsBeginEnd_d044e_9 : decode cJ2_checkBoundsBeginEnd_d044e 9 = .ok (.return_, 1) := by decide +kernel
theorem dJ3_checkFromToIndex_8c36e_0 : decode cJ3_checkFromToIndex_8c36e 0 = .ok (.iload_n 0, 1) := by decide +kernel
theorem dJ3_checkFromToIndex_8c36e_1 : decode cJ3_checkFromToIndex_8c36e 1 = .ok (.ifCond .lt 13, 3) := by decide +kernel
theorem dJ3_checkFromToIndex_8c36e_4 : decode cJ3_checkFromToIndex_8c36e 4 = .ok (.iload_n 0, 1) := by decide +kernel
theorem dJ3_checkFromToIndex_8c36e_5 : decode cJ3_checkFromToIndex_8c36e 5 = .ok (.iload_n 1, 1) := by decide +kernel
theorem dJ3_checkFromToIndex_8c36e_6 : decode cJ3_checkFromToIndex_8c36e 6 = .ok (.if_icmp .gt 8, 3) := by decide +kernel
theorem dJ3_checkFromToIndex_8c36e_9 : decode cJ3_checkFromToIndex_8c36e 9 = .ok (.iload_n 1, 1) := by decide +kernel
theorem dJ3_checkFromToIndex_8c36e_10 : decode cJ3_checkFromToIndex_8c36e 10 = .ok (.iload_n 2, 1) := by decide +kernel
theorem dJ3_checkFromToIndex_8c36e_11 : decode cJ3_checkFromToIndex_8c36e 11 = .ok (.if_icmp .le 11, 3) := by decide +kernel
theorem dJ3_checkFromToIndex_8c36e_14 : decode cJ3_checkFromToIndex_8c36e 14 = .ok (.aload_n 3, 1) := by decide +kernel
theorem dJ3_checkFromToIndex_8c36e_15 : decode cJ3_checkFromToIndex_8c36e 15 = .ok (.iload_n 0, 1) := by decide +kernel
theorem dJ3_checkFromToIndex_8c36e_16 : decode cJ3_checkFromToIndex_8c36e 16 = .ok (.iload_n 1, 1) := by decide +kernel
theorem dJ3_checkFromToIndex_8c36e_17 : decode cJ3_checkFromToIndex_8c36e 17 = .ok (.iload_n 2, 1) := by decide +kernel
theorem dJ3_checkFromToIndex_8c36e_18 : decode cJ3_checkFromToIndex_8c36e 18 = .ok (.invokestatic 99, 3) := by decide +kernel
theorem dJ3_checkFromToIndex_8c36e_21 : decode cJ3_checkFromToIndex_8c36e 21 = .ok (.athrow, 1) := by decide +kernel
theorem dJ3_checkFromToIndex_8c36e_22 : decode cJ3_checkFromToIndex_8c36e 22 = .ok (.iload_n 0, 1) := by decide +kernel
theorem dJ3_checkFromToIndex_8c36e_23 : decode cJ3_checkFromToIndex_8c36e 23 = .ok (.ireturn, 1) := by decide +kernel
theorem dL_type_0 : decode cL_type 0 = .ok (.aload_n 3, 1) := by decide +kernel
theorem dL_type_1 : decode cL_type 1 = .ok (.iconst 0, 1) := by decide +kernel
theorem dL_type_2 : decode cL_type 2 = .ok (.aload_n 0, 1) := by decide +kernel
theorem dL_type_3 : decode cL_type 3 = .ok (.lload_n 1, 1) := by decide +kernel
theorem dL_type_4 : decode cL_type 4 = .ok (.invokevirtual 7, 3) := by decide +kernel
theorem dL_type_7 : decode cL_type 7 = .ok (.i2l, 1) := by decide +kernel
theorem dL_type_8 : decode cL_type 8 = .ok (.lastore, 1) := by decide +kernel
theorem dL_type_9 : decode cL_type 9 = .ok (.goto 11, 3) := by decide +kernel
theorem dL_type_12 : decode cL_type 12 = .ok (.astore 4, 2) := by decide +kernel
theorem dL_type_14 : decode cL_type 14 = .ok (.iconst 1, 1) := by decide +kernel
theorem dL_type_15 : decode cL_type 15 = .ok (.ireturn, 1) := by decide +kernel
theorem dL_type_16 : decode cL_type 16 = .ok (.astore 4, 2) := by decide +kernel
theorem dL_type_18 : decode cL_type 18 = .ok (.iconst 2, 1) := by decide +kernel
theorem dL_type_19 : decode cL_type 19 = .ok (.ireturn, 1) := by decide +kernel
theorem dL_type_20 : decode cL_type 20 = .ok (.iconst 0, 1) := by decide +kernel
theorem dL_type_21 : decode cL_type 21 = .ok (.ireturn, 1) := by decide +kernel
theorem dL_template_0 : decode cL_template 0 = .ok (.aload_n 2, 1) := by decide +kernel
theorem dL_template_1 : decode cL_template 1 = .ok (.iconst 0, 1) := by decide +kernel
theorem dL_template_2 : decode cL_template 2 = .ok (.aload_n 0, 1) := by decide +kernel
theorem dL_template_3 : decode cL_template 3 = .ok (.iload_n 1, 1) := by decide +kernel
theorem dL_template_4 : decode cL_template 4 = .ok (.invokevirtual 17, 3) := by decide +kernel
theorem dL_template_7 : decode cL_template 7 = .ok (.i2l, 1) := by decide +kernel
theorem dL_template_8 : decode cL_template 8 = .ok (.lastore, 1) := by decide +kernel
theorem dL_template_9 : decode cL_template 9 = .ok (.goto 6, 3) := by decide +kernel
theorem dL_template_12 : decode cL_template 12 = .ok (.astore_n 3, 1) := by decide +kernel
theorem dL_template_13 : decode cL_template 13 = .ok (.iconst 1, 1) := by decide +kernel
theorem dL_template_14 : decode cL_template 14 = .ok (.ireturn, 1) := by decide +kernel
theorem dL_template_15 : decode cL_template 15 = .ok (.iconst 0, 1) := by decide +kernel
theorem dL_template_16 : decode cL_template 16 = .ok (.ireturn, 1) := by decide +kernel
theorem dL_address_0 : decode cL_address 0 = .ok (.aload_n 2, 1) := by decide +kernel
theorem dL_address_1 : decode cL_address 1 = .ok (.iconst 0, 1) := by decide +kernel
theorem dL_address_2 : decode cL_address 2 = .ok (.aload_n 0, 1) := by decide +kernel
theorem dL_address_3 : decode cL_address 3 = .ok (.iload_n 1, 1) := by decide +kernel
theorem dL_address_4 : decode cL_address 4 = .ok (.invokevirtual 23, 3) := by decide +kernel
theorem dL_address_7 : decode cL_address 7 = .ok (.i2l, 1) := by decide +kernel
theorem dL_address_8 : decode cL_address 8 = .ok (.lastore, 1) := by decide +kernel
theorem dL_address_9 : decode cL_address 9 = .ok (.goto 9, 3) := by decide +kernel
theorem dL_address_12 : decode cL_address 12 = .ok (.astore_n 3, 1) := by decide +kernel
theorem dL_address_13 : decode cL_address 13 = .ok (.iconst 1, 1) := by decide +kernel
theorem dL_address_14 : decode cL_address 14 = .ok (.ireturn, 1) := by decide +kernel
theorem dL_address_15 : decode cL_address 15 = .ok (.astore_n 3, 1) := by decide +kernel
theorem dL_address_16 : decode cL_address 16 = .ok (.iconst 2, 1) := by decide +kernel
theorem dL_address_17 : decode cL_address 17 = .ok (.ireturn, 1) := by decide +kernel
theorem dL_address_18 : decode cL_address 18 = .ok (.iconst 0, 1) := by decide +kernel
theorem dL_address_19 : decode cL_address 19 = .ok (.ireturn, 1) := by decide +kernel
theorem dL_cleaned_0 : decode cL_cleaned 0 = .ok (.aload 4, 2) := by decide +kernel
theorem dL_cleaned_2 : decode cL_cleaned 2 = .ok (.iconst 0, 1) := by decide +kernel
theorem dL_cleaned_3 : decode cL_cleaned 3 = .ok (.aload_n 0, 1) := by decide +kernel
theorem dL_cleaned_4 : decode cL_cleaned 4 = .ok (.iload_n 1, 1) := by decide +kernel
theorem dL_cleaned_5 : decode cL_cleaned 5 = .ok (.iload_n 2, 1) := by decide +kernel
theorem dL_cleaned_6 : decode cL_cleaned 6 = .ok (.iload_n 3, 1) := by decide +kernel
theorem dL_cleaned_7 : decode cL_cleaned 7 = .ok (.invokevirtual 26, 3) := by decide +kernel
theorem dL_cleaned_10 : decode cL_cleaned 10 = .ok (.i2l, 1) := by decide +kernel
theorem dL_cleaned_11 : decode cL_cleaned 11 = .ok (.lastore, 1) := by decide +kernel
theorem dL_cleaned_12 : decode cL_cleaned 12 = .ok (.goto 7, 3) := by decide +kernel
theorem dL_cleaned_15 : decode cL_cleaned 15 = .ok (.astore 5, 2) := by decide +kernel
theorem dL_cleaned_17 : decode cL_cleaned 17 = .ok (.iconst 1, 1) := by decide +kernel
theorem dL_cleaned_18 : decode cL_cleaned 18 = .ok (.ireturn, 1) := by decide +kernel
theorem dL_cleaned_19 : decode cL_cleaned 19 = .ok (.iconst 0, 1) := by decide +kernel
theorem dL_cleaned_20 : decode cL_cleaned 20 = .ok (.ireturn, 1) := by decide +kernel
theorem dL_apart_0 : decode cL_apart 0 = .ok (.aload 4, 2) := by decide +kernel
theorem dL_apart_2 : decode cL_apart 2 = .ok (.iconst 0, 1) := by decide +kernel
theorem dL_apart_3 : decode cL_apart 3 = .ok (.aload_n 0, 1) := by decide +kernel
theorem dL_apart_4 : decode cL_apart 4 = .ok (.iload_n 1, 1) := by decide +kernel
theorem dL_apart_5 : decode cL_apart 5 = .ok (.iload_n 2, 1) := by decide +kernel
theorem dL_apart_6 : decode cL_apart 6 = .ok (.iload_n 3, 1) := by decide +kernel
theorem dL_apart_7 : decode cL_apart 7 = .ok (.invokevirtual 30, 3) := by decide +kernel
theorem dL_apart_10 : decode cL_apart 10 = .ok (.i2l, 1) := by decide +kernel
theorem dL_apart_11 : decode cL_apart 11 = .ok (.lastore, 1) := by decide +kernel
theorem dL_apart_12 : decode cL_apart 12 = .ok (.goto 7, 3) := by decide +kernel
theorem dL_apart_15 : decode cL_apart 15 = .ok (.astore 5, 2) := by decide +kernel
theorem dL_apart_17 : decode cL_apart 17 = .ok (.iconst 1, 1) := by decide +kernel
theorem dL_apart_18 : decode cL_apart 18 = .ok (.ireturn, 1) := by decide +kernel
theorem dL_apart_19 : decode cL_apart 19 = .ok (.iconst 0, 1) := by decide +kernel
theorem dL_apart_20 : decode cL_apart 20 = .ok (.ireturn, 1) := by decide +kernel
theorem dL_likeness_0 : decode cL_likeness 0 = .ok (.aload_n 3, 1) := by decide +kernel
theorem dL_likeness_1 : decode cL_likeness 1 = .ok (.iconst 0, 1) := by decide +kernel
theorem dL_likeness_2 : decode cL_likeness 2 = .ok (.aload_n 0, 1) := by decide +kernel
theorem dL_likeness_3 : decode cL_likeness 3 = .ok (.iload_n 1, 1) := by decide +kernel
theorem dL_likeness_4 : decode cL_likeness 4 = .ok (.iload_n 2, 1) := by decide +kernel
theorem dL_likeness_5 : decode cL_likeness 5 = .ok (.invokevirtual 34, 3) := by decide +kernel
theorem dL_likeness_8 : decode cL_likeness 8 = .ok (.i2l, 1) := by decide +kernel
theorem dL_likeness_9 : decode cL_likeness 9 = .ok (.lastore, 1) := by decide +kernel
theorem dL_likeness_10 : decode cL_likeness 10 = .ok (.goto 7, 3) := by decide +kernel
theorem dL_likeness_13 : decode cL_likeness 13 = .ok (.astore 4, 2) := by decide +kernel
theorem dL_likeness_15 : decode cL_likeness 15 = .ok (.iconst 1, 1) := by decide +kernel
theorem dL_likeness_16 : decode cL_likeness 16 = .ok (.ireturn, 1) := by decide +kernel
theorem dL_likeness_17 : decode cL_likeness 17 = .ok (.iconst 0, 1) := by decide +kernel
theorem dL_likeness_18 : decode cL_likeness 18 = .ok (.ireturn, 1) := by decide +kernel
theorem dL_pairs_0 : decode cL_pairs 0 = .ok (.aload_n 2, 1) := by decide +kernel
theorem dL_pairs_1 : decode cL_pairs 1 = .ok (.iconst 0, 1) := by decide +kernel
theorem dL_pairs_2 : decode cL_pairs 2 = .ok (.aload_n 0, 1) := by decide +kernel
theorem dL_pairs_3 : decode cL_pairs 3 = .ok (.iload_n 1, 1) := by decide +kernel
theorem dL_pairs_4 : decode cL_pairs 4 = .ok (.invokevirtual 38, 3) := by decide +kernel
theorem dL_pairs_7 : decode cL_pairs 7 = .ok (.i2l, 1) := by decide +kernel
theorem dL_pairs_8 : decode cL_pairs 8 = .ok (.lastore, 1) := by decide +kernel
theorem dL_pairs_9 : decode cL_pairs 9 = .ok (.goto 6, 3) := by decide +kernel
theorem dL_pairs_12 : decode cL_pairs 12 = .ok (.astore_n 3, 1) := by decide +kernel
theorem dL_pairs_13 : decode cL_pairs 13 = .ok (.iconst 1, 1) := by decide +kernel
theorem dL_pairs_14 : decode cL_pairs 14 = .ok (.ireturn, 1) := by decide +kernel
theorem dL_pairs_15 : decode cL_pairs 15 = .ok (.iconst 0, 1) := by decide +kernel
theorem dL_pairs_16 : decode cL_pairs 16 = .ok (.ireturn, 1) := by decide +kernel
theorem dL_match_0 : decode cL_match 0 = .ok (.aload_n 3, 1) := by decide +kernel
theorem dL_match_1 : decode cL_match 1 = .ok (.iconst 0, 1) := by decide +kernel
theorem dL_match_2 : decode cL_match 2 = .ok (.aload_n 0, 1) := by decide +kernel
theorem dL_match_3 : decode cL_match 3 = .ok (.iload_n 1, 1) := by decide +kernel
theorem dL_match_4 : decode cL_match 4 = .ok (.iload_n 2, 1) := by decide +kernel
theorem dL_match_5 : decode cL_match 5 = .ok (.invokevirtual 41, 3) := by decide +kernel
theorem dL_match_8 : decode cL_match 8 = .ok (.ifCond .eq 7, 3) := by decide +kernel
theorem dL_match_11 : decode cL_match 11 = .ok (.lconst 1, 1) := by decide +kernel
theorem dL_match_12 : decode cL_match 12 = .ok (.goto 4, 3) := by decide +kernel
theorem dL_match_15 : decode cL_match 15 = .ok (.lconst 0, 1) := by decide +kernel
theorem dL_match_16 : decode cL_match 16 = .ok (.lastore, 1) := by decide +kernel
theorem dL_match_17 : decode cL_match 17 = .ok (.goto 11, 3) := by decide +kernel
theorem dL_match_20 : decode cL_match 20 = .ok (.astore 4, 2) := by decide +kernel
theorem dL_match_22 : decode cL_match 22 = .ok (.iconst 1, 1) := by decide +kernel
theorem dL_match_23 : decode cL_match 23 = .ok (.ireturn, 1) := by decide +kernel
theorem dL_match_24 : decode cL_match 24 = .ok (.astore 4, 2) := by decide +kernel
theorem dL_match_26 : decode cL_match 26 = .ok (.iconst 2, 1) := by decide +kernel
theorem dL_match_27 : decode cL_match 27 = .ok (.ireturn, 1) := by decide +kernel
theorem dL_match_28 : decode cL_match 28 = .ok (.iconst 0, 1) := by decide +kernel
theorem dL_match_29 : decode cL_match 29 = .ok (.ireturn, 1) := by decide +kernel
theorem dL_group_0 : decode cL_group 0 = .ok (.aload_n 2, 1) := by decide +kernel
theorem dL_group_1 : decode cL_group 1 = .ok (.iconst 0, 1) := by decide +kernel
theorem dL_group_2 : decode cL_group 2 = .ok (.aload_n 0, 1) := by decide +kernel
theorem dL_group_3 : decode cL_group 3 = .ok (.iload_n 1, 1) := by decide +kernel
theorem dL_group_4 : decode cL_group 4 = .ok (.invokevirtual 45, 3) := by decide +kernel
theorem dL_group_7 : decode cL_group 7 = .ok (.i2l, 1) := by decide +kernel
theorem dL_group_8 : decode cL_group 8 = .ok (.lastore, 1) := by decide +kernel
theorem dL_group_9 : decode cL_group 9 = .ok (.goto 6, 3) := by decide +kernel
theorem dL_group_12 : decode cL_group 12 = .ok (.astore_n 3, 1) := by decide +kernel
theorem dL_group_13 : decode cL_group 13 = .ok (.iconst 1, 1) := by decide +kernel
theorem dL_group_14 : decode cL_group 14 = .ok (.ireturn, 1) := by decide +kernel
theorem dL_group_15 : decode cL_group 15 = .ok (.iconst 0, 1) := by decide +kernel
theorem dL_group_16 : decode cL_group 16 = .ok (.ireturn, 1) := by decide +kernel
theorem dL_franking_0 : decode cL_franking 0 = .ok (.aload_n 3, 1) := by decide +kernel
theorem dL_franking_1 : decode cL_franking 1 = .ok (.iconst 0, 1) := by decide +kernel
theorem dL_franking_2 : decode cL_franking 2 = .ok (.aload_n 0, 1) := by decide +kernel
theorem dL_franking_3 : decode cL_franking 3 = .ok (.iload_n 1, 1) := by decide +kernel
theorem dL_franking_4 : decode cL_franking 4 = .ok (.iload_n 2, 1) := by decide +kernel
theorem dL_franking_5 : decode cL_franking 5 = .ok (.invokevirtual 48, 3) := by decide +kernel
theorem dL_franking_8 : decode cL_franking 8 = .ok (.i2l, 1) := by decide +kernel
theorem dL_franking_9 : decode cL_franking 9 = .ok (.lastore, 1) := by decide +kernel
theorem dL_franking_10 : decode cL_franking 10 = .ok (.goto 7, 3) := by decide +kernel
theorem dL_franking_13 : decode cL_franking 13 = .ok (.astore 4, 2) := by decide +kernel
theorem dL_franking_15 : decode cL_franking 15 = .ok (.iconst 1, 1) := by decide +kernel
theorem dL_franking_16 : decode cL_franking 16 = .ok (.ireturn, 1) := by decide +kernel
theorem dL_franking_17 : decode cL_franking 17 = .ok (.iconst 0, 1) := by decide +kernel
theorem dL_franking_18 : decode cL_franking 18 = .ok (.ireturn, 1) := by decide +kernel
theorem dL_run_0 : decode cL_run 0 = .ok (.aload_n 3, 1) := by decide +kernel
theorem dL_run_1 : decode cL_run 1 = .ok (.iconst 0, 1) := by decide +kernel
theorem dL_run_2 : decode cL_run 2 = .ok (.aload_n 0, 1) := by decide +kernel
theorem dL_run_3 : decode cL_run 3 = .ok (.iload_n 1, 1) := by decide +kernel
theorem dL_run_4 : decode cL_run 4 = .ok (.iload_n 2, 1) := by decide +kernel
theorem dL_run_5 : decode cL_run 5 = .ok (.invokevirtual 51, 3) := by decide +kernel
theorem dL_run_8 : decode cL_run 8 = .ok (.i2l, 1) := by decide +kernel
theorem dL_run_9 : decode cL_run 9 = .ok (.lastore, 1) := by decide +kernel
theorem dL_run_10 : decode cL_run 10 = .ok (.goto 15, 3) := by decide +kernel
theorem dL_run_13 : decode cL_run 13 = .ok (.astore 4, 2) := by decide +kernel
theorem dL_run_15 : decode cL_run 15 = .ok (.iconst 1, 1) := by decide +kernel
theorem dL_run_16 : decode cL_run 16 = .ok (.ireturn, 1) := by decide +kernel
theorem dL_run_17 : decode cL_run 17 = .ok (.astore 4, 2) := by decide +kernel
theorem dL_run_19 : decode cL_run 19 = .ok (.iconst 2, 1) := by decide +kernel
theorem dL_run_20 : decode cL_run 20 = .ok (.ireturn, 1) := by decide +kernel
theorem dL_run_21 : decode cL_run 21 = .ok (.astore 4, 2) := by decide +kernel
theorem dL_run_23 : decode cL_run 23 = .ok (.iconst 3, 1) := by decide +kernel
theorem dL_run_24 : decode cL_run 24 = .ok (.ireturn, 1) := by decide +kernel
theorem dL_run_25 : decode cL_run 25 = .ok (.iconst 0, 1) := by decide +kernel
theorem dL_run_26 : decode cL_run 26 = .ok (.ireturn, 1) := by decide +kernel
theorem dL_letters_0 : decode cL_letters 0 = .ok (.aload_n 2, 1) := by decide +kernel
theorem dL_letters_1 : decode cL_letters 1 = .ok (.iconst 0, 1) := by decide +kernel
theorem dL_letters_2 : decode cL_letters 2 = .ok (.aload_n 0, 1) := by decide +kernel
theorem dL_letters_3 : decode cL_letters 3 = .ok (.iload_n 1, 1) := by decide +kernel
theorem dL_letters_4 : decode cL_letters 4 = .ok (.invokevirtual 54, 3) := by decide +kernel
theorem dL_letters_7 : decode cL_letters 7 = .ok (.i2l, 1) := by decide +kernel
theorem dL_letters_8 : decode cL_letters 8 = .ok (.lastore, 1) := by decide +kernel
theorem dL_letters_9 : decode cL_letters 9 = .ok (.goto 6, 3) := by decide +kernel
theorem dL_letters_12 : decode cL_letters 12 = .ok (.astore_n 3, 1) := by decide +kernel
theorem dL_letters_13 : decode cL_letters 13 = .ok (.iconst 1, 1) := by decide +kernel
theorem dL_letters_14 : decode cL_letters 14 = .ok (.ireturn, 1) := by decide +kernel
theorem dL_letters_15 : decode cL_letters 15 = .ok (.iconst 0, 1) := by decide +kernel
theorem dL_letters_16 : decode cL_letters 16 = .ok (.ireturn, 1) := by decide +kernel
theorem dL_letter_0 : decode cL_letter 0 = .ok (.aload 4, 2) := by decide +kernel
theorem dL_letter_2 : decode cL_letter 2 = .ok (.iconst 0, 1) := by decide +kernel
theorem dL_letter_3 : decode cL_letter 3 = .ok (.aload_n 0, 1) := by decide +kernel
theorem dL_letter_4 : decode cL_letter 4 = .ok (.iload_n 1, 1) := by decide +kernel
theorem dL_letter_5 : decode cL_letter 5 = .ok (.iload_n 2, 1) := by decide +kernel
theorem dL_letter_6 : decode cL_letter 6 = .ok (.iload_n 3, 1) := by decide +kernel
theorem dL_letter_7 : decode cL_letter 7 = .ok (.invokevirtual 57, 3) := by decide +kernel
theorem dL_letter_10 : decode cL_letter 10 = .ok (.i2l, 1) := by decide +kernel
theorem dL_letter_11 : decode cL_letter 11 = .ok (.lastore, 1) := by decide +kernel
theorem dL_letter_12 : decode cL_letter 12 = .ok (.goto 11, 3) := by decide +kernel
theorem dL_letter_15 : decode cL_letter 15 = .ok (.astore 5, 2) := by decide +kernel
theorem dL_letter_17 : decode cL_letter 17 = .ok (.iconst 1, 1) := by decide +kernel
theorem dL_letter_18 : decode cL_letter 18 = .ok (.ireturn, 1) := by decide +kernel
theorem dL_letter_19 : decode cL_letter 19 = .ok (.astore 5, 2) := by decide +kernel
theorem dL_letter_21 : decode cL_letter 21 = .ok (.iconst 2, 1) := by decide +kernel
theorem dL_letter_22 : decode cL_letter 22 = .ok (.ireturn, 1) := by decide +kernel
theorem dL_letter_23 : decode cL_letter 23 = .ok (.iconst 0, 1) := by decide +kernel
theorem dL_letter_24 : decode cL_letter 24 = .ok (.ireturn, 1) := by decide +kernel
theorem dL_sign_0 : decode cL_sign 0 = .ok (.aload 4, 2) := by decide +kernel
theorem dL_sign_2 : decode cL_sign 2 = .ok (.iconst 0, 1) := by decide +kernel
theorem dL_sign_3 : decode cL_sign 3 = .ok (.aload_n 0, 1) := by decide +kernel
theorem dL_sign_4 : decode cL_sign 4 = .ok (.iload_n 1, 1) := by decide +kernel
theorem dL_sign_5 : decode cL_sign 5 = .ok (.iload_n 2, 1) := by decide +kernel
theorem dL_sign_6 : decode cL_sign 6 = .ok (.iload_n 3, 1) := by decide +kernel
theorem dL_sign_7 : decode cL_sign 7 = .ok (.invokevirtual 61, 3) := by decide +kernel
theorem dL_sign_10 : decode cL_sign 10 = .ok (.i2l, 1) := by decide +kernel
theorem dL_sign_11 : decode cL_sign 11 = .ok (.lastore, 1) := by decide +kernel
theorem dL_sign_12 : decode cL_sign 12 = .ok (.goto 7, 3) := by decide +kernel
theorem dL_sign_15 : decode cL_sign 15 = .ok (.astore 5, 2) := by decide +kernel
theorem dL_sign_17 : decode cL_sign 17 = .ok (.iconst 1, 1) := by decide +kernel
theorem dL_sign_18 : decode cL_sign 18 = .ok (.ireturn, 1) := by decide +kernel
theorem dL_sign_19 : decode cL_sign 19 = .ok (.iconst 0, 1) := by decide +kernel
theorem dL_sign_20 : decode cL_sign 20 = .ok (.ireturn, 1) := by decide +kernel
theorem dL_anew_0 : decode cL_anew 0 = .ok (.aload_n 3, 1) := by decide +kernel
theorem dL_anew_1 : decode cL_anew 1 = .ok (.iconst 0, 1) := by decide +kernel
theorem dL_anew_2 : decode cL_anew 2 = .ok (.aload_n 0, 1) := by decide +kernel
theorem dL_anew_3 : decode cL_anew 3 = .ok (.iload_n 1, 1) := by decide +kernel
theorem dL_anew_4 : decode cL_anew 4 = .ok (.iload_n 2, 1) := by decide +kernel
theorem dL_anew_5 : decode cL_anew 5 = .ok (.invokevirtual 65, 3) := by decide +kernel
theorem dL_anew_8 : decode cL_anew 8 = .ok (.i2l, 1) := by decide +kernel
theorem dL_anew_9 : decode cL_anew 9 = .ok (.lastore, 1) := by decide +kernel
theorem dL_anew_10 : decode cL_anew 10 = .ok (.goto 7, 3) := by decide +kernel
theorem dL_anew_13 : decode cL_anew 13 = .ok (.astore 4, 2) := by decide +kernel
theorem dL_anew_15 : decode cL_anew 15 = .ok (.iconst 1, 1) := by decide +kernel
theorem dL_anew_16 : decode cL_anew 16 = .ok (.ireturn, 1) := by decide +kernel
theorem dL_anew_17 : decode cL_anew 17 = .ok (.iconst 0, 1) := by decide +kernel
theorem dL_anew_18 : decode cL_anew 18 = .ok (.ireturn, 1) := by decide +kernel
theorem dL_trouble_0 : decode cL_trouble 0 = .ok (.aload 5, 2) := by decide +kernel
theorem dL_trouble_2 : decode cL_trouble 2 = .ok (.iconst 0, 1) := by decide +kernel
theorem dL_trouble_3 : decode cL_trouble 3 = .ok (.aload_n 0, 1) := by decide +kernel
theorem dL_trouble_4 : decode cL_trouble 4 = .ok (.iload_n 1, 1) := by decide +kernel
theorem dL_trouble_5 : decode cL_trouble 5 = .ok (.iload_n 2, 1) := by decide +kernel
theorem dL_trouble_6 : decode cL_trouble 6 = .ok (.iload_n 3, 1) := by decide +kernel
theorem dL_trouble_7 : decode cL_trouble 7 = .ok (.iload 4, 2) := by decide +kernel
theorem dL_trouble_9 : decode cL_trouble 9 = .ok (.invokevirtual 68, 3) := by decide +kernel
theorem dL_trouble_12 : decode cL_trouble 12 = .ok (.i2l, 1) := by decide +kernel
theorem dL_trouble_13 : decode cL_trouble 13 = .ok (.lastore, 1) := by decide +kernel
theorem dL_trouble_14 : decode cL_trouble 14 = .ok (.goto 7, 3) := by decide +kernel
theorem dL_trouble_17 : decode cL_trouble 17 = .ok (.astore 6, 2) := by decide +kernel
theorem dL_trouble_19 : decode cL_trouble 19 = .ok (.iconst 1, 1) := by decide +kernel
theorem dL_trouble_20 : decode cL_trouble 20 = .ok (.ireturn, 1) := by decide +kernel
theorem dL_trouble_21 : decode cL_trouble 21 = .ok (.iconst 0, 1) := by decide +kernel
theorem dL_trouble_22 : decode cL_trouble 22 = .ok (.ireturn, 1) := by decide +kernel
theorem dL_post_0 : decode cL_post 0 = .ok (.aload_n 2, 1) := by decide +kernel
theorem dL_post_1 : decode cL_post 1 = .ok (.iconst 0, 1) := by decide +kernel
theorem dL_post_2 : decode cL_post 2 = .ok (.aload_n 0, 1) := by decide +kernel
theorem dL_post_3 : decode cL_post 3 = .ok (.iload_n 1, 1) := by decide +kernel
theorem dL_post_4 : decode cL_post 4 = .ok (.invokevirtual 72, 3) := by decide +kernel
theorem dL_post_7 : decode cL_post 7 = .ok (.i2l, 1) := by decide +kernel
theorem dL_post_8 : decode cL_post 8 = .ok (.lastore, 1) := by decide +kernel
theorem dL_post_9 : decode cL_post 9 = .ok (.goto 9, 3) := by decide +kernel
theorem dL_post_12 : decode cL_post 12 = .ok (.astore_n 3, 1) := by decide +kernel
theorem dL_post_13 : decode cL_post 13 = .ok (.iconst 1, 1) := by decide +kernel
theorem dL_post_14 : decode cL_post 14 = .ok (.ireturn, 1) := by decide +kernel
theorem dL_post_15 : decode cL_post 15 = .ok (.astore_n 3, 1) := by decide +kernel
theorem dL_post_16 : decode cL_post 16 = .ok (.iconst 2, 1) := by decide +kernel
theorem dL_post_17 : decode cL_post 17 = .ok (.ireturn, 1) := by decide +kernel
theorem dL_post_18 : decode cL_post 18 = .ok (.iconst 0, 1) := by decide +kernel
theorem dL_post_19 : decode cL_post 19 = .ok (.ireturn, 1) := by decide +kernel
theorem dL_reasons_0 : decode cL_reasons 0 = .ok (.aload_n 2, 1) := by decide +kernel
theorem dL_reasons_1 : decode cL_reasons 1 = .ok (.iconst 0, 1) := by decide +kernel
theorem dL_reasons_2 : decode cL_reasons 2 = .ok (.aload_n 0, 1) := by decide +kernel
theorem dL_reasons_3 : decode cL_reasons 3 = .ok (.iload_n 1, 1) := by decide +kernel
theorem dL_reasons_4 : decode cL_reasons 4 = .ok (.invokevirtual 75, 3) := by decide +kernel
theorem dL_reasons_7 : decode cL_reasons 7 = .ok (.i2l, 1) := by decide +kernel
theorem dL_reasons_8 : decode cL_reasons 8 = .ok (.lastore, 1) := by decide +kernel
theorem dL_reasons_9 : decode cL_reasons 9 = .ok (.goto 6, 3) := by decide +kernel
theorem dL_reasons_12 : decode cL_reasons 12 = .ok (.astore_n 3, 1) := by decide +kernel
theorem dL_reasons_13 : decode cL_reasons 13 = .ok (.iconst 1, 1) := by decide +kernel
theorem dL_reasons_14 : decode cL_reasons 14 = .ok (.ireturn, 1) := by decide +kernel
theorem dL_reasons_15 : decode cL_reasons 15 = .ok (.iconst 0, 1) := by decide +kernel
theorem dL_reasons_16 : decode cL_reasons 16 = .ok (.ireturn, 1) := by decide +kernel
theorem dL_law_0 : decode cL_law 0 = .ok (.new 8, 3) := by decide +kernel
theorem dL_law_3 : decode cL_law 3 = .ok (.dup, 1) := by decide +kernel
theorem dL_law_4 : decode cL_law 4 = .ok (.invokespecial 78, 3) := by decide +kernel
theorem dL_law_7 : decode cL_law 7 = .ok (.astore_n 1, 1) := by decide +kernel
theorem dL_law_8 : decode cL_law 8 = .ok (.new 79, 3) := by decide +kernel
theorem dL_law_11 : decode cL_law 11 = .ok (.dup, 1) := by decide +kernel
theorem dL_law_12 : decode cL_law 12 = .ok (.invokespecial 81, 3) := by decide +kernel
theorem dL_law_15 : decode cL_law 15 = .ok (.astore_n 2, 1) := by decide +kernel
theorem dL_law_16 : decode cL_law 16 = .ok (.iconst 1, 1) := by decide +kernel
theorem dL_law_17 : decode cL_law 17 = .ok (.newarray .long, 2) := by decide +kernel
theorem dL_law_19 : decode cL_law 19 = .ok (.astore_n 3, 1) := by decide +kernel
theorem dL_law_20 : decode cL_law 20 = .ok (.iconst 0, 1) := by decide +kernel
theorem dL_law_21 : decode cL_law 21 = .ok (.istore 4, 2) := by decide +kernel
theorem dL_law_23 : decode cL_law 23 = .ok (.iload 4, 2) := by decide +kernel
theorem dL_law_25 : decode cL_law 25 = .ok (.aload_n 0, 1) := by decide +kernel
theorem dL_law_26 : decode cL_law 26 = .ok (.arraylength, 1) := by decide +kernel
theorem dL_law_27 : decode cL_law 27 = .ok (.iconst 5, 1) := by decide +kernel
theorem dL_law_28 : decode cL_law 28 = .ok (.isub, 1) := by decide +kernel
theorem dL_law_29 : decode cL_law 29 = .ok (.if_icmp .gt 1422, 3) := by decide +kernel
theorem dL_law_32 : decode cL_law 32 = .ok (.aload_n 0, 1) := by decide +kernel
theorem dL_law_33 : decode cL_law 33 = .ok (.iload 4, 2) := by decide +kernel
theorem dL_law_35 : decode cL_law 35 = .ok (.iaload, 1) := by decide +kernel
theorem dL_law_36 : decode cL_law 36 = .ok (.bipush 31, 2) := by decide +kernel
theorem dL_law_38 : decode cL_law 38 = .ok (.iand, 1) := by decide +kernel
theorem dL_law_39 : decode cL_law 39 = .ok (.tableswitch 1406 0 19 #[93, 181, 237, 293, 306, 402, 498, 566, 622, 697, 753, 821, 889, 945, 1025, 1105, 1173, 1281, 1337, 1350], 93) := by decide +kernel
theorem dL_law_132 : decode cL_law 132 = .ok (.aload_n 1, 1) := by decide +kernel
theorem dL_law_133 : decode cL_law 133 = .ok (.aload_n 0, 1) := by decide +kernel
theorem dL_law_134 : decode cL_law 134 = .ok (.iload 4, 2) := by decide +kernel
theorem dL_law_136 : decode cL_law 136 = .ok (.iconst 1, 1) := by decide +kernel
theorem dL_law_137 : decode cL_law 137 = .ok (.iadd, 1) := by decide +kernel
theorem dL_law_138 : decode cL_law 138 = .ok (.iaload, 1) := by decide +kernel
theorem dL_law_139 : decode cL_law 139 = .ok (.i2l, 1) := by decide +kernel
theorem dL_law_140 : decode cL_law 140 = .ok (.bipush 32, 2) := by decide +kernel
theorem dL_law_142 : decode cL_law 142 = .ok (.lshl, 1) := by decide +kernel
theorem dL_law_143 : decode cL_law 143 = .ok (.aload_n 0, 1) := by decide +kernel
theorem dL_law_144 : decode cL_law 144 = .ok (.iload 4, 2) := by decide +kernel
theorem dL_law_146 : decode cL_law 146 = .ok (.iconst 2, 1) := by decide +kernel
theorem dL_law_147 : decode cL_law 147 = .ok (.iadd, 1) := by decide +kernel
theorem dL_law_148 : decode cL_law 148 = .ok (.iaload, 1) := by decide +kernel
theorem dL_law_149 : decode cL_law 149 = .ok (.i2l, 1) := by decide +kernel
theorem dL_law_150 : decode cL_law 150 = .ok (.ldc2_w 82, 3) := by decide +kernel
theorem dL_law_153 : decode cL_law 153 = .ok (.land, 1) := by decide +kernel
theorem dL_law_154 : decode cL_law 154 = .ok (.lor, 1) := by decide +kernel
theorem dL_law_155 : decode cL_law 155 = .ok (.aload_n 3, 1) := by decide +kernel
theorem dL_law_156 : decode cL_law 156 = .ok (.invokestatic 84, 3) := by decide +kernel
theorem dL_law_159 : decode cL_law 159 = .ok (.istore 5, 2) := by decide +kernel
theorem dL_law_161 : decode cL_law 161 = .ok (.aload_n 2, 1) := by decide +kernel
theorem dL_law_162 : decode cL_law 162 = .ok (.aload_n 0, 1) := by decide +kernel
theorem dL_law_163 : decode cL_law 163 = .ok (.iload 4, 2) := by decide +kernel
theorem dL_law_165 : decode cL_law 165 = .ok (.iconst 1, 1) := by decide +kernel
theorem dL_law_166 : decode cL_law 166 = .ok (.iadd, 1) := by decide +kernel
theorem dL_law_167 : decode cL_law 167 = .ok (.iaload, 1) := by decide +kernel
theorem dL_law_168 : decode cL_law 168 = .ok (.i2l, 1) := by decide +kernel
theorem dL_law_169 : decode cL_law 169 = .ok (.bipush 32, 2) := by decide +kernel
theorem dL_law_171 : decode cL_law 171 = .ok (.lshl, 1) := by decide +kernel
theorem dL_law_172 : decode cL_law 172 = .ok (.aload_n 0, 1) := by decide +kernel
theorem dL_law_173 : decode cL_law 173 = .ok (.iload 4, 2) := by decide +kernel
theorem dL_law_175 : decode cL_law 175 = .ok (.iconst 2, 1) := by decide +kernel
theorem dL_law_176 : decode cL_law 176 = .ok (.iadd, 1) := by decide +kernel
theorem dL_law_177 : decode cL_law 177 = .ok (.iaload, 1) := by decide +kernel
theorem dL_law_178 : decode cL_law 178 = .ok (.i2l, 1) := by decide +kernel
theorem dL_law_179 : decode cL_law 179 = .ok (.ldc2_w 82, 3) := by decide +kernel
theorem dL_law_182 : decode cL_law 182 = .ok (.land, 1) := by decide +kernel
theorem dL_law_183 : decode cL_law 183 = .ok (.lor, 1) := by decide +kernel
theorem dL_law_184 : decode cL_law 184 = .ok (.invokevirtual 89, 3) := by decide +kernel
theorem dL_law_187 : decode cL_law 187 = .ok (.istore 6, 2) := by decide +kernel
theorem dL_law_189 : decode cL_law 189 = .ok (.aload_n 2, 1) := by decide +kernel
theorem dL_law_190 : decode cL_law 190 = .ok (.invokevirtual 90, 3) := by decide +kernel
theorem dL_law_193 : decode cL_law 193 = .ok (.iload 5, 2) := by decide +kernel
theorem dL_law_195 : decode cL_law 195 = .ok (.if_icmp .eq 5, 3) := by decide +kernel
theorem dL_law_198 : decode cL_law 198 = .ok (.iconst 0, 1) := by decide +kernel
theorem dL_law_199 : decode cL_law 199 = .ok (.ireturn, 1) := by decide +kernel
theorem dL_law_200 : decode cL_law 200 = .ok (.iload 5, 2) := by decide +kernel
theorem dL_law_202 : decode cL_law 202 = .ok (.ifCond .ne 15, 3) := by decide +kernel
theorem dL_law_205 : decode cL_law 205 = .ok (.aload_n 3, 1) := by decide +kernel
theorem dL_law_206 : decode cL_law 206 = .ok (.iconst 0, 1) := by decide +kernel
theorem dL_law_207 : decode cL_law 207 = .ok (.laload, 1) := by decide +kernel
theorem dL_law_208 : decode cL_law 208 = .ok (.iload 6, 2) := by decide +kernel
theorem dL_law_210 : decode cL_law 210 = .ok (.i2l, 1) := by decide +kernel
theorem dL_law_211 : decode cL_law 211 = .ok (.lcmp, 1) := by decide +kernel
theorem dL_law_212 : decode cL_law 212 = .ok (.ifCond .eq 5, 3) := by decide +kernel
theorem dL_law_215 : decode cL_law 215 = .ok (.iconst 0, 1) := by decide +kernel
theorem dL_law_216 : decode cL_law 216 = .ok (.ireturn, 1) := by decide +kernel
theorem dL_law_217 : decode cL_law 217 = .ok (.goto 1228, 3) := by decide +kernel
theorem dL_law_220 : decode cL_law 220 = .ok (.aload_n 1, 1) := by decide +kernel
theorem dL_law_221 : decode cL_law 221 = .ok (.aload_n 0, 1) := by decide +kernel
theorem dL_law_222 : decode cL_law 222 = .ok (.iload 4, 2) := by decide +kernel
theorem dL_law_224 : decode cL_law 224 = .ok (.iconst 1, 1) := by decide +kernel
theorem dL_law_225 : decode cL_law 225 = .ok (.iadd, 1) := by decide +kernel
theorem dL_law_226 : decode cL_law 226 = .ok (.iaload, 1) := by decide +kernel
theorem dL_law_227 : decode cL_law 227 = .ok (.aload_n 3, 1) := by decide +kernel
theorem dL_law_228 : decode cL_law 228 = .ok (.invokestatic 94, 3) := by decide +kernel
theorem dL_law_231 : decode cL_law 231 = .ok (.istore 5, 2) := by decide +kernel
theorem dL_law_233 : decode cL_law 233 = .ok (.aload_n 2, 1) := by decide +kernel
theorem dL_law_234 : decode cL_law 234 = .ok (.aload_n 0, 1) := by decide +kernel
theorem dL_law_235 : decode cL_law 235 = .ok (.iload 4, 2) := by decide +kernel
theorem dL_law_237 : decode cL_law 237 = .ok (.iconst 1, 1) := by decide +kernel
theorem dL_law_238 : decode cL_law 238 = .ok (.iadd, 1) := by decide +kernel
theorem dL_law_239 : decode cL_law 239 = .ok (.iaload, 1) := by decide +kernel
theorem dL_law_240 : decode cL_law 240 = .ok (.invokevirtual 97, 3) := by decide +kernel
theorem dL_law_243 : decode cL_law 243 = .ok (.istore 6, 2) := by decide +kernel
theorem dL_law_245 : decode cL_law 245 = .ok (.aload_n 2, 1) := by decide +kernel
theorem dL_law_246 : decode cL_law 246 = .ok (.invokevirtual 90, 3) := by decide +kernel
theorem dL_law_249 : decode cL_law 249 = .ok (.iload 5, 2) := by decide +kernel
theorem dL_law_251 : decode cL_law 251 = .ok (.if_icmp .eq 5, 3) := by decide +kernel
theorem dL_law_254 : decode cL_law 254 = .ok (.iconst 0, 1) := by decide +kernel
theorem dL_law_255 : decode cL_law 255 = .ok (.ireturn, 1) := by decide +kernel
theorem dL_law_256 : decode cL_law 256 = .ok (.iload 5, 2) := by decide +kernel
theorem dL_law_258 : decode cL_law 258 = .ok (.ifCond .ne 15, 3) := by decide +kernel
theorem dL_law_261 : decode cL_law 261 = .ok (.aload_n 3, 1) := by decide +kernel
theorem dL_law_262 : decode cL_law 262 = .ok (.iconst 0, 1) := by decide +kernel
theorem dL_law_263 : decode cL_law 263 = .ok (.laload, 1) := by decide +kernel
theorem dL_law_264 : decode cL_law 264 = .ok (.iload 6, 2) := by decide +kernel
theorem dL_law_266 : decode cL_law 266 = .ok (.i2l, 1) := by decide +kernel
theorem dL_law_267 : decode cL_law 267 = .ok (.lcmp, 1) := by decide +kernel
theorem dL_law_268 : decode cL_law 268 = .ok (.ifCond .eq 5, 3) := by decide +kernel
theorem dL_law_271 : decode cL_law 271 = .ok (.iconst 0, 1) := by decide +kernel
theorem dL_law_272 : decode cL_law 272 = .ok (.ireturn, 1) := by decide +kernel
theorem dL_law_273 : decode cL_law 273 = .ok (.goto 1172, 3) := by decide +kernel
theorem dL_law_276 : decode cL_law 276 = .ok (.aload_n 1, 1) := by decide +kernel
theorem dL_law_277 : decode cL_law 277 = .ok (.aload_n 0, 1) := by decide +kernel
theorem dL_law_278 : decode cL_law 278 = .ok (.iload 4, 2) := by decide +kernel
theorem dL_law_280 : decode cL_law 280 = .ok (.iconst 1, 1) := by decide +kernel
theorem dL_law_281 : decode cL_law 281 = .ok (.iadd, 1) := by decide +kernel
theorem dL_law_282 : decode cL_law 282 = .ok (.iaload, 1) := by decide +kernel
theorem dL_law_283 : decode cL_law 283 = .ok (.aload_n 3, 1) := by decide +kernel
theorem dL_law_284 : decode cL_law 284 = .ok (.invokestatic 98, 3) := by decide +kernel
theorem dL_law_287 : decode cL_law 287 = .ok (.istore 5, 2) := by decide +kernel
theorem dL_law_289 : decode cL_law 289 = .ok (.aload_n 2, 1) := by decide +kernel
theorem dL_law_290 : decode cL_law 290 = .ok (.aload_n 0, 1) := by decide +kernel
theorem dL_law_291 : decode cL_law 291 = .ok (.iload 4, 2) := by decide +kernel
theorem dL_law_293 : decode cL_law 293 = .ok (.iconst 1, 1) := by decide +kernel
theorem dL_law_294 : decode cL_law 294 = .ok (.iadd, 1) := by decide +kernel
theorem dL_law_295 : decode cL_law 295 = .ok (.iaload, 1) := by decide +kernel
theorem dL_law_296 : decode cL_law 296 = .ok (.invokevirtual 100, 3) := by decide +kernel
theorem dL_law_299 : decode cL_law 299 = .ok (.istore 6, 2) := by decide +kernel
theorem dL_law_301 : decode cL_law 301 = .ok (.aload_n 2, 1) := by decide +kernel
theorem dL_law_302 : decode cL_law 302 = .ok (.invokevirtual 90, 3) := by decide +kernel
theorem dL_law_305 : decode cL_law 305 = .ok (.iload 5, 2) := by decide +kernel
theorem dL_law_307 : decode cL_law 307 = .ok (.if_icmp .eq 5, 3) := by decide +kernel
theorem dL_law_310 : decode cL_law 310 = .ok (.iconst 0, 1) := by decide +kernel
theorem dL_law_311 : decode cL_law 311 = .ok (.ireturn, 1) := by decide +kernel
theorem dL_law_312 : decode cL_law 312 = .ok (.iload 5, 2) := by decide +kernel
theorem dL_law_314 : decode cL_law 314 = .ok (.ifCond .ne 15, 3) := by decide +kernel
theorem dL_law_317 : decode cL_law 317 = .ok (.aload_n 3, 1) := by decide +kernel
theorem dL_law_318 : decode cL_law 318 = .ok (.iconst 0, 1) := by decide +kernel
theorem dL_law_319 : decode cL_law 319 = .ok (.laload, 1) := by decide +kernel
theorem dL_law_320 : decode cL_law 320 = .ok (.iload 6, 2) := by decide +kernel
theorem dL_law_322 : decode cL_law 322 = .ok (.i2l, 1) := by decide +kernel
theorem dL_law_323 : decode cL_law 323 = .ok (.lcmp, 1) := by decide +kernel
theorem dL_law_324 : decode cL_law 324 = .ok (.ifCond .eq 5, 3) := by decide +kernel
theorem dL_law_327 : decode cL_law 327 = .ok (.iconst 0, 1) := by decide +kernel
theorem dL_law_328 : decode cL_law 328 = .ok (.ireturn, 1) := by decide +kernel
theorem dL_law_329 : decode cL_law 329 = .ok (.goto 1116, 3) := by decide +kernel
theorem dL_law_332 : decode cL_law 332 = .ok (.aload_n 1, 1) := by decide +kernel
theorem dL_law_333 : decode cL_law 333 = .ok (.invokevirtual 101, 3) := by decide +kernel
theorem dL_law_336 : decode cL_law 336 = .ok (.aload_n 2, 1) := by decide +kernel
theorem dL_law_337 : decode cL_law 337 = .ok (.invokevirtual 104, 3) := by decide +kernel
theorem dL_law_340 : decode cL_law 340 = .ok (.if_icmp .eq 1105, 3) := by decide +kernel
theorem dL_law_343 : decode cL_law 343 = .ok (.iconst 0, 1) := by decide +kernel
theorem dL_law_344 : decode cL_law 344 = .ok (.ireturn, 1) := by decide +kernel
theorem dL_law_345 : decode cL_law 345 = .ok (.aload_n 1, 1) := by decide +kernel
theorem dL_law_346 : decode cL_law 346 = .ok (.aload_n 0, 1) := by decide +kernel
theorem dL_law_347 : decode cL_law 347 = .ok (.iload 4, 2) := by decide +kernel
theorem dL_law_349 : decode cL_law 349 = .ok (.iconst 1, 1) := by decide +kernel
theorem dL_law_350 : decode cL_law 350 = .ok (.iadd, 1) := by decide +kernel
theorem dL_law_351 : decode cL_law 351 = .ok (.iaload, 1) := by decide +kernel
theorem dL_law_352 : decode cL_law 352 = .ok (.aload_n 0, 1) := by decide +kernel
theorem dL_law_353 : decode cL_law 353 = .ok (.iload 4, 2) := by decide +kernel
theorem dL_law_355 : decode cL_law 355 = .ok (.iconst 2, 1) := by decide +kernel
theorem dL_law_356 : decode cL_law 356 = .ok (.iadd, 1) := by decide +kernel
theorem dL_law_357 : decode cL_law 357 = .ok (.iaload, 1) := by decide +kernel
theorem dL_law_358 : decode cL_law 358 = .ok (.ifCond .eq 7, 3) := by decide +kernel
theorem dL_law_361 : decode cL_law 361 = .ok (.iconst 1, 1) := by decide +kernel
theorem dL_law_362 : decode cL_law 362 = .ok (.goto 4, 3) := by decide +kernel
theorem dL_law_365 : decode cL_law 365 = .ok (.iconst 0, 1) := by decide +kernel
theorem dL_law_366 : decode cL_law 366 = .ok (.aload_n 0, 1) := by decide +kernel
theorem dL_law_367 : decode cL_law 367 = .ok (.iload 4, 2) := by decide +kernel
theorem dL_law_369 : decode cL_law 369 = .ok (.iconst 3, 1) := by decide +kernel
theorem dL_law_370 : decode cL_law 370 = .ok (.iadd, 1) := by decide +kernel
theorem dL_law_371 : decode cL_law 371 = .ok (.iaload, 1) := by decide +kernel
theorem dL_law_372 : decode cL_law 372 = .ok (.aload_n 3, 1) := by decide +kernel
theorem dL_law_373 : decode cL_law 373 = .ok (.invokestatic 105, 3) := by decide +kernel
theorem dL_law_376 : decode cL_law 376 = .ok (.istore 5, 2) := by decide +kernel
theorem dL_law_378 : decode cL_law 378 = .ok (.aload_n 2, 1) := by decide +kernel
theorem dL_law_379 : decode cL_law 379 = .ok (.aload_n 0, 1) := by decide +kernel
theorem dL_law_380 : decode cL_law 380 = .ok (.iload 4, 2) := by decide +kernel
theorem dL_law_382 : decode cL_law 382 = .ok (.iconst 1, 1) := by decide +kernel
theorem dL_law_383 : decode cL_law 383 = .ok (.iadd, 1) := by decide +kernel
theorem dL_law_384 : decode cL_law 384 = .ok (.iaload, 1) := by decide +kernel
theorem dL_law_385 : decode cL_law 385 = .ok (.aload_n 0, 1) := by decide +kernel
theorem dL_law_386 : decode cL_law 386 = .ok (.iload 4, 2) := by decide +kernel
theorem dL_law_388 : decode cL_law 388 = .ok (.iconst 2, 1) := by decide +kernel
theorem dL_law_389 : decode cL_law 389 = .ok (.iadd, 1) := by decide +kernel
theorem dL_law_390 : decode cL_law 390 = .ok (.iaload, 1) := by decide +kernel
theorem dL_law_391 : decode cL_law 391 = .ok (.ifCond .eq 7, 3) := by decide +kernel
theorem dL_law_394 : decode cL_law 394 = .ok (.iconst 1, 1) := by decide +kernel
theorem dL_law_395 : decode cL_law 395 = .ok (.goto 4, 3) := by decide +kernel
theorem dL_law_398 : decode cL_law 398 = .ok (.iconst 0, 1) := by decide +kernel
theorem dL_law_399 : decode cL_law 399 = .ok (.aload_n 0, 1) := by decide +kernel
theorem dL_law_400 : decode cL_law 400 = .ok (.iload 4, 2) := by decide +kernel
theorem dL_law_402 : decode cL_law 402 = .ok (.iconst 3, 1) := by decide +kernel
theorem dL_law_403 : decode cL_law 403 = .ok (.iadd, 1) := by decide +kernel
theorem dL_law_404 : decode cL_law 404 = .ok (.iaload, 1) := by decide +kernel
theorem dL_law_405 : decode cL_law 405 = .ok (.invokevirtual 108, 3) := by decide +kernel
theorem dL_law_408 : decode cL_law 408 = .ok (.istore 6, 2) := by decide +kernel
theorem dL_law_410 : decode cL_law 410 = .ok (.aload_n 2, 1) := by decide +kernel
theorem dL_law_411 : decode cL_law 411 = .ok (.invokevirtual 90, 3) := by decide +kernel
theorem dL_law_414 : decode cL_law 414 = .ok (.iload 5, 2) := by decide +kernel
theorem dL_law_416 : decode cL_law 416 = .ok (.if_icmp .eq 5, 3) := by decide +kernel
theorem dL_law_419 : decode cL_law 419 = .ok (.iconst 0, 1) := by decide +kernel
theorem dL_law_420 : decode cL_law 420 = .ok (.ireturn, 1) := by decide +kernel
theorem dL_law_421 : decode cL_law 421 = .ok (.iload 5, 2) := by decide +kernel
theorem dL_law_423 : decode cL_law 423 = .ok (.ifCond .ne 15, 3) := by decide +kernel
theorem dL_law_426 : decode cL_law 426 = .ok (.aload_n 3, 1) := by decide +kernel
theorem dL_law_427 : decode cL_law 427 = .ok (.iconst 0, 1) := by decide +kernel
theorem dL_law_428 : decode cL_law 428 = .ok (.laload, 1) := by decide +kernel
theorem dL_law_429 : decode cL_law 429 = .ok (.iload 6, 2) := by decide +kernel
theorem dL_law_431 : decode cL_law 431 = .ok (.i2l, 1) := by decide +kernel
theorem dL_law_432 : decode cL_law 432 = .ok (.lcmp, 1) := by decide +kernel
theorem dL_law_433 : decode cL_law 433 = .ok (.ifCond .eq 5, 3) := by decide +kernel
theorem dL_law_436 : decode cL_law 436 = .ok (.iconst 0, 1) := by decide +kernel
theorem dL_law_437 : decode cL_law 437 = .ok (.ireturn, 1) := by decide +kernel
theorem dL_law_438 : decode cL_law 438 = .ok (.goto 1007, 3) := by decide +kernel
theorem dL_law_441 : decode cL_law 441 = .ok (.aload_n 1, 1) := by decide +kernel
theorem dL_law_442 : decode cL_law 442 = .ok (.aload_n 0, 1) := by decide +kernel
theorem dL_law_443 : decode cL_law 443 = .ok (.iload 4, 2) := by decide +kernel
theorem dL_law_445 : decode cL_law 445 = .ok (.iconst 1, 1) := by decide +kernel
theorem dL_law_446 : decode cL_law 446 = .ok (.iadd, 1) := by decide +kernel
theorem dL_law_447 : decode cL_law 447 = .ok (.iaload, 1) := by decide +kernel
theorem dL_law_448 : decode cL_law 448 = .ok (.aload_n 0, 1) := by decide +kernel
theorem dL_law_449 : decode cL_law 449 = .ok (.iload 4, 2) := by decide +kernel
theorem dL_law_451 : decode cL_law 451 = .ok (.iconst 2, 1) := by decide +kernel
theorem dL_law_452 : decode cL_law 452 = .ok (.iadd, 1) := by decide +kernel
theorem dL_law_453 : decode cL_law 453 = .ok (.iaload, 1) := by decide +kernel
theorem dL_law_454 : decode cL_law 454 = .ok (.aload_n 0, 1) := by decide +kernel
theorem dL_law_455 : decode cL_law 455 = .ok (.iload 4, 2) := by decide +kernel
theorem dL_law_457 : decode cL_law 457 = .ok (.iconst 3, 1) := by decide +kernel
theorem dL_law_458 : decode cL_law 458 = .ok (.iadd, 1) := by decide +kernel
theorem dL_law_459 : decode cL_law 459 = .ok (.iaload, 1) := by decide +kernel
theorem dL_law_460 : decode cL_law 460 = .ok (.ifCond .eq 7, 3) := by decide +kernel
theorem dL_law_463 : decode cL_law 463 = .ok (.iconst 1, 1) := by decide +kernel
theorem dL_law_464 : decode cL_law 464 = .ok (.goto 4, 3) := by decide +kernel
theorem dL_law_467 : decode cL_law 467 = .ok (.iconst 0, 1) := by decide +kernel
theorem dL_law_468 : decode cL_law 468 = .ok (.aload_n 3, 1) := by decide +kernel
theorem dL_law_469 : decode cL_law 469 = .ok (.invokestatic 109, 3) := by decide +kernel
theorem dL_law_472 : decode cL_law 472 = .ok (.istore 5, 2) := by decide +kernel
theorem dL_law_474 : decode cL_law 474 = .ok (.aload_n 2, 1) := by decide +kernel
theorem dL_law_475 : decode cL_law 475 = .ok (.aload_n 0, 1) := by decide +kernel
theorem dL_law_476 : decode cL_law 476 = .ok (.iload 4, 2) := by decide +kernel
theorem dL_law_478 : decode cL_law 478 = .ok (.iconst 1, 1) := by decide +kernel
theorem dL_law_479 : decode cL_law 479 = .ok (.iadd, 1) := by decide +kernel
theorem dL_law_480 : decode cL_law 480 = .ok (.iaload, 1) := by decide +kernel
theorem dL_law_481 : decode cL_law 481 = .ok (.aload_n 0, 1) := by decide +kernel
theorem dL_law_482 : decode cL_law 482 = .ok (.iload 4, 2) := by decide +kernel
theorem dL_law_484 : decode cL_law 484 = .ok (.iconst 2, 1) := by decide +kernel
theorem dL_law_485 : decode cL_law 485 = .ok (.iadd, 1) := by decide +kernel
theorem dL_law_486 : decode cL_law 486 = .ok (.iaload, 1) := by decide +kernel
theorem dL_law_487 : decode cL_law 487 = .ok (.aload_n 0, 1) := by decide +kernel
theorem dL_law_488 : decode cL_law 488 = .ok (.iload 4, 2) := by decide +kernel
theorem dL_law_490 : decode cL_law 490 = .ok (.iconst 3, 1) := by decide +kernel
theorem dL_law_491 : decode cL_law 491 = .ok (.iadd, 1) := by decide +kernel
theorem dL_law_492 : decode cL_law 492 = .ok (.iaload, 1) := by decide +kernel
theorem dL_law_493 : decode cL_law 493 = .ok (.ifCond .eq 7, 3) := by decide +kernel
theorem dL_law_496 : decode cL_law 496 = .ok (.iconst 1, 1) := by decide +kernel
theorem dL_law_497 : decode cL_law 497 = .ok (.goto 4, 3) := by decide +kernel
theorem dL_law_500 : decode cL_law 500 = .ok (.iconst 0, 1) := by decide +kernel
theorem dL_law_501 : decode cL_law 501 = .ok (.invokevirtual 112, 3) := by decide +kernel
theorem dL_law_504 : decode cL_law 504 = .ok (.istore 6, 2) := by decide +kernel
theorem dL_law_506 : decode cL_law 506 = .ok (.aload_n 2, 1) := by decide +kernel
theorem dL_law_507 : decode cL_law 507 = .ok (.invokevirtual 90, 3) := by decide +kernel
theorem dL_law_510 : decode cL_law 510 = .ok (.iload 5, 2) := by decide +kernel
theorem dL_law_512 : decode cL_law 512 = .ok (.if_icmp .eq 5, 3) := by decide +kernel
theorem dL_law_515 : decode cL_law 515 = .ok (.iconst 0, 1) := by decide +kernel
theorem dL_law_516 : decode cL_law 516 = .ok (.ireturn, 1) := by decide +kernel
theorem dL_law_517 : decode cL_law 517 = .ok (.iload 5, 2) := by decide +kernel
theorem dL_law_519 : decode cL_law 519 = .ok (.ifCond .ne 15, 3) := by decide +kernel
theorem dL_law_522 : decode cL_law 522 = .ok (.aload_n 3, 1) := by decide +kernel
theorem dL_law_523 : decode cL_law 523 = .ok (.iconst 0, 1) := by decide +kernel
theorem dL_law_524 : decode cL_law 524 = .ok (.laload, 1) := by decide +kernel
theorem dL_law_525 : decode cL_law 525 = .ok (.iload 6, 2) := by decide +kernel
theorem dL_law_527 : decode cL_law 527 = .ok (.i2l, 1) := by decide +kernel
theorem dL_law_528 : decode cL_law 528 = .ok (.lcmp, 1) := by decide +kernel
theorem dL_law_529 : decode cL_law 529 = .ok (.ifCond .eq 5, 3) := by decide +kernel
theorem dL_law_532 : decode cL_law 532 = .ok (.iconst 0, 1) := by decide +kernel
theorem dL_law_533 : decode cL_law 533 = .ok (.ireturn, 1) := by decide +kernel
theorem dL_law_534 : decode cL_law 534 = .ok (.goto 911, 3) := by decide +kernel
theorem dL_law_537 : decode cL_law 537 = .ok (.aload_n 1, 1) := by decide +kernel
theorem dL_law_538 : decode cL_law 538 = .ok (.aload_n 0, 1) := by decide +kernel
theorem dL_law_539 : decode cL_law 539 = .ok (.iload 4, 2) := by decide +kernel
theorem dL_law_541 : decode cL_law 541 = .ok (.iconst 1, 1) := by decide +kernel
theorem dL_law_542 : decode cL_law 542 = .ok (.iadd, 1) := by decide +kernel
theorem dL_law_543 : decode cL_law 543 = .ok (.iaload, 1) := by decide +kernel
theorem dL_law_544 : decode cL_law 544 = .ok (.aload_n 0, 1) := by decide +kernel
theorem dL_law_545 : decode cL_law 545 = .ok (.iload 4, 2) := by decide +kernel
theorem dL_law_547 : decode cL_law 547 = .ok (.iconst 2, 1) := by decide +kernel
theorem dL_law_548 : decode cL_law 548 = .ok (.iadd, 1) := by decide +kernel
theorem dL_law_549 : decode cL_law 549 = .ok (.iaload, 1) := by decide +kernel
theorem dL_law_550 : decode cL_law 550 = .ok (.aload_n 3, 1) := by decide +kernel
theorem dL_law_551 : decode cL_law 551 = .ok (.invokestatic 113, 3) := by decide +kernel
theorem dL_law_554 : decode cL_law 554 = .ok (.istore 5, 2) := by decide +kernel
theorem dL_law_556 : decode cL_law 556 = .ok (.aload_n 2, 1) := by decide +kernel
theorem dL_law_557 : decode cL_law 557 = .ok (.aload_n 0, 1) := by decide +kernel
theorem dL_law_558 : decode cL_law 558 = .ok (.iload 4, 2) := by decide +kernel
theorem dL_law_560 : decode cL_law 560 = .ok (.iconst 1, 1) := by decide +kernel
theorem dL_law_561 : decode cL_law 561 = .ok (.iadd, 1) := by decide +kernel
theorem dL_law_562 : decode cL_law 562 = .ok (.iaload, 1) := by decide +kernel
theorem dL_law_563 : decode cL_law 563 = .ok (.aload_n 0, 1) := by decide +kernel
theorem dL_law_564 : decode cL_law 564 = .ok (.iload 4, 2) := by decide +kernel
theorem dL_law_566 : decode cL_law 566 = .ok (.iconst 2, 1) := by decide +kernel
theorem dL_law_567 : decode cL_law 567 = .ok (.iadd, 1) := by decide +kernel
theorem dL_law_568 : decode cL_law 568 = .ok (.iaload, 1) := by decide +kernel
theorem dL_law_569 : decode cL_law 569 = .ok (.invokevirtual 116, 3) := by decide +kernel
theorem dL_law_572 : decode cL_law 572 = .ok (.istore 6, 2) := by decide +kernel
theorem dL_law_574 : decode cL_law 574 = .ok (.aload_n 2, 1) := by decide +kernel
theorem dL_law_575 : decode cL_law 575 = .ok (.invokevirtual 90, 3) := by decide +kernel
theorem dL_law_578 : decode cL_law 578 = .ok (.iload 5, 2) := by decide +kernel
theorem dL_law_580 : decode cL_law 580 = .ok (.if_icmp .eq 5, 3) := by decide +kernel
theorem dL_law_583 : decode cL_law 583 = .ok (.iconst 0, 1) := by decide +kernel
theorem dL_law_584 : decode cL_law 584 = .ok (.ireturn, 1) := by decide +kernel
theorem dL_law_585 : decode cL_law 585 = .ok (.iload 5, 2) := by decide +kernel
theorem dL_law_587 : decode cL_law 587 = .ok (.ifCond .ne 15, 3) := by decide +kernel
theorem dL_law_590 : decode cL_law 590 = .ok (.aload_n 3, 1) := by decide +kernel
theorem dL_law_591 : decode cL_law 591 = .ok (.iconst 0, 1) := by decide +kernel
theorem dL_law_592 : decode cL_law 592 = .ok (.laload, 1) := by decide +kernel
theorem dL_law_593 : decode cL_law 593 = .ok (.iload 6, 2) := by decide +kernel
theorem dL_law_595 : decode cL_law 595 = .ok (.i2l, 1) := by decide +kernel
theorem dL_law_596 : decode cL_law 596 = .ok (.lcmp, 1) := by decide +kernel
theorem dL_law_597 : decode cL_law 597 = .ok (.ifCond .eq 5, 3) := by decide +kernel
theorem dL_law_600 : decode cL_law 600 = .ok (.iconst 0, 1) := by decide +kernel
theorem dL_law_601 : decode cL_law 601 = .ok (.ireturn, 1) := by decide +kernel
theorem dL_law_602 : decode cL_law 602 = .ok (.goto 843, 3) := by decide +kernel
theorem dL_law_605 : decode cL_law 605 = .ok (.aload_n 1, 1) := by decide +kernel
theorem dL_law_606 : decode cL_law 606 = .ok (.aload_n 0, 1) := by decide +kernel
theorem dL_law_607 : decode cL_law 607 = .ok (.iload 4, 2) := by decide +kernel
theorem dL_law_609 : decode cL_law 609 = .ok (.iconst 1, 1) := by decide +kernel
theorem dL_law_610 : decode cL_law 610 = .ok (.iadd, 1) := by decide +kernel
theorem dL_law_611 : decode cL_law 611 = .ok (.iaload, 1) := by decide +kernel
theorem dL_law_612 : decode cL_law 612 = .ok (.aload_n 3, 1) := by decide +kernel
theorem dL_law_613 : decode cL_law 613 = .ok (.invokestatic 117, 3) := by decide +kernel
theorem dL_law_616 : decode cL_law 616 = .ok (.istore 5, 2) := by decide +kernel
theorem dL_law_618 : decode cL_law 618 = .ok (.aload_n 2, 1) := by decide +kernel
theorem dL_law_619 : decode cL_law 619 = .ok (.aload_n 0, 1) := by decide +kernel
theorem dL_law_620 : decode cL_law 620 = .ok (.iload 4, 2) := by decide +kernel
theorem dL_law_622 : decode cL_law 622 = .ok (.iconst 1, 1) := by decide +kernel
theorem dL_law_623 : decode cL_law 623 = .ok (.iadd, 1) := by decide +kernel
theorem dL_law_624 : decode cL_law 624 = .ok (.iaload, 1) := by decide +kernel
theorem dL_law_625 : decode cL_law 625 = .ok (.invokevirtual 119, 3) := by decide +kernel
theorem dL_law_628 : decode cL_law 628 = .ok (.istore 6, 2) := by decide +kernel
theorem dL_law_630 : decode cL_law 630 = .ok (.aload_n 2, 1) := by decide +kernel
theorem dL_law_631 : decode cL_law 631 = .ok (.invokevirtual 90, 3) := by decide +kernel
theorem dL_law_634 : decode cL_law 634 = .ok (.iload 5, 2) := by decide +kernel
theorem dL_law_636 : decode cL_law 636 = .ok (.if_icmp .eq 5, 3) := by decide +kernel
theorem dL_law_639 : decode cL_law 639 = .ok (.iconst 0, 1) := by decide +kernel
theorem dL_law_640 : decode cL_law 640 = .ok (.ireturn, 1) := by decide +kernel
theorem dL_law_641 : decode cL_law 641 = .ok (.iload 5, 2) := by decide +kernel
theorem dL_law_643 : decode cL_law 643 = .ok (.ifCond .ne 15, 3) := by decide +kernel
theorem dL_law_646 : decode cL_law 646 = .ok (.aload_n 3, 1) := by decide +kernel
theorem dL_law_647 : decode cL_law 647 = .ok (.iconst 0, 1) := by decide +kernel
theorem dL_law_648 : decode cL_law 648 = .ok (.laload, 1) := by decide +kernel
theorem dL_law_649 : decode cL_law 649 = .ok (.iload 6, 2) := by decide +kernel
theorem dL_law_651 : decode cL_law 651 = .ok (.i2l, 1) := by decide +kernel
theorem dL_law_652 : decode cL_law 652 = .ok (.lcmp, 1) := by decide +kernel
theorem dL_law_653 : decode cL_law 653 = .ok (.ifCond .eq 5, 3) := by decide +kernel
theorem dL_law_656 : decode cL_law 656 = .ok (.iconst 0, 1) := by decide +kernel
theorem dL_law_657 : decode cL_law 657 = .ok (.ireturn, 1) := by decide +kernel
theorem dL_law_658 : decode cL_law 658 = .ok (.goto 787, 3) := by decide +kernel
theorem dL_law_661 : decode cL_law 661 = .ok (.aload_n 1, 1) := by decide +kernel
theorem dL_law_662 : decode cL_law 662 = .ok (.aload_n 0, 1) := by decide +kernel
theorem dL_law_663 : decode cL_law 663 = .ok (.iload 4, 2) := by decide +kernel
theorem dL_law_665 : decode cL_law 665 = .ok (.iconst 1, 1) := by decide +kernel
theorem dL_law_666 : decode cL_law 666 = .ok (.iadd, 1) := by decide +kernel
theorem dL_law_667 : decode cL_law 667 = .ok (.iaload, 1) := by decide +kernel
theorem dL_law_668 : decode cL_law 668 = .ok (.aload_n 0, 1) := by decide +kernel
theorem dL_law_669 : decode cL_law 669 = .ok (.iload 4, 2) := by decide +kernel
theorem dL_law_671 : decode cL_law 671 = .ok (.iconst 2, 1) := by decide +kernel
theorem dL_law_672 : decode cL_law 672 = .ok (.iadd, 1) := by decide +kernel
theorem dL_law_673 : decode cL_law 673 = .ok (.iaload, 1) := by decide +kernel
theorem dL_law_674 : decode cL_law 674 = .ok (.aload_n 3, 1) := by decide +kernel
theorem dL_law_675 : decode cL_law 675 = .ok (.invokestatic 120, 3) := by decide +kernel
theorem dL_law_678 : decode cL_law 678 = .ok (.istore 5, 2) := by decide +kernel
theorem dL_law_680 : decode cL_law 680 = .ok (.aload_n 2, 1) := by decide +kernel
theorem dL_law_681 : decode cL_law 681 = .ok (.aload_n 0, 1) := by decide +kernel
theorem dL_law_682 : decode cL_law 682 = .ok (.iload 4, 2) := by decide +kernel
theorem dL_law_684 : decode cL_law 684 = .ok (.iconst 1, 1) := by decide +kernel
theorem dL_law_685 : decode cL_law 685 = .ok (.iadd, 1) := by decide +kernel
theorem dL_law_686 : decode cL_law 686 = .ok (.iaload, 1) := by decide +kernel
theorem dL_law_687 : decode cL_law 687 = .ok (.aload_n 0, 1) := by decide +kernel
theorem dL_law_688 : decode cL_law 688 = .ok (.iload 4, 2) := by decide +kernel
theorem dL_law_690 : decode cL_law 690 = .ok (.iconst 2, 1) := by decide +kernel
theorem dL_law_691 : decode cL_law 691 = .ok (.iadd, 1) := by decide +kernel
theorem dL_law_692 : decode cL_law 692 = .ok (.iaload, 1) := by decide +kernel
theorem dL_law_693 : decode cL_law 693 = .ok (.invokevirtual 122, 3) := by decide +kernel
theorem dL_law_696 : decode cL_law 696 = .ok (.istore 6, 2) := by decide +kernel
theorem dL_law_698 : decode cL_law 698 = .ok (.aload_n 2, 1) := by decide +kernel
theorem dL_law_699 : decode cL_law 699 = .ok (.invokevirtual 90, 3) := by decide +kernel
theorem dL_law_702 : decode cL_law 702 = .ok (.iload 5, 2) := by decide +kernel
theorem dL_law_704 : decode cL_law 704 = .ok (.if_icmp .eq 5, 3) := by decide +kernel
theorem dL_law_707 : decode cL_law 707 = .ok (.iconst 0, 1) := by decide +kernel
theorem dL_law_708 : decode cL_law 708 = .ok (.ireturn, 1) := by decide +kernel
theorem dL_law_709 : decode cL_law 709 = .ok (.iload 5, 2) := by decide +kernel
theorem dL_law_711 : decode cL_law 711 = .ok (.ifCond .ne 22, 3) := by decide +kernel
theorem dL_law_714 : decode cL_law 714 = .ok (.aload_n 3, 1) := by decide +kernel
theorem dL_law_715 : decode cL_law 715 = .ok (.iconst 0, 1) := by decide +kernel
theorem dL_law_716 : decode cL_law 716 = .ok (.laload, 1) := by decide +kernel
theorem dL_law_717 : decode cL_law 717 = .ok (.iload 6, 2) := by decide +kernel
theorem dL_law_719 : decode cL_law 719 = .ok (.ifCond .eq 7, 3) := by decide +kernel
theorem dL_law_722 : decode cL_law 722 = .ok (.lconst 1, 1) := by decide +kernel
theorem dL_law_723 : decode cL_law 723 = .ok (.goto 4, 3) := by decide +kernel
theorem dL_law_726 : decode cL_law 726 = .ok (.lconst 0, 1) := by decide +kernel
theorem dL_law_727 : decode cL_law 727 = .ok (.lcmp, 1) := by decide +kernel
theorem dL_law_728 : decode cL_law 728 = .ok (.ifCond .eq 5, 3) := by decide +kernel
theorem dL_law_731 : decode cL_law 731 = .ok (.iconst 0, 1) := by decide +kernel
theorem dL_law_732 : decode cL_law 732 = .ok (.ireturn, 1) := by decide +kernel
theorem dL_law_733 : decode cL_law 733 = .ok (.goto 712, 3) := by decide +kernel
theorem dL_law_736 : decode cL_law 736 = .ok (.aload_n 1, 1) := by decide +kernel
theorem dL_law_737 : decode cL_law 737 = .ok (.aload_n 0, 1) := by decide +kernel
theorem dL_law_738 : decode cL_law 738 = .ok (.iload 4, 2) := by decide +kernel
theorem dL_law_740 : decode cL_law 740 = .ok (.iconst 1, 1) := by decide +kernel
theorem dL_law_741 : decode cL_law 741 = .ok (.iadd, 1) := by decide +kernel
theorem dL_law_742 : decode cL_law 742 = .ok (.iaload, 1) := by decide +kernel
theorem dL_law_743 : decode cL_law 743 = .ok (.aload_n 3, 1) := by decide +kernel
theorem dL_law_744 : decode cL_law 744 = .ok (.invokestatic 123, 3) := by decide +kernel
theorem dL_law_747 : decode cL_law 747 = .ok (.istore 5, 2) := by decide +kernel
theorem dL_law_749 : decode cL_law 749 = .ok (.aload_n 2, 1) := by decide +kernel
theorem dL_law_750 : decode cL_law 750 = .ok (.aload_n 0, 1) := by decide +kernel
theorem dL_law_751 : decode cL_law 751 = .ok (.iload 4, 2) := by decide +kernel
theorem dL_law_753 : decode cL_law 753 = .ok (.iconst 1, 1) := by decide +kernel
theorem dL_law_754 : decode cL_law 754 = .ok (.iadd, 1) := by decide +kernel
theorem dL_law_755 : decode cL_law 755 = .ok (.iaload, 1) := by decide +kernel
theorem dL_law_756 : decode cL_law 756 = .ok (.invokevirtual 125, 3) := by decide +kernel
theorem dL_law_759 : decode cL_law 759 = .ok (.istore 6, 2) := by decide +kernel
theorem dL_law_761 : decode cL_law 761 = .ok (.aload_n 2, 1) := by decide +kernel
theorem dL_law_762 : decode cL_law 762 = .ok (.invokevirtual 90, 3) := by decide +kernel
theorem dL_law_765 : decode cL_law 765 = .ok (.iload 5, 2) := by decide +kernel
theorem dL_law_767 : decode cL_law 767 = .ok (.if_icmp .eq 5, 3) := by decide +kernel
theorem dL_law_770 : decode cL_law 770 = .ok (.iconst 0, 1) := by decide +kernel
theorem dL_law_771 : decode cL_law 771 = .ok (.ireturn, 1) := by decide +kernel
theorem dL_law_772 : decode cL_law 772 = .ok (.iload 5, 2) := by decide +kernel
theorem dL_law_774 : decode cL_law 774 = .ok (.ifCond .ne 15, 3) := by decide +kernel
theorem dL_law_777 : decode cL_law 777 = .ok (.aload_n 3, 1) := by decide +kernel
theorem dL_law_778 : decode cL_law 778 = .ok (.iconst 0, 1) := by decide +kernel
theorem dL_law_779 : decode cL_law 779 = .ok (.laload, 1) := by decide +kernel
theorem dL_law_780 : decode cL_law 780 = .ok (.iload 6, 2) := by decide +kernel
theorem dL_law_782 : decode cL_law 782 = .ok (.i2l, 1) := by decide +kernel
theorem dL_law_783 : decode cL_law 783 = .ok (.lcmp, 1) := by decide +kernel
theorem dL_law_784 : decode cL_law 784 = .ok (.ifCond .eq 5, 3) := by decide +kernel
theorem dL_law_787 : decode cL_law 787 = .ok (.iconst 0, 1) := by decide +kernel
theorem dL_law_788 : decode cL_law 788 = .ok (.ireturn, 1) := by decide +kernel
theorem dL_law_789 : decode cL_law 789 = .ok (.goto 656, 3) := by decide +kernel
theorem dL_law_792 : decode cL_law 792 = .ok (.aload_n 1, 1) := by decide +kernel
theorem dL_law_793 : decode cL_law 793 = .ok (.aload_n 0, 1) := by decide +kernel
theorem dL_law_794 : decode cL_law 794 = .ok (.iload 4, 2) := by decide +kernel
theorem dL_law_796 : decode cL_law 796 = .ok (.iconst 1, 1) := by decide +kernel
theorem dL_law_797 : decode cL_law 797 = .ok (.iadd, 1) := by decide +kernel
theorem dL_law_798 : decode cL_law 798 = .ok (.iaload, 1) := by decide +kernel
theorem dL_law_799 : decode cL_law 799 = .ok (.aload_n 0, 1) := by decide +kernel
theorem dL_law_800 : decode cL_law 800 = .ok (.iload 4, 2) := by decide +kernel
theorem dL_law_802 : decode cL_law 802 = .ok (.iconst 2, 1) := by decide +kernel
theorem dL_law_803 : decode cL_law 803 = .ok (.iadd, 1) := by decide +kernel
theorem dL_law_804 : decode cL_law 804 = .ok (.iaload, 1) := by decide +kernel
theorem dL_law_805 : decode cL_law 805 = .ok (.aload_n 3, 1) := by decide +kernel
theorem dL_law_806 : decode cL_law 806 = .ok (.invokestatic 126, 3) := by decide +kernel
theorem dL_law_809 : decode cL_law 809 = .ok (.istore 5, 2) := by decide +kernel
theorem dL_law_811 : decode cL_law 811 = .ok (.aload_n 2, 1) := by decide +kernel
theorem dL_law_812 : decode cL_law 812 = .ok (.aload_n 0, 1) := by decide +kernel
theorem dL_law_813 : decode cL_law 813 = .ok (.iload 4, 2) := by decide +kernel
theorem dL_law_815 : decode cL_law 815 = .ok (.iconst 1, 1) := by decide +kernel
theorem dL_law_816 : decode cL_law 816 = .ok (.iadd, 1) := by decide +kernel
theorem dL_law_817 : decode cL_law 817 = .ok (.iaload, 1) := by decide +kernel
theorem dL_law_818 : decode cL_law 818 = .ok (.aload_n 0, 1) := by decide +kernel
theorem dL_law_819 : decode cL_law 819 = .ok (.iload 4, 2) := by decide +kernel
theorem dL_law_821 : decode cL_law 821 = .ok (.iconst 2, 1) := by decide +kernel
theorem dL_law_822 : decode cL_law 822 = .ok (.iadd, 1) := by decide +kernel
theorem dL_law_823 : decode cL_law 823 = .ok (.iaload, 1) := by decide +kernel
theorem dL_law_824 : decode cL_law 824 = .ok (.invokevirtual 128, 3) := by decide +kernel
theorem dL_law_827 : decode cL_law 827 = .ok (.istore 6, 2) := by decide +kernel
theorem dL_law_829 : decode cL_law 829 = .ok (.aload_n 2, 1) := by decide +kernel
theorem dL_law_830 : decode cL_law 830 = .ok (.invokevirtual 90, 3) := by decide +kernel
theorem dL_law_833 : decode cL_law 833 = .ok (.iload 5, 2) := by decide +kernel
theorem dL_law_835 : decode cL_law 835 = .ok (.if_icmp .eq 5, 3) := by decide +kernel
theorem dL_law_838 : decode cL_law 838 = .ok (.iconst 0, 1) := by decide +kernel
theorem dL_law_839 : decode cL_law 839 = .ok (.ireturn, 1) := by decide +kernel
theorem dL_law_840 : decode cL_law 840 = .ok (.iload 5, 2) := by decide +kernel
theorem dL_law_842 : decode cL_law 842 = .ok (.ifCond .ne 15, 3) := by decide +kernel
theorem dL_law_845 : decode cL_law 845 = .ok (.aload_n 3, 1) := by decide +kernel
theorem dL_law_846 : decode cL_law 846 = .ok (.iconst 0, 1) := by decide +kernel
theorem dL_law_847 : decode cL_law 847 = .ok (.laload, 1) := by decide +kernel
theorem dL_law_848 : decode cL_law 848 = .ok (.iload 6, 2) := by decide +kernel
theorem dL_law_850 : decode cL_law 850 = .ok (.i2l, 1) := by decide +kernel
theorem dL_law_851 : decode cL_law 851 = .ok (.lcmp, 1) := by decide +kernel
theorem dL_law_852 : decode cL_law 852 = .ok (.ifCond .eq 5, 3) := by decide +kernel
theorem dL_law_855 : decode cL_law 855 = .ok (.iconst 0, 1) := by decide +kernel
theorem dL_law_856 : decode cL_law 856 = .ok (.ireturn, 1) := by decide +kernel
theorem dL_law_857 : decode cL_law 857 = .ok (.goto 588, 3) := by decide +kernel
theorem dL_law_860 : decode cL_law 860 = .ok (.aload_n 1, 1) := by decide +kernel
theorem dL_law_861 : decode cL_law 861 = .ok (.aload_n 0, 1) := by decide +kernel
theorem dL_law_862 : decode cL_law 862 = .ok (.iload 4, 2) := by decide +kernel
theorem dL_law_864 : decode cL_law 864 = .ok (.iconst 1, 1) := by decide +kernel
theorem dL_law_865 : decode cL_law 865 = .ok (.iadd, 1) := by decide +kernel
theorem dL_law_866 : decode cL_law 866 = .ok (.iaload, 1) := by decide +kernel
theorem dL_law_867 : decode cL_law 867 = .ok (.aload_n 0, 1) := by decide +kernel
theorem dL_law_868 : decode cL_law 868 = .ok (.iload 4, 2) := by decide +kernel
theorem dL_law_870 : decode cL_law 870 = .ok (.iconst 2, 1) := by decide +kernel
theorem dL_law_871 : decode cL_law 871 = .ok (.iadd, 1) := by decide +kernel
theorem dL_law_872 : decode cL_law 872 = .ok (.iaload, 1) := by decide +kernel
theorem dL_law_873 : decode cL_law 873 = .ok (.aload_n 3, 1) := by decide +kernel
theorem dL_law_874 : decode cL_law 874 = .ok (.invokestatic 129, 3) := by decide +kernel
theorem dL_law_877 : decode cL_law 877 = .ok (.istore 5, 2) := by decide +kernel
theorem dL_law_879 : decode cL_law 879 = .ok (.aload_n 2, 1) := by decide +kernel
theorem dL_law_880 : decode cL_law 880 = .ok (.aload_n 0, 1) := by decide +kernel
theorem dL_law_881 : decode cL_law 881 = .ok (.iload 4, 2) := by decide +kernel
theorem dL_law_883 : decode cL_law 883 = .ok (.iconst 1, 1) := by decide +kernel
theorem dL_law_884 : decode cL_law 884 = .ok (.iadd, 1) := by decide +kernel
theorem dL_law_885 : decode cL_law 885 = .ok (.iaload, 1) := by decide +kernel
theorem dL_law_886 : decode cL_law 886 = .ok (.aload_n 0, 1) := by decide +kernel
theorem dL_law_887 : decode cL_law 887 = .ok (.iload 4, 2) := by decide +kernel
theorem dL_law_889 : decode cL_law 889 = .ok (.iconst 2, 1) := by decide +kernel
theorem dL_law_890 : decode cL_law 890 = .ok (.iadd, 1) := by decide +kernel
theorem dL_law_891 : decode cL_law 891 = .ok (.iaload, 1) := by decide +kernel
theorem dL_law_892 : decode cL_law 892 = .ok (.invokevirtual 131, 3) := by decide +kernel
theorem dL_law_895 : decode cL_law 895 = .ok (.istore 6, 2) := by decide +kernel
theorem dL_law_897 : decode cL_law 897 = .ok (.aload_n 2, 1) := by decide +kernel
theorem dL_law_898 : decode cL_law 898 = .ok (.invokevirtual 90, 3) := by decide +kernel
theorem dL_law_901 : decode cL_law 901 = .ok (.iload 5, 2) := by decide +kernel
theorem dL_law_903 : decode cL_law 903 = .ok (.if_icmp .eq 5, 3) := by decide +kernel
theorem dL_law_906 : decode cL_law 906 = .ok (.iconst 0, 1) := by decide +kernel
theorem dL_law_907 : decode cL_law 907 = .ok (.ireturn, 1) := by decide +kernel
theorem dL_law_908 : decode cL_law 908 = .ok (.iload 5, 2) := by decide +kernel
theorem dL_law_910 : decode cL_law 910 = .ok (.ifCond .ne 15, 3) := by decide +kernel
theorem dL_law_913 : decode cL_law 913 = .ok (.aload_n 3, 1) := by decide +kernel
theorem dL_law_914 : decode cL_law 914 = .ok (.iconst 0, 1) := by decide +kernel
theorem dL_law_915 : decode cL_law 915 = .ok (.laload, 1) := by decide +kernel
theorem dL_law_916 : decode cL_law 916 = .ok (.iload 6, 2) := by decide +kernel
theorem dL_law_918 : decode cL_law 918 = .ok (.i2l, 1) := by decide +kernel
theorem dL_law_919 : decode cL_law 919 = .ok (.lcmp, 1) := by decide +kernel
theorem dL_law_920 : decode cL_law 920 = .ok (.ifCond .eq 5, 3) := by decide +kernel
theorem dL_law_923 : decode cL_law 923 = .ok (.iconst 0, 1) := by decide +kernel
theorem dL_law_924 : decode cL_law 924 = .ok (.ireturn, 1) := by decide +kernel
theorem dL_law_925 : decode cL_law 925 = .ok (.goto 520, 3) := by decide +kernel
theorem dL_law_928 : decode cL_law 928 = .ok (.aload_n 1, 1) := by decide +kernel
theorem dL_law_929 : decode cL_law 929 = .ok (.aload_n 0, 1) := by decide +kernel
theorem dL_law_930 : decode cL_law 930 = .ok (.iload 4, 2) := by decide +kernel
theorem dL_law_932 : decode cL_law 932 = .ok (.iconst 1, 1) := by decide +kernel
theorem dL_law_933 : decode cL_law 933 = .ok (.iadd, 1) := by decide +kernel
theorem dL_law_934 : decode cL_law 934 = .ok (.iaload, 1) := by decide +kernel
theorem dL_law_935 : decode cL_law 935 = .ok (.aload_n 3, 1) := by decide +kernel
theorem dL_law_936 : decode cL_law 936 = .ok (.invokestatic 132, 3) := by decide +kernel
theorem dL_law_939 : decode cL_law 939 = .ok (.istore 5, 2) := by decide +kernel
theorem dL_law_941 : decode cL_law 941 = .ok (.aload_n 2, 1) := by decide +kernel
theorem dL_law_942 : decode cL_law 942 = .ok (.aload_n 0, 1) := by decide +kernel
theorem dL_law_943 : decode cL_law 943 = .ok (.iload 4, 2) := by decide +kernel
theorem dL_law_945 : decode cL_law 945 = .ok (.iconst 1, 1) := by decide +kernel
theorem dL_law_946 : decode cL_law 946 = .ok (.iadd, 1) := by decide +kernel
theorem dL_law_947 : decode cL_law 947 = .ok (.iaload, 1) := by decide +kernel
theorem dL_law_948 : decode cL_law 948 = .ok (.invokevirtual 134, 3) := by decide +kernel
theorem dL_law_951 : decode cL_law 951 = .ok (.istore 6, 2) := by decide +kernel
theorem dL_law_953 : decode cL_law 953 = .ok (.aload_n 2, 1) := by decide +kernel
theorem dL_law_954 : decode cL_law 954 = .ok (.invokevirtual 90, 3) := by decide +kernel
theorem dL_law_957 : decode cL_law 957 = .ok (.iload 5, 2) := by decide +kernel
theorem dL_law_959 : decode cL_law 959 = .ok (.if_icmp .eq 5, 3) := by decide +kernel
theorem dL_law_962 : decode cL_law 962 = .ok (.iconst 0, 1) := by decide +kernel
theorem dL_law_963 : decode cL_law 963 = .ok (.ireturn, 1) := by decide +kernel
theorem dL_law_964 : decode cL_law 964 = .ok (.iload 5, 2) := by decide +kernel
theorem dL_law_966 : decode cL_law 966 = .ok (.ifCond .ne 15, 3) := by decide +kernel
theorem dL_law_969 : decode cL_law 969 = .ok (.aload_n 3, 1) := by decide +kernel
theorem dL_law_970 : decode cL_law 970 = .ok (.iconst 0, 1) := by decide +kernel
theorem dL_law_971 : decode cL_law 971 = .ok (.laload, 1) := by decide +kernel
theorem dL_law_972 : decode cL_law 972 = .ok (.iload 6, 2) := by decide +kernel
theorem dL_law_974 : decode cL_law 974 = .ok (.i2l, 1) := by decide +kernel
theorem dL_law_975 : decode cL_law 975 = .ok (.lcmp, 1) := by decide +kernel
theorem dL_law_976 : decode cL_law 976 = .ok (.ifCond .eq 5, 3) := by decide +kernel
theorem dL_law_979 : decode cL_law 979 = .ok (.iconst 0, 1) := by decide +kernel
theorem dL_law_980 : decode cL_law 980 = .ok (.ireturn, 1) := by decide +kernel
theorem dL_law_981 : decode cL_law 981 = .ok (.goto 464, 3) := by decide +kernel
theorem dL_law_984 : decode cL_law 984 = .ok (.aload_n 1, 1) := by decide +kernel
theorem dL_law_985 : decode cL_law 985 = .ok (.aload_n 0, 1) := by decide +kernel
theorem dL_law_986 : decode cL_law 986 = .ok (.iload 4, 2) := by decide +kernel
theorem dL_law_988 : decode cL_law 988 = .ok (.iconst 1, 1) := by decide +kernel
theorem dL_law_989 : decode cL_law 989 = .ok (.iadd, 1) := by decide +kernel
theorem dL_law_990 : decode cL_law 990 = .ok (.iaload, 1) := by decide +kernel
theorem dL_law_991 : decode cL_law 991 = .ok (.aload_n 0, 1) := by decide +kernel
theorem dL_law_992 : decode cL_law 992 = .ok (.iload 4, 2) := by decide +kernel
theorem dL_law_994 : decode cL_law 994 = .ok (.iconst 2, 1) := by decide +kernel
theorem dL_law_995 : decode cL_law 995 = .ok (.iadd, 1) := by decide +kernel
theorem dL_law_996 : decode cL_law 996 = .ok (.iaload, 1) := by decide +kernel
theorem dL_law_997 : decode cL_law 997 = .ok (.aload_n 0, 1) := by decide +kernel
theorem dL_law_998 : decode cL_law 998 = .ok (.iload 4, 2) := by decide +kernel
theorem dL_law_1000 : decode cL_law 1000 = .ok (.iconst 3, 1) := by decide +kernel
theorem dL_law_1001 : decode cL_law 1001 = .ok (.iadd, 1) := by decide +kernel
theorem dL_law_1002 : decode cL_law 1002 = .ok (.iaload, 1) := by decide +kernel
theorem dL_law_1003 : decode cL_law 1003 = .ok (.aload_n 3, 1) := by decide +kernel
theorem dL_law_1004 : decode cL_law 1004 = .ok (.invokestatic 135, 3) := by decide +kernel
theorem dL_law_1007 : decode cL_law 1007 = .ok (.istore 5, 2) := by decide +kernel
theorem dL_law_1009 : decode cL_law 1009 = .ok (.aload_n 2, 1) := by decide +kernel
theorem dL_law_1010 : decode cL_law 1010 = .ok (.aload_n 0, 1) := by decide +kernel
theorem dL_law_1011 : decode cL_law 1011 = .ok (.iload 4, 2) := by decide +kernel
theorem dL_law_1013 : decode cL_law 1013 = .ok (.iconst 1, 1) := by decide +kernel
theorem dL_law_1014 : decode cL_law 1014 = .ok (.iadd, 1) := by decide +kernel
theorem dL_law_1015 : decode cL_law 1015 = .ok (.iaload, 1) := by decide +kernel
theorem dL_law_1016 : decode cL_law 1016 = .ok (.aload_n 0, 1) := by decide +kernel
theorem dL_law_1017 : decode cL_law 1017 = .ok (.iload 4, 2) := by decide +kernel
theorem dL_law_1019 : decode cL_law 1019 = .ok (.iconst 2, 1) := by decide +kernel
theorem dL_law_1020 : decode cL_law 1020 = .ok (.iadd, 1) := by decide +kernel
theorem dL_law_1021 : decode cL_law 1021 = .ok (.iaload, 1) := by decide +kernel
theorem dL_law_1022 : decode cL_law 1022 = .ok (.aload_n 0, 1) := by decide +kernel
theorem dL_law_1023 : decode cL_law 1023 = .ok (.iload 4, 2) := by decide +kernel
theorem dL_law_1025 : decode cL_law 1025 = .ok (.iconst 3, 1) := by decide +kernel
theorem dL_law_1026 : decode cL_law 1026 = .ok (.iadd, 1) := by decide +kernel
theorem dL_law_1027 : decode cL_law 1027 = .ok (.iaload, 1) := by decide +kernel
theorem dL_law_1028 : decode cL_law 1028 = .ok (.invokevirtual 138, 3) := by decide +kernel
theorem dL_law_1031 : decode cL_law 1031 = .ok (.istore 6, 2) := by decide +kernel
theorem dL_law_1033 : decode cL_law 1033 = .ok (.aload_n 2, 1) := by decide +kernel
theorem dL_law_1034 : decode cL_law 1034 = .ok (.invokevirtual 90, 3) := by decide +kernel
theorem dL_law_1037 : decode cL_law 1037 = .ok (.iload 5, 2) := by decide +kernel
theorem dL_law_1039 : decode cL_law 1039 = .ok (.if_icmp .eq 5, 3) := by decide +kernel
theorem dL_law_1042 : decode cL_law 1042 = .ok (.iconst 0, 1) := by decide +kernel
theorem dL_law_1043 : decode cL_law 1043 = .ok (.ireturn, 1) := by decide +kernel
theorem dL_law_1044 : decode cL_law 1044 = .ok (.iload 5, 2) := by decide +kernel
theorem dL_law_1046 : decode cL_law 1046 = .ok (.ifCond .ne 15, 3) := by decide +kernel
theorem dL_law_1049 : decode cL_law 1049 = .ok (.aload_n 3, 1) := by decide +kernel
theorem dL_law_1050 : decode cL_law 1050 = .ok (.iconst 0, 1) := by decide +kernel
theorem dL_law_1051 : decode cL_law 1051 = .ok (.laload, 1) := by decide +kernel
theorem dL_law_1052 : decode cL_law 1052 = .ok (.iload 6, 2) := by decide +kernel
theorem dL_law_1054 : decode cL_law 1054 = .ok (.i2l, 1) := by decide +kernel
theorem dL_law_1055 : decode cL_law 1055 = .ok (.lcmp, 1) := by decide +kernel
theorem dL_law_1056 : decode cL_law 1056 = .ok (.ifCond .eq 5, 3) := by decide +kernel
theorem dL_law_1059 : decode cL_law 1059 = .ok (.iconst 0, 1) := by decide +kernel
theorem dL_law_1060 : decode cL_law 1060 = .ok (.ireturn, 1) := by decide +kernel
theorem dL_law_1061 : decode cL_law 1061 = .ok (.goto 384, 3) := by decide +kernel
theorem dL_law_1064 : decode cL_law 1064 = .ok (.aload_n 1, 1) := by decide +kernel
theorem dL_law_1065 : decode cL_law 1065 = .ok (.aload_n 0, 1) := by decide +kernel
theorem dL_law_1066 : decode cL_law 1066 = .ok (.iload 4, 2) := by decide +kernel
theorem dL_law_1068 : decode cL_law 1068 = .ok (.iconst 1, 1) := by decide +kernel
theorem dL_law_1069 : decode cL_law 1069 = .ok (.iadd, 1) := by decide +kernel
theorem dL_law_1070 : decode cL_law 1070 = .ok (.iaload, 1) := by decide +kernel
theorem dL_law_1071 : decode cL_law 1071 = .ok (.aload_n 0, 1) := by decide +kernel
theorem dL_law_1072 : decode cL_law 1072 = .ok (.iload 4, 2) := by decide +kernel
theorem dL_law_1074 : decode cL_law 1074 = .ok (.iconst 2, 1) := by decide +kernel
theorem dL_law_1075 : decode cL_law 1075 = .ok (.iadd, 1) := by decide +kernel
theorem dL_law_1076 : decode cL_law 1076 = .ok (.iaload, 1) := by decide +kernel
theorem dL_law_1077 : decode cL_law 1077 = .ok (.aload_n 0, 1) := by decide +kernel
theorem dL_law_1078 : decode cL_law 1078 = .ok (.iload 4, 2) := by decide +kernel
theorem dL_law_1080 : decode cL_law 1080 = .ok (.iconst 3, 1) := by decide +kernel
theorem dL_law_1081 : decode cL_law 1081 = .ok (.iadd, 1) := by decide +kernel
theorem dL_law_1082 : decode cL_law 1082 = .ok (.iaload, 1) := by decide +kernel
theorem dL_law_1083 : decode cL_law 1083 = .ok (.aload_n 3, 1) := by decide +kernel
theorem dL_law_1084 : decode cL_law 1084 = .ok (.invokestatic 139, 3) := by decide +kernel
theorem dL_law_1087 : decode cL_law 1087 = .ok (.istore 5, 2) := by decide +kernel
theorem dL_law_1089 : decode cL_law 1089 = .ok (.aload_n 2, 1) := by decide +kernel
theorem dL_law_1090 : decode cL_law 1090 = .ok (.aload_n 0, 1) := by decide +kernel
theorem dL_law_1091 : decode cL_law 1091 = .ok (.iload 4, 2) := by decide +kernel
theorem dL_law_1093 : decode cL_law 1093 = .ok (.iconst 1, 1) := by decide +kernel
theorem dL_law_1094 : decode cL_law 1094 = .ok (.iadd, 1) := by decide +kernel
theorem dL_law_1095 : decode cL_law 1095 = .ok (.iaload, 1) := by decide +kernel
theorem dL_law_1096 : decode cL_law 1096 = .ok (.aload_n 0, 1) := by decide +kernel
theorem dL_law_1097 : decode cL_law 1097 = .ok (.iload 4, 2) := by decide +kernel
theorem dL_law_1099 : decode cL_law 1099 = .ok (.iconst 2, 1) := by decide +kernel
theorem dL_law_1100 : decode cL_law 1100 = .ok (.iadd, 1) := by decide +kernel
theorem dL_law_1101 : decode cL_law 1101 = .ok (.iaload, 1) := by decide +kernel
theorem dL_law_1102 : decode cL_law 1102 = .ok (.aload_n 0, 1) := by decide +kernel
theorem dL_law_1103 : decode cL_law 1103 = .ok (.iload 4, 2) := by decide +kernel
theorem dL_law_1105 : decode cL_law 1105 = .ok (.iconst 3, 1) := by decide +kernel
theorem dL_law_1106 : decode cL_law 1106 = .ok (.iadd, 1) := by decide +kernel
theorem dL_law_1107 : decode cL_law 1107 = .ok (.iaload, 1) := by decide +kernel
theorem dL_law_1108 : decode cL_law 1108 = .ok (.invokevirtual 141, 3) := by decide +kernel
theorem dL_law_1111 : decode cL_law 1111 = .ok (.istore 6, 2) := by decide +kernel
theorem dL_law_1113 : decode cL_law 1113 = .ok (.aload_n 2, 1) := by decide +kernel
theorem dL_law_1114 : decode cL_law 1114 = .ok (.invokevirtual 90, 3) := by decide +kernel
theorem dL_law_1117 : decode cL_law 1117 = .ok (.iload 5, 2) := by decide +kernel
theorem dL_law_1119 : decode cL_law 1119 = .ok (.if_icmp .eq 5, 3) := by decide +kernel
theorem dL_law_1122 : decode cL_law 1122 = .ok (.iconst 0, 1) := by decide +kernel
theorem dL_law_1123 : decode cL_law 1123 = .ok (.ireturn, 1) := by decide +kernel
theorem dL_law_1124 : decode cL_law 1124 = .ok (.iload 5, 2) := by decide +kernel
theorem dL_law_1126 : decode cL_law 1126 = .ok (.ifCond .ne 15, 3) := by decide +kernel
theorem dL_law_1129 : decode cL_law 1129 = .ok (.aload_n 3, 1) := by decide +kernel
theorem dL_law_1130 : decode cL_law 1130 = .ok (.iconst 0, 1) := by decide +kernel
theorem dL_law_1131 : decode cL_law 1131 = .ok (.laload, 1) := by decide +kernel
theorem dL_law_1132 : decode cL_law 1132 = .ok (.iload 6, 2) := by decide +kernel
theorem dL_law_1134 : decode cL_law 1134 = .ok (.i2l, 1) := by decide +kernel
theorem dL_law_1135 : decode cL_law 1135 = .ok (.lcmp, 1) := by decide +kernel
theorem dL_law_1136 : decode cL_law 1136 = .ok (.ifCond .eq 5, 3) := by decide +kernel
theorem dL_law_1139 : decode cL_law 1139 = .ok (.iconst 0, 1) := by decide +kernel
theorem dL_law_1140 : decode cL_law 1140 = .ok (.ireturn, 1) := by decide +kernel
theorem dL_law_1141 : decode cL_law 1141 = .ok (.goto 304, 3) := by decide +kernel
theorem dL_law_1144 : decode cL_law 1144 = .ok (.aload_n 1, 1) := by decide +kernel
theorem dL_law_1145 : decode cL_law 1145 = .ok (.aload_n 0, 1) := by decide +kernel
theorem dL_law_1146 : decode cL_law 1146 = .ok (.iload 4, 2) := by decide +kernel
theorem dL_law_1148 : decode cL_law 1148 = .ok (.iconst 1, 1) := by decide +kernel
theorem dL_law_1149 : decode cL_law 1149 = .ok (.iadd, 1) := by decide +kernel
theorem dL_law_1150 : decode cL_law 1150 = .ok (.iaload, 1) := by decide +kernel
theorem dL_law_1151 : decode cL_law 1151 = .ok (.aload_n 0, 1) := by decide +kernel
theorem dL_law_1152 : decode cL_law 1152 = .ok (.iload 4, 2) := by decide +kernel
theorem dL_law_1154 : decode cL_law 1154 = .ok (.iconst 2, 1) := by decide +kernel
theorem dL_law_1155 : decode cL_law 1155 = .ok (.iadd, 1) := by decide +kernel
theorem dL_law_1156 : decode cL_law 1156 = .ok (.iaload, 1) := by decide +kernel
theorem dL_law_1157 : decode cL_law 1157 = .ok (.aload_n 3, 1) := by decide +kernel
theorem dL_law_1158 : decode cL_law 1158 = .ok (.invokestatic 142, 3) := by decide +kernel
theorem dL_law_1161 : decode cL_law 1161 = .ok (.istore 5, 2) := by decide +kernel
theorem dL_law_1163 : decode cL_law 1163 = .ok (.aload_n 2, 1) := by decide +kernel
theorem dL_law_1164 : decode cL_law 1164 = .ok (.aload_n 0, 1) := by decide +kernel
theorem dL_law_1165 : decode cL_law 1165 = .ok (.iload 4, 2) := by decide +kernel
theorem dL_law_1167 : decode cL_law 1167 = .ok (.iconst 1, 1) := by decide +kernel
theorem dL_law_1168 : decode cL_law 1168 = .ok (.iadd, 1) := by decide +kernel
theorem dL_law_1169 : decode cL_law 1169 = .ok (.iaload, 1) := by decide +kernel
theorem dL_law_1170 : decode cL_law 1170 = .ok (.aload_n 0, 1) := by decide +kernel
theorem dL_law_1171 : decode cL_law 1171 = .ok (.iload 4, 2) := by decide +kernel
theorem dL_law_1173 : decode cL_law 1173 = .ok (.iconst 2, 1) := by decide +kernel
theorem dL_law_1174 : decode cL_law 1174 = .ok (.iadd, 1) := by decide +kernel
theorem dL_law_1175 : decode cL_law 1175 = .ok (.iaload, 1) := by decide +kernel
theorem dL_law_1176 : decode cL_law 1176 = .ok (.invokevirtual 144, 3) := by decide +kernel
theorem dL_law_1179 : decode cL_law 1179 = .ok (.istore 6, 2) := by decide +kernel
theorem dL_law_1181 : decode cL_law 1181 = .ok (.aload_n 2, 1) := by decide +kernel
theorem dL_law_1182 : decode cL_law 1182 = .ok (.invokevirtual 90, 3) := by decide +kernel
theorem dL_law_1185 : decode cL_law 1185 = .ok (.iload 5, 2) := by decide +kernel
theorem dL_law_1187 : decode cL_law 1187 = .ok (.if_icmp .eq 5, 3) := by decide +kernel
theorem dL_law_1190 : decode cL_law 1190 = .ok (.iconst 0, 1) := by decide +kernel
theorem dL_law_1191 : decode cL_law 1191 = .ok (.ireturn, 1) := by decide +kernel
theorem dL_law_1192 : decode cL_law 1192 = .ok (.iload 5, 2) := by decide +kernel
theorem dL_law_1194 : decode cL_law 1194 = .ok (.ifCond .ne 15, 3) := by decide +kernel
theorem dL_law_1197 : decode cL_law 1197 = .ok (.aload_n 3, 1) := by decide +kernel
theorem dL_law_1198 : decode cL_law 1198 = .ok (.iconst 0, 1) := by decide +kernel
theorem dL_law_1199 : decode cL_law 1199 = .ok (.laload, 1) := by decide +kernel
theorem dL_law_1200 : decode cL_law 1200 = .ok (.iload 6, 2) := by decide +kernel
theorem dL_law_1202 : decode cL_law 1202 = .ok (.i2l, 1) := by decide +kernel
theorem dL_law_1203 : decode cL_law 1203 = .ok (.lcmp, 1) := by decide +kernel
theorem dL_law_1204 : decode cL_law 1204 = .ok (.ifCond .eq 5, 3) := by decide +kernel
theorem dL_law_1207 : decode cL_law 1207 = .ok (.iconst 0, 1) := by decide +kernel
theorem dL_law_1208 : decode cL_law 1208 = .ok (.ireturn, 1) := by decide +kernel
theorem dL_law_1209 : decode cL_law 1209 = .ok (.goto 236, 3) := by decide +kernel
theorem dL_law_1212 : decode cL_law 1212 = .ok (.aload_n 1, 1) := by decide +kernel
theorem dL_law_1213 : decode cL_law 1213 = .ok (.aload_n 0, 1) := by decide +kernel
theorem dL_law_1214 : decode cL_law 1214 = .ok (.iload 4, 2) := by decide +kernel
theorem dL_law_1216 : decode cL_law 1216 = .ok (.iconst 1, 1) := by decide +kernel
theorem dL_law_1217 : decode cL_law 1217 = .ok (.iadd, 1) := by decide +kernel
theorem dL_law_1218 : decode cL_law 1218 = .ok (.iaload, 1) := by decide +kernel
theorem dL_law_1219 : decode cL_law 1219 = .ok (.aload_n 0, 1) := by decide +kernel
theorem dL_law_1220 : decode cL_law 1220 = .ok (.iload 4, 2) := by decide +kernel
theorem dL_law_1222 : decode cL_law 1222 = .ok (.iconst 2, 1) := by decide +kernel
theorem dL_law_1223 : decode cL_law 1223 = .ok (.iadd, 1) := by decide +kernel
theorem dL_law_1224 : decode cL_law 1224 = .ok (.iaload, 1) := by decide +kernel
theorem dL_law_1225 : decode cL_law 1225 = .ok (.aload_n 0, 1) := by decide +kernel
theorem dL_law_1226 : decode cL_law 1226 = .ok (.iload 4, 2) := by decide +kernel
theorem dL_law_1228 : decode cL_law 1228 = .ok (.iconst 3, 1) := by decide +kernel
theorem dL_law_1229 : decode cL_law 1229 = .ok (.iadd, 1) := by decide +kernel
theorem dL_law_1230 : decode cL_law 1230 = .ok (.iaload, 1) := by decide +kernel
theorem dL_law_1231 : decode cL_law 1231 = .ok (.aload_n 0, 1) := by decide +kernel
theorem dL_law_1232 : decode cL_law 1232 = .ok (.iload 4, 2) := by decide +kernel
theorem dL_law_1234 : decode cL_law 1234 = .ok (.iconst 4, 1) := by decide +kernel
theorem dL_law_1235 : decode cL_law 1235 = .ok (.iadd, 1) := by decide +kernel
theorem dL_law_1236 : decode cL_law 1236 = .ok (.iaload, 1) := by decide +kernel
theorem dL_law_1237 : decode cL_law 1237 = .ok (.ifCond .eq 7, 3) := by decide +kernel
theorem dL_law_1240 : decode cL_law 1240 = .ok (.iconst 1, 1) := by decide +kernel
theorem dL_law_1241 : decode cL_law 1241 = .ok (.goto 4, 3) := by decide +kernel
theorem dL_law_1244 : decode cL_law 1244 = .ok (.iconst 0, 1) := by decide +kernel
theorem dL_law_1245 : decode cL_law 1245 = .ok (.aload_n 3, 1) := by decide +kernel
theorem dL_law_1246 : decode cL_law 1246 = .ok (.invokestatic 145, 3) := by decide +kernel
theorem dL_law_1249 : decode cL_law 1249 = .ok (.istore 5, 2) := by decide +kernel
theorem dL_law_1251 : decode cL_law 1251 = .ok (.aload_n 2, 1) := by decide +kernel
theorem dL_law_1252 : decode cL_law 1252 = .ok (.aload_n 0, 1) := by decide +kernel
theorem dL_law_1253 : decode cL_law 1253 = .ok (.iload 4, 2) := by decide +kernel
theorem dL_law_1255 : decode cL_law 1255 = .ok (.iconst 1, 1) := by decide +kernel
theorem dL_law_1256 : decode cL_law 1256 = .ok (.iadd, 1) := by decide +kernel
theorem dL_law_1257 : decode cL_law 1257 = .ok (.iaload, 1) := by decide +kernel
theorem dL_law_1258 : decode cL_law 1258 = .ok (.aload_n 0, 1) := by decide +kernel
theorem dL_law_1259 : decode cL_law 1259 = .ok (.iload 4, 2) := by decide +kernel
theorem dL_law_1261 : decode cL_law 1261 = .ok (.iconst 2, 1) := by decide +kernel
theorem dL_law_1262 : decode cL_law 1262 = .ok (.iadd, 1) := by decide +kernel
theorem dL_law_1263 : decode cL_law 1263 = .ok (.iaload, 1) := by decide +kernel
theorem dL_law_1264 : decode cL_law 1264 = .ok (.aload_n 0, 1) := by decide +kernel
theorem dL_law_1265 : decode cL_law 1265 = .ok (.iload 4, 2) := by decide +kernel
theorem dL_law_1267 : decode cL_law 1267 = .ok (.iconst 3, 1) := by decide +kernel
theorem dL_law_1268 : decode cL_law 1268 = .ok (.iadd, 1) := by decide +kernel
theorem dL_law_1269 : decode cL_law 1269 = .ok (.iaload, 1) := by decide +kernel
theorem dL_law_1270 : decode cL_law 1270 = .ok (.aload_n 0, 1) := by decide +kernel
theorem dL_law_1271 : decode cL_law 1271 = .ok (.iload 4, 2) := by decide +kernel
theorem dL_law_1273 : decode cL_law 1273 = .ok (.iconst 4, 1) := by decide +kernel
theorem dL_law_1274 : decode cL_law 1274 = .ok (.iadd, 1) := by decide +kernel
theorem dL_law_1275 : decode cL_law 1275 = .ok (.iaload, 1) := by decide +kernel
theorem dL_law_1276 : decode cL_law 1276 = .ok (.ifCond .eq 7, 3) := by decide +kernel
theorem dL_law_1279 : decode cL_law 1279 = .ok (.iconst 1, 1) := by decide +kernel
theorem dL_law_1280 : decode cL_law 1280 = .ok (.goto 4, 3) := by decide +kernel
theorem dL_law_1283 : decode cL_law 1283 = .ok (.iconst 0, 1) := by decide +kernel
theorem dL_law_1284 : decode cL_law 1284 = .ok (.invokevirtual 148, 3) := by decide +kernel
theorem dL_law_1287 : decode cL_law 1287 = .ok (.istore 6, 2) := by decide +kernel
theorem dL_law_1289 : decode cL_law 1289 = .ok (.aload_n 2, 1) := by decide +kernel
theorem dL_law_1290 : decode cL_law 1290 = .ok (.invokevirtual 90, 3) := by decide +kernel
theorem dL_law_1293 : decode cL_law 1293 = .ok (.iload 5, 2) := by decide +kernel
theorem dL_law_1295 : decode cL_law 1295 = .ok (.if_icmp .eq 5, 3) := by decide +kernel
theorem dL_law_1298 : decode cL_law 1298 = .ok (.iconst 0, 1) := by decide +kernel
theorem dL_law_1299 : decode cL_law 1299 = .ok (.ireturn, 1) := by decide +kernel
theorem dL_law_1300 : decode cL_law 1300 = .ok (.iload 5, 2) := by decide +kernel
theorem dL_law_1302 : decode cL_law 1302 = .ok (.ifCond .ne 15, 3) := by decide +kernel
theorem dL_law_1305 : decode cL_law 1305 = .ok (.aload_n 3, 1) := by decide +kernel
theorem dL_law_1306 : decode cL_law 1306 = .ok (.iconst 0, 1) := by decide +kernel
theorem dL_law_1307 : decode cL_law 1307 = .ok (.laload, 1) := by decide +kernel
theorem dL_law_1308 : decode cL_law 1308 = .ok (.iload 6, 2) := by decide +kernel
theorem dL_law_1310 : decode cL_law 1310 = .ok (.i2l, 1) := by decide +kernel
theorem dL_law_1311 : decode cL_law 1311 = .ok (.lcmp, 1) := by decide +kernel
theorem dL_law_1312 : decode cL_law 1312 = .ok (.ifCond .eq 5, 3) := by decide +kernel
theorem dL_law_1315 : decode cL_law 1315 = .ok (.iconst 0, 1) := by decide +kernel
theorem dL_law_1316 : decode cL_law 1316 = .ok (.ireturn, 1) := by decide +kernel
theorem dL_law_1317 : decode cL_law 1317 = .ok (.goto 128, 3) := by decide +kernel
theorem dL_law_1320 : decode cL_law 1320 = .ok (.aload_n 1, 1) := by decide +kernel
theorem dL_law_1321 : decode cL_law 1321 = .ok (.aload_n 0, 1) := by decide +kernel
theorem dL_law_1322 : decode cL_law 1322 = .ok (.iload 4, 2) := by decide +kernel
theorem dL_law_1324 : decode cL_law 1324 = .ok (.iconst 1, 1) := by decide +kernel
theorem dL_law_1325 : decode cL_law 1325 = .ok (.iadd, 1) := by decide +kernel
theorem dL_law_1326 : decode cL_law 1326 = .ok (.iaload, 1) := by decide +kernel
theorem dL_law_1327 : decode cL_law 1327 = .ok (.aload_n 3, 1) := by decide +kernel
theorem dL_law_1328 : decode cL_law 1328 = .ok (.invokestatic 149, 3) := by decide +kernel
theorem dL_law_1331 : decode cL_law 1331 = .ok (.istore 5, 2) := by decide +kernel
theorem dL_law_1333 : decode cL_law 1333 = .ok (.aload_n 2, 1) := by decide +kernel
theorem dL_law_1334 : decode cL_law 1334 = .ok (.aload_n 0, 1) := by decide +kernel
theorem dL_law_1335 : decode cL_law 1335 = .ok (.iload 4, 2) := by decide +kernel
theorem dL_law_1337 : decode cL_law 1337 = .ok (.iconst 1, 1) := by decide +kernel
theorem dL_law_1338 : decode cL_law 1338 = .ok (.iadd, 1) := by decide +kernel
theorem dL_law_1339 : decode cL_law 1339 = .ok (.iaload, 1) := by decide +kernel
theorem dL_law_1340 : decode cL_law 1340 = .ok (.invokevirtual 151, 3) := by decide +kernel
theorem dL_law_1343 : decode cL_law 1343 = .ok (.istore 6, 2) := by decide +kernel
theorem dL_law_1345 : decode cL_law 1345 = .ok (.aload_n 2, 1) := by decide +kernel
theorem dL_law_1346 : decode cL_law 1346 = .ok (.invokevirtual 90, 3) := by decide +kernel
theorem dL_law_1349 : decode cL_law 1349 = .ok (.iload 5, 2) := by decide +kernel
theorem dL_law_1351 : decode cL_law 1351 = .ok (.if_icmp .eq 5, 3) := by decide +kernel
theorem dL_law_1354 : decode cL_law 1354 = .ok (.iconst 0, 1) := by decide +kernel
theorem dL_law_1355 : decode cL_law 1355 = .ok (.ireturn, 1) := by decide +kernel
theorem dL_law_1356 : decode cL_law 1356 = .ok (.iload 5, 2) := by decide +kernel
theorem dL_law_1358 : decode cL_law 1358 = .ok (.ifCond .ne 15, 3) := by decide +kernel
theorem dL_law_1361 : decode cL_law 1361 = .ok (.aload_n 3, 1) := by decide +kernel
theorem dL_law_1362 : decode cL_law 1362 = .ok (.iconst 0, 1) := by decide +kernel
theorem dL_law_1363 : decode cL_law 1363 = .ok (.laload, 1) := by decide +kernel
theorem dL_law_1364 : decode cL_law 1364 = .ok (.iload 6, 2) := by decide +kernel
theorem dL_law_1366 : decode cL_law 1366 = .ok (.i2l, 1) := by decide +kernel
theorem dL_law_1367 : decode cL_law 1367 = .ok (.lcmp, 1) := by decide +kernel
theorem dL_law_1368 : decode cL_law 1368 = .ok (.ifCond .eq 5, 3) := by decide +kernel
theorem dL_law_1371 : decode cL_law 1371 = .ok (.iconst 0, 1) := by decide +kernel
theorem dL_law_1372 : decode cL_law 1372 = .ok (.ireturn, 1) := by decide +kernel
theorem dL_law_1373 : decode cL_law 1373 = .ok (.goto 72, 3) := by decide +kernel
theorem dL_law_1376 : decode cL_law 1376 = .ok (.aload_n 1, 1) := by decide +kernel
theorem dL_law_1377 : decode cL_law 1377 = .ok (.invokevirtual 152, 3) := by decide +kernel
theorem dL_law_1380 : decode cL_law 1380 = .ok (.aload_n 2, 1) := by decide +kernel
theorem dL_law_1381 : decode cL_law 1381 = .ok (.invokevirtual 155, 3) := by decide +kernel
theorem dL_law_1384 : decode cL_law 1384 = .ok (.if_icmp .eq 61, 3) := by decide +kernel
theorem dL_law_1387 : decode cL_law 1387 = .ok (.iconst 0, 1) := by decide +kernel
theorem dL_law_1388 : decode cL_law 1388 = .ok (.ireturn, 1) := by decide +kernel
theorem dL_law_1389 : decode cL_law 1389 = .ok (.aload_n 1, 1) := by decide +kernel
theorem dL_law_1390 : decode cL_law 1390 = .ok (.aload_n 0, 1) := by decide +kernel
theorem dL_law_1391 : decode cL_law 1391 = .ok (.iload 4, 2) := by decide +kernel
theorem dL_law_1393 : decode cL_law 1393 = .ok (.iconst 1, 1) := by decide +kernel
theorem dL_law_1394 : decode cL_law 1394 = .ok (.iadd, 1) := by decide +kernel
theorem dL_law_1395 : decode cL_law 1395 = .ok (.iaload, 1) := by decide +kernel
theorem dL_law_1396 : decode cL_law 1396 = .ok (.aload_n 3, 1) := by decide +kernel
theorem dL_law_1397 : decode cL_law 1397 = .ok (.invokestatic 156, 3) := by decide +kernel
theorem dL_law_1400 : decode cL_law 1400 = .ok (.istore 5, 2) := by decide +kernel
theorem dL_law_1402 : decode cL_law 1402 = .ok (.aload_n 2, 1) := by decide +kernel
theorem dL_law_1403 : decode cL_law 1403 = .ok (.aload_n 0, 1) := by decide +kernel
theorem dL_law_1404 : decode cL_law 1404 = .ok (.iload 4, 2) := by decide +kernel
theorem dL_law_1406 : decode cL_law 1406 = .ok (.iconst 1, 1) := by decide +kernel
theorem dL_law_1407 : decode cL_law 1407 = .ok (.iadd, 1) := by decide +kernel
theorem dL_law_1408 : decode cL_law 1408 = .ok (.iaload, 1) := by decide +kernel
theorem dL_law_1409 : decode cL_law 1409 = .ok (.invokevirtual 158, 3) := by decide +kernel
theorem dL_law_1412 : decode cL_law 1412 = .ok (.istore 6, 2) := by decide +kernel
theorem dL_law_1414 : decode cL_law 1414 = .ok (.aload_n 2, 1) := by decide +kernel
theorem dL_law_1415 : decode cL_law 1415 = .ok (.invokevirtual 90, 3) := by decide +kernel
theorem dL_law_1418 : decode cL_law 1418 = .ok (.iload 5, 2) := by decide +kernel
theorem dL_law_1420 : decode cL_law 1420 = .ok (.if_icmp .eq 5, 3) := by decide +kernel
theorem dL_law_1423 : decode cL_law 1423 = .ok (.iconst 0, 1) := by decide +kernel
theorem dL_law_1424 : decode cL_law 1424 = .ok (.ireturn, 1) := by decide +kernel
theorem dL_law_1425 : decode cL_law 1425 = .ok (.iload 5, 2) := by decide +kernel
theorem dL_law_1427 : decode cL_law 1427 = .ok (.ifCond .ne 15, 3) := by decide +kernel
theorem dL_law_1430 : decode cL_law 1430 = .ok (.aload_n 3, 1) := by decide +kernel
theorem dL_law_1431 : decode cL_law 1431 = .ok (.iconst 0, 1) := by decide +kernel
theorem dL_law_1432 : decode cL_law 1432 = .ok (.laload, 1) := by decide +kernel
theorem dL_law_1433 : decode cL_law 1433 = .ok (.iload 6, 2) := by decide +kernel
theorem dL_law_1435 : decode cL_law 1435 = .ok (.i2l, 1) := by decide +kernel
theorem dL_law_1436 : decode cL_law 1436 = .ok (.lcmp, 1) := by decide +kernel
theorem dL_law_1437 : decode cL_law 1437 = .ok (.ifCond .eq 5, 3) := by decide +kernel
theorem dL_law_1440 : decode cL_law 1440 = .ok (.iconst 0, 1) := by decide +kernel
theorem dL_law_1441 : decode cL_law 1441 = .ok (.ireturn, 1) := by decide +kernel
theorem dL_law_1442 : decode cL_law 1442 = .ok (.goto 3, 3) := by decide +kernel
theorem dL_law_1445 : decode cL_law 1445 = .ok (.iinc 4 5, 3) := by decide +kernel
theorem dL_law_1448 : decode cL_law 1448 = .ok (.goto (-1425), 3) := by decide +kernel
theorem dL_law_1451 : decode cL_law 1451 = .ok (.iconst 1, 1) := by decide +kernel
theorem dL_law_1452 : decode cL_law 1452 = .ok (.ireturn, 1) := by decide +kernel
