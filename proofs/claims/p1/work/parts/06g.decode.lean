theorem d_Mo_can_0 : decode b_Mo_can 0 = .ok (.iload_n 1, 1) := by decide +kernel
theorem d_Mo_can_1 : decode b_Mo_can 1 = .ok (.tableswitch 307 0 19 #[95, 97, 102, 102, 102, 102, 102, 102, 95, 124, 145, 151, 173, 204, 145, 226, 95, 95, 242, 284], 95) := by decide +kernel
theorem d_Mo_can_96 : decode b_Mo_can 96 = .ok (.iconst 1, 1) := by decide +kernel
theorem d_Mo_can_97 : decode b_Mo_can 97 = .ok (.ireturn, 1) := by decide +kernel
theorem d_Mo_can_98 : decode b_Mo_can 98 = .ok (.iload_n 2, 1) := by decide +kernel
theorem d_Mo_can_99 : decode b_Mo_can 99 = .ok (.invokestatic 135, 3) := by decide +kernel
theorem d_Mo_can_102 : decode b_Mo_can 102 = .ok (.ireturn, 1) := by decide +kernel
theorem d_Mo_can_103 : decode b_Mo_can 103 = .ok (.aload_n 0, 1) := by decide +kernel
theorem d_Mo_can_104 : decode b_Mo_can 104 = .ok (.iload_n 2, 1) := by decide +kernel
theorem d_Mo_can_105 : decode b_Mo_can 105 = .ok (.invokevirtual 139, 3) := by decide +kernel
theorem d_Mo_can_108 : decode b_Mo_can 108 = .ok (.ifCond .eq 15, 3) := by decide +kernel
theorem d_Mo_can_111 : decode b_Mo_can 111 = .ok (.aload_n 0, 1) := by decide +kernel
theorem d_Mo_can_112 : decode b_Mo_can 112 = .ok (.iload_n 3, 1) := by decide +kernel
theorem d_Mo_can_113 : decode b_Mo_can 113 = .ok (.invokevirtual 139, 3) := by decide +kernel
theorem d_Mo_can_116 : decode b_Mo_can 116 = .ok (.ifCond .eq 7, 3) := by decide +kernel
theorem d_Mo_can_119 : decode b_Mo_can 119 = .ok (.iconst 1, 1) := by decide +kernel
theorem d_Mo_can_120 : decode b_Mo_can 120 = .ok (.goto 4, 3) := by decide +kernel
theorem d_Mo_can_123 : decode b_Mo_can 123 = .ok (.iconst 0, 1) := by decide +kernel
theorem d_Mo_can_124 : decode b_Mo_can 124 = .ok (.ireturn, 1) := by decide +kernel
theorem d_Mo_can_125 : decode b_Mo_can 125 = .ok (.iload_n 2, 1) := by decide +kernel
theorem d_Mo_can_126 : decode b_Mo_can 126 = .ok (.invokestatic 135, 3) := by decide +kernel
theorem d_Mo_can_129 : decode b_Mo_can 129 = .ok (.ifCond .eq 15, 3) := by decide +kernel
theorem d_Mo_can_132 : decode b_Mo_can 132 = .ok (.aload_n 0, 1) := by decide +kernel
theorem d_Mo_can_133 : decode b_Mo_can 133 = .ok (.iload_n 3, 1) := by decide +kernel
theorem d_Mo_can_134 : decode b_Mo_can 134 = .ok (.invokevirtual 139, 3) := by decide +kernel
theorem d_Mo_can_137 : decode b_Mo_can 137 = .ok (.ifCond .eq 7, 3) := by decide +kernel
theorem d_Mo_can_140 : decode b_Mo_can 140 = .ok (.iconst 1, 1) := by decide +kernel
theorem d_Mo_can_141 : decode b_Mo_can 141 = .ok (.goto 4, 3) := by decide +kernel
theorem d_Mo_can_144 : decode b_Mo_can 144 = .ok (.iconst 0, 1) := by decide +kernel
theorem d_Mo_can_145 : decode b_Mo_can 145 = .ok (.ireturn, 1) := by decide +kernel
theorem d_Mo_can_146 : decode b_Mo_can 146 = .ok (.aload_n 0, 1) := by decide +kernel
theorem d_Mo_can_147 : decode b_Mo_can 147 = .ok (.iload_n 2, 1) := by decide +kernel
theorem d_Mo_can_148 : decode b_Mo_can 148 = .ok (.invokevirtual 139, 3) := by decide +kernel
theorem d_Mo_can_151 : decode b_Mo_can 151 = .ok (.ireturn, 1) := by decide +kernel
theorem d_Mo_can_152 : decode b_Mo_can 152 = .ok (.aload_n 0, 1) := by decide +kernel
theorem d_Mo_can_153 : decode b_Mo_can 153 = .ok (.iload_n 2, 1) := by decide +kernel
theorem d_Mo_can_154 : decode b_Mo_can 154 = .ok (.invokevirtual 142, 3) := by decide +kernel
theorem d_Mo_can_157 : decode b_Mo_can 157 = .ok (.ifCond .eq 15, 3) := by decide +kernel
theorem d_Mo_can_160 : decode b_Mo_can 160 = .ok (.aload_n 0, 1) := by decide +kernel
theorem d_Mo_can_161 : decode b_Mo_can 161 = .ok (.iload_n 3, 1) := by decide +kernel
theorem d_Mo_can_162 : decode b_Mo_can 162 = .ok (.invokevirtual 142, 3) := by decide +kernel
theorem d_Mo_can_165 : decode b_Mo_can 165 = .ok (.ifCond .eq 7, 3) := by decide +kernel
theorem d_Mo_can_168 : decode b_Mo_can 168 = .ok (.iconst 1, 1) := by decide +kernel
theorem d_Mo_can_169 : decode b_Mo_can 169 = .ok (.goto 4, 3) := by decide +kernel
theorem d_Mo_can_172 : decode b_Mo_can 172 = .ok (.iconst 0, 1) := by decide +kernel
theorem d_Mo_can_173 : decode b_Mo_can 173 = .ok (.ireturn, 1) := by decide +kernel
theorem d_Mo_can_174 : decode b_Mo_can 174 = .ok (.aload_n 0, 1) := by decide +kernel
theorem d_Mo_can_175 : decode b_Mo_can 175 = .ok (.iload_n 2, 1) := by decide +kernel
theorem d_Mo_can_176 : decode b_Mo_can 176 = .ok (.invokevirtual 139, 3) := by decide +kernel
theorem d_Mo_can_179 : decode b_Mo_can 179 = .ok (.ifCond .eq 24, 3) := by decide +kernel
theorem d_Mo_can_182 : decode b_Mo_can 182 = .ok (.aload_n 0, 1) := by decide +kernel
theorem d_Mo_can_183 : decode b_Mo_can 183 = .ok (.iload_n 3, 1) := by decide +kernel
theorem d_Mo_can_184 : decode b_Mo_can 184 = .ok (.invokevirtual 142, 3) := by decide +kernel
theorem d_Mo_can_187 : decode b_Mo_can 187 = .ok (.ifCond .eq 16, 3) := by decide +kernel
theorem d_Mo_can_190 : decode b_Mo_can 190 = .ok (.aload_n 0, 1) := by decide +kernel
theorem d_Mo_can_191 : decode b_Mo_can 191 = .ok (.iload 4, 2) := by decide +kernel
theorem d_Mo_can_193 : decode b_Mo_can 193 = .ok (.invokevirtual 142, 3) := by decide +kernel
theorem d_Mo_can_196 : decode b_Mo_can 196 = .ok (.ifCond .eq 7, 3) := by decide +kernel
theorem d_Mo_can_199 : decode b_Mo_can 199 = .ok (.iconst 1, 1) := by decide +kernel
theorem d_Mo_can_200 : decode b_Mo_can 200 = .ok (.goto 4, 3) := by decide +kernel
theorem d_Mo_can_203 : decode b_Mo_can 203 = .ok (.iconst 0, 1) := by decide +kernel
theorem d_Mo_can_204 : decode b_Mo_can 204 = .ok (.ireturn, 1) := by decide +kernel
theorem d_Mo_can_205 : decode b_Mo_can 205 = .ok (.aload_n 0, 1) := by decide +kernel
theorem d_Mo_can_206 : decode b_Mo_can 206 = .ok (.iload_n 2, 1) := by decide +kernel
theorem d_Mo_can_207 : decode b_Mo_can 207 = .ok (.invokevirtual 139, 3) := by decide +kernel
theorem d_Mo_can_210 : decode b_Mo_can 210 = .ok (.ifCond .eq 15, 3) := by decide +kernel
theorem d_Mo_can_213 : decode b_Mo_can 213 = .ok (.aload_n 0, 1) := by decide +kernel
theorem d_Mo_can_214 : decode b_Mo_can 214 = .ok (.iload_n 3, 1) := by decide +kernel
theorem d_Mo_can_215 : decode b_Mo_can 215 = .ok (.invokevirtual 142, 3) := by decide +kernel
theorem d_Mo_can_218 : decode b_Mo_can 218 = .ok (.ifCond .eq 7, 3) := by decide +kernel
theorem d_Mo_can_221 : decode b_Mo_can 221 = .ok (.iconst 1, 1) := by decide +kernel
theorem d_Mo_can_222 : decode b_Mo_can 222 = .ok (.goto 4, 3) := by decide +kernel
theorem d_Mo_can_225 : decode b_Mo_can 225 = .ok (.iconst 0, 1) := by decide +kernel
theorem d_Mo_can_226 : decode b_Mo_can 226 = .ok (.ireturn, 1) := by decide +kernel
theorem d_Mo_can_227 : decode b_Mo_can 227 = .ok (.iload_n 2, 1) := by decide +kernel
theorem d_Mo_can_228 : decode b_Mo_can 228 = .ok (.ifCond .lt 13, 3) := by decide +kernel
theorem d_Mo_can_231 : decode b_Mo_can 231 = .ok (.iload_n 2, 1) := by decide +kernel
theorem d_Mo_can_232 : decode b_Mo_can 232 = .ok (.bipush 6, 2) := by decide +kernel
theorem d_Mo_can_234 : decode b_Mo_can 234 = .ok (.if_icmp .ge 7, 3) := by decide +kernel
theorem d_Mo_can_237 : decode b_Mo_can 237 = .ok (.iconst 1, 1) := by decide +kernel
theorem d_Mo_can_238 : decode b_Mo_can 238 = .ok (.goto 4, 3) := by decide +kernel
theorem d_Mo_can_241 : decode b_Mo_can 241 = .ok (.iconst 0, 1) := by decide +kernel
theorem d_Mo_can_242 : decode b_Mo_can 242 = .ok (.ireturn, 1) := by decide +kernel
theorem d_Mo_can_243 : decode b_Mo_can 243 = .ok (.aload_n 0, 1) := by decide +kernel
theorem d_Mo_can_244 : decode b_Mo_can 244 = .ok (.iload_n 2, 1) := by decide +kernel
theorem d_Mo_can_245 : decode b_Mo_can 245 = .ok (.invokevirtual 142, 3) := by decide +kernel
theorem d_Mo_can_248 : decode b_Mo_can 248 = .ok (.ifCond .eq 35, 3) := by decide +kernel
theorem d_Mo_can_251 : decode b_Mo_can 251 = .ok (.iload_n 3, 1) := by decide +kernel
theorem d_Mo_can_252 : decode b_Mo_can 252 = .ok (.iconst (-1), 1) := by decide +kernel
theorem d_Mo_can_253 : decode b_Mo_can 253 = .ok (.if_icmp .eq 11, 3) := by decide +kernel
theorem d_Mo_can_256 : decode b_Mo_can 256 = .ok (.aload_n 0, 1) := by decide +kernel
theorem d_Mo_can_257 : decode b_Mo_can 257 = .ok (.iload_n 3, 1) := by decide +kernel
theorem d_Mo_can_258 : decode b_Mo_can 258 = .ok (.invokevirtual 145, 3) := by decide +kernel
theorem d_Mo_can_261 : decode b_Mo_can 261 = .ok (.ifCond .eq 22, 3) := by decide +kernel
theorem d_Mo_can_264 : decode b_Mo_can 264 = .ok (.iload 4, 2) := by decide +kernel
theorem d_Mo_can_266 : decode b_Mo_can 266 = .ok (.iconst (-1), 1) := by decide +kernel
theorem d_Mo_can_267 : decode b_Mo_can 267 = .ok (.if_icmp .eq 12, 3) := by decide +kernel
theorem d_Mo_can_270 : decode b_Mo_can 270 = .ok (.aload_n 0, 1) := by decide +kernel
theorem d_Mo_can_271 : decode b_Mo_can 271 = .ok (.iload 4, 2) := by decide +kernel
theorem d_Mo_can_273 : decode b_Mo_can 273 = .ok (.invokevirtual 142, 3) := by decide +kernel
theorem d_Mo_can_276 : decode b_Mo_can 276 = .ok (.ifCond .eq 7, 3) := by decide +kernel
theorem d_Mo_can_279 : decode b_Mo_can 279 = .ok (.iconst 1, 1) := by decide +kernel
theorem d_Mo_can_280 : decode b_Mo_can 280 = .ok (.goto 4, 3) := by decide +kernel
theorem d_Mo_can_283 : decode b_Mo_can 283 = .ok (.iconst 0, 1) := by decide +kernel
theorem d_Mo_can_284 : decode b_Mo_can 284 = .ok (.ireturn, 1) := by decide +kernel
theorem d_Mo_can_285 : decode b_Mo_can 285 = .ok (.iload 4, 2) := by decide +kernel
theorem d_Mo_can_287 : decode b_Mo_can 287 = .ok (.invokestatic 135, 3) := by decide +kernel
theorem d_Mo_can_290 : decode b_Mo_can 290 = .ok (.ifCond .eq 16, 3) := by decide +kernel
theorem d_Mo_can_293 : decode b_Mo_can 293 = .ok (.aload_n 0, 1) := by decide +kernel
theorem d_Mo_can_294 : decode b_Mo_can 294 = .ok (.iload 5, 2) := by decide +kernel
theorem d_Mo_can_296 : decode b_Mo_can 296 = .ok (.invokevirtual 142, 3) := by decide +kernel
theorem d_Mo_can_299 : decode b_Mo_can 299 = .ok (.ifCond .eq 7, 3) := by decide +kernel
theorem d_Mo_can_302 : decode b_Mo_can 302 = .ok (.iconst 1, 1) := by decide +kernel
theorem d_Mo_can_303 : decode b_Mo_can 303 = .ok (.goto 4, 3) := by decide +kernel
theorem d_Mo_can_306 : decode b_Mo_can 306 = .ok (.iconst 0, 1) := by decide +kernel
theorem d_Mo_can_307 : decode b_Mo_can 307 = .ok (.ireturn, 1) := by decide +kernel
theorem d_Mo_can_308 : decode b_Mo_can 308 = .ok (.iconst 0, 1) := by decide +kernel
theorem d_Mo_can_309 : decode b_Mo_can 309 = .ok (.ireturn, 1) := by decide +kernel
theorem d_Mo_adds_0 : decode b_Mo_adds 0 = .ok (.aload_n 0, 1) := by decide +kernel
theorem d_Mo_adds_1 : decode b_Mo_adds 1 = .ok (.getfield 7, 3) := by decide +kernel
theorem d_Mo_adds_4 : decode b_Mo_adds 4 = .ok (.aload_n 0, 1) := by decide +kernel
theorem d_Mo_adds_5 : decode b_Mo_adds 5 = .ok (.getfield 128, 3) := by decide +kernel
theorem d_Mo_adds_8 : decode b_Mo_adds 8 = .ok (.iload_n 1, 1) := by decide +kernel
theorem d_Mo_adds_9 : decode b_Mo_adds 9 = .ok (.iastore, 1) := by decide +kernel
theorem d_Mo_adds_10 : decode b_Mo_adds 10 = .ok (.aload_n 0, 1) := by decide +kernel
theorem d_Mo_adds_11 : decode b_Mo_adds 11 = .ok (.getfield 13, 3) := by decide +kernel
theorem d_Mo_adds_14 : decode b_Mo_adds 14 = .ok (.aload_n 0, 1) := by decide +kernel
theorem d_Mo_adds_15 : decode b_Mo_adds 15 = .ok (.getfield 128, 3) := by decide +kernel
theorem d_Mo_adds_18 : decode b_Mo_adds 18 = .ok (.iload_n 2, 1) := by decide +kernel
theorem d_Mo_adds_19 : decode b_Mo_adds 19 = .ok (.iastore, 1) := by decide +kernel
theorem d_Mo_adds_20 : decode b_Mo_adds 20 = .ok (.aload_n 0, 1) := by decide +kernel
theorem d_Mo_adds_21 : decode b_Mo_adds 21 = .ok (.getfield 16, 3) := by decide +kernel
theorem d_Mo_adds_24 : decode b_Mo_adds 24 = .ok (.aload_n 0, 1) := by decide +kernel
theorem d_Mo_adds_25 : decode b_Mo_adds 25 = .ok (.getfield 128, 3) := by decide +kernel
theorem d_Mo_adds_28 : decode b_Mo_adds 28 = .ok (.iload_n 3, 1) := by decide +kernel
theorem d_Mo_adds_29 : decode b_Mo_adds 29 = .ok (.iastore, 1) := by decide +kernel
theorem d_Mo_adds_30 : decode b_Mo_adds 30 = .ok (.aload_n 0, 1) := by decide +kernel
theorem d_Mo_adds_31 : decode b_Mo_adds 31 = .ok (.getfield 19, 3) := by decide +kernel
theorem d_Mo_adds_34 : decode b_Mo_adds 34 = .ok (.aload_n 0, 1) := by decide +kernel
theorem d_Mo_adds_35 : decode b_Mo_adds 35 = .ok (.getfield 128, 3) := by decide +kernel
theorem d_Mo_adds_38 : decode b_Mo_adds 38 = .ok (.iload 4, 2) := by decide +kernel
theorem d_Mo_adds_40 : decode b_Mo_adds 40 = .ok (.iastore, 1) := by decide +kernel
theorem d_Mo_adds_41 : decode b_Mo_adds 41 = .ok (.aload_n 0, 1) := by decide +kernel
theorem d_Mo_adds_42 : decode b_Mo_adds 42 = .ok (.getfield 22, 3) := by decide +kernel
theorem d_Mo_adds_45 : decode b_Mo_adds 45 = .ok (.aload_n 0, 1) := by decide +kernel
theorem d_Mo_adds_46 : decode b_Mo_adds 46 = .ok (.getfield 128, 3) := by decide +kernel
theorem d_Mo_adds_49 : decode b_Mo_adds 49 = .ok (.iload 5, 2) := by decide +kernel
theorem d_Mo_adds_51 : decode b_Mo_adds 51 = .ok (.iastore, 1) := by decide +kernel
theorem d_Mo_adds_52 : decode b_Mo_adds 52 = .ok (.aload_n 0, 1) := by decide +kernel
theorem d_Mo_adds_53 : decode b_Mo_adds 53 = .ok (.dup, 1) := by decide +kernel
theorem d_Mo_adds_54 : decode b_Mo_adds 54 = .ok (.getfield 128, 3) := by decide +kernel
theorem d_Mo_adds_57 : decode b_Mo_adds 57 = .ok (.iconst 1, 1) := by decide +kernel
theorem d_Mo_adds_58 : decode b_Mo_adds 58 = .ok (.iadd, 1) := by decide +kernel
theorem d_Mo_adds_59 : decode b_Mo_adds 59 = .ok (.putfield 128, 3) := by decide +kernel
theorem d_Mo_adds_62 : decode b_Mo_adds 62 = .ok (.aload_n 0, 1) := by decide +kernel
theorem d_Mo_adds_63 : decode b_Mo_adds 63 = .ok (.getfield 128, 3) := by decide +kernel
theorem d_Mo_adds_66 : decode b_Mo_adds 66 = .ok (.iconst 1, 1) := by decide +kernel
theorem d_Mo_adds_67 : decode b_Mo_adds 67 = .ok (.isub, 1) := by decide +kernel
theorem d_Mo_adds_68 : decode b_Mo_adds 68 = .ok (.ireturn, 1) := by decide +kernel
theorem d_Mo_node_0 : decode b_Mo_node 0 = .ok (.aload_n 0, 1) := by decide +kernel
theorem d_Mo_node_1 : decode b_Mo_node 1 = .ok (.iconst 0, 1) := by decide +kernel
theorem d_Mo_node_2 : decode b_Mo_node 2 = .ok (.putfield 125, 3) := by decide +kernel
theorem d_Mo_node_5 : decode b_Mo_node 5 = .ok (.aload_n 0, 1) := by decide +kernel
theorem d_Mo_node_6 : decode b_Mo_node 6 = .ok (.getfield 128, 3) := by decide +kernel
theorem d_Mo_node_9 : decode b_Mo_node 9 = .ok (.sipush 150, 3) := by decide +kernel
theorem d_Mo_node_12 : decode b_Mo_node 12 = .ok (.if_icmp .eq 17, 3) := by decide +kernel
theorem d_Mo_node_15 : decode b_Mo_node 15 = .ok (.aload_n 0, 1) := by decide +kernel
theorem d_Mo_node_16 : decode b_Mo_node 16 = .ok (.iload_n 1, 1) := by decide +kernel
theorem d_Mo_node_17 : decode b_Mo_node 17 = .ok (.iload_n 2, 1) := by decide +kernel
theorem d_Mo_node_18 : decode b_Mo_node 18 = .ok (.iload_n 3, 1) := by decide +kernel
theorem d_Mo_node_19 : decode b_Mo_node 19 = .ok (.iload 4, 2) := by decide +kernel
theorem d_Mo_node_21 : decode b_Mo_node 21 = .ok (.iload 5, 2) := by decide +kernel
theorem d_Mo_node_23 : decode b_Mo_node 23 = .ok (.invokevirtual 148, 3) := by decide +kernel
theorem d_Mo_node_26 : decode b_Mo_node 26 = .ok (.ifCond .ne 7, 3) := by decide +kernel
theorem d_Mo_node_29 : decode b_Mo_node 29 = .ok (.iconst (-1), 1) := by decide +kernel
theorem d_Mo_node_30 : decode b_Mo_node 30 = .ok (.goto 14, 3) := by decide +kernel
theorem d_Mo_node_33 : decode b_Mo_node 33 = .ok (.aload_n 0, 1) := by decide +kernel
theorem d_Mo_node_34 : decode b_Mo_node 34 = .ok (.iload_n 1, 1) := by decide +kernel
theorem d_Mo_node_35 : decode b_Mo_node 35 = .ok (.iload_n 2, 1) := by decide +kernel
theorem d_Mo_node_36 : decode b_Mo_node 36 = .ok (.iload_n 3, 1) := by decide +kernel
theorem d_Mo_node_37 : decode b_Mo_node 37 = .ok (.iload 4, 2) := by decide +kernel
theorem d_Mo_node_39 : decode b_Mo_node 39 = .ok (.iload 5, 2) := by decide +kernel
theorem d_Mo_node_41 : decode b_Mo_node 41 = .ok (.invokevirtual 152, 3) := by decide +kernel
theorem d_Mo_node_44 : decode b_Mo_node 44 = .ok (.ireturn, 1) := by decide +kernel
theorem d_Mo_catchBehind_0 : decode b_Mo_catchBehind 0 = .ok (.aload_n 0, 1) := by decide +kernel
theorem d_Mo_catchBehind_1 : decode b_Mo_catchBehind 1 = .ok (.iconst 0, 1) := by decide +kernel
theorem d_Mo_catchBehind_2 : decode b_Mo_catchBehind 2 = .ok (.putfield 125, 3) := by decide +kernel
theorem d_Mo_catchBehind_5 : decode b_Mo_catchBehind 5 = .ok (.aload_n 0, 1) := by decide +kernel
theorem d_Mo_catchBehind_6 : decode b_Mo_catchBehind 6 = .ok (.getfield 128, 3) := by decide +kernel
theorem d_Mo_catchBehind_9 : decode b_Mo_catchBehind 9 = .ok (.sipush 150, 3) := by decide +kernel
theorem d_Mo_catchBehind_12 : decode b_Mo_catchBehind 12 = .ok (.if_icmp .eq 26, 3) := by decide +kernel
theorem d_Mo_catchBehind_15 : decode b_Mo_catchBehind 15 = .ok (.aload_n 0, 1) := by decide +kernel
theorem d_Mo_catchBehind_16 : decode b_Mo_catchBehind 16 = .ok (.bipush 19, 2) := by decide +kernel
theorem d_Mo_catchBehind_18 : decode b_Mo_catchBehind 18 = .ok (.iload_n 1, 1) := by decide +kernel
theorem d_Mo_catchBehind_19 : decode b_Mo_catchBehind 19 = .ok (.iload_n 2, 1) := by decide +kernel
theorem d_Mo_catchBehind_20 : decode b_Mo_catchBehind 20 = .ok (.iload_n 3, 1) := by decide +kernel
theorem d_Mo_catchBehind_21 : decode b_Mo_catchBehind 21 = .ok (.iload 4, 2) := by decide +kernel
theorem d_Mo_catchBehind_23 : decode b_Mo_catchBehind 23 = .ok (.invokevirtual 148, 3) := by decide +kernel
theorem d_Mo_catchBehind_26 : decode b_Mo_catchBehind 26 = .ok (.ifCond .eq 12, 3) := by decide +kernel
theorem d_Mo_catchBehind_29 : decode b_Mo_catchBehind 29 = .ok (.aload_n 0, 1) := by decide +kernel
theorem d_Mo_catchBehind_30 : decode b_Mo_catchBehind 30 = .ok (.iload 5, 2) := by decide +kernel
theorem d_Mo_catchBehind_32 : decode b_Mo_catchBehind 32 = .ok (.invokevirtual 145, 3) := by decide +kernel
theorem d_Mo_catchBehind_35 : decode b_Mo_catchBehind 35 = .ok (.ifCond .ne 5, 3) := by decide +kernel
theorem d_Mo_catchBehind_38 : decode b_Mo_catchBehind 38 = .ok (.iconst (-1), 1) := by decide +kernel
theorem d_Mo_catchBehind_39 : decode b_Mo_catchBehind 39 = .ok (.ireturn, 1) := by decide +kernel
theorem d_Mo_catchBehind_40 : decode b_Mo_catchBehind 40 = .ok (.aload_n 0, 1) := by decide +kernel
theorem d_Mo_catchBehind_41 : decode b_Mo_catchBehind 41 = .ok (.getfield 25, 3) := by decide +kernel
theorem d_Mo_catchBehind_44 : decode b_Mo_catchBehind 44 = .ok (.aload_n 0, 1) := by decide +kernel
theorem d_Mo_catchBehind_45 : decode b_Mo_catchBehind 45 = .ok (.getfield 128, 3) := by decide +kernel
theorem d_Mo_catchBehind_48 : decode b_Mo_catchBehind 48 = .ok (.iload 5, 2) := by decide +kernel
theorem d_Mo_catchBehind_50 : decode b_Mo_catchBehind 50 = .ok (.iastore, 1) := by decide +kernel
theorem d_Mo_catchBehind_51 : decode b_Mo_catchBehind 51 = .ok (.aload_n 0, 1) := by decide +kernel
theorem d_Mo_catchBehind_52 : decode b_Mo_catchBehind 52 = .ok (.bipush 20, 2) := by decide +kernel
theorem d_Mo_catchBehind_54 : decode b_Mo_catchBehind 54 = .ok (.iload_n 1, 1) := by decide +kernel
theorem d_Mo_catchBehind_55 : decode b_Mo_catchBehind 55 = .ok (.iload_n 2, 1) := by decide +kernel
theorem d_Mo_catchBehind_56 : decode b_Mo_catchBehind 56 = .ok (.iload_n 3, 1) := by decide +kernel
theorem d_Mo_catchBehind_57 : decode b_Mo_catchBehind 57 = .ok (.iload 4, 2) := by decide +kernel
theorem d_Mo_catchBehind_59 : decode b_Mo_catchBehind 59 = .ok (.invokevirtual 152, 3) := by decide +kernel
theorem d_Mo_catchBehind_62 : decode b_Mo_catchBehind 62 = .ok (.ireturn, 1) := by decide +kernel
theorem d_Mo_body_0 : decode b_Mo_body 0 = .ok (.aload_n 0, 1) := by decide +kernel
theorem d_Mo_body_1 : decode b_Mo_body 1 = .ok (.iconst 0, 1) := by decide +kernel
theorem d_Mo_body_2 : decode b_Mo_body 2 = .ok (.putfield 125, 3) := by decide +kernel
theorem d_Mo_body_5 : decode b_Mo_body 5 = .ok (.iload_n 1, 1) := by decide +kernel
theorem d_Mo_body_6 : decode b_Mo_body 6 = .ok (.ifCond .lt 21, 3) := by decide +kernel
theorem d_Mo_body_9 : decode b_Mo_body 9 = .ok (.iload_n 1, 1) := by decide +kernel
theorem d_Mo_body_10 : decode b_Mo_body 10 = .ok (.iconst 5, 1) := by decide +kernel
theorem d_Mo_body_11 : decode b_Mo_body 11 = .ok (.if_icmp .gt 16, 3) := by decide +kernel
theorem d_Mo_body_14 : decode b_Mo_body 14 = .ok (.iload_n 2, 1) := by decide +kernel
theorem d_Mo_body_15 : decode b_Mo_body 15 = .ok (.iconst (-1), 1) := by decide +kernel
theorem d_Mo_body_16 : decode b_Mo_body 16 = .ok (.if_icmp .eq 13, 3) := by decide +kernel
theorem d_Mo_body_19 : decode b_Mo_body 19 = .ok (.aload_n 0, 1) := by decide +kernel
theorem d_Mo_body_20 : decode b_Mo_body 20 = .ok (.iload_n 2, 1) := by decide +kernel
theorem d_Mo_body_21 : decode b_Mo_body 21 = .ok (.invokevirtual 142, 3) := by decide +kernel
theorem d_Mo_body_24 : decode b_Mo_body 24 = .ok (.ifCond .ne 5, 3) := by decide +kernel
theorem d_Mo_body_27 : decode b_Mo_body 27 = .ok (.iconst 0, 1) := by decide +kernel
theorem d_Mo_body_28 : decode b_Mo_body 28 = .ok (.ireturn, 1) := by decide +kernel
theorem d_Mo_body_29 : decode b_Mo_body 29 = .ok (.aload_n 0, 1) := by decide +kernel
theorem d_Mo_body_30 : decode b_Mo_body 30 = .ok (.getfield 28, 3) := by decide +kernel
theorem d_Mo_body_33 : decode b_Mo_body 33 = .ok (.iload_n 1, 1) := by decide +kernel
theorem d_Mo_body_34 : decode b_Mo_body 34 = .ok (.iload_n 2, 1) := by decide +kernel
theorem d_Mo_body_35 : decode b_Mo_body 35 = .ok (.iastore, 1) := by decide +kernel
theorem d_Mo_body_36 : decode b_Mo_body 36 = .ok (.iconst 1, 1) := by decide +kernel
theorem d_Mo_body_37 : decode b_Mo_body 37 = .ok (.ireturn, 1) := by decide +kernel
theorem d_Mo_hasFinally_0 : decode b_Mo_hasFinally 0 = .ok (.aload_n 0, 1) := by decide +kernel
theorem d_Mo_hasFinally_1 : decode b_Mo_hasFinally 1 = .ok (.getfield 7, 3) := by decide +kernel
theorem d_Mo_hasFinally_4 : decode b_Mo_hasFinally 4 = .ok (.aload_n 0, 1) := by decide +kernel
theorem d_Mo_hasFinally_5 : decode b_Mo_hasFinally 5 = .ok (.getfield 58, 3) := by decide +kernel
theorem d_Mo_hasFinally_8 : decode b_Mo_hasFinally 8 = .ok (.iload_n 1, 1) := by decide +kernel
theorem d_Mo_hasFinally_9 : decode b_Mo_hasFinally 9 = .ok (.iaload, 1) := by decide +kernel
theorem d_Mo_hasFinally_10 : decode b_Mo_hasFinally 10 = .ok (.iaload, 1) := by decide +kernel
theorem d_Mo_hasFinally_11 : decode b_Mo_hasFinally 11 = .ok (.bipush 18, 2) := by decide +kernel
theorem d_Mo_hasFinally_13 : decode b_Mo_hasFinally 13 = .ok (.if_icmp .ne 22, 3) := by decide +kernel
theorem d_Mo_hasFinally_16 : decode b_Mo_hasFinally 16 = .ok (.aload_n 0, 1) := by decide +kernel
theorem d_Mo_hasFinally_17 : decode b_Mo_hasFinally 17 = .ok (.getfield 19, 3) := by decide +kernel
theorem d_Mo_hasFinally_20 : decode b_Mo_hasFinally 20 = .ok (.aload_n 0, 1) := by decide +kernel
theorem d_Mo_hasFinally_21 : decode b_Mo_hasFinally 21 = .ok (.getfield 58, 3) := by decide +kernel
theorem d_Mo_hasFinally_24 : decode b_Mo_hasFinally 24 = .ok (.iload_n 1, 1) := by decide +kernel
theorem d_Mo_hasFinally_25 : decode b_Mo_hasFinally 25 = .ok (.iaload, 1) := by decide +kernel
theorem d_Mo_hasFinally_26 : decode b_Mo_hasFinally 26 = .ok (.iaload, 1) := by decide +kernel
theorem d_Mo_hasFinally_27 : decode b_Mo_hasFinally 27 = .ok (.iconst (-1), 1) := by decide +kernel
theorem d_Mo_hasFinally_28 : decode b_Mo_hasFinally 28 = .ok (.if_icmp .eq 7, 3) := by decide +kernel
theorem d_Mo_hasFinally_31 : decode b_Mo_hasFinally 31 = .ok (.iconst 1, 1) := by decide +kernel
theorem d_Mo_hasFinally_32 : decode b_Mo_hasFinally 32 = .ok (.goto 4, 3) := by decide +kernel
theorem d_Mo_hasFinally_35 : decode b_Mo_hasFinally 35 = .ok (.iconst 0, 1) := by decide +kernel
theorem d_Mo_hasFinally_36 : decode b_Mo_hasFinally 36 = .ok (.ireturn, 1) := by decide +kernel
theorem d_Mo_row_IIIII_0 : decode b_Mo_row_IIIII 0 = .ok (.aload_n 0, 1) := by decide +kernel
theorem d_Mo_row_IIIII_1 : decode b_Mo_row_IIIII 1 = .ok (.getfield 244, 3) := by decide +kernel
theorem d_Mo_row_IIIII_4 : decode b_Mo_row_IIIII 4 = .ok (.sipush 300, 3) := by decide +kernel
theorem d_Mo_row_IIIII_7 : decode b_Mo_row_IIIII 7 = .ok (.if_icmp .ne 9, 3) := by decide +kernel
theorem d_Mo_row_IIIII_10 : decode b_Mo_row_IIIII 10 = .ok (.aload_n 0, 1) := by decide +kernel
theorem d_Mo_row_IIIII_11 : decode b_Mo_row_IIIII 11 = .ok (.iconst 1, 1) := by decide +kernel
theorem d_Mo_row_IIIII_12 : decode b_Mo_row_IIIII 12 = .ok (.putfield 167, 3) := by decide +kernel
theorem d_Mo_row_IIIII_15 : decode b_Mo_row_IIIII 15 = .ok (.return_, 1) := by decide +kernel
theorem d_Mo_row_IIIII_16 : decode b_Mo_row_IIIII 16 = .ok (.aload_n 0, 1) := by decide +kernel
theorem d_Mo_row_IIIII_17 : decode b_Mo_row_IIIII 17 = .ok (.getfield 40, 3) := by decide +kernel
theorem d_Mo_row_IIIII_20 : decode b_Mo_row_IIIII 20 = .ok (.aload_n 0, 1) := by decide +kernel
theorem d_Mo_row_IIIII_21 : decode b_Mo_row_IIIII 21 = .ok (.getfield 244, 3) := by decide +kernel
theorem d_Mo_row_IIIII_24 : decode b_Mo_row_IIIII 24 = .ok (.iload_n 1, 1) := by decide +kernel
theorem d_Mo_row_IIIII_25 : decode b_Mo_row_IIIII 25 = .ok (.iastore, 1) := by decide +kernel
theorem d_Mo_row_IIIII_26 : decode b_Mo_row_IIIII 26 = .ok (.aload_n 0, 1) := by decide +kernel
theorem d_Mo_row_IIIII_27 : decode b_Mo_row_IIIII 27 = .ok (.getfield 43, 3) := by decide +kernel
theorem d_Mo_row_IIIII_30 : decode b_Mo_row_IIIII 30 = .ok (.aload_n 0, 1) := by decide +kernel
theorem d_Mo_row_IIIII_31 : decode b_Mo_row_IIIII 31 = .ok (.getfield 244, 3) := by decide +kernel
theorem d_Mo_row_IIIII_34 : decode b_Mo_row_IIIII 34 = .ok (.iload_n 2, 1) := by decide +kernel
theorem d_Mo_row_IIIII_35 : decode b_Mo_row_IIIII 35 = .ok (.iastore, 1) := by decide +kernel
theorem d_Mo_row_IIIII_36 : decode b_Mo_row_IIIII 36 = .ok (.aload_n 0, 1) := by decide +kernel
theorem d_Mo_row_IIIII_37 : decode b_Mo_row_IIIII 37 = .ok (.getfield 46, 3) := by decide +kernel
theorem d_Mo_row_IIIII_40 : decode b_Mo_row_IIIII 40 = .ok (.aload_n 0, 1) := by decide +kernel
theorem d_Mo_row_IIIII_41 : decode b_Mo_row_IIIII 41 = .ok (.getfield 244, 3) := by decide +kernel
theorem d_Mo_row_IIIII_44 : decode b_Mo_row_IIIII 44 = .ok (.iload_n 3, 1) := by decide +kernel
theorem d_Mo_row_IIIII_45 : decode b_Mo_row_IIIII 45 = .ok (.iastore, 1) := by decide +kernel
theorem d_Mo_row_IIIII_46 : decode b_Mo_row_IIIII 46 = .ok (.aload_n 0, 1) := by decide +kernel
theorem d_Mo_row_IIIII_47 : decode b_Mo_row_IIIII 47 = .ok (.getfield 49, 3) := by decide +kernel
theorem d_Mo_row_IIIII_50 : decode b_Mo_row_IIIII 50 = .ok (.aload_n 0, 1) := by decide +kernel
theorem d_Mo_row_IIIII_51 : decode b_Mo_row_IIIII 51 = .ok (.getfield 244, 3) := by decide +kernel
theorem d_Mo_row_IIIII_54 : decode b_Mo_row_IIIII 54 = .ok (.iload 4, 2) := by decide +kernel
theorem d_Mo_row_IIIII_56 : decode b_Mo_row_IIIII 56 = .ok (.iastore, 1) := by decide +kernel
theorem d_Mo_row_IIIII_57 : decode b_Mo_row_IIIII 57 = .ok (.aload_n 0, 1) := by decide +kernel
theorem d_Mo_row_IIIII_58 : decode b_Mo_row_IIIII 58 = .ok (.getfield 52, 3) := by decide +kernel
theorem d_Mo_row_IIIII_61 : decode b_Mo_row_IIIII 61 = .ok (.aload_n 0, 1) := by decide +kernel
theorem d_Mo_row_IIIII_62 : decode b_Mo_row_IIIII 62 = .ok (.getfield 244, 3) := by decide +kernel
theorem d_Mo_row_IIIII_65 : decode b_Mo_row_IIIII 65 = .ok (.iload 5, 2) := by decide +kernel
theorem d_Mo_row_IIIII_67 : decode b_Mo_row_IIIII 67 = .ok (.iastore, 1) := by decide +kernel
theorem d_Mo_row_IIIII_68 : decode b_Mo_row_IIIII 68 = .ok (.aload_n 0, 1) := by decide +kernel
theorem d_Mo_row_IIIII_69 : decode b_Mo_row_IIIII 69 = .ok (.dup, 1) := by decide +kernel
theorem d_Mo_row_IIIII_70 : decode b_Mo_row_IIIII 70 = .ok (.getfield 244, 3) := by decide +kernel
theorem d_Mo_row_IIIII_73 : decode b_Mo_row_IIIII 73 = .ok (.iconst 1, 1) := by decide +kernel
theorem d_Mo_row_IIIII_74 : decode b_Mo_row_IIIII 74 = .ok (.iadd, 1) := by decide +kernel
theorem d_Mo_row_IIIII_75 : decode b_Mo_row_IIIII 75 = .ok (.putfield 244, 3) := by decide +kernel
theorem d_Mo_row_IIIII_78 : decode b_Mo_row_IIIII 78 = .ok (.return_, 1) := by decide +kernel
theorem d_Mo_isAround_0 : decode b_Mo_isAround 0 = .ok (.aload_n 0, 1) := by decide +kernel
theorem d_Mo_isAround_1 : decode b_Mo_isAround 1 = .ok (.getfield 37, 3) := by decide +kernel
theorem d_Mo_isAround_4 : decode b_Mo_isAround 4 = .ok (.iload_n 2, 1) := by decide +kernel
theorem d_Mo_isAround_5 : decode b_Mo_isAround 5 = .ok (.iaload, 1) := by decide +kernel
theorem d_Mo_isAround_6 : decode b_Mo_isAround 6 = .ok (.istore_n 3, 1) := by decide +kernel
theorem d_Mo_isAround_7 : decode b_Mo_isAround 7 = .ok (.iload_n 3, 1) := by decide +kernel
theorem d_Mo_isAround_8 : decode b_Mo_isAround 8 = .ok (.iconst (-1), 1) := by decide +kernel
theorem d_Mo_isAround_9 : decode b_Mo_isAround 9 = .ok (.if_icmp .eq 28, 3) := by decide +kernel
theorem d_Mo_isAround_12 : decode b_Mo_isAround 12 = .ok (.iload_n 3, 1) := by decide +kernel
theorem d_Mo_isAround_13 : decode b_Mo_isAround 13 = .ok (.iconst 2, 1) := by decide +kernel
theorem d_Mo_isAround_14 : decode b_Mo_isAround 14 = .ok (.idiv, 1) := by decide +kernel
theorem d_Mo_isAround_15 : decode b_Mo_isAround 15 = .ok (.iload_n 1, 1) := by decide +kernel
theorem d_Mo_isAround_16 : decode b_Mo_isAround 16 = .ok (.if_icmp .ne 9, 3) := by decide +kernel
theorem d_Mo_isAround_19 : decode b_Mo_isAround 19 = .ok (.iconst 1, 1) := by decide +kernel
theorem d_Mo_isAround_20 : decode b_Mo_isAround 20 = .ok (.iload_n 3, 1) := by decide +kernel
theorem d_Mo_isAround_21 : decode b_Mo_isAround 21 = .ok (.iconst 2, 1) := by decide +kernel
theorem d_Mo_isAround_22 : decode b_Mo_isAround 22 = .ok (.irem, 1) := by decide +kernel
theorem d_Mo_isAround_23 : decode b_Mo_isAround 23 = .ok (.iadd, 1) := by decide +kernel
theorem d_Mo_isAround_24 : decode b_Mo_isAround 24 = .ok (.ireturn, 1) := by decide +kernel
theorem d_Mo_isAround_25 : decode b_Mo_isAround 25 = .ok (.aload_n 0, 1) := by decide +kernel
theorem d_Mo_isAround_26 : decode b_Mo_isAround 26 = .ok (.getfield 61, 3) := by decide +kernel
theorem d_Mo_isAround_29 : decode b_Mo_isAround 29 = .ok (.iload_n 3, 1) := by decide +kernel
theorem d_Mo_isAround_30 : decode b_Mo_isAround 30 = .ok (.iconst 2, 1) := by decide +kernel
theorem d_Mo_isAround_31 : decode b_Mo_isAround 31 = .ok (.idiv, 1) := by decide +kernel
theorem d_Mo_isAround_32 : decode b_Mo_isAround 32 = .ok (.iaload, 1) := by decide +kernel
theorem d_Mo_isAround_33 : decode b_Mo_isAround 33 = .ok (.istore_n 3, 1) := by decide +kernel
theorem d_Mo_isAround_34 : decode b_Mo_isAround 34 = .ok (.goto (-27), 3) := by decide +kernel
theorem d_Mo_isAround_37 : decode b_Mo_isAround 37 = .ok (.iconst 0, 1) := by decide +kernel
theorem d_Mo_isAround_38 : decode b_Mo_isAround 38 = .ok (.ireturn, 1) := by decide +kernel
theorem d_Mo_stretches_0 : decode b_Mo_stretches 0 = .ok (.iconst (-1), 1) := by decide +kernel
theorem d_Mo_stretches_1 : decode b_Mo_stretches 1 = .ok (.istore 6, 2) := by decide +kernel
theorem d_Mo_stretches_3 : decode b_Mo_stretches 3 = .ok (.iconst 0, 1) := by decide +kernel
theorem d_Mo_stretches_4 : decode b_Mo_stretches 4 = .ok (.istore 7, 2) := by decide +kernel
theorem d_Mo_stretches_6 : decode b_Mo_stretches 6 = .ok (.iload 7, 2) := by decide +kernel
theorem d_Mo_stretches_8 : decode b_Mo_stretches 8 = .ok (.aload_n 0, 1) := by decide +kernel
theorem d_Mo_stretches_9 : decode b_Mo_stretches 9 = .ok (.getfield 164, 3) := by decide +kernel
theorem d_Mo_stretches_12 : decode b_Mo_stretches 12 = .ok (.if_icmp .gt 103, 3) := by decide +kernel
theorem d_Mo_stretches_15 : decode b_Mo_stretches 15 = .ok (.aload_n 0, 1) := by decide +kernel
theorem d_Mo_stretches_16 : decode b_Mo_stretches 16 = .ok (.getfield 167, 3) := by decide +kernel
theorem d_Mo_stretches_19 : decode b_Mo_stretches 19 = .ok (.ifCond .ne 96, 3) := by decide +kernel
theorem d_Mo_stretches_22 : decode b_Mo_stretches 22 = .ok (.iload 7, 2) := by decide +kernel
theorem d_Mo_stretches_24 : decode b_Mo_stretches 24 = .ok (.aload_n 0, 1) := by decide +kernel
theorem d_Mo_stretches_25 : decode b_Mo_stretches 25 = .ok (.getfield 164, 3) := by decide +kernel
theorem d_Mo_stretches_28 : decode b_Mo_stretches 28 = .ok (.if_icmp .ge 13, 3) := by decide +kernel
theorem d_Mo_stretches_31 : decode b_Mo_stretches 31 = .ok (.aload_n 0, 1) := by decide +kernel
theorem d_Mo_stretches_32 : decode b_Mo_stretches 32 = .ok (.iload_n 1, 1) := by decide +kernel
theorem d_Mo_stretches_33 : decode b_Mo_stretches 33 = .ok (.iload 7, 2) := by decide +kernel
theorem d_Mo_stretches_35 : decode b_Mo_stretches 35 = .ok (.invokevirtual 247, 3) := by decide +kernel
theorem d_Mo_stretches_38 : decode b_Mo_stretches 38 = .ok (.goto 4, 3) := by decide +kernel
theorem d_Mo_stretches_41 : decode b_Mo_stretches 41 = .ok (.iconst 0, 1) := by decide +kernel
theorem d_Mo_stretches_42 : decode b_Mo_stretches 42 = .ok (.istore 8, 2) := by decide +kernel
theorem d_Mo_stretches_44 : decode b_Mo_stretches 44 = .ok (.iload 8, 2) := by decide +kernel
theorem d_Mo_stretches_46 : decode b_Mo_stretches 46 = .ok (.iconst 1, 1) := by decide +kernel
theorem d_Mo_stretches_47 : decode b_Mo_stretches 47 = .ok (.if_icmp .eq 13, 3) := by decide +kernel
theorem d_Mo_stretches_50 : decode b_Mo_stretches 50 = .ok (.iload 8, 2) := by decide +kernel
theorem d_Mo_stretches_52 : decode b_Mo_stretches 52 = .ok (.iconst 2, 1) := by decide +kernel
theorem d_Mo_stretches_53 : decode b_Mo_stretches 53 = .ok (.if_icmp .ne 11, 3) := by decide +kernel
theorem d_Mo_stretches_56 : decode b_Mo_stretches 56 = .ok (.iload_n 2, 1) := by decide +kernel
theorem d_Mo_stretches_57 : decode b_Mo_stretches 57 = .ok (.ifCond .ne 7, 3) := by decide +kernel
theorem d_Mo_stretches_60 : decode b_Mo_stretches 60 = .ok (.iconst 1, 1) := by decide +kernel
theorem d_Mo_stretches_61 : decode b_Mo_stretches 61 = .ok (.goto 4, 3) := by decide +kernel
theorem d_Mo_stretches_64 : decode b_Mo_stretches 64 = .ok (.iconst 0, 1) := by decide +kernel
theorem d_Mo_stretches_65 : decode b_Mo_stretches 65 = .ok (.istore 9, 2) := by decide +kernel
theorem d_Mo_stretches_67 : decode b_Mo_stretches 67 = .ok (.iload 9, 2) := by decide +kernel
theorem d_Mo_stretches_69 : decode b_Mo_stretches 69 = .ok (.ifCond .eq 13, 3) := by decide +kernel
theorem d_Mo_stretches_72 : decode b_Mo_stretches 72 = .ok (.iload 6, 2) := by decide +kernel
theorem d_Mo_stretches_74 : decode b_Mo_stretches 74 = .ok (.iconst (-1), 1) := by decide +kernel
theorem d_Mo_stretches_75 : decode b_Mo_stretches 75 = .ok (.if_icmp .ne 7, 3) := by decide +kernel
theorem d_Mo_stretches_78 : decode b_Mo_stretches 78 = .ok (.iload 7, 2) := by decide +kernel
theorem d_Mo_stretches_80 : decode b_Mo_stretches 80 = .ok (.istore 6, 2) := by decide +kernel
theorem d_Mo_stretches_82 : decode b_Mo_stretches 82 = .ok (.iload 9, 2) := by decide +kernel
theorem d_Mo_stretches_84 : decode b_Mo_stretches 84 = .ok (.ifCond .ne 25, 3) := by decide +kernel
theorem d_Mo_stretches_87 : decode b_Mo_stretches 87 = .ok (.iload 6, 2) := by decide +kernel
theorem d_Mo_stretches_89 : decode b_Mo_stretches 89 = .ok (.iconst (-1), 1) := by decide +kernel
theorem d_Mo_stretches_90 : decode b_Mo_stretches 90 = .ok (.if_icmp .eq 19, 3) := by decide +kernel
theorem d_Mo_stretches_93 : decode b_Mo_stretches 93 = .ok (.aload_n 0, 1) := by decide +kernel
theorem d_Mo_stretches_94 : decode b_Mo_stretches 94 = .ok (.iload 6, 2) := by decide +kernel
theorem d_Mo_stretches_96 : decode b_Mo_stretches 96 = .ok (.iload 7, 2) := by decide +kernel
theorem d_Mo_stretches_98 : decode b_Mo_stretches 98 = .ok (.iload_n 3, 1) := by decide +kernel
theorem d_Mo_stretches_99 : decode b_Mo_stretches 99 = .ok (.iload 4, 2) := by decide +kernel
theorem d_Mo_stretches_101 : decode b_Mo_stretches 101 = .ok (.iload 5, 2) := by decide +kernel
theorem d_Mo_stretches_103 : decode b_Mo_stretches 103 = .ok (.invokevirtual 250, 3) := by decide +kernel
theorem d_Mo_stretches_106 : decode b_Mo_stretches 106 = .ok (.iconst (-1), 1) := by decide +kernel
theorem d_Mo_stretches_107 : decode b_Mo_stretches 107 = .ok (.istore 6, 2) := by decide +kernel
theorem d_Mo_stretches_109 : decode b_Mo_stretches 109 = .ok (.iinc 7 1, 3) := by decide +kernel
theorem d_Mo_stretches_112 : decode b_Mo_stretches 112 = .ok (.goto (-106), 3) := by decide +kernel
theorem d_Mo_stretches_115 : decode b_Mo_stretches 115 = .ok (.return_, 1) := by decide +kernel
theorem d_Mo_catches_0 : decode b_Mo_catches 0 = .ok (.iconst 0, 1) := by decide +kernel
theorem d_Mo_catches_1 : decode b_Mo_catches 1 = .ok (.istore_n 2, 1) := by decide +kernel
theorem d_Mo_catches_2 : decode b_Mo_catches 2 = .ok (.aload_n 0, 1) := by decide +kernel
theorem d_Mo_catches_3 : decode b_Mo_catches 3 = .ok (.getfield 156, 3) := by decide +kernel
theorem d_Mo_catches_6 : decode b_Mo_catches 6 = .ok (.ifCond .eq 7, 3) := by decide +kernel
theorem d_Mo_catches_9 : decode b_Mo_catches 9 = .ok (.iconst (-1), 1) := by decide +kernel
theorem d_Mo_catches_10 : decode b_Mo_catches 10 = .ok (.goto 9, 3) := by decide +kernel
theorem d_Mo_catches_13 : decode b_Mo_catches 13 = .ok (.aload_n 0, 1) := by decide +kernel
theorem d_Mo_catches_14 : decode b_Mo_catches 14 = .ok (.getfield 16, 3) := by decide +kernel
theorem d_Mo_catches_17 : decode b_Mo_catches 17 = .ok (.iload_n 1, 1) := by decide +kernel
theorem d_Mo_catches_18 : decode b_Mo_catches 18 = .ok (.iaload, 1) := by decide +kernel
theorem d_Mo_catches_19 : decode b_Mo_catches 19 = .ok (.istore_n 3, 1) := by decide +kernel
theorem d_Mo_catches_20 : decode b_Mo_catches 20 = .ok (.iload_n 3, 1) := by decide +kernel
theorem d_Mo_catches_21 : decode b_Mo_catches 21 = .ok (.iconst (-1), 1) := by decide +kernel
theorem d_Mo_catches_22 : decode b_Mo_catches 22 = .ok (.if_icmp .eq 31, 3) := by decide +kernel
theorem d_Mo_catches_25 : decode b_Mo_catches 25 = .ok (.iinc 2 1, 3) := by decide +kernel
theorem d_Mo_catches_28 : decode b_Mo_catches 28 = .ok (.aload_n 0, 1) := by decide +kernel
theorem d_Mo_catches_29 : decode b_Mo_catches 29 = .ok (.getfield 7, 3) := by decide +kernel
theorem d_Mo_catches_32 : decode b_Mo_catches 32 = .ok (.iload_n 3, 1) := by decide +kernel
theorem d_Mo_catches_33 : decode b_Mo_catches 33 = .ok (.iaload, 1) := by decide +kernel
theorem d_Mo_catches_34 : decode b_Mo_catches 34 = .ok (.bipush 20, 2) := by decide +kernel
theorem d_Mo_catches_36 : decode b_Mo_catches 36 = .ok (.if_icmp .ne 12, 3) := by decide +kernel
theorem d_Mo_catches_39 : decode b_Mo_catches 39 = .ok (.aload_n 0, 1) := by decide +kernel
theorem d_Mo_catches_40 : decode b_Mo_catches 40 = .ok (.getfield 25, 3) := by decide +kernel
theorem d_Mo_catches_43 : decode b_Mo_catches 43 = .ok (.iload_n 3, 1) := by decide +kernel
theorem d_Mo_catches_44 : decode b_Mo_catches 44 = .ok (.iaload, 1) := by decide +kernel
theorem d_Mo_catches_45 : decode b_Mo_catches 45 = .ok (.goto 4, 3) := by decide +kernel
theorem d_Mo_catches_48 : decode b_Mo_catches 48 = .ok (.iconst (-1), 1) := by decide +kernel
theorem d_Mo_catches_49 : decode b_Mo_catches 49 = .ok (.istore_n 3, 1) := by decide +kernel
theorem d_Mo_catches_50 : decode b_Mo_catches 50 = .ok (.goto (-30), 3) := by decide +kernel
theorem d_Mo_catches_53 : decode b_Mo_catches 53 = .ok (.iload_n 2, 1) := by decide +kernel
theorem d_Mo_catches_54 : decode b_Mo_catches 54 = .ok (.ireturn, 1) := by decide +kernel
