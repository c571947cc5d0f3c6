theorem d_Mo_pass_173 : decode m_Mo_pass.2.1 173 = .ok (.iload_n 2, 1) := by decide +kernel
theorem d_Mo_pass_174 : decode m_Mo_pass.2.1 174 = .ok (.bipush 58, 2) := by decide +kernel
theorem d_Mo_pass_176 : decode m_Mo_pass.2.1 176 = .ok (.if_icmp .ne 26, 3) := by decide +kernel
theorem d_Mo_pass_179 : decode m_Mo_pass.2.1 179 = .ok (.aload_n 0, 1) := by decide +kernel
theorem d_Mo_pass_180 : decode m_Mo_pass.2.1 180 = .ok (.getfield 16, 3) := by decide +kernel
theorem d_Mo_pass_183 : decode m_Mo_pass.2.1 183 = .ok (.aload_n 0, 1) := by decide +kernel
theorem d_Mo_pass_184 : decode m_Mo_pass.2.1 184 = .ok (.getfield 13, 3) := by decide +kernel
theorem d_Mo_pass_187 : decode m_Mo_pass.2.1 187 = .ok (.aload_n 0, 1) := by decide +kernel
theorem d_Mo_pass_188 : decode m_Mo_pass.2.1 188 = .ok (.getfield 139, 3) := by decide +kernel
theorem d_Mo_pass_191 : decode m_Mo_pass.2.1 191 = .ok (.iload_n 1, 1) := by decide +kernel
theorem d_Mo_pass_192 : decode m_Mo_pass.2.1 192 = .ok (.iadd, 1) := by decide +kernel
theorem d_Mo_pass_193 : decode m_Mo_pass.2.1 193 = .ok (.iconst 1, 1) := by decide +kernel
theorem d_Mo_pass_194 : decode m_Mo_pass.2.1 194 = .ok (.iadd, 1) := by decide +kernel
theorem d_Mo_pass_195 : decode m_Mo_pass.2.1 195 = .ok (.iaload, 1) := by decide +kernel
theorem d_Mo_pass_196 : decode m_Mo_pass.2.1 196 = .ok (.iload 4, 2) := by decide +kernel
theorem d_Mo_pass_198 : decode m_Mo_pass.2.1 198 = .ok (.iastore, 1) := by decide +kernel
theorem d_Mo_pass_199 : decode m_Mo_pass.2.1 199 = .ok (.goto 62, 3) := by decide +kernel
theorem d_Mo_pass_202 : decode m_Mo_pass.2.1 202 = .ok (.iload_n 2, 1) := by decide +kernel
theorem d_Mo_pass_203 : decode m_Mo_pass.2.1 203 = .ok (.bipush 89, 2) := by decide +kernel
theorem d_Mo_pass_205 : decode m_Mo_pass.2.1 205 = .ok (.if_icmp .eq 9, 3) := by decide +kernel
theorem d_Mo_pass_208 : decode m_Mo_pass.2.1 208 = .ok (.iload_n 2, 1) := by decide +kernel
theorem d_Mo_pass_209 : decode m_Mo_pass.2.1 209 = .ok (.bipush 95, 2) := by decide +kernel
theorem d_Mo_pass_211 : decode m_Mo_pass.2.1 211 = .ok (.if_icmp .ne 33, 3) := by decide +kernel
theorem d_Mo_pass_214 : decode m_Mo_pass.2.1 214 = .ok (.aload_n 0, 1) := by decide +kernel
theorem d_Mo_pass_215 : decode m_Mo_pass.2.1 215 = .ok (.iconst 0, 1) := by decide +kernel
theorem d_Mo_pass_216 : decode m_Mo_pass.2.1 216 = .ok (.iload 4, 2) := by decide +kernel
theorem d_Mo_pass_218 : decode m_Mo_pass.2.1 218 = .ok (.iconst 0, 1) := by decide +kernel
theorem d_Mo_pass_219 : decode m_Mo_pass.2.1 219 = .ok (.invokevirtual 166, 3) := by decide +kernel
theorem d_Mo_pass_222 : decode m_Mo_pass.2.1 222 = .ok (.aload_n 0, 1) := by decide +kernel
theorem d_Mo_pass_223 : decode m_Mo_pass.2.1 223 = .ok (.iconst 0, 1) := by decide +kernel
theorem d_Mo_pass_224 : decode m_Mo_pass.2.1 224 = .ok (.iload_n 2, 1) := by decide +kernel
theorem d_Mo_pass_225 : decode m_Mo_pass.2.1 225 = .ok (.bipush 89, 2) := by decide +kernel
theorem d_Mo_pass_227 : decode m_Mo_pass.2.1 227 = .ok (.if_icmp .ne 8, 3) := by decide +kernel
theorem d_Mo_pass_230 : decode m_Mo_pass.2.1 230 = .ok (.iload 4, 2) := by decide +kernel
theorem d_Mo_pass_232 : decode m_Mo_pass.2.1 232 = .ok (.goto 5, 3) := by decide +kernel
theorem d_Mo_pass_235 : decode m_Mo_pass.2.1 235 = .ok (.iload 5, 2) := by decide +kernel
theorem d_Mo_pass_237 : decode m_Mo_pass.2.1 237 = .ok (.iconst 0, 1) := by decide +kernel
theorem d_Mo_pass_238 : decode m_Mo_pass.2.1 238 = .ok (.invokevirtual 166, 3) := by decide +kernel
theorem d_Mo_pass_241 : decode m_Mo_pass.2.1 241 = .ok (.goto 20, 3) := by decide +kernel
theorem d_Mo_pass_244 : decode m_Mo_pass.2.1 244 = .ok (.iload_n 2, 1) := by decide +kernel
theorem d_Mo_pass_245 : decode m_Mo_pass.2.1 245 = .ok (.invokestatic 151, 3) := by decide +kernel
theorem d_Mo_pass_248 : decode m_Mo_pass.2.1 248 = .ok (.ifCond .le 13, 3) := by decide +kernel
theorem d_Mo_pass_251 : decode m_Mo_pass.2.1 251 = .ok (.aload_n 0, 1) := by decide +kernel
theorem d_Mo_pass_252 : decode m_Mo_pass.2.1 252 = .ok (.iconst 0, 1) := by decide +kernel
theorem d_Mo_pass_253 : decode m_Mo_pass.2.1 253 = .ok (.iload_n 2, 1) := by decide +kernel
theorem d_Mo_pass_254 : decode m_Mo_pass.2.1 254 = .ok (.invokestatic 151, 3) := by decide +kernel
theorem d_Mo_pass_257 : decode m_Mo_pass.2.1 257 = .ok (.iconst 0, 1) := by decide +kernel
theorem d_Mo_pass_258 : decode m_Mo_pass.2.1 258 = .ok (.invokevirtual 166, 3) := by decide +kernel
theorem d_Mo_pass_261 : decode m_Mo_pass.2.1 261 = .ok (.aload_n 0, 1) := by decide +kernel
theorem d_Mo_pass_262 : decode m_Mo_pass.2.1 262 = .ok (.iload_n 2, 1) := by decide +kernel
theorem d_Mo_pass_263 : decode m_Mo_pass.2.1 263 = .ok (.sipush 167, 3) := by decide +kernel
theorem d_Mo_pass_266 : decode m_Mo_pass.2.1 266 = .ok (.if_icmp .eq 14, 3) := by decide +kernel
theorem d_Mo_pass_269 : decode m_Mo_pass.2.1 269 = .ok (.iload_n 2, 1) := by decide +kernel
theorem d_Mo_pass_270 : decode m_Mo_pass.2.1 270 = .ok (.invokestatic 58, 3) := by decide +kernel
theorem d_Mo_pass_273 : decode m_Mo_pass.2.1 273 = .ok (.ifCond .ne 7, 3) := by decide +kernel
theorem d_Mo_pass_276 : decode m_Mo_pass.2.1 276 = .ok (.iconst 1, 1) := by decide +kernel
theorem d_Mo_pass_277 : decode m_Mo_pass.2.1 277 = .ok (.goto 4, 3) := by decide +kernel
theorem d_Mo_pass_280 : decode m_Mo_pass.2.1 280 = .ok (.iconst 0, 1) := by decide +kernel
theorem d_Mo_pass_281 : decode m_Mo_pass.2.1 281 = .ok (.putfield 163, 3) := by decide +kernel
theorem d_Mo_pass_284 : decode m_Mo_pass.2.1 284 = .ok (.return_, 1) := by decide +kernel
theorem d_Mo_arrive_0 : decode m_Mo_arrive.2.1 0 = .ok (.aload_n 0, 1) := by decide +kernel
theorem d_Mo_arrive_1 : decode m_Mo_arrive.2.1 1 = .ok (.iconst 0, 1) := by decide +kernel
theorem d_Mo_arrive_2 : decode m_Mo_arrive.2.1 2 = .ok (.invokevirtual 169, 3) := by decide +kernel
theorem d_Mo_arrive_5 : decode m_Mo_arrive.2.1 5 = .ok (.aload_n 0, 1) := by decide +kernel
theorem d_Mo_arrive_6 : decode m_Mo_arrive.2.1 6 = .ok (.iconst 1, 1) := by decide +kernel
theorem d_Mo_arrive_7 : decode m_Mo_arrive.2.1 7 = .ok (.putfield 163, 3) := by decide +kernel
theorem d_Mo_arrive_10 : decode m_Mo_arrive.2.1 10 = .ok (.aload_n 0, 1) := by decide +kernel
theorem d_Mo_arrive_11 : decode m_Mo_arrive.2.1 11 = .ok (.iload_n 1, 1) := by decide +kernel
theorem d_Mo_arrive_12 : decode m_Mo_arrive.2.1 12 = .ok (.iconst 1, 1) := by decide +kernel
theorem d_Mo_arrive_13 : decode m_Mo_arrive.2.1 13 = .ok (.invokevirtual 173, 3) := by decide +kernel
theorem d_Mo_arrive_16 : decode m_Mo_arrive.2.1 16 = .ok (.istore_n 2, 1) := by decide +kernel
theorem d_Mo_arrive_17 : decode m_Mo_arrive.2.1 17 = .ok (.iconst 0, 1) := by decide +kernel
theorem d_Mo_arrive_18 : decode m_Mo_arrive.2.1 18 = .ok (.istore_n 3, 1) := by decide +kernel
theorem d_Mo_arrive_19 : decode m_Mo_arrive.2.1 19 = .ok (.iload_n 2, 1) := by decide +kernel
theorem d_Mo_arrive_20 : decode m_Mo_arrive.2.1 20 = .ok (.ifCond .lt 15, 3) := by decide +kernel
theorem d_Mo_arrive_23 : decode m_Mo_arrive.2.1 23 = .ok (.aload_n 0, 1) := by decide +kernel
theorem d_Mo_arrive_24 : decode m_Mo_arrive.2.1 24 = .ok (.iload_n 2, 1) := by decide +kernel
theorem d_Mo_arrive_25 : decode m_Mo_arrive.2.1 25 = .ok (.invokevirtual 177, 3) := by decide +kernel
theorem d_Mo_arrive_28 : decode m_Mo_arrive.2.1 28 = .ok (.aload_n 0, 1) := by decide +kernel
theorem d_Mo_arrive_29 : decode m_Mo_arrive.2.1 29 = .ok (.getfield 13, 3) := by decide +kernel
theorem d_Mo_arrive_32 : decode m_Mo_arrive.2.1 32 = .ok (.iload_n 2, 1) := by decide +kernel
theorem d_Mo_arrive_33 : decode m_Mo_arrive.2.1 33 = .ok (.iaload, 1) := by decide +kernel
theorem d_Mo_arrive_34 : decode m_Mo_arrive.2.1 34 = .ok (.istore_n 3, 1) := by decide +kernel
theorem d_Mo_arrive_35 : decode m_Mo_arrive.2.1 35 = .ok (.iload_n 3, 1) := by decide +kernel
theorem d_Mo_arrive_36 : decode m_Mo_arrive.2.1 36 = .ok (.iload_n 1, 1) := by decide +kernel
theorem d_Mo_arrive_37 : decode m_Mo_arrive.2.1 37 = .ok (.if_icmp .ge 28, 3) := by decide +kernel
theorem d_Mo_arrive_40 : decode m_Mo_arrive.2.1 40 = .ok (.aload_n 0, 1) := by decide +kernel
theorem d_Mo_arrive_41 : decode m_Mo_arrive.2.1 41 = .ok (.iload_n 3, 1) := by decide +kernel
theorem d_Mo_arrive_42 : decode m_Mo_arrive.2.1 42 = .ok (.invokevirtual 180, 3) := by decide +kernel
theorem d_Mo_arrive_45 : decode m_Mo_arrive.2.1 45 = .ok (.iload_n 3, 1) := by decide +kernel
theorem d_Mo_arrive_46 : decode m_Mo_arrive.2.1 46 = .ok (.aload_n 0, 1) := by decide +kernel
theorem d_Mo_arrive_47 : decode m_Mo_arrive.2.1 47 = .ok (.getfield 13, 3) := by decide +kernel
theorem d_Mo_arrive_50 : decode m_Mo_arrive.2.1 50 = .ok (.aload_n 0, 1) := by decide +kernel
theorem d_Mo_arrive_51 : decode m_Mo_arrive.2.1 51 = .ok (.getfield 139, 3) := by decide +kernel
theorem d_Mo_arrive_54 : decode m_Mo_arrive.2.1 54 = .ok (.iload_n 3, 1) := by decide +kernel
theorem d_Mo_arrive_55 : decode m_Mo_arrive.2.1 55 = .ok (.iadd, 1) := by decide +kernel
theorem d_Mo_arrive_56 : decode m_Mo_arrive.2.1 56 = .ok (.iaload, 1) := by decide +kernel
theorem d_Mo_arrive_57 : decode m_Mo_arrive.2.1 57 = .ok (.invokestatic 75, 3) := by decide +kernel
theorem d_Mo_arrive_60 : decode m_Mo_arrive.2.1 60 = .ok (.iadd, 1) := by decide +kernel
theorem d_Mo_arrive_61 : decode m_Mo_arrive.2.1 61 = .ok (.istore_n 3, 1) := by decide +kernel
theorem d_Mo_arrive_62 : decode m_Mo_arrive.2.1 62 = .ok (.goto (-27), 3) := by decide +kernel
theorem d_Mo_arrive_65 : decode m_Mo_arrive.2.1 65 = .ok (.return_, 1) := by decide +kernel
theorem d_Mo_passes_0 : decode m_Mo_passes.2.1 0 = .ok (.aload_n 0, 1) := by decide +kernel
theorem d_Mo_passes_1 : decode m_Mo_passes.2.1 1 = .ok (.iload_n 1, 1) := by decide +kernel
theorem d_Mo_passes_2 : decode m_Mo_passes.2.1 2 = .ok (.invokevirtual 183, 3) := by decide +kernel
theorem d_Mo_passes_5 : decode m_Mo_passes.2.1 5 = .ok (.aload_n 0, 1) := by decide +kernel
theorem d_Mo_passes_6 : decode m_Mo_passes.2.1 6 = .ok (.iload_n 1, 1) := by decide +kernel
theorem d_Mo_passes_7 : decode m_Mo_passes.2.1 7 = .ok (.iconst 0, 1) := by decide +kernel
theorem d_Mo_passes_8 : decode m_Mo_passes.2.1 8 = .ok (.invokevirtual 173, 3) := by decide +kernel
theorem d_Mo_passes_11 : decode m_Mo_passes.2.1 11 = .ok (.istore_n 2, 1) := by decide +kernel
theorem d_Mo_passes_12 : decode m_Mo_passes.2.1 12 = .ok (.iload_n 2, 1) := by decide +kernel
theorem d_Mo_passes_13 : decode m_Mo_passes.2.1 13 = .ok (.ifCond .lt 25, 3) := by decide +kernel
theorem d_Mo_passes_16 : decode m_Mo_passes.2.1 16 = .ok (.aload_n 0, 1) := by decide +kernel
theorem d_Mo_passes_17 : decode m_Mo_passes.2.1 17 = .ok (.getfield 163, 3) := by decide +kernel
theorem d_Mo_passes_20 : decode m_Mo_passes.2.1 20 = .ok (.ifCond .eq 13, 3) := by decide +kernel
theorem d_Mo_passes_23 : decode m_Mo_passes.2.1 23 = .ok (.aload_n 0, 1) := by decide +kernel
theorem d_Mo_passes_24 : decode m_Mo_passes.2.1 24 = .ok (.iload_n 2, 1) := by decide +kernel
theorem d_Mo_passes_25 : decode m_Mo_passes.2.1 25 = .ok (.invokevirtual 186, 3) := by decide +kernel
theorem d_Mo_passes_28 : decode m_Mo_passes.2.1 28 = .ok (.ifCond .ne 5, 3) := by decide +kernel
theorem d_Mo_passes_31 : decode m_Mo_passes.2.1 31 = .ok (.iconst 0, 1) := by decide +kernel
theorem d_Mo_passes_32 : decode m_Mo_passes.2.1 32 = .ok (.ireturn, 1) := by decide +kernel
theorem d_Mo_passes_33 : decode m_Mo_passes.2.1 33 = .ok (.aload_n 0, 1) := by decide +kernel
theorem d_Mo_passes_34 : decode m_Mo_passes.2.1 34 = .ok (.iload_n 2, 1) := by decide +kernel
theorem d_Mo_passes_35 : decode m_Mo_passes.2.1 35 = .ok (.invokevirtual 177, 3) := by decide +kernel
theorem d_Mo_passes_38 : decode m_Mo_passes.2.1 38 = .ok (.aload_n 0, 1) := by decide +kernel
theorem d_Mo_passes_39 : decode m_Mo_passes.2.1 39 = .ok (.getfield 163, 3) := by decide +kernel
theorem d_Mo_passes_42 : decode m_Mo_passes.2.1 42 = .ok (.ifCond .eq 12, 3) := by decide +kernel
theorem d_Mo_passes_45 : decode m_Mo_passes.2.1 45 = .ok (.aload_n 0, 1) := by decide +kernel
theorem d_Mo_passes_46 : decode m_Mo_passes.2.1 46 = .ok (.iconst 0, 1) := by decide +kernel
theorem d_Mo_passes_47 : decode m_Mo_passes.2.1 47 = .ok (.iload_n 1, 1) := by decide +kernel
theorem d_Mo_passes_48 : decode m_Mo_passes.2.1 48 = .ok (.invokevirtual 189, 3) := by decide +kernel
theorem d_Mo_passes_51 : decode m_Mo_passes.2.1 51 = .ok (.ifCond .ne 5, 3) := by decide +kernel
theorem d_Mo_passes_54 : decode m_Mo_passes.2.1 54 = .ok (.iconst 0, 1) := by decide +kernel
theorem d_Mo_passes_55 : decode m_Mo_passes.2.1 55 = .ok (.ireturn, 1) := by decide +kernel
theorem d_Mo_passes_56 : decode m_Mo_passes.2.1 56 = .ok (.aload_n 0, 1) := by decide +kernel
theorem d_Mo_passes_57 : decode m_Mo_passes.2.1 57 = .ok (.iload_n 1, 1) := by decide +kernel
theorem d_Mo_passes_58 : decode m_Mo_passes.2.1 58 = .ok (.invokevirtual 180, 3) := by decide +kernel
theorem d_Mo_passes_61 : decode m_Mo_passes.2.1 61 = .ok (.aload_n 0, 1) := by decide +kernel
theorem d_Mo_passes_62 : decode m_Mo_passes.2.1 62 = .ok (.getfield 13, 3) := by decide +kernel
theorem d_Mo_passes_65 : decode m_Mo_passes.2.1 65 = .ok (.aload_n 0, 1) := by decide +kernel
theorem d_Mo_passes_66 : decode m_Mo_passes.2.1 66 = .ok (.getfield 139, 3) := by decide +kernel
theorem d_Mo_passes_69 : decode m_Mo_passes.2.1 69 = .ok (.iload_n 1, 1) := by decide +kernel
theorem d_Mo_passes_70 : decode m_Mo_passes.2.1 70 = .ok (.iadd, 1) := by decide +kernel
theorem d_Mo_passes_71 : decode m_Mo_passes.2.1 71 = .ok (.iaload, 1) := by decide +kernel
theorem d_Mo_passes_72 : decode m_Mo_passes.2.1 72 = .ok (.invokestatic 51, 3) := by decide +kernel
theorem d_Mo_passes_75 : decode m_Mo_passes.2.1 75 = .ok (.ifCond .ne 5, 3) := by decide +kernel
theorem d_Mo_passes_78 : decode m_Mo_passes.2.1 78 = .ok (.iconst 1, 1) := by decide +kernel
theorem d_Mo_passes_79 : decode m_Mo_passes.2.1 79 = .ok (.ireturn, 1) := by decide +kernel
theorem d_Mo_passes_80 : decode m_Mo_passes.2.1 80 = .ok (.aload_n 0, 1) := by decide +kernel
theorem d_Mo_passes_81 : decode m_Mo_passes.2.1 81 = .ok (.aload_n 0, 1) := by decide +kernel
theorem d_Mo_passes_82 : decode m_Mo_passes.2.1 82 = .ok (.iload_n 1, 1) := by decide +kernel
theorem d_Mo_passes_83 : decode m_Mo_passes.2.1 83 = .ok (.invokevirtual 192, 3) := by decide +kernel
theorem d_Mo_passes_86 : decode m_Mo_passes.2.1 86 = .ok (.iconst 0, 1) := by decide +kernel
theorem d_Mo_passes_87 : decode m_Mo_passes.2.1 87 = .ok (.invokevirtual 173, 3) := by decide +kernel
theorem d_Mo_passes_90 : decode m_Mo_passes.2.1 90 = .ok (.istore_n 3, 1) := by decide +kernel
theorem d_Mo_passes_91 : decode m_Mo_passes.2.1 91 = .ok (.iload_n 3, 1) := by decide +kernel
theorem d_Mo_passes_92 : decode m_Mo_passes.2.1 92 = .ok (.ifCond .lt 15, 3) := by decide +kernel
theorem d_Mo_passes_95 : decode m_Mo_passes.2.1 95 = .ok (.aload_n 0, 1) := by decide +kernel
theorem d_Mo_passes_96 : decode m_Mo_passes.2.1 96 = .ok (.iload_n 3, 1) := by decide +kernel
theorem d_Mo_passes_97 : decode m_Mo_passes.2.1 97 = .ok (.invokevirtual 186, 3) := by decide +kernel
theorem d_Mo_passes_100 : decode m_Mo_passes.2.1 100 = .ok (.ifCond .eq 7, 3) := by decide +kernel
theorem d_Mo_passes_103 : decode m_Mo_passes.2.1 103 = .ok (.iconst 1, 1) := by decide +kernel
theorem d_Mo_passes_104 : decode m_Mo_passes.2.1 104 = .ok (.goto 4, 3) := by decide +kernel
theorem d_Mo_passes_107 : decode m_Mo_passes.2.1 107 = .ok (.iconst 0, 1) := by decide +kernel
theorem d_Mo_passes_108 : decode m_Mo_passes.2.1 108 = .ok (.ireturn, 1) := by decide +kernel
theorem d_Mo_lackOfMethod_0 : decode m_Mo_lackOfMethod.2.1 0 = .ok (.aload_n 0, 1) := by decide +kernel
theorem d_Mo_lackOfMethod_1 : decode m_Mo_lackOfMethod.2.1 1 = .ok (.getfield 102, 3) := by decide +kernel
theorem d_Mo_lackOfMethod_4 : decode m_Mo_lackOfMethod.2.1 4 = .ok (.ifCond .ne 7, 3) := by decide +kernel
theorem d_Mo_lackOfMethod_7 : decode m_Mo_lackOfMethod.2.1 7 = .ok (.iconst 1, 1) := by decide +kernel
theorem d_Mo_lackOfMethod_8 : decode m_Mo_lackOfMethod.2.1 8 = .ok (.goto 22, 3) := by decide +kernel
theorem d_Mo_lackOfMethod_11 : decode m_Mo_lackOfMethod.2.1 11 = .ok (.iload_n 1, 1) := by decide +kernel
theorem d_Mo_lackOfMethod_12 : decode m_Mo_lackOfMethod.2.1 12 = .ok (.iconst 0, 1) := by decide +kernel
theorem d_Mo_lackOfMethod_13 : decode m_Mo_lackOfMethod.2.1 13 = .ok (.aload_n 0, 1) := by decide +kernel
theorem d_Mo_lackOfMethod_14 : decode m_Mo_lackOfMethod.2.1 14 = .ok (.invokevirtual 108, 3) := by decide +kernel
theorem d_Mo_lackOfMethod_17 : decode m_Mo_lackOfMethod.2.1 17 = .ok (.iconst 1, 1) := by decide +kernel
theorem d_Mo_lackOfMethod_18 : decode m_Mo_lackOfMethod.2.1 18 = .ok (.isub, 1) := by decide +kernel
theorem d_Mo_lackOfMethod_19 : decode m_Mo_lackOfMethod.2.1 19 = .ok (.invokestatic 47, 3) := by decide +kernel
theorem d_Mo_lackOfMethod_22 : decode m_Mo_lackOfMethod.2.1 22 = .ok (.ifCond .eq 7, 3) := by decide +kernel
theorem d_Mo_lackOfMethod_25 : decode m_Mo_lackOfMethod.2.1 25 = .ok (.iconst 0, 1) := by decide +kernel
theorem d_Mo_lackOfMethod_26 : decode m_Mo_lackOfMethod.2.1 26 = .ok (.goto 4, 3) := by decide +kernel
theorem d_Mo_lackOfMethod_29 : decode m_Mo_lackOfMethod.2.1 29 = .ok (.iconst 2, 1) := by decide +kernel
theorem d_Mo_lackOfMethod_30 : decode m_Mo_lackOfMethod.2.1 30 = .ok (.ireturn, 1) := by decide +kernel
theorem d_Mo_check_0 : decode m_Mo_check.2.1 0 = .ok (.aload_n 0, 1) := by decide +kernel
theorem d_Mo_check_1 : decode m_Mo_check.2.1 1 = .ok (.aload_n 0, 1) := by decide +kernel
theorem d_Mo_check_2 : decode m_Mo_check.2.1 2 = .ok (.iload_n 1, 1) := by decide +kernel
theorem d_Mo_check_3 : decode m_Mo_check.2.1 3 = .ok (.invokevirtual 195, 3) := by decide +kernel
theorem d_Mo_check_6 : decode m_Mo_check.2.1 6 = .ok (.putfield 43, 3) := by decide +kernel
theorem d_Mo_check_9 : decode m_Mo_check.2.1 9 = .ok (.aload_n 0, 1) := by decide +kernel
theorem d_Mo_check_10 : decode m_Mo_check.2.1 10 = .ok (.getfield 43, 3) := by decide +kernel
theorem d_Mo_check_13 : decode m_Mo_check.2.1 13 = .ok (.ifCond .le 5, 3) := by decide +kernel
theorem d_Mo_check_16 : decode m_Mo_check.2.1 16 = .ok (.iconst 0, 1) := by decide +kernel
theorem d_Mo_check_17 : decode m_Mo_check.2.1 17 = .ok (.ireturn, 1) := by decide +kernel
theorem d_Mo_check_18 : decode m_Mo_check.2.1 18 = .ok (.aload_n 0, 1) := by decide +kernel
theorem d_Mo_check_19 : decode m_Mo_check.2.1 19 = .ok (.iload_n 1, 1) := by decide +kernel
theorem d_Mo_check_20 : decode m_Mo_check.2.1 20 = .ok (.invokevirtual 198, 3) := by decide +kernel
theorem d_Mo_check_23 : decode m_Mo_check.2.1 23 = .ok (.iconst 0, 1) := by decide +kernel
theorem d_Mo_check_24 : decode m_Mo_check.2.1 24 = .ok (.istore_n 2, 1) := by decide +kernel
theorem d_Mo_check_25 : decode m_Mo_check.2.1 25 = .ok (.iload_n 2, 1) := by decide +kernel
theorem d_Mo_check_26 : decode m_Mo_check.2.1 26 = .ok (.aload_n 0, 1) := by decide +kernel
theorem d_Mo_check_27 : decode m_Mo_check.2.1 27 = .ok (.getfield 136, 3) := by decide +kernel
theorem d_Mo_check_30 : decode m_Mo_check.2.1 30 = .ok (.if_icmp .ge 33, 3) := by decide +kernel
theorem d_Mo_check_33 : decode m_Mo_check.2.1 33 = .ok (.aload_n 0, 1) := by decide +kernel
theorem d_Mo_check_34 : decode m_Mo_check.2.1 34 = .ok (.iload_n 2, 1) := by decide +kernel
theorem d_Mo_check_35 : decode m_Mo_check.2.1 35 = .ok (.invokevirtual 201, 3) := by decide +kernel
theorem d_Mo_check_38 : decode m_Mo_check.2.1 38 = .ok (.ifCond .ne 5, 3) := by decide +kernel
theorem d_Mo_check_41 : decode m_Mo_check.2.1 41 = .ok (.iload_n 2, 1) := by decide +kernel
theorem d_Mo_check_42 : decode m_Mo_check.2.1 42 = .ok (.ireturn, 1) := by decide +kernel
theorem d_Mo_check_43 : decode m_Mo_check.2.1 43 = .ok (.iload_n 2, 1) := by decide +kernel
theorem d_Mo_check_44 : decode m_Mo_check.2.1 44 = .ok (.aload_n 0, 1) := by decide +kernel
theorem d_Mo_check_45 : decode m_Mo_check.2.1 45 = .ok (.getfield 13, 3) := by decide +kernel
theorem d_Mo_check_48 : decode m_Mo_check.2.1 48 = .ok (.aload_n 0, 1) := by decide +kernel
theorem d_Mo_check_49 : decode m_Mo_check.2.1 49 = .ok (.getfield 139, 3) := by decide +kernel
theorem d_Mo_check_52 : decode m_Mo_check.2.1 52 = .ok (.iload_n 2, 1) := by decide +kernel
theorem d_Mo_check_53 : decode m_Mo_check.2.1 53 = .ok (.iadd, 1) := by decide +kernel
theorem d_Mo_check_54 : decode m_Mo_check.2.1 54 = .ok (.iaload, 1) := by decide +kernel
theorem d_Mo_check_55 : decode m_Mo_check.2.1 55 = .ok (.invokestatic 75, 3) := by decide +kernel
theorem d_Mo_check_58 : decode m_Mo_check.2.1 58 = .ok (.iadd, 1) := by decide +kernel
theorem d_Mo_check_59 : decode m_Mo_check.2.1 59 = .ok (.istore_n 2, 1) := by decide +kernel
theorem d_Mo_check_60 : decode m_Mo_check.2.1 60 = .ok (.goto (-35), 3) := by decide +kernel
theorem d_Mo_check_63 : decode m_Mo_check.2.1 63 = .ok (.aload_n 0, 1) := by decide +kernel
theorem d_Mo_check_64 : decode m_Mo_check.2.1 64 = .ok (.aload_n 0, 1) := by decide +kernel
theorem d_Mo_check_65 : decode m_Mo_check.2.1 65 = .ok (.getfield 136, 3) := by decide +kernel
theorem d_Mo_check_68 : decode m_Mo_check.2.1 68 = .ok (.invokevirtual 183, 3) := by decide +kernel
theorem d_Mo_check_71 : decode m_Mo_check.2.1 71 = .ok (.aload_n 0, 1) := by decide +kernel
theorem d_Mo_check_72 : decode m_Mo_check.2.1 72 = .ok (.getfield 163, 3) := by decide +kernel
theorem d_Mo_check_75 : decode m_Mo_check.2.1 75 = .ok (.ifCond .eq 10, 3) := by decide +kernel
theorem d_Mo_check_78 : decode m_Mo_check.2.1 78 = .ok (.aload_n 0, 1) := by decide +kernel
theorem d_Mo_check_79 : decode m_Mo_check.2.1 79 = .ok (.getfield 136, 3) := by decide +kernel
theorem d_Mo_check_82 : decode m_Mo_check.2.1 82 = .ok (.goto 4, 3) := by decide +kernel
theorem d_Mo_check_85 : decode m_Mo_check.2.1 85 = .ok (.iconst (-1), 1) := by decide +kernel
theorem d_Mo_check_86 : decode m_Mo_check.2.1 86 = .ok (.ireturn, 1) := by decide +kernel
theorem d_Mo_makeRow_0 : decode m_Mo_makeRow.2.1 0 = .ok (.aload_n 0, 1) := by decide +kernel
theorem d_Mo_makeRow_1 : decode m_Mo_makeRow.2.1 1 = .ok (.getfield 37, 3) := by decide +kernel
theorem d_Mo_makeRow_4 : decode m_Mo_makeRow.2.1 4 = .ok (.aload_n 0, 1) := by decide +kernel
theorem d_Mo_makeRow_5 : decode m_Mo_makeRow.2.1 5 = .ok (.getfield 204, 3) := by decide +kernel
theorem d_Mo_makeRow_8 : decode m_Mo_makeRow.2.1 8 = .ok (.iload_n 1, 1) := by decide +kernel
theorem d_Mo_makeRow_9 : decode m_Mo_makeRow.2.1 9 = .ok (.iastore, 1) := by decide +kernel
theorem d_Mo_makeRow_10 : decode m_Mo_makeRow.2.1 10 = .ok (.iconst 0, 1) := by decide +kernel
theorem d_Mo_makeRow_11 : decode m_Mo_makeRow.2.1 11 = .ok (.istore_n 2, 1) := by decide +kernel
theorem d_Mo_makeRow_12 : decode m_Mo_makeRow.2.1 12 = .ok (.iload_n 2, 1) := by decide +kernel
theorem d_Mo_makeRow_13 : decode m_Mo_makeRow.2.1 13 = .ok (.bipush 8, 2) := by decide +kernel
theorem d_Mo_makeRow_15 : decode m_Mo_makeRow.2.1 15 = .ok (.if_icmp .ge 24, 3) := by decide +kernel
theorem d_Mo_makeRow_18 : decode m_Mo_makeRow.2.1 18 = .ok (.aload_n 0, 1) := by decide +kernel
theorem d_Mo_makeRow_19 : decode m_Mo_makeRow.2.1 19 = .ok (.getfield 40, 3) := by decide +kernel
theorem d_Mo_makeRow_22 : decode m_Mo_makeRow.2.1 22 = .ok (.bipush 8, 2) := by decide +kernel
theorem d_Mo_makeRow_24 : decode m_Mo_makeRow.2.1 24 = .ok (.aload_n 0, 1) := by decide +kernel
theorem d_Mo_makeRow_25 : decode m_Mo_makeRow.2.1 25 = .ok (.getfield 204, 3) := by decide +kernel
theorem d_Mo_makeRow_28 : decode m_Mo_makeRow.2.1 28 = .ok (.imul, 1) := by decide +kernel
theorem d_Mo_makeRow_29 : decode m_Mo_makeRow.2.1 29 = .ok (.iload_n 2, 1) := by decide +kernel
theorem d_Mo_makeRow_30 : decode m_Mo_makeRow.2.1 30 = .ok (.iadd, 1) := by decide +kernel
theorem d_Mo_makeRow_31 : decode m_Mo_makeRow.2.1 31 = .ok (.iconst 0, 1) := by decide +kernel
theorem d_Mo_makeRow_32 : decode m_Mo_makeRow.2.1 32 = .ok (.iastore, 1) := by decide +kernel
theorem d_Mo_makeRow_33 : decode m_Mo_makeRow.2.1 33 = .ok (.iinc 2 1, 3) := by decide +kernel
theorem d_Mo_makeRow_36 : decode m_Mo_makeRow.2.1 36 = .ok (.goto (-24), 3) := by decide +kernel
theorem d_Mo_makeRow_39 : decode m_Mo_makeRow.2.1 39 = .ok (.aload_n 0, 1) := by decide +kernel
theorem d_Mo_makeRow_40 : decode m_Mo_makeRow.2.1 40 = .ok (.dup, 1) := by decide +kernel
theorem d_Mo_makeRow_41 : decode m_Mo_makeRow.2.1 41 = .ok (.getfield 204, 3) := by decide +kernel
theorem d_Mo_makeRow_44 : decode m_Mo_makeRow.2.1 44 = .ok (.iconst 1, 1) := by decide +kernel
theorem d_Mo_makeRow_45 : decode m_Mo_makeRow.2.1 45 = .ok (.iadd, 1) := by decide +kernel
theorem d_Mo_makeRow_46 : decode m_Mo_makeRow.2.1 46 = .ok (.putfield 204, 3) := by decide +kernel
theorem d_Mo_makeRow_49 : decode m_Mo_makeRow.2.1 49 = .ok (.aload_n 0, 1) := by decide +kernel
theorem d_Mo_makeRow_50 : decode m_Mo_makeRow.2.1 50 = .ok (.getfield 204, 3) := by decide +kernel
theorem d_Mo_makeRow_53 : decode m_Mo_makeRow.2.1 53 = .ok (.iconst 1, 1) := by decide +kernel
theorem d_Mo_makeRow_54 : decode m_Mo_makeRow.2.1 54 = .ok (.isub, 1) := by decide +kernel
theorem d_Mo_makeRow_55 : decode m_Mo_makeRow.2.1 55 = .ok (.ireturn, 1) := by decide +kernel
theorem d_Mo_argue_0 : decode m_Mo_argue.2.1 0 = .ok (.aload_n 0, 1) := by decide +kernel
theorem d_Mo_argue_1 : decode m_Mo_argue.2.1 1 = .ok (.getfield 19, 3) := by decide +kernel
theorem d_Mo_argue_4 : decode m_Mo_argue.2.1 4 = .ok (.iload_n 1, 1) := by decide +kernel
theorem d_Mo_argue_5 : decode m_Mo_argue.2.1 5 = .ok (.iload_n 2, 1) := by decide +kernel
theorem d_Mo_argue_6 : decode m_Mo_argue.2.1 6 = .ok (.iastore, 1) := by decide +kernel
theorem d_Mo_argue_7 : decode m_Mo_argue.2.1 7 = .ok (.aload_n 0, 1) := by decide +kernel
theorem d_Mo_argue_8 : decode m_Mo_argue.2.1 8 = .ok (.getfield 16, 3) := by decide +kernel
theorem d_Mo_argue_11 : decode m_Mo_argue.2.1 11 = .ok (.iload_n 1, 1) := by decide +kernel
theorem d_Mo_argue_12 : decode m_Mo_argue.2.1 12 = .ok (.iaload, 1) := by decide +kernel
theorem d_Mo_argue_13 : decode m_Mo_argue.2.1 13 = .ok (.iconst 2, 1) := by decide +kernel
theorem d_Mo_argue_14 : decode m_Mo_argue.2.1 14 = .ok (.if_icmp .ne 17, 3) := by decide +kernel
theorem d_Mo_argue_17 : decode m_Mo_argue.2.1 17 = .ok (.iload_n 2, 1) := by decide +kernel
theorem d_Mo_argue_18 : decode m_Mo_argue.2.1 18 = .ok (.ifCond .ge 13, 3) := by decide +kernel
theorem d_Mo_argue_21 : decode m_Mo_argue.2.1 21 = .ok (.aload_n 0, 1) := by decide +kernel
theorem d_Mo_argue_22 : decode m_Mo_argue.2.1 22 = .ok (.getfield 16, 3) := by decide +kernel
theorem d_Mo_argue_25 : decode m_Mo_argue.2.1 25 = .ok (.iload_n 1, 1) := by decide +kernel
theorem d_Mo_argue_26 : decode m_Mo_argue.2.1 26 = .ok (.iconst 3, 1) := by decide +kernel
theorem d_Mo_argue_27 : decode m_Mo_argue.2.1 27 = .ok (.iastore, 1) := by decide +kernel
theorem d_Mo_argue_28 : decode m_Mo_argue.2.1 28 = .ok (.goto 65, 3) := by decide +kernel
theorem d_Mo_argue_31 : decode m_Mo_argue.2.1 31 = .ok (.aload_n 0, 1) := by decide +kernel
theorem d_Mo_argue_32 : decode m_Mo_argue.2.1 32 = .ok (.getfield 16, 3) := by decide +kernel
theorem d_Mo_argue_35 : decode m_Mo_argue.2.1 35 = .ok (.iload_n 1, 1) := by decide +kernel
theorem d_Mo_argue_36 : decode m_Mo_argue.2.1 36 = .ok (.iaload, 1) := by decide +kernel
theorem d_Mo_argue_37 : decode m_Mo_argue.2.1 37 = .ok (.iconst 2, 1) := by decide +kernel
theorem d_Mo_argue_38 : decode m_Mo_argue.2.1 38 = .ok (.if_icmp .ne 55, 3) := by decide +kernel
theorem d_Mo_argue_41 : decode m_Mo_argue.2.1 41 = .ok (.aload_n 0, 1) := by decide +kernel
theorem d_Mo_argue_42 : decode m_Mo_argue.2.1 42 = .ok (.iload_n 2, 1) := by decide +kernel
theorem d_Mo_argue_43 : decode m_Mo_argue.2.1 43 = .ok (.bipush 7, 2) := by decide +kernel
theorem d_Mo_argue_45 : decode m_Mo_argue.2.1 45 = .ok (.iand, 1) := by decide +kernel
theorem d_Mo_argue_46 : decode m_Mo_argue.2.1 46 = .ok (.invokevirtual 207, 3) := by decide +kernel
theorem d_Mo_argue_49 : decode m_Mo_argue.2.1 49 = .ok (.istore_n 3, 1) := by decide +kernel
theorem d_Mo_argue_50 : decode m_Mo_argue.2.1 50 = .ok (.iconst 0, 1) := by decide +kernel
theorem d_Mo_argue_51 : decode m_Mo_argue.2.1 51 = .ok (.istore 4, 2) := by decide +kernel
theorem d_Mo_argue_53 : decode m_Mo_argue.2.1 53 = .ok (.iload 4, 2) := by decide +kernel
theorem d_Mo_argue_55 : decode m_Mo_argue.2.1 55 = .ok (.aload_n 0, 1) := by decide +kernel
theorem d_Mo_argue_56 : decode m_Mo_argue.2.1 56 = .ok (.getfield 37, 3) := by decide +kernel
theorem d_Mo_argue_59 : decode m_Mo_argue.2.1 59 = .ok (.iload_n 3, 1) := by decide +kernel
theorem d_Mo_argue_60 : decode m_Mo_argue.2.1 60 = .ok (.iaload, 1) := by decide +kernel
theorem d_Mo_argue_61 : decode m_Mo_argue.2.1 61 = .ok (.if_icmp .ge 25, 3) := by decide +kernel
theorem d_Mo_argue_64 : decode m_Mo_argue.2.1 64 = .ok (.aload_n 0, 1) := by decide +kernel
theorem d_Mo_argue_65 : decode m_Mo_argue.2.1 65 = .ok (.getfield 40, 3) := by decide +kernel
theorem d_Mo_argue_68 : decode m_Mo_argue.2.1 68 = .ok (.bipush 8, 2) := by decide +kernel
theorem d_Mo_argue_70 : decode m_Mo_argue.2.1 70 = .ok (.iload_n 3, 1) := by decide +kernel
theorem d_Mo_argue_71 : decode m_Mo_argue.2.1 71 = .ok (.imul, 1) := by decide +kernel
theorem d_Mo_argue_72 : decode m_Mo_argue.2.1 72 = .ok (.iload 4, 2) := by decide +kernel
theorem d_Mo_argue_74 : decode m_Mo_argue.2.1 74 = .ok (.iadd, 1) := by decide +kernel
theorem d_Mo_argue_75 : decode m_Mo_argue.2.1 75 = .ok (.iload_n 2, 1) := by decide +kernel
theorem d_Mo_argue_76 : decode m_Mo_argue.2.1 76 = .ok (.iload 4, 2) := by decide +kernel
theorem d_Mo_argue_78 : decode m_Mo_argue.2.1 78 = .ok (.iadd, 1) := by decide +kernel
theorem d_Mo_argue_79 : decode m_Mo_argue.2.1 79 = .ok (.iastore, 1) := by decide +kernel
theorem d_Mo_argue_80 : decode m_Mo_argue.2.1 80 = .ok (.iinc 4 1, 3) := by decide +kernel
theorem d_Mo_argue_83 : decode m_Mo_argue.2.1 83 = .ok (.goto (-30), 3) := by decide +kernel
theorem d_Mo_argue_86 : decode m_Mo_argue.2.1 86 = .ok (.aload_n 0, 1) := by decide +kernel
theorem d_Mo_argue_87 : decode m_Mo_argue.2.1 87 = .ok (.getfield 19, 3) := by decide +kernel
theorem d_Mo_argue_90 : decode m_Mo_argue.2.1 90 = .ok (.iload_n 1, 1) := by decide +kernel
theorem d_Mo_argue_91 : decode m_Mo_argue.2.1 91 = .ok (.iload_n 3, 1) := by decide +kernel
theorem d_Mo_argue_92 : decode m_Mo_argue.2.1 92 = .ok (.iastore, 1) := by decide +kernel
theorem d_Mo_argue_93 : decode m_Mo_argue.2.1 93 = .ok (.return_, 1) := by decide +kernel
theorem d_Mo_run_0 : decode m_Mo_run.2.1 0 = .ok (.aload_n 0, 1) := by decide +kernel
theorem d_Mo_run_1 : decode m_Mo_run.2.1 1 = .ok (.aload_n 0, 1) := by decide +kernel
theorem d_Mo_run_2 : decode m_Mo_run.2.1 2 = .ok (.iload_n 1, 1) := by decide +kernel
theorem d_Mo_run_3 : decode m_Mo_run.2.1 3 = .ok (.invokevirtual 195, 3) := by decide +kernel
theorem d_Mo_run_6 : decode m_Mo_run.2.1 6 = .ok (.putfield 43, 3) := by decide +kernel
theorem d_Mo_run_9 : decode m_Mo_run.2.1 9 = .ok (.aload_n 0, 1) := by decide +kernel
theorem d_Mo_run_10 : decode m_Mo_run.2.1 10 = .ok (.getfield 43, 3) := by decide +kernel
theorem d_Mo_run_13 : decode m_Mo_run.2.1 13 = .ok (.ifCond .le 5, 3) := by decide +kernel
theorem d_Mo_run_16 : decode m_Mo_run.2.1 16 = .ok (.iconst 0, 1) := by decide +kernel
theorem d_Mo_run_17 : decode m_Mo_run.2.1 17 = .ok (.ireturn, 1) := by decide +kernel
theorem d_Mo_run_18 : decode m_Mo_run.2.1 18 = .ok (.aload_n 0, 1) := by decide +kernel
theorem d_Mo_run_19 : decode m_Mo_run.2.1 19 = .ok (.iconst 0, 1) := by decide +kernel
theorem d_Mo_run_20 : decode m_Mo_run.2.1 20 = .ok (.putfield 204, 3) := by decide +kernel
theorem d_Mo_run_23 : decode m_Mo_run.2.1 23 = .ok (.aload_n 0, 1) := by decide +kernel
theorem d_Mo_run_24 : decode m_Mo_run.2.1 24 = .ok (.iconst 1, 1) := by decide +kernel
theorem d_Mo_run_25 : decode m_Mo_run.2.1 25 = .ok (.putfield 210, 3) := by decide +kernel
theorem d_Mo_run_28 : decode m_Mo_run.2.1 28 = .ok (.aload_n 0, 1) := by decide +kernel
theorem d_Mo_run_29 : decode m_Mo_run.2.1 29 = .ok (.iconst 0, 1) := by decide +kernel
theorem d_Mo_run_30 : decode m_Mo_run.2.1 30 = .ok (.putfield 212, 3) := by decide +kernel
theorem d_Mo_run_33 : decode m_Mo_run.2.1 33 = .ok (.aload_n 0, 1) := by decide +kernel
theorem d_Mo_run_34 : decode m_Mo_run.2.1 34 = .ok (.getfield 34, 3) := by decide +kernel
theorem d_Mo_run_37 : decode m_Mo_run.2.1 37 = .ok (.iconst 0, 1) := by decide +kernel
theorem d_Mo_run_38 : decode m_Mo_run.2.1 38 = .ok (.iload_n 1, 1) := by decide +kernel
theorem d_Mo_run_39 : decode m_Mo_run.2.1 39 = .ok (.iastore, 1) := by decide +kernel
theorem d_Mo_run_40 : decode m_Mo_run.2.1 40 = .ok (.aload_n 0, 1) := by decide +kernel
theorem d_Mo_run_41 : decode m_Mo_run.2.1 41 = .ok (.getfield 31, 3) := by decide +kernel
theorem d_Mo_run_44 : decode m_Mo_run.2.1 44 = .ok (.iconst 0, 1) := by decide +kernel
theorem d_Mo_run_45 : decode m_Mo_run.2.1 45 = .ok (.iconst 0, 1) := by decide +kernel
theorem d_Mo_run_46 : decode m_Mo_run.2.1 46 = .ok (.iastore, 1) := by decide +kernel
theorem d_Mo_run_47 : decode m_Mo_run.2.1 47 = .ok (.aload_n 0, 1) := by decide +kernel
theorem d_Mo_run_48 : decode m_Mo_run.2.1 48 = .ok (.iload_n 1, 1) := by decide +kernel
theorem d_Mo_run_49 : decode m_Mo_run.2.1 49 = .ok (.invokevirtual 198, 3) := by decide +kernel
theorem d_Mo_run_52 : decode m_Mo_run.2.1 52 = .ok (.aload_n 0, 1) := by decide +kernel
theorem d_Mo_run_53 : decode m_Mo_run.2.1 53 = .ok (.iconst 0, 1) := by decide +kernel
theorem d_Mo_run_54 : decode m_Mo_run.2.1 54 = .ok (.invokevirtual 169, 3) := by decide +kernel
theorem d_Mo_run_57 : decode m_Mo_run.2.1 57 = .ok (.iconst 0, 1) := by decide +kernel
theorem d_Mo_run_58 : decode m_Mo_run.2.1 58 = .ok (.istore 5, 2) := by decide +kernel
theorem d_Mo_run_60 : decode m_Mo_run.2.1 60 = .ok (.iload 5, 2) := by decide +kernel
theorem d_Mo_run_62 : decode m_Mo_run.2.1 62 = .ok (.aload_n 0, 1) := by decide +kernel
theorem d_Mo_run_63 : decode m_Mo_run.2.1 63 = .ok (.getfield 127, 3) := by decide +kernel
theorem d_Mo_run_66 : decode m_Mo_run.2.1 66 = .ok (.if_icmp .ge 36, 3) := by decide +kernel
theorem d_Mo_run_69 : decode m_Mo_run.2.1 69 = .ok (.aload_n 0, 1) := by decide +kernel
theorem d_Mo_run_70 : decode m_Mo_run.2.1 70 = .ok (.iload 5, 2) := by decide +kernel
theorem d_Mo_run_72 : decode m_Mo_run.2.1 72 = .ok (.iload 5, 2) := by decide +kernel
theorem d_Mo_run_74 : decode m_Mo_run.2.1 74 = .ok (.ifCond .ne 7, 3) := by decide +kernel
theorem d_Mo_run_77 : decode m_Mo_run.2.1 77 = .ok (.iload_n 2, 1) := by decide +kernel
theorem d_Mo_run_78 : decode m_Mo_run.2.1 78 = .ok (.goto 15, 3) := by decide +kernel
theorem d_Mo_run_81 : decode m_Mo_run.2.1 81 = .ok (.iload 5, 2) := by decide +kernel
theorem d_Mo_run_83 : decode m_Mo_run.2.1 83 = .ok (.iconst 1, 1) := by decide +kernel
theorem d_Mo_run_84 : decode m_Mo_run.2.1 84 = .ok (.if_icmp .ne 7, 3) := by decide +kernel
theorem d_Mo_run_87 : decode m_Mo_run.2.1 87 = .ok (.iload_n 3, 1) := by decide +kernel
theorem d_Mo_run_88 : decode m_Mo_run.2.1 88 = .ok (.goto 5, 3) := by decide +kernel
theorem d_Mo_run_91 : decode m_Mo_run.2.1 91 = .ok (.iload 4, 2) := by decide +kernel
theorem d_Mo_run_93 : decode m_Mo_run.2.1 93 = .ok (.invokevirtual 215, 3) := by decide +kernel
theorem d_Mo_run_96 : decode m_Mo_run.2.1 96 = .ok (.iinc 5 1, 3) := by decide +kernel
theorem d_Mo_run_99 : decode m_Mo_run.2.1 99 = .ok (.goto (-39), 3) := by decide +kernel
theorem d_Mo_run_102 : decode m_Mo_run.2.1 102 = .ok (.iconst (-1), 1) := by decide +kernel
theorem d_Mo_run_103 : decode m_Mo_run.2.1 103 = .ok (.istore 5, 2) := by decide +kernel
theorem d_Mo_run_105 : decode m_Mo_run.2.1 105 = .ok (.iload 5, 2) := by decide +kernel
theorem d_Mo_run_107 : decode m_Mo_run.2.1 107 = .ok (.iconst (-1), 1) := by decide +kernel
theorem d_Mo_run_108 : decode m_Mo_run.2.1 108 = .ok (.if_icmp .ne 49, 3) := by decide +kernel
theorem d_Mo_run_111 : decode m_Mo_run.2.1 111 = .ok (.aload_n 0, 1) := by decide +kernel
theorem d_Mo_run_112 : decode m_Mo_run.2.1 112 = .ok (.getfield 212, 3) := by decide +kernel
theorem d_Mo_run_115 : decode m_Mo_run.2.1 115 = .ok (.sipush 200, 3) := by decide +kernel
theorem d_Mo_run_118 : decode m_Mo_run.2.1 118 = .ok (.if_icmp .ne 8, 3) := by decide +kernel
theorem d_Mo_run_121 : decode m_Mo_run.2.1 121 = .ok (.bipush 6, 2) := by decide +kernel
theorem d_Mo_run_123 : decode m_Mo_run.2.1 123 = .ok (.goto 7, 3) := by decide +kernel
theorem d_Mo_run_126 : decode m_Mo_run.2.1 126 = .ok (.aload_n 0, 1) := by decide +kernel
theorem d_Mo_run_127 : decode m_Mo_run.2.1 127 = .ok (.invokevirtual 218, 3) := by decide +kernel
theorem d_Mo_run_130 : decode m_Mo_run.2.1 130 = .ok (.istore 5, 2) := by decide +kernel
theorem d_Mo_run_132 : decode m_Mo_run.2.1 132 = .ok (.aload_n 0, 1) := by decide +kernel
theorem d_Mo_run_133 : decode m_Mo_run.2.1 133 = .ok (.iload 5, 2) := by decide +kernel
theorem d_Mo_run_135 : decode m_Mo_run.2.1 135 = .ok (.ifCond .gt 12, 3) := by decide +kernel
theorem d_Mo_run_138 : decode m_Mo_run.2.1 138 = .ok (.aload_n 0, 1) := by decide +kernel
theorem d_Mo_run_139 : decode m_Mo_run.2.1 139 = .ok (.getfield 212, 3) := by decide +kernel
theorem d_Mo_run_142 : decode m_Mo_run.2.1 142 = .ok (.iconst 1, 1) := by decide +kernel
theorem d_Mo_run_143 : decode m_Mo_run.2.1 143 = .ok (.iadd, 1) := by decide +kernel
theorem d_Mo_run_144 : decode m_Mo_run.2.1 144 = .ok (.goto 7, 3) := by decide +kernel
theorem d_Mo_run_147 : decode m_Mo_run.2.1 147 = .ok (.aload_n 0, 1) := by decide +kernel
theorem d_Mo_run_148 : decode m_Mo_run.2.1 148 = .ok (.getfield 212, 3) := by decide +kernel
theorem d_Mo_run_151 : decode m_Mo_run.2.1 151 = .ok (.putfield 212, 3) := by decide +kernel
theorem d_Mo_run_154 : decode m_Mo_run.2.1 154 = .ok (.goto (-49), 3) := by decide +kernel
theorem d_Mo_run_157 : decode m_Mo_run.2.1 157 = .ok (.iload 5, 2) := by decide +kernel
theorem d_Mo_run_159 : decode m_Mo_run.2.1 159 = .ok (.ireturn, 1) := by decide +kernel
theorem d_Mo_step_0 : decode m_Mo_step.2.1 0 = .ok (.aload_n 0, 1) := by decide +kernel
theorem d_Mo_step_1 : decode m_Mo_step.2.1 1 = .ok (.getfield 210, 3) := by decide +kernel
theorem d_Mo_step_4 : decode m_Mo_step.2.1 4 = .ok (.iconst 1, 1) := by decide +kernel
theorem d_Mo_step_5 : decode m_Mo_step.2.1 5 = .ok (.isub, 1) := by decide +kernel
theorem d_Mo_step_6 : decode m_Mo_step.2.1 6 = .ok (.istore_n 1, 1) := by decide +kernel
theorem d_Mo_step_7 : decode m_Mo_step.2.1 7 = .ok (.aload_n 0, 1) := by decide +kernel
theorem d_Mo_step_8 : decode m_Mo_step.2.1 8 = .ok (.aload_n 0, 1) := by decide +kernel
theorem d_Mo_step_9 : decode m_Mo_step.2.1 9 = .ok (.getfield 34, 3) := by decide +kernel
theorem d_Mo_step_12 : decode m_Mo_step.2.1 12 = .ok (.iload_n 1, 1) := by decide +kernel
theorem d_Mo_step_13 : decode m_Mo_step.2.1 13 = .ok (.iaload, 1) := by decide +kernel
theorem d_Mo_step_14 : decode m_Mo_step.2.1 14 = .ok (.invokevirtual 198, 3) := by decide +kernel
theorem d_Mo_step_17 : decode m_Mo_step.2.1 17 = .ok (.aload_n 0, 1) := by decide +kernel
theorem d_Mo_step_18 : decode m_Mo_step.2.1 18 = .ok (.getfield 31, 3) := by decide +kernel
theorem d_Mo_step_21 : decode m_Mo_step.2.1 21 = .ok (.iload_n 1, 1) := by decide +kernel
theorem d_Mo_step_22 : decode m_Mo_step.2.1 22 = .ok (.iaload, 1) := by decide +kernel
theorem d_Mo_step_23 : decode m_Mo_step.2.1 23 = .ok (.istore_n 2, 1) := by decide +kernel
theorem d_Mo_step_24 : decode m_Mo_step.2.1 24 = .ok (.iload_n 2, 1) := by decide +kernel
theorem d_Mo_step_25 : decode m_Mo_step.2.1 25 = .ok (.aload_n 0, 1) := by decide +kernel
theorem d_Mo_step_26 : decode m_Mo_step.2.1 26 = .ok (.getfield 136, 3) := by decide +kernel
theorem d_Mo_step_29 : decode m_Mo_step.2.1 29 = .ok (.if_icmp .ge 12, 3) := by decide +kernel
theorem d_Mo_step_32 : decode m_Mo_step.2.1 32 = .ok (.aload_n 0, 1) := by decide +kernel
theorem d_Mo_step_33 : decode m_Mo_step.2.1 33 = .ok (.iload_n 1, 1) := by decide +kernel
theorem d_Mo_step_34 : decode m_Mo_step.2.1 34 = .ok (.iload_n 2, 1) := by decide +kernel
theorem d_Mo_step_35 : decode m_Mo_step.2.1 35 = .ok (.invokevirtual 189, 3) := by decide +kernel
theorem d_Mo_step_38 : decode m_Mo_step.2.1 38 = .ok (.ifCond .ne 5, 3) := by decide +kernel
theorem d_Mo_step_41 : decode m_Mo_step.2.1 41 = .ok (.iconst 1, 1) := by decide +kernel
theorem d_Mo_step_42 : decode m_Mo_step.2.1 42 = .ok (.ireturn, 1) := by decide +kernel
theorem d_Mo_step_43 : decode m_Mo_step.2.1 43 = .ok (.aload_n 0, 1) := by decide +kernel
theorem d_Mo_step_44 : decode m_Mo_step.2.1 44 = .ok (.getfield 13, 3) := by decide +kernel
theorem d_Mo_step_47 : decode m_Mo_step.2.1 47 = .ok (.aload_n 0, 1) := by decide +kernel
theorem d_Mo_step_48 : decode m_Mo_step.2.1 48 = .ok (.getfield 139, 3) := by decide +kernel
theorem d_Mo_step_51 : decode m_Mo_step.2.1 51 = .ok (.iload_n 2, 1) := by decide +kernel
theorem d_Mo_step_52 : decode m_Mo_step.2.1 52 = .ok (.iadd, 1) := by decide +kernel
theorem d_Mo_step_53 : decode m_Mo_step.2.1 53 = .ok (.iaload, 1) := by decide +kernel
theorem d_Mo_step_54 : decode m_Mo_step.2.1 54 = .ok (.istore_n 3, 1) := by decide +kernel
theorem d_Mo_step_55 : decode m_Mo_step.2.1 55 = .ok (.bipush 6, 2) := by decide +kernel
theorem d_Mo_step_57 : decode m_Mo_step.2.1 57 = .ok (.iload_n 1, 1) := by decide +kernel
theorem d_Mo_step_58 : decode m_Mo_step.2.1 58 = .ok (.imul, 1) := by decide +kernel
theorem d_Mo_step_59 : decode m_Mo_step.2.1 59 = .ok (.aload_n 0, 1) := by decide +kernel
theorem d_Mo_step_60 : decode m_Mo_step.2.1 60 = .ok (.getfield 28, 3) := by decide +kernel
theorem d_Mo_step_63 : decode m_Mo_step.2.1 63 = .ok (.iload_n 1, 1) := by decide +kernel
theorem d_Mo_step_64 : decode m_Mo_step.2.1 64 = .ok (.iaload, 1) := by decide +kernel
theorem d_Mo_step_65 : decode m_Mo_step.2.1 65 = .ok (.iadd, 1) := by decide +kernel
theorem d_Mo_step_66 : decode m_Mo_step.2.1 66 = .ok (.iconst 1, 1) := by decide +kernel
theorem d_Mo_step_67 : decode m_Mo_step.2.1 67 = .ok (.isub, 1) := by decide +kernel
theorem d_Mo_step_68 : decode m_Mo_step.2.1 68 = .ok (.istore 4, 2) := by decide +kernel
theorem d_Mo_step_70 : decode m_Mo_step.2.1 70 = .ok (.aload_n 0, 1) := by decide +kernel
theorem d_Mo_step_71 : decode m_Mo_step.2.1 71 = .ok (.iload_n 3, 1) := by decide +kernel
theorem d_Mo_step_72 : decode m_Mo_step.2.1 72 = .ok (.iload 4, 2) := by decide +kernel
theorem d_Mo_step_74 : decode m_Mo_step.2.1 74 = .ok (.invokevirtual 221, 3) := by decide +kernel
theorem d_Mo_step_77 : decode m_Mo_step.2.1 77 = .ok (.istore 5, 2) := by decide +kernel
theorem d_Mo_step_79 : decode m_Mo_step.2.1 79 = .ok (.iload 5, 2) := by decide +kernel
theorem d_Mo_step_81 : decode m_Mo_step.2.1 81 = .ok (.iconst (-1), 1) := by decide +kernel
theorem d_Mo_step_82 : decode m_Mo_step.2.1 82 = .ok (.if_icmp .eq 6, 3) := by decide +kernel
theorem d_Mo_step_85 : decode m_Mo_step.2.1 85 = .ok (.iload 5, 2) := by decide +kernel
theorem d_Mo_step_87 : decode m_Mo_step.2.1 87 = .ok (.ireturn, 1) := by decide +kernel
theorem d_Mo_step_88 : decode m_Mo_step.2.1 88 = .ok (.aload_n 0, 1) := by decide +kernel
theorem d_Mo_step_89 : decode m_Mo_step.2.1 89 = .ok (.getfield 31, 3) := by decide +kernel
theorem d_Mo_step_92 : decode m_Mo_step.2.1 92 = .ok (.iload_n 1, 1) := by decide +kernel
theorem d_Mo_step_93 : decode m_Mo_step.2.1 93 = .ok (.iload_n 2, 1) := by decide +kernel
theorem d_Mo_step_94 : decode m_Mo_step.2.1 94 = .ok (.iload_n 3, 1) := by decide +kernel
theorem d_Mo_step_95 : decode m_Mo_step.2.1 95 = .ok (.invokestatic 75, 3) := by decide +kernel
theorem d_Mo_step_98 : decode m_Mo_step.2.1 98 = .ok (.iadd, 1) := by decide +kernel
theorem d_Mo_step_99 : decode m_Mo_step.2.1 99 = .ok (.iastore, 1) := by decide +kernel
theorem d_Mo_step_100 : decode m_Mo_step.2.1 100 = .ok (.iload_n 3, 1) := by decide +kernel
theorem d_Mo_step_101 : decode m_Mo_step.2.1 101 = .ok (.sipush 184, 3) := by decide +kernel
theorem d_Mo_step_104 : decode m_Mo_step.2.1 104 = .ok (.if_icmp .ne 23, 3) := by decide +kernel
theorem d_Mo_step_107 : decode m_Mo_step.2.1 107 = .ok (.aload_n 0, 1) := by decide +kernel
theorem d_Mo_step_108 : decode m_Mo_step.2.1 108 = .ok (.iload_n 1, 1) := by decide +kernel
theorem d_Mo_step_109 : decode m_Mo_step.2.1 109 = .ok (.aload_n 0, 1) := by decide +kernel
theorem d_Mo_step_110 : decode m_Mo_step.2.1 110 = .ok (.getfield 13, 3) := by decide +kernel
theorem d_Mo_step_113 : decode m_Mo_step.2.1 113 = .ok (.aload_n 0, 1) := by decide +kernel
theorem d_Mo_step_114 : decode m_Mo_step.2.1 114 = .ok (.getfield 139, 3) := by decide +kernel
theorem d_Mo_step_117 : decode m_Mo_step.2.1 117 = .ok (.iload_n 2, 1) := by decide +kernel
theorem d_Mo_step_118 : decode m_Mo_step.2.1 118 = .ok (.iadd, 1) := by decide +kernel
theorem d_Mo_step_119 : decode m_Mo_step.2.1 119 = .ok (.iconst 1, 1) := by decide +kernel
theorem d_Mo_step_120 : decode m_Mo_step.2.1 120 = .ok (.iadd, 1) := by decide +kernel
theorem d_Mo_step_121 : decode m_Mo_step.2.1 121 = .ok (.iaload, 1) := by decide +kernel
theorem d_Mo_step_122 : decode m_Mo_step.2.1 122 = .ok (.invokevirtual 224, 3) := by decide +kernel
theorem d_Mo_step_125 : decode m_Mo_step.2.1 125 = .ok (.iconst (-1), 1) := by decide +kernel
theorem d_Mo_step_126 : decode m_Mo_step.2.1 126 = .ok (.ireturn, 1) := by decide +kernel
theorem d_Mo_step_127 : decode m_Mo_step.2.1 127 = .ok (.iload_n 3, 1) := by decide +kernel
theorem d_Mo_step_128 : decode m_Mo_step.2.1 128 = .ok (.invokestatic 58, 3) := by decide +kernel
theorem d_Mo_step_131 : decode m_Mo_step.2.1 131 = .ok (.ifCond .eq 12, 3) := by decide +kernel
theorem d_Mo_step_134 : decode m_Mo_step.2.1 134 = .ok (.aload_n 0, 1) := by decide +kernel
theorem d_Mo_step_135 : decode m_Mo_step.2.1 135 = .ok (.iload_n 1, 1) := by decide +kernel
theorem d_Mo_step_136 : decode m_Mo_step.2.1 136 = .ok (.iload_n 3, 1) := by decide +kernel
theorem d_Mo_step_137 : decode m_Mo_step.2.1 137 = .ok (.iload 4, 2) := by decide +kernel
theorem d_Mo_step_139 : decode m_Mo_step.2.1 139 = .ok (.invokevirtual 227, 3) := by decide +kernel
theorem d_Mo_step_142 : decode m_Mo_step.2.1 142 = .ok (.ireturn, 1) := by decide +kernel
theorem d_Mo_step_143 : decode m_Mo_step.2.1 143 = .ok (.iload_n 3, 1) := by decide +kernel
theorem d_Mo_step_144 : decode m_Mo_step.2.1 144 = .ok (.invokestatic 51, 3) := by decide +kernel
theorem d_Mo_step_147 : decode m_Mo_step.2.1 147 = .ok (.ifCond .eq 53, 3) := by decide +kernel
theorem d_Mo_step_150 : decode m_Mo_step.2.1 150 = .ok (.aload_n 0, 1) := by decide +kernel
theorem d_Mo_step_151 : decode m_Mo_step.2.1 151 = .ok (.getfield 31, 3) := by decide +kernel
theorem d_Mo_step_154 : decode m_Mo_step.2.1 154 = .ok (.iload_n 1, 1) := by decide +kernel
theorem d_Mo_step_155 : decode m_Mo_step.2.1 155 = .ok (.aload_n 0, 1) := by decide +kernel
theorem d_Mo_step_156 : decode m_Mo_step.2.1 156 = .ok (.iload_n 3, 1) := by decide +kernel
theorem d_Mo_step_157 : decode m_Mo_step.2.1 157 = .ok (.iload 4, 2) := by decide +kernel
theorem d_Mo_step_159 : decode m_Mo_step.2.1 159 = .ok (.invokevirtual 231, 3) := by decide +kernel
theorem d_Mo_step_162 : decode m_Mo_step.2.1 162 = .ok (.ifCond .eq 11, 3) := by decide +kernel
theorem d_Mo_step_165 : decode m_Mo_step.2.1 165 = .ok (.aload_n 0, 1) := by decide +kernel
theorem d_Mo_step_166 : decode m_Mo_step.2.1 166 = .ok (.iload_n 2, 1) := by decide +kernel
theorem d_Mo_step_167 : decode m_Mo_step.2.1 167 = .ok (.invokevirtual 192, 3) := by decide +kernel
theorem d_Mo_step_170 : decode m_Mo_step.2.1 170 = .ok (.goto 9, 3) := by decide +kernel
theorem d_Mo_step_173 : decode m_Mo_step.2.1 173 = .ok (.aload_n 0, 1) := by decide +kernel
theorem d_Mo_step_174 : decode m_Mo_step.2.1 174 = .ok (.getfield 31, 3) := by decide +kernel
theorem d_Mo_step_177 : decode m_Mo_step.2.1 177 = .ok (.iload_n 1, 1) := by decide +kernel
theorem d_Mo_step_178 : decode m_Mo_step.2.1 178 = .ok (.iaload, 1) := by decide +kernel
theorem d_Mo_step_179 : decode m_Mo_step.2.1 179 = .ok (.iastore, 1) := by decide +kernel
theorem d_Mo_step_180 : decode m_Mo_step.2.1 180 = .ok (.aload_n 0, 1) := by decide +kernel
theorem d_Mo_step_181 : decode m_Mo_step.2.1 181 = .ok (.getfield 28, 3) := by decide +kernel
theorem d_Mo_step_184 : decode m_Mo_step.2.1 184 = .ok (.iload_n 1, 1) := by decide +kernel
theorem d_Mo_step_185 : decode m_Mo_step.2.1 185 = .ok (.aload_n 0, 1) := by decide +kernel
theorem d_Mo_step_186 : decode m_Mo_step.2.1 186 = .ok (.getfield 28, 3) := by decide +kernel
theorem d_Mo_step_189 : decode m_Mo_step.2.1 189 = .ok (.iload_n 1, 1) := by decide +kernel
theorem d_Mo_step_190 : decode m_Mo_step.2.1 190 = .ok (.iaload, 1) := by decide +kernel
theorem d_Mo_step_191 : decode m_Mo_step.2.1 191 = .ok (.aload_n 0, 1) := by decide +kernel
theorem d_Mo_step_192 : decode m_Mo_step.2.1 192 = .ok (.iload_n 2, 1) := by decide +kernel
theorem d_Mo_step_193 : decode m_Mo_step.2.1 193 = .ok (.invokevirtual 154, 3) := by decide +kernel
theorem d_Mo_step_196 : decode m_Mo_step.2.1 196 = .ok (.isub, 1) := by decide +kernel
theorem d_Mo_step_197 : decode m_Mo_step.2.1 197 = .ok (.iastore, 1) := by decide +kernel
theorem d_Mo_step_198 : decode m_Mo_step.2.1 198 = .ok (.iconst (-1), 1) := by decide +kernel
theorem d_Mo_step_199 : decode m_Mo_step.2.1 199 = .ok (.ireturn, 1) := by decide +kernel
theorem d_Mo_step_200 : decode m_Mo_step.2.1 200 = .ok (.aload_n 0, 1) := by decide +kernel
theorem d_Mo_step_201 : decode m_Mo_step.2.1 201 = .ok (.iload_n 1, 1) := by decide +kernel
theorem d_Mo_step_202 : decode m_Mo_step.2.1 202 = .ok (.iload_n 2, 1) := by decide +kernel
theorem d_Mo_step_203 : decode m_Mo_step.2.1 203 = .ok (.iload_n 3, 1) := by decide +kernel
theorem d_Mo_step_204 : decode m_Mo_step.2.1 204 = .ok (.iload 4, 2) := by decide +kernel
theorem d_Mo_step_206 : decode m_Mo_step.2.1 206 = .ok (.invokevirtual 234, 3) := by decide +kernel
theorem d_Mo_step_209 : decode m_Mo_step.2.1 209 = .ok (.iconst (-1), 1) := by decide +kernel
theorem d_Mo_step_210 : decode m_Mo_step.2.1 210 = .ok (.ireturn, 1) := by decide +kernel
theorem d_Mo_wrong_0 : decode m_Mo_wrong.2.1 0 = .ok (.iload_n 1, 1) := by decide +kernel
theorem d_Mo_wrong_1 : decode m_Mo_wrong.2.1 1 = .ok (.bipush 46, 2) := by decide +kernel
theorem d_Mo_wrong_3 : decode m_Mo_wrong.2.1 3 = .ok (.if_icmp .eq 9, 3) := by decide +kernel
theorem d_Mo_wrong_6 : decode m_Mo_wrong.2.1 6 = .ok (.iload_n 1, 1) := by decide +kernel
theorem d_Mo_wrong_7 : decode m_Mo_wrong.2.1 7 = .ok (.bipush 79, 2) := by decide +kernel
theorem d_Mo_wrong_9 : decode m_Mo_wrong.2.1 9 = .ok (.if_icmp .ne 71, 3) := by decide +kernel
theorem d_Mo_wrong_12 : decode m_Mo_wrong.2.1 12 = .ok (.iload_n 1, 1) := by decide +kernel
theorem d_Mo_wrong_13 : decode m_Mo_wrong.2.1 13 = .ok (.bipush 46, 2) := by decide +kernel
theorem d_Mo_wrong_15 : decode m_Mo_wrong.2.1 15 = .ok (.if_icmp .ne 9, 3) := by decide +kernel
theorem d_Mo_wrong_18 : decode m_Mo_wrong.2.1 18 = .ok (.iload_n 2, 1) := by decide +kernel
theorem d_Mo_wrong_19 : decode m_Mo_wrong.2.1 19 = .ok (.iconst 1, 1) := by decide +kernel
theorem d_Mo_wrong_20 : decode m_Mo_wrong.2.1 20 = .ok (.isub, 1) := by decide +kernel
theorem d_Mo_wrong_21 : decode m_Mo_wrong.2.1 21 = .ok (.goto 6, 3) := by decide +kernel
theorem d_Mo_wrong_24 : decode m_Mo_wrong.2.1 24 = .ok (.iload_n 2, 1) := by decide +kernel
theorem d_Mo_wrong_25 : decode m_Mo_wrong.2.1 25 = .ok (.iconst 2, 1) := by decide +kernel
theorem d_Mo_wrong_26 : decode m_Mo_wrong.2.1 26 = .ok (.isub, 1) := by decide +kernel
theorem d_Mo_wrong_27 : decode m_Mo_wrong.2.1 27 = .ok (.istore_n 3, 1) := by decide +kernel
theorem d_Mo_wrong_28 : decode m_Mo_wrong.2.1 28 = .ok (.aload_n 0, 1) := by decide +kernel
theorem d_Mo_wrong_29 : decode m_Mo_wrong.2.1 29 = .ok (.getfield 25, 3) := by decide +kernel
theorem d_Mo_wrong_32 : decode m_Mo_wrong.2.1 32 = .ok (.iload_n 3, 1) := by decide +kernel
theorem d_Mo_wrong_33 : decode m_Mo_wrong.2.1 33 = .ok (.iconst 1, 1) := by decide +kernel
theorem d_Mo_wrong_34 : decode m_Mo_wrong.2.1 34 = .ok (.iadd, 1) := by decide +kernel
theorem d_Mo_wrong_35 : decode m_Mo_wrong.2.1 35 = .ok (.iaload, 1) := by decide +kernel
theorem d_Mo_wrong_36 : decode m_Mo_wrong.2.1 36 = .ok (.istore 4, 2) := by decide +kernel
theorem d_Mo_wrong_38 : decode m_Mo_wrong.2.1 38 = .ok (.aload_n 0, 1) := by decide +kernel
theorem d_Mo_wrong_39 : decode m_Mo_wrong.2.1 39 = .ok (.getfield 22, 3) := by decide +kernel
theorem d_Mo_wrong_42 : decode m_Mo_wrong.2.1 42 = .ok (.iload_n 3, 1) := by decide +kernel
theorem d_Mo_wrong_43 : decode m_Mo_wrong.2.1 43 = .ok (.iaload, 1) := by decide +kernel
theorem d_Mo_wrong_44 : decode m_Mo_wrong.2.1 44 = .ok (.iconst 3, 1) := by decide +kernel
theorem d_Mo_wrong_45 : decode m_Mo_wrong.2.1 45 = .ok (.if_icmp .ne 7, 3) := by decide +kernel
theorem d_Mo_wrong_48 : decode m_Mo_wrong.2.1 48 = .ok (.iconst 4, 1) := by decide +kernel
theorem d_Mo_wrong_49 : decode m_Mo_wrong.2.1 49 = .ok (.goto 30, 3) := by decide +kernel
theorem d_Mo_wrong_52 : decode m_Mo_wrong.2.1 52 = .ok (.iload 4, 2) := by decide +kernel
theorem d_Mo_wrong_54 : decode m_Mo_wrong.2.1 54 = .ok (.iconst 0, 1) := by decide +kernel
theorem d_Mo_wrong_55 : decode m_Mo_wrong.2.1 55 = .ok (.aload_n 0, 1) := by decide +kernel
theorem d_Mo_wrong_56 : decode m_Mo_wrong.2.1 56 = .ok (.getfield 37, 3) := by decide +kernel
theorem d_Mo_wrong_59 : decode m_Mo_wrong.2.1 59 = .ok (.aload_n 0, 1) := by decide +kernel
theorem d_Mo_wrong_60 : decode m_Mo_wrong.2.1 60 = .ok (.getfield 25, 3) := by decide +kernel
theorem d_Mo_wrong_63 : decode m_Mo_wrong.2.1 63 = .ok (.iload_n 3, 1) := by decide +kernel
theorem d_Mo_wrong_64 : decode m_Mo_wrong.2.1 64 = .ok (.iaload, 1) := by decide +kernel
theorem d_Mo_wrong_65 : decode m_Mo_wrong.2.1 65 = .ok (.iaload, 1) := by decide +kernel
theorem d_Mo_wrong_66 : decode m_Mo_wrong.2.1 66 = .ok (.iconst 1, 1) := by decide +kernel
theorem d_Mo_wrong_67 : decode m_Mo_wrong.2.1 67 = .ok (.isub, 1) := by decide +kernel
theorem d_Mo_wrong_68 : decode m_Mo_wrong.2.1 68 = .ok (.invokestatic 47, 3) := by decide +kernel
theorem d_Mo_wrong_71 : decode m_Mo_wrong.2.1 71 = .ok (.ifCond .eq 7, 3) := by decide +kernel
theorem d_Mo_wrong_74 : decode m_Mo_wrong.2.1 74 = .ok (.iconst (-1), 1) := by decide +kernel
theorem d_Mo_wrong_75 : decode m_Mo_wrong.2.1 75 = .ok (.goto 4, 3) := by decide +kernel
theorem d_Mo_wrong_78 : decode m_Mo_wrong.2.1 78 = .ok (.iconst 3, 1) := by decide +kernel
theorem d_Mo_wrong_79 : decode m_Mo_wrong.2.1 79 = .ok (.ireturn, 1) := by decide +kernel
theorem d_Mo_wrong_80 : decode m_Mo_wrong.2.1 80 = .ok (.iload_n 1, 1) := by decide +kernel
theorem d_Mo_wrong_81 : decode m_Mo_wrong.2.1 81 = .ok (.sipush 190, 3) := by decide +kernel
theorem d_Mo_wrong_84 : decode m_Mo_wrong.2.1 84 = .ok (.if_icmp .ne 19, 3) := by decide +kernel
theorem d_Mo_wrong_87 : decode m_Mo_wrong.2.1 87 = .ok (.aload_n 0, 1) := by decide +kernel
theorem d_Mo_wrong_88 : decode m_Mo_wrong.2.1 88 = .ok (.getfield 22, 3) := by decide +kernel
theorem d_Mo_wrong_91 : decode m_Mo_wrong.2.1 91 = .ok (.iload_n 2, 1) := by decide +kernel
theorem d_Mo_wrong_92 : decode m_Mo_wrong.2.1 92 = .ok (.iaload, 1) := by decide +kernel
theorem d_Mo_wrong_93 : decode m_Mo_wrong.2.1 93 = .ok (.iconst 3, 1) := by decide +kernel
theorem d_Mo_wrong_94 : decode m_Mo_wrong.2.1 94 = .ok (.if_icmp .ne 7, 3) := by decide +kernel
theorem d_Mo_wrong_97 : decode m_Mo_wrong.2.1 97 = .ok (.iconst 4, 1) := by decide +kernel
theorem d_Mo_wrong_98 : decode m_Mo_wrong.2.1 98 = .ok (.goto 4, 3) := by decide +kernel
theorem d_Mo_wrong_101 : decode m_Mo_wrong.2.1 101 = .ok (.iconst (-1), 1) := by decide +kernel
theorem d_Mo_wrong_102 : decode m_Mo_wrong.2.1 102 = .ok (.ireturn, 1) := by decide +kernel
theorem d_Mo_wrong_103 : decode m_Mo_wrong.2.1 103 = .ok (.iload_n 1, 1) := by decide +kernel
theorem d_Mo_wrong_104 : decode m_Mo_wrong.2.1 104 = .ok (.sipush 188, 3) := by decide +kernel
theorem d_Mo_wrong_107 : decode m_Mo_wrong.2.1 107 = .ok (.if_icmp .ne 33, 3) := by decide +kernel
theorem d_Mo_wrong_110 : decode m_Mo_wrong.2.1 110 = .ok (.aload_n 0, 1) := by decide +kernel
theorem d_Mo_wrong_111 : decode m_Mo_wrong.2.1 111 = .ok (.getfield 25, 3) := by decide +kernel
theorem d_Mo_wrong_114 : decode m_Mo_wrong.2.1 114 = .ok (.iload_n 2, 1) := by decide +kernel
theorem d_Mo_wrong_115 : decode m_Mo_wrong.2.1 115 = .ok (.iaload, 1) := by decide +kernel
theorem d_Mo_wrong_116 : decode m_Mo_wrong.2.1 116 = .ok (.iconst 0, 1) := by decide +kernel
theorem d_Mo_wrong_117 : decode m_Mo_wrong.2.1 117 = .ok (.bipush 8, 2) := by decide +kernel
theorem d_Mo_wrong_119 : decode m_Mo_wrong.2.1 119 = .ok (.invokestatic 47, 3) := by decide +kernel
theorem d_Mo_wrong_122 : decode m_Mo_wrong.2.1 122 = .ok (.ifCond .eq 16, 3) := by decide +kernel
theorem d_Mo_wrong_125 : decode m_Mo_wrong.2.1 125 = .ok (.aload_n 0, 1) := by decide +kernel
theorem d_Mo_wrong_126 : decode m_Mo_wrong.2.1 126 = .ok (.getfield 204, 3) := by decide +kernel
theorem d_Mo_wrong_129 : decode m_Mo_wrong.2.1 129 = .ok (.bipush 8, 2) := by decide +kernel
theorem d_Mo_wrong_131 : decode m_Mo_wrong.2.1 131 = .ok (.if_icmp .ge 7, 3) := by decide +kernel
theorem d_Mo_wrong_134 : decode m_Mo_wrong.2.1 134 = .ok (.iconst (-1), 1) := by decide +kernel
theorem d_Mo_wrong_135 : decode m_Mo_wrong.2.1 135 = .ok (.goto 4, 3) := by decide +kernel
theorem d_Mo_wrong_138 : decode m_Mo_wrong.2.1 138 = .ok (.iconst 5, 1) := by decide +kernel
theorem d_Mo_wrong_139 : decode m_Mo_wrong.2.1 139 = .ok (.ireturn, 1) := by decide +kernel
theorem d_Mo_wrong_140 : decode m_Mo_wrong.2.1 140 = .ok (.iload_n 1, 1) := by decide +kernel
theorem d_Mo_wrong_141 : decode m_Mo_wrong.2.1 141 = .ok (.bipush 108, 2) := by decide +kernel
theorem d_Mo_wrong_143 : decode m_Mo_wrong.2.1 143 = .ok (.if_icmp .ne 18, 3) := by decide +kernel
theorem d_Mo_wrong_146 : decode m_Mo_wrong.2.1 146 = .ok (.aload_n 0, 1) := by decide +kernel
theorem d_Mo_wrong_147 : decode m_Mo_wrong.2.1 147 = .ok (.getfield 25, 3) := by decide +kernel
theorem d_Mo_wrong_150 : decode m_Mo_wrong.2.1 150 = .ok (.iload_n 2, 1) := by decide +kernel
theorem d_Mo_wrong_151 : decode m_Mo_wrong.2.1 151 = .ok (.iaload, 1) := by decide +kernel
theorem d_Mo_wrong_152 : decode m_Mo_wrong.2.1 152 = .ok (.ifCond .ne 7, 3) := by decide +kernel
theorem d_Mo_wrong_155 : decode m_Mo_wrong.2.1 155 = .ok (.iconst 2, 1) := by decide +kernel
theorem d_Mo_wrong_156 : decode m_Mo_wrong.2.1 156 = .ok (.goto 4, 3) := by decide +kernel
theorem d_Mo_wrong_159 : decode m_Mo_wrong.2.1 159 = .ok (.iconst (-1), 1) := by decide +kernel
theorem d_Mo_wrong_160 : decode m_Mo_wrong.2.1 160 = .ok (.ireturn, 1) := by decide +kernel
theorem d_Mo_wrong_161 : decode m_Mo_wrong.2.1 161 = .ok (.iload_n 1, 1) := by decide +kernel
theorem d_Mo_wrong_162 : decode m_Mo_wrong.2.1 162 = .ok (.sipush 184, 3) := by decide +kernel
theorem d_Mo_wrong_165 : decode m_Mo_wrong.2.1 165 = .ok (.if_icmp .ne 16, 3) := by decide +kernel
theorem d_Mo_wrong_168 : decode m_Mo_wrong.2.1 168 = .ok (.aload_n 0, 1) := by decide +kernel
theorem d_Mo_wrong_169 : decode m_Mo_wrong.2.1 169 = .ok (.getfield 210, 3) := by decide +kernel
theorem d_Mo_wrong_172 : decode m_Mo_wrong.2.1 172 = .ok (.iconst 4, 1) := by decide +kernel
theorem d_Mo_wrong_173 : decode m_Mo_wrong.2.1 173 = .ok (.if_icmp .ne 8, 3) := by decide +kernel
theorem d_Mo_wrong_176 : decode m_Mo_wrong.2.1 176 = .ok (.bipush 6, 2) := by decide +kernel
theorem d_Mo_wrong_178 : decode m_Mo_wrong.2.1 178 = .ok (.goto 4, 3) := by decide +kernel
theorem d_Mo_wrong_181 : decode m_Mo_wrong.2.1 181 = .ok (.iconst (-1), 1) := by decide +kernel
theorem d_Mo_wrong_182 : decode m_Mo_wrong.2.1 182 = .ok (.ireturn, 1) := by decide +kernel
theorem d_Mo_enter_0 : decode m_Mo_enter.2.1 0 = .ok (.aload_n 0, 1) := by decide +kernel
theorem d_Mo_enter_1 : decode m_Mo_enter.2.1 1 = .ok (.getfield 210, 3) := by decide +kernel
theorem d_Mo_enter_4 : decode m_Mo_enter.2.1 4 = .ok (.istore_n 3, 1) := by decide +kernel
theorem d_Mo_enter_5 : decode m_Mo_enter.2.1 5 = .ok (.aload_n 0, 1) := by decide +kernel
theorem d_Mo_enter_6 : decode m_Mo_enter.2.1 6 = .ok (.dup, 1) := by decide +kernel
theorem d_Mo_enter_7 : decode m_Mo_enter.2.1 7 = .ok (.getfield 210, 3) := by decide +kernel
theorem d_Mo_enter_10 : decode m_Mo_enter.2.1 10 = .ok (.iconst 1, 1) := by decide +kernel
theorem d_Mo_enter_11 : decode m_Mo_enter.2.1 11 = .ok (.iadd, 1) := by decide +kernel
theorem d_Mo_enter_12 : decode m_Mo_enter.2.1 12 = .ok (.putfield 210, 3) := by decide +kernel
theorem d_Mo_enter_15 : decode m_Mo_enter.2.1 15 = .ok (.aload_n 0, 1) := by decide +kernel
theorem d_Mo_enter_16 : decode m_Mo_enter.2.1 16 = .ok (.getfield 34, 3) := by decide +kernel
theorem d_Mo_enter_19 : decode m_Mo_enter.2.1 19 = .ok (.iload_n 3, 1) := by decide +kernel
theorem d_Mo_enter_20 : decode m_Mo_enter.2.1 20 = .ok (.iload_n 2, 1) := by decide +kernel
theorem d_Mo_enter_21 : decode m_Mo_enter.2.1 21 = .ok (.iastore, 1) := by decide +kernel
theorem d_Mo_enter_22 : decode m_Mo_enter.2.1 22 = .ok (.aload_n 0, 1) := by decide +kernel
theorem d_Mo_enter_23 : decode m_Mo_enter.2.1 23 = .ok (.getfield 31, 3) := by decide +kernel
theorem d_Mo_enter_26 : decode m_Mo_enter.2.1 26 = .ok (.iload_n 3, 1) := by decide +kernel
theorem d_Mo_enter_27 : decode m_Mo_enter.2.1 27 = .ok (.iconst 0, 1) := by decide +kernel
theorem d_Mo_enter_28 : decode m_Mo_enter.2.1 28 = .ok (.iastore, 1) := by decide +kernel
theorem d_Mo_enter_29 : decode m_Mo_enter.2.1 29 = .ok (.aload_n 0, 1) := by decide +kernel
theorem d_Mo_enter_30 : decode m_Mo_enter.2.1 30 = .ok (.iload_n 2, 1) := by decide +kernel
theorem d_Mo_enter_31 : decode m_Mo_enter.2.1 31 = .ok (.invokevirtual 198, 3) := by decide +kernel
theorem d_Mo_enter_34 : decode m_Mo_enter.2.1 34 = .ok (.aload_n 0, 1) := by decide +kernel
theorem d_Mo_enter_35 : decode m_Mo_enter.2.1 35 = .ok (.iload_n 3, 1) := by decide +kernel
theorem d_Mo_enter_36 : decode m_Mo_enter.2.1 36 = .ok (.invokevirtual 169, 3) := by decide +kernel
theorem d_Mo_enter_39 : decode m_Mo_enter.2.1 39 = .ok (.aload_n 0, 1) := by decide +kernel
theorem d_Mo_enter_40 : decode m_Mo_enter.2.1 40 = .ok (.getfield 127, 3) := by decide +kernel
theorem d_Mo_enter_43 : decode m_Mo_enter.2.1 43 = .ok (.iconst 1, 1) := by decide +kernel
theorem d_Mo_enter_44 : decode m_Mo_enter.2.1 44 = .ok (.isub, 1) := by decide +kernel
theorem d_Mo_enter_45 : decode m_Mo_enter.2.1 45 = .ok (.istore 4, 2) := by decide +kernel
theorem d_Mo_enter_47 : decode m_Mo_enter.2.1 47 = .ok (.iload 4, 2) := by decide +kernel
theorem d_Mo_enter_49 : decode m_Mo_enter.2.1 49 = .ok (.ifCond .lt 79, 3) := by decide +kernel
theorem d_Mo_enter_52 : decode m_Mo_enter.2.1 52 = .ok (.aload_n 0, 1) := by decide +kernel
theorem d_Mo_enter_53 : decode m_Mo_enter.2.1 53 = .ok (.getfield 28, 3) := by decide +kernel
theorem d_Mo_enter_56 : decode m_Mo_enter.2.1 56 = .ok (.iload_n 1, 1) := by decide +kernel
theorem d_Mo_enter_57 : decode m_Mo_enter.2.1 57 = .ok (.aload_n 0, 1) := by decide +kernel
theorem d_Mo_enter_58 : decode m_Mo_enter.2.1 58 = .ok (.getfield 28, 3) := by decide +kernel
theorem d_Mo_enter_61 : decode m_Mo_enter.2.1 61 = .ok (.iload_n 1, 1) := by decide +kernel
theorem d_Mo_enter_62 : decode m_Mo_enter.2.1 62 = .ok (.iaload, 1) := by decide +kernel
theorem d_Mo_enter_63 : decode m_Mo_enter.2.1 63 = .ok (.iconst 1, 1) := by decide +kernel
theorem d_Mo_enter_64 : decode m_Mo_enter.2.1 64 = .ok (.isub, 1) := by decide +kernel
theorem d_Mo_enter_65 : decode m_Mo_enter.2.1 65 = .ok (.iastore, 1) := by decide +kernel
theorem d_Mo_enter_66 : decode m_Mo_enter.2.1 66 = .ok (.aload_n 0, 1) := by decide +kernel
theorem d_Mo_enter_67 : decode m_Mo_enter.2.1 67 = .ok (.getfield 16, 3) := by decide +kernel
theorem d_Mo_enter_70 : decode m_Mo_enter.2.1 70 = .ok (.bipush 6, 2) := by decide +kernel
theorem d_Mo_enter_72 : decode m_Mo_enter.2.1 72 = .ok (.iload_n 3, 1) := by decide +kernel
theorem d_Mo_enter_73 : decode m_Mo_enter.2.1 73 = .ok (.imul, 1) := by decide +kernel
theorem d_Mo_enter_74 : decode m_Mo_enter.2.1 74 = .ok (.iload 4, 2) := by decide +kernel
theorem d_Mo_enter_76 : decode m_Mo_enter.2.1 76 = .ok (.iadd, 1) := by decide +kernel
theorem d_Mo_enter_77 : decode m_Mo_enter.2.1 77 = .ok (.aload_n 0, 1) := by decide +kernel
theorem d_Mo_enter_78 : decode m_Mo_enter.2.1 78 = .ok (.getfield 22, 3) := by decide +kernel
theorem d_Mo_enter_81 : decode m_Mo_enter.2.1 81 = .ok (.bipush 6, 2) := by decide +kernel
theorem d_Mo_enter_83 : decode m_Mo_enter.2.1 83 = .ok (.iload_n 1, 1) := by decide +kernel
theorem d_Mo_enter_84 : decode m_Mo_enter.2.1 84 = .ok (.imul, 1) := by decide +kernel
theorem d_Mo_enter_85 : decode m_Mo_enter.2.1 85 = .ok (.aload_n 0, 1) := by decide +kernel
theorem d_Mo_enter_86 : decode m_Mo_enter.2.1 86 = .ok (.getfield 28, 3) := by decide +kernel
theorem d_Mo_enter_89 : decode m_Mo_enter.2.1 89 = .ok (.iload_n 1, 1) := by decide +kernel
