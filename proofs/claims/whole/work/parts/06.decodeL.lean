theorem d_L_open_0 : decode b_L_open 0 = .ok (.aload_n 1, 1) := by decide +kernel
theorem d_L_open_1 : decode b_L_open 1 = .ok (.iconst 0, 1) := by decide +kernel
theorem d_L_open_2 : decode b_L_open 2 = .ok (.aload_n 0, 1) := by decide +kernel
theorem d_L_open_3 : decode b_L_open 3 = .ok (.invokevirtual 7, 3) := by decide +kernel
theorem d_L_open_6 : decode b_L_open 6 = .ok (.i2l, 1) := by decide +kernel
theorem d_L_open_7 : decode b_L_open 7 = .ok (.lastore, 1) := by decide +kernel
theorem d_L_open_8 : decode b_L_open 8 = .ok (.goto 6, 3) := by decide +kernel
theorem d_L_open_11 : decode b_L_open 11 = .ok (.astore_n 2, 1) := by decide +kernel
theorem d_L_open_12 : decode b_L_open 12 = .ok (.iconst 1, 1) := by decide +kernel
theorem d_L_open_13 : decode b_L_open 13 = .ok (.ireturn, 1) := by decide +kernel
theorem d_L_open_14 : decode b_L_open 14 = .ok (.iconst 0, 1) := by decide +kernel
theorem d_L_open_15 : decode b_L_open 15 = .ok (.ireturn, 1) := by decide +kernel
theorem d_L_close_0 : decode b_L_close 0 = .ok (.aload_n 2, 1) := by decide +kernel
theorem d_L_close_1 : decode b_L_close 1 = .ok (.iconst 0, 1) := by decide +kernel
theorem d_L_close_2 : decode b_L_close 2 = .ok (.aload_n 0, 1) := by decide +kernel
theorem d_L_close_3 : decode b_L_close 3 = .ok (.iload_n 1, 1) := by decide +kernel
theorem d_L_close_4 : decode b_L_close 4 = .ok (.invokevirtual 15, 3) := by decide +kernel
theorem d_L_close_7 : decode b_L_close 7 = .ok (.i2l, 1) := by decide +kernel
theorem d_L_close_8 : decode b_L_close 8 = .ok (.lastore, 1) := by decide +kernel
theorem d_L_close_9 : decode b_L_close 9 = .ok (.goto 6, 3) := by decide +kernel
theorem d_L_close_12 : decode b_L_close 12 = .ok (.astore_n 3, 1) := by decide +kernel
theorem d_L_close_13 : decode b_L_close 13 = .ok (.iconst 1, 1) := by decide +kernel
theorem d_L_close_14 : decode b_L_close 14 = .ok (.ireturn, 1) := by decide +kernel
theorem d_L_close_15 : decode b_L_close 15 = .ok (.iconst 0, 1) := by decide +kernel
theorem d_L_close_16 : decode b_L_close 16 = .ok (.ireturn, 1) := by decide +kernel
theorem d_L_load_0 : decode b_L_load 0 = .ok (.aload_n 3, 1) := by decide +kernel
theorem d_L_load_1 : decode b_L_load 1 = .ok (.iconst 0, 1) := by decide +kernel
theorem d_L_load_2 : decode b_L_load 2 = .ok (.aload_n 0, 1) := by decide +kernel
theorem d_L_load_3 : decode b_L_load 3 = .ok (.iload_n 1, 1) := by decide +kernel
theorem d_L_load_4 : decode b_L_load 4 = .ok (.iload_n 2, 1) := by decide +kernel
theorem d_L_load_5 : decode b_L_load 5 = .ok (.invokevirtual 21, 3) := by decide +kernel
theorem d_L_load_8 : decode b_L_load 8 = .ok (.i2l, 1) := by decide +kernel
theorem d_L_load_9 : decode b_L_load 9 = .ok (.lastore, 1) := by decide +kernel
theorem d_L_load_10 : decode b_L_load 10 = .ok (.goto 7, 3) := by decide +kernel
theorem d_L_load_13 : decode b_L_load 13 = .ok (.astore 4, 2) := by decide +kernel
theorem d_L_load_15 : decode b_L_load 15 = .ok (.iconst 1, 1) := by decide +kernel
theorem d_L_load_16 : decode b_L_load 16 = .ok (.ireturn, 1) := by decide +kernel
theorem d_L_load_17 : decode b_L_load 17 = .ok (.iconst 0, 1) := by decide +kernel
theorem d_L_load_18 : decode b_L_load 18 = .ok (.ireturn, 1) := by decide +kernel
theorem d_L_store_0 : decode b_L_store 0 = .ok (.aload 6, 2) := by decide +kernel
theorem d_L_store_2 : decode b_L_store 2 = .ok (.iconst 0, 1) := by decide +kernel
theorem d_L_store_3 : decode b_L_store 3 = .ok (.aload_n 0, 1) := by decide +kernel
theorem d_L_store_4 : decode b_L_store 4 = .ok (.iload_n 1, 1) := by decide +kernel
theorem d_L_store_5 : decode b_L_store 5 = .ok (.iload_n 2, 1) := by decide +kernel
theorem d_L_store_6 : decode b_L_store 6 = .ok (.lload_n 3, 1) := by decide +kernel
theorem d_L_store_7 : decode b_L_store 7 = .ok (.iload 5, 2) := by decide +kernel
theorem d_L_store_9 : decode b_L_store 9 = .ok (.invokevirtual 27, 3) := by decide +kernel
theorem d_L_store_12 : decode b_L_store 12 = .ok (.i2l, 1) := by decide +kernel
theorem d_L_store_13 : decode b_L_store 13 = .ok (.lastore, 1) := by decide +kernel
theorem d_L_store_14 : decode b_L_store 14 = .ok (.goto 11, 3) := by decide +kernel
theorem d_L_store_17 : decode b_L_store 17 = .ok (.astore 7, 2) := by decide +kernel
theorem d_L_store_19 : decode b_L_store 19 = .ok (.iconst 1, 1) := by decide +kernel
theorem d_L_store_20 : decode b_L_store 20 = .ok (.ireturn, 1) := by decide +kernel
theorem d_L_store_21 : decode b_L_store 21 = .ok (.astore 7, 2) := by decide +kernel
theorem d_L_store_23 : decode b_L_store 23 = .ok (.iconst 2, 1) := by decide +kernel
theorem d_L_store_24 : decode b_L_store 24 = .ok (.ireturn, 1) := by decide +kernel
theorem d_L_store_25 : decode b_L_store 25 = .ok (.iconst 0, 1) := by decide +kernel
theorem d_L_store_26 : decode b_L_store 26 = .ok (.ireturn, 1) := by decide +kernel
theorem d_L_held_0 : decode b_L_held 0 = .ok (.aload 4, 2) := by decide +kernel
theorem d_L_held_2 : decode b_L_held 2 = .ok (.iconst 0, 1) := by decide +kernel
theorem d_L_held_3 : decode b_L_held 3 = .ok (.aload_n 0, 1) := by decide +kernel
theorem d_L_held_4 : decode b_L_held 4 = .ok (.iload_n 1, 1) := by decide +kernel
theorem d_L_held_5 : decode b_L_held 5 = .ok (.iload_n 2, 1) := by decide +kernel
theorem d_L_held_6 : decode b_L_held 6 = .ok (.iload_n 3, 1) := by decide +kernel
theorem d_L_held_7 : decode b_L_held 7 = .ok (.invokevirtual 31, 3) := by decide +kernel
theorem d_L_held_10 : decode b_L_held 10 = .ok (.lastore, 1) := by decide +kernel
theorem d_L_held_11 : decode b_L_held 11 = .ok (.goto 7, 3) := by decide +kernel
theorem d_L_held_14 : decode b_L_held 14 = .ok (.astore 5, 2) := by decide +kernel
theorem d_L_held_16 : decode b_L_held 16 = .ok (.iconst 1, 1) := by decide +kernel
theorem d_L_held_17 : decode b_L_held 17 = .ok (.ireturn, 1) := by decide +kernel
theorem d_L_held_18 : decode b_L_held 18 = .ok (.iconst 0, 1) := by decide +kernel
theorem d_L_held_19 : decode b_L_held 19 = .ok (.ireturn, 1) := by decide +kernel
theorem d_L_touched_0 : decode b_L_touched 0 = .ok (.aload_n 3, 1) := by decide +kernel
theorem d_L_touched_1 : decode b_L_touched 1 = .ok (.iconst 0, 1) := by decide +kernel
theorem d_L_touched_2 : decode b_L_touched 2 = .ok (.aload_n 0, 1) := by decide +kernel
theorem d_L_touched_3 : decode b_L_touched 3 = .ok (.iload_n 1, 1) := by decide +kernel
theorem d_L_touched_4 : decode b_L_touched 4 = .ok (.iload_n 2, 1) := by decide +kernel
theorem d_L_touched_5 : decode b_L_touched 5 = .ok (.invokevirtual 35, 3) := by decide +kernel
theorem d_L_touched_8 : decode b_L_touched 8 = .ok (.ifCond .eq 7, 3) := by decide +kernel
theorem d_L_touched_11 : decode b_L_touched 11 = .ok (.lconst 1, 1) := by decide +kernel
theorem d_L_touched_12 : decode b_L_touched 12 = .ok (.goto 4, 3) := by decide +kernel
theorem d_L_touched_15 : decode b_L_touched 15 = .ok (.lconst 0, 1) := by decide +kernel
theorem d_L_touched_16 : decode b_L_touched 16 = .ok (.lastore, 1) := by decide +kernel
theorem d_L_touched_17 : decode b_L_touched 17 = .ok (.goto 7, 3) := by decide +kernel
theorem d_L_touched_20 : decode b_L_touched 20 = .ok (.astore 4, 2) := by decide +kernel
theorem d_L_touched_22 : decode b_L_touched 22 = .ok (.iconst 1, 1) := by decide +kernel
theorem d_L_touched_23 : decode b_L_touched 23 = .ok (.ireturn, 1) := by decide +kernel
theorem d_L_touched_24 : decode b_L_touched 24 = .ok (.iconst 0, 1) := by decide +kernel
theorem d_L_touched_25 : decode b_L_touched 25 = .ok (.ireturn, 1) := by decide +kernel
theorem d_L_count_0 : decode b_L_count 0 = .ok (.aload_n 2, 1) := by decide +kernel
theorem d_L_count_1 : decode b_L_count 1 = .ok (.iconst 0, 1) := by decide +kernel
theorem d_L_count_2 : decode b_L_count 2 = .ok (.aload_n 0, 1) := by decide +kernel
theorem d_L_count_3 : decode b_L_count 3 = .ok (.iload_n 1, 1) := by decide +kernel
theorem d_L_count_4 : decode b_L_count 4 = .ok (.invokevirtual 39, 3) := by decide +kernel
theorem d_L_count_7 : decode b_L_count 7 = .ok (.i2l, 1) := by decide +kernel
theorem d_L_count_8 : decode b_L_count 8 = .ok (.lastore, 1) := by decide +kernel
theorem d_L_count_9 : decode b_L_count 9 = .ok (.goto 6, 3) := by decide +kernel
theorem d_L_count_12 : decode b_L_count 12 = .ok (.astore_n 3, 1) := by decide +kernel
theorem d_L_count_13 : decode b_L_count 13 = .ok (.iconst 1, 1) := by decide +kernel
theorem d_L_count_14 : decode b_L_count 14 = .ok (.ireturn, 1) := by decide +kernel
theorem d_L_count_15 : decode b_L_count 15 = .ok (.iconst 0, 1) := by decide +kernel
theorem d_L_count_16 : decode b_L_count 16 = .ok (.ireturn, 1) := by decide +kernel
theorem d_L_law_0 : decode b_L_law 0 = .ok (.new 8, 3) := by decide +kernel
theorem d_L_law_3 : decode b_L_law 3 = .ok (.dup, 1) := by decide +kernel
theorem d_L_law_4 : decode b_L_law 4 = .ok (.invokespecial 43, 3) := by decide +kernel
theorem d_L_law_7 : decode b_L_law 7 = .ok (.astore_n 1, 1) := by decide +kernel
theorem d_L_law_8 : decode b_L_law 8 = .ok (.new 44, 3) := by decide +kernel
theorem d_L_law_11 : decode b_L_law 11 = .ok (.dup, 1) := by decide +kernel
theorem d_L_law_12 : decode b_L_law 12 = .ok (.invokespecial 46, 3) := by decide +kernel
theorem d_L_law_15 : decode b_L_law 15 = .ok (.astore_n 2, 1) := by decide +kernel
theorem d_L_law_16 : decode b_L_law 16 = .ok (.iconst 1, 1) := by decide +kernel
theorem d_L_law_17 : decode b_L_law 17 = .ok (.newarray .long, 2) := by decide +kernel
theorem d_L_law_19 : decode b_L_law 19 = .ok (.astore_n 3, 1) := by decide +kernel
theorem d_L_law_20 : decode b_L_law 20 = .ok (.iconst 0, 1) := by decide +kernel
theorem d_L_law_21 : decode b_L_law 21 = .ok (.istore 4, 2) := by decide +kernel
theorem d_L_law_23 : decode b_L_law 23 = .ok (.iload 4, 2) := by decide +kernel
theorem d_L_law_25 : decode b_L_law 25 = .ok (.aload_n 0, 1) := by decide +kernel
theorem d_L_law_26 : decode b_L_law 26 = .ok (.arraylength, 1) := by decide +kernel
theorem d_L_law_27 : decode b_L_law 27 = .ok (.bipush 6, 2) := by decide +kernel
theorem d_L_law_29 : decode b_L_law 29 = .ok (.isub, 1) := by decide +kernel
theorem d_L_law_30 : decode b_L_law 30 = .ok (.if_icmp .gt 611, 3) := by decide +kernel
theorem d_L_law_33 : decode b_L_law 33 = .ok (.aload_n 0, 1) := by decide +kernel
theorem d_L_law_34 : decode b_L_law 34 = .ok (.iload 4, 2) := by decide +kernel
theorem d_L_law_36 : decode b_L_law 36 = .ok (.iaload, 1) := by decide +kernel
theorem d_L_law_37 : decode b_L_law 37 = .ok (.bipush 7, 2) := by decide +kernel
theorem d_L_law_39 : decode b_L_law 39 = .ok (.iand, 1) := by decide +kernel
theorem d_L_law_40 : decode b_L_law 40 = .ok (.tableswitch 595 0 7 #[48, 61, 105, 177, 245, 369, 464, 539], 48) := by decide +kernel
theorem d_L_law_88 : decode b_L_law 88 = .ok (.aload_n 1, 1) := by decide +kernel
theorem d_L_law_89 : decode b_L_law 89 = .ok (.invokevirtual 47, 3) := by decide +kernel
theorem d_L_law_92 : decode b_L_law 92 = .ok (.aload_n 2, 1) := by decide +kernel
theorem d_L_law_93 : decode b_L_law 93 = .ok (.invokevirtual 50, 3) := by decide +kernel
theorem d_L_law_96 : decode b_L_law 96 = .ok (.if_icmp .eq 539, 3) := by decide +kernel
theorem d_L_law_99 : decode b_L_law 99 = .ok (.iconst 0, 1) := by decide +kernel
theorem d_L_law_100 : decode b_L_law 100 = .ok (.ireturn, 1) := by decide +kernel
theorem d_L_law_101 : decode b_L_law 101 = .ok (.aload_n 1, 1) := by decide +kernel
theorem d_L_law_102 : decode b_L_law 102 = .ok (.aload_n 3, 1) := by decide +kernel
theorem d_L_law_103 : decode b_L_law 103 = .ok (.invokestatic 51, 3) := by decide +kernel
theorem d_L_law_106 : decode b_L_law 106 = .ok (.istore 5, 2) := by decide +kernel
theorem d_L_law_108 : decode b_L_law 108 = .ok (.aload_n 2, 1) := by decide +kernel
theorem d_L_law_109 : decode b_L_law 109 = .ok (.invokevirtual 56, 3) := by decide +kernel
theorem d_L_law_112 : decode b_L_law 112 = .ok (.istore 6, 2) := by decide +kernel
theorem d_L_law_114 : decode b_L_law 114 = .ok (.aload_n 2, 1) := by decide +kernel
theorem d_L_law_115 : decode b_L_law 115 = .ok (.invokevirtual 57, 3) := by decide +kernel
theorem d_L_law_118 : decode b_L_law 118 = .ok (.iload 5, 2) := by decide +kernel
theorem d_L_law_120 : decode b_L_law 120 = .ok (.if_icmp .eq 5, 3) := by decide +kernel
theorem d_L_law_123 : decode b_L_law 123 = .ok (.iconst 0, 1) := by decide +kernel
theorem d_L_law_124 : decode b_L_law 124 = .ok (.ireturn, 1) := by decide +kernel
theorem d_L_law_125 : decode b_L_law 125 = .ok (.iload 5, 2) := by decide +kernel
theorem d_L_law_127 : decode b_L_law 127 = .ok (.ifCond .ne 15, 3) := by decide +kernel
theorem d_L_law_130 : decode b_L_law 130 = .ok (.aload_n 3, 1) := by decide +kernel
theorem d_L_law_131 : decode b_L_law 131 = .ok (.iconst 0, 1) := by decide +kernel
theorem d_L_law_132 : decode b_L_law 132 = .ok (.laload, 1) := by decide +kernel
theorem d_L_law_133 : decode b_L_law 133 = .ok (.iload 6, 2) := by decide +kernel
theorem d_L_law_135 : decode b_L_law 135 = .ok (.i2l, 1) := by decide +kernel
theorem d_L_law_136 : decode b_L_law 136 = .ok (.lcmp, 1) := by decide +kernel
theorem d_L_law_137 : decode b_L_law 137 = .ok (.ifCond .eq 5, 3) := by decide +kernel
theorem d_L_law_140 : decode b_L_law 140 = .ok (.iconst 0, 1) := by decide +kernel
theorem d_L_law_141 : decode b_L_law 141 = .ok (.ireturn, 1) := by decide +kernel
theorem d_L_law_142 : decode b_L_law 142 = .ok (.goto 493, 3) := by decide +kernel
theorem d_L_law_145 : decode b_L_law 145 = .ok (.aload_n 1, 1) := by decide +kernel
theorem d_L_law_146 : decode b_L_law 146 = .ok (.aload_n 0, 1) := by decide +kernel
theorem d_L_law_147 : decode b_L_law 147 = .ok (.iload 4, 2) := by decide +kernel
theorem d_L_law_149 : decode b_L_law 149 = .ok (.iconst 1, 1) := by decide +kernel
theorem d_L_law_150 : decode b_L_law 150 = .ok (.iadd, 1) := by decide +kernel
theorem d_L_law_151 : decode b_L_law 151 = .ok (.iaload, 1) := by decide +kernel
theorem d_L_law_152 : decode b_L_law 152 = .ok (.ifCond .eq 7, 3) := by decide +kernel
theorem d_L_law_155 : decode b_L_law 155 = .ok (.iconst 1, 1) := by decide +kernel
theorem d_L_law_156 : decode b_L_law 156 = .ok (.goto 4, 3) := by decide +kernel
theorem d_L_law_159 : decode b_L_law 159 = .ok (.iconst 0, 1) := by decide +kernel
theorem d_L_law_160 : decode b_L_law 160 = .ok (.aload_n 3, 1) := by decide +kernel
theorem d_L_law_161 : decode b_L_law 161 = .ok (.invokestatic 60, 3) := by decide +kernel
theorem d_L_law_164 : decode b_L_law 164 = .ok (.istore 5, 2) := by decide +kernel
theorem d_L_law_166 : decode b_L_law 166 = .ok (.aload_n 2, 1) := by decide +kernel
theorem d_L_law_167 : decode b_L_law 167 = .ok (.aload_n 0, 1) := by decide +kernel
theorem d_L_law_168 : decode b_L_law 168 = .ok (.iload 4, 2) := by decide +kernel
theorem d_L_law_170 : decode b_L_law 170 = .ok (.iconst 1, 1) := by decide +kernel
theorem d_L_law_171 : decode b_L_law 171 = .ok (.iadd, 1) := by decide +kernel
theorem d_L_law_172 : decode b_L_law 172 = .ok (.iaload, 1) := by decide +kernel
theorem d_L_law_173 : decode b_L_law 173 = .ok (.ifCond .eq 7, 3) := by decide +kernel
theorem d_L_law_176 : decode b_L_law 176 = .ok (.iconst 1, 1) := by decide +kernel
theorem d_L_law_177 : decode b_L_law 177 = .ok (.goto 4, 3) := by decide +kernel
theorem d_L_law_180 : decode b_L_law 180 = .ok (.iconst 0, 1) := by decide +kernel
theorem d_L_law_181 : decode b_L_law 181 = .ok (.invokevirtual 63, 3) := by decide +kernel
theorem d_L_law_184 : decode b_L_law 184 = .ok (.istore 6, 2) := by decide +kernel
theorem d_L_law_186 : decode b_L_law 186 = .ok (.aload_n 2, 1) := by decide +kernel
theorem d_L_law_187 : decode b_L_law 187 = .ok (.invokevirtual 57, 3) := by decide +kernel
theorem d_L_law_190 : decode b_L_law 190 = .ok (.iload 5, 2) := by decide +kernel
theorem d_L_law_192 : decode b_L_law 192 = .ok (.if_icmp .eq 5, 3) := by decide +kernel
theorem d_L_law_195 : decode b_L_law 195 = .ok (.iconst 0, 1) := by decide +kernel
theorem d_L_law_196 : decode b_L_law 196 = .ok (.ireturn, 1) := by decide +kernel
theorem d_L_law_197 : decode b_L_law 197 = .ok (.iload 5, 2) := by decide +kernel
theorem d_L_law_199 : decode b_L_law 199 = .ok (.ifCond .ne 15, 3) := by decide +kernel
theorem d_L_law_202 : decode b_L_law 202 = .ok (.aload_n 3, 1) := by decide +kernel
theorem d_L_law_203 : decode b_L_law 203 = .ok (.iconst 0, 1) := by decide +kernel
theorem d_L_law_204 : decode b_L_law 204 = .ok (.laload, 1) := by decide +kernel
theorem d_L_law_205 : decode b_L_law 205 = .ok (.iload 6, 2) := by decide +kernel
theorem d_L_law_207 : decode b_L_law 207 = .ok (.i2l, 1) := by decide +kernel
theorem d_L_law_208 : decode b_L_law 208 = .ok (.lcmp, 1) := by decide +kernel
theorem d_L_law_209 : decode b_L_law 209 = .ok (.ifCond .eq 5, 3) := by decide +kernel
theorem d_L_law_212 : decode b_L_law 212 = .ok (.iconst 0, 1) := by decide +kernel
theorem d_L_law_213 : decode b_L_law 213 = .ok (.ireturn, 1) := by decide +kernel
theorem d_L_law_214 : decode b_L_law 214 = .ok (.goto 421, 3) := by decide +kernel
theorem d_L_law_217 : decode b_L_law 217 = .ok (.aload_n 1, 1) := by decide +kernel
theorem d_L_law_218 : decode b_L_law 218 = .ok (.aload_n 0, 1) := by decide +kernel
theorem d_L_law_219 : decode b_L_law 219 = .ok (.iload 4, 2) := by decide +kernel
theorem d_L_law_221 : decode b_L_law 221 = .ok (.iconst 1, 1) := by decide +kernel
theorem d_L_law_222 : decode b_L_law 222 = .ok (.iadd, 1) := by decide +kernel
theorem d_L_law_223 : decode b_L_law 223 = .ok (.iaload, 1) := by decide +kernel
theorem d_L_law_224 : decode b_L_law 224 = .ok (.aload_n 0, 1) := by decide +kernel
theorem d_L_law_225 : decode b_L_law 225 = .ok (.iload 4, 2) := by decide +kernel
theorem d_L_law_227 : decode b_L_law 227 = .ok (.iconst 2, 1) := by decide +kernel
theorem d_L_law_228 : decode b_L_law 228 = .ok (.iadd, 1) := by decide +kernel
theorem d_L_law_229 : decode b_L_law 229 = .ok (.iaload, 1) := by decide +kernel
theorem d_L_law_230 : decode b_L_law 230 = .ok (.aload_n 3, 1) := by decide +kernel
theorem d_L_law_231 : decode b_L_law 231 = .ok (.invokestatic 64, 3) := by decide +kernel
theorem d_L_law_234 : decode b_L_law 234 = .ok (.istore 5, 2) := by decide +kernel
theorem d_L_law_236 : decode b_L_law 236 = .ok (.aload_n 2, 1) := by decide +kernel
theorem d_L_law_237 : decode b_L_law 237 = .ok (.aload_n 0, 1) := by decide +kernel
theorem d_L_law_238 : decode b_L_law 238 = .ok (.iload 4, 2) := by decide +kernel
theorem d_L_law_240 : decode b_L_law 240 = .ok (.iconst 1, 1) := by decide +kernel
theorem d_L_law_241 : decode b_L_law 241 = .ok (.iadd, 1) := by decide +kernel
theorem d_L_law_242 : decode b_L_law 242 = .ok (.iaload, 1) := by decide +kernel
theorem d_L_law_243 : decode b_L_law 243 = .ok (.aload_n 0, 1) := by decide +kernel
theorem d_L_law_244 : decode b_L_law 244 = .ok (.iload 4, 2) := by decide +kernel
theorem d_L_law_246 : decode b_L_law 246 = .ok (.iconst 2, 1) := by decide +kernel
theorem d_L_law_247 : decode b_L_law 247 = .ok (.iadd, 1) := by decide +kernel
theorem d_L_law_248 : decode b_L_law 248 = .ok (.iaload, 1) := by decide +kernel
theorem d_L_law_249 : decode b_L_law 249 = .ok (.invokevirtual 67, 3) := by decide +kernel
theorem d_L_law_252 : decode b_L_law 252 = .ok (.istore 6, 2) := by decide +kernel
theorem d_L_law_254 : decode b_L_law 254 = .ok (.aload_n 2, 1) := by decide +kernel
theorem d_L_law_255 : decode b_L_law 255 = .ok (.invokevirtual 57, 3) := by decide +kernel
theorem d_L_law_258 : decode b_L_law 258 = .ok (.iload 5, 2) := by decide +kernel
theorem d_L_law_260 : decode b_L_law 260 = .ok (.if_icmp .eq 5, 3) := by decide +kernel
theorem d_L_law_263 : decode b_L_law 263 = .ok (.iconst 0, 1) := by decide +kernel
theorem d_L_law_264 : decode b_L_law 264 = .ok (.ireturn, 1) := by decide +kernel
theorem d_L_law_265 : decode b_L_law 265 = .ok (.iload 5, 2) := by decide +kernel
theorem d_L_law_267 : decode b_L_law 267 = .ok (.ifCond .ne 15, 3) := by decide +kernel
theorem d_L_law_270 : decode b_L_law 270 = .ok (.aload_n 3, 1) := by decide +kernel
theorem d_L_law_271 : decode b_L_law 271 = .ok (.iconst 0, 1) := by decide +kernel
theorem d_L_law_272 : decode b_L_law 272 = .ok (.laload, 1) := by decide +kernel
theorem d_L_law_273 : decode b_L_law 273 = .ok (.iload 6, 2) := by decide +kernel
theorem d_L_law_275 : decode b_L_law 275 = .ok (.i2l, 1) := by decide +kernel
theorem d_L_law_276 : decode b_L_law 276 = .ok (.lcmp, 1) := by decide +kernel
theorem d_L_law_277 : decode b_L_law 277 = .ok (.ifCond .eq 5, 3) := by decide +kernel
theorem d_L_law_280 : decode b_L_law 280 = .ok (.iconst 0, 1) := by decide +kernel
theorem d_L_law_281 : decode b_L_law 281 = .ok (.ireturn, 1) := by decide +kernel
theorem d_L_law_282 : decode b_L_law 282 = .ok (.goto 353, 3) := by decide +kernel
theorem d_L_law_285 : decode b_L_law 285 = .ok (.aload_n 1, 1) := by decide +kernel
theorem d_L_law_286 : decode b_L_law 286 = .ok (.aload_n 0, 1) := by decide +kernel
theorem d_L_law_287 : decode b_L_law 287 = .ok (.iload 4, 2) := by decide +kernel
theorem d_L_law_289 : decode b_L_law 289 = .ok (.iconst 1, 1) := by decide +kernel
theorem d_L_law_290 : decode b_L_law 290 = .ok (.iadd, 1) := by decide +kernel
theorem d_L_law_291 : decode b_L_law 291 = .ok (.iaload, 1) := by decide +kernel
theorem d_L_law_292 : decode b_L_law 292 = .ok (.aload_n 0, 1) := by decide +kernel
theorem d_L_law_293 : decode b_L_law 293 = .ok (.iload 4, 2) := by decide +kernel
theorem d_L_law_295 : decode b_L_law 295 = .ok (.iconst 2, 1) := by decide +kernel
theorem d_L_law_296 : decode b_L_law 296 = .ok (.iadd, 1) := by decide +kernel
theorem d_L_law_297 : decode b_L_law 297 = .ok (.iaload, 1) := by decide +kernel
theorem d_L_law_298 : decode b_L_law 298 = .ok (.aload_n 0, 1) := by decide +kernel
theorem d_L_law_299 : decode b_L_law 299 = .ok (.iload 4, 2) := by decide +kernel
theorem d_L_law_301 : decode b_L_law 301 = .ok (.iconst 3, 1) := by decide +kernel
theorem d_L_law_302 : decode b_L_law 302 = .ok (.iadd, 1) := by decide +kernel
theorem d_L_law_303 : decode b_L_law 303 = .ok (.iaload, 1) := by decide +kernel
theorem d_L_law_304 : decode b_L_law 304 = .ok (.i2l, 1) := by decide +kernel
theorem d_L_law_305 : decode b_L_law 305 = .ok (.bipush 32, 2) := by decide +kernel
theorem d_L_law_307 : decode b_L_law 307 = .ok (.lshl, 1) := by decide +kernel
theorem d_L_law_308 : decode b_L_law 308 = .ok (.aload_n 0, 1) := by decide +kernel
theorem d_L_law_309 : decode b_L_law 309 = .ok (.iload 4, 2) := by decide +kernel
theorem d_L_law_311 : decode b_L_law 311 = .ok (.iconst 4, 1) := by decide +kernel
theorem d_L_law_312 : decode b_L_law 312 = .ok (.iadd, 1) := by decide +kernel
theorem d_L_law_313 : decode b_L_law 313 = .ok (.iaload, 1) := by decide +kernel
theorem d_L_law_314 : decode b_L_law 314 = .ok (.i2l, 1) := by decide +kernel
theorem d_L_law_315 : decode b_L_law 315 = .ok (.ldc2_w 68, 3) := by decide +kernel
theorem d_L_law_318 : decode b_L_law 318 = .ok (.land, 1) := by decide +kernel
theorem d_L_law_319 : decode b_L_law 319 = .ok (.lor, 1) := by decide +kernel
theorem d_L_law_320 : decode b_L_law 320 = .ok (.aload_n 0, 1) := by decide +kernel
theorem d_L_law_321 : decode b_L_law 321 = .ok (.iload 4, 2) := by decide +kernel
theorem d_L_law_323 : decode b_L_law 323 = .ok (.iconst 5, 1) := by decide +kernel
theorem d_L_law_324 : decode b_L_law 324 = .ok (.iadd, 1) := by decide +kernel
theorem d_L_law_325 : decode b_L_law 325 = .ok (.iaload, 1) := by decide +kernel
theorem d_L_law_326 : decode b_L_law 326 = .ok (.aload_n 3, 1) := by decide +kernel
theorem d_L_law_327 : decode b_L_law 327 = .ok (.invokestatic 70, 3) := by decide +kernel
theorem d_L_law_330 : decode b_L_law 330 = .ok (.istore 5, 2) := by decide +kernel
theorem d_L_law_332 : decode b_L_law 332 = .ok (.aload_n 2, 1) := by decide +kernel
theorem d_L_law_333 : decode b_L_law 333 = .ok (.aload_n 0, 1) := by decide +kernel
theorem d_L_law_334 : decode b_L_law 334 = .ok (.iload 4, 2) := by decide +kernel
theorem d_L_law_336 : decode b_L_law 336 = .ok (.iconst 1, 1) := by decide +kernel
theorem d_L_law_337 : decode b_L_law 337 = .ok (.iadd, 1) := by decide +kernel
theorem d_L_law_338 : decode b_L_law 338 = .ok (.iaload, 1) := by decide +kernel
theorem d_L_law_339 : decode b_L_law 339 = .ok (.aload_n 0, 1) := by decide +kernel
theorem d_L_law_340 : decode b_L_law 340 = .ok (.iload 4, 2) := by decide +kernel
theorem d_L_law_342 : decode b_L_law 342 = .ok (.iconst 2, 1) := by decide +kernel
theorem d_L_law_343 : decode b_L_law 343 = .ok (.iadd, 1) := by decide +kernel
theorem d_L_law_344 : decode b_L_law 344 = .ok (.iaload, 1) := by decide +kernel
theorem d_L_law_345 : decode b_L_law 345 = .ok (.aload_n 0, 1) := by decide +kernel
theorem d_L_law_346 : decode b_L_law 346 = .ok (.iload 4, 2) := by decide +kernel
theorem d_L_law_348 : decode b_L_law 348 = .ok (.iconst 3, 1) := by decide +kernel
theorem d_L_law_349 : decode b_L_law 349 = .ok (.iadd, 1) := by decide +kernel
theorem d_L_law_350 : decode b_L_law 350 = .ok (.iaload, 1) := by decide +kernel
theorem d_L_law_351 : decode b_L_law 351 = .ok (.i2l, 1) := by decide +kernel
theorem d_L_law_352 : decode b_L_law 352 = .ok (.bipush 32, 2) := by decide +kernel
theorem d_L_law_354 : decode b_L_law 354 = .ok (.lshl, 1) := by decide +kernel
theorem d_L_law_355 : decode b_L_law 355 = .ok (.aload_n 0, 1) := by decide +kernel
theorem d_L_law_356 : decode b_L_law 356 = .ok (.iload 4, 2) := by decide +kernel
theorem d_L_law_358 : decode b_L_law 358 = .ok (.iconst 4, 1) := by decide +kernel
theorem d_L_law_359 : decode b_L_law 359 = .ok (.iadd, 1) := by decide +kernel
theorem d_L_law_360 : decode b_L_law 360 = .ok (.iaload, 1) := by decide +kernel
theorem d_L_law_361 : decode b_L_law 361 = .ok (.i2l, 1) := by decide +kernel
theorem d_L_law_362 : decode b_L_law 362 = .ok (.ldc2_w 68, 3) := by decide +kernel
theorem d_L_law_365 : decode b_L_law 365 = .ok (.land, 1) := by decide +kernel
theorem d_L_law_366 : decode b_L_law 366 = .ok (.lor, 1) := by decide +kernel
theorem d_L_law_367 : decode b_L_law 367 = .ok (.aload_n 0, 1) := by decide +kernel
theorem d_L_law_368 : decode b_L_law 368 = .ok (.iload 4, 2) := by decide +kernel
theorem d_L_law_370 : decode b_L_law 370 = .ok (.iconst 5, 1) := by decide +kernel
theorem d_L_law_371 : decode b_L_law 371 = .ok (.iadd, 1) := by decide +kernel
theorem d_L_law_372 : decode b_L_law 372 = .ok (.iaload, 1) := by decide +kernel
theorem d_L_law_373 : decode b_L_law 373 = .ok (.invokevirtual 73, 3) := by decide +kernel
theorem d_L_law_376 : decode b_L_law 376 = .ok (.istore 6, 2) := by decide +kernel
theorem d_L_law_378 : decode b_L_law 378 = .ok (.aload_n 2, 1) := by decide +kernel
theorem d_L_law_379 : decode b_L_law 379 = .ok (.invokevirtual 57, 3) := by decide +kernel
theorem d_L_law_382 : decode b_L_law 382 = .ok (.iload 5, 2) := by decide +kernel
theorem d_L_law_384 : decode b_L_law 384 = .ok (.if_icmp .eq 5, 3) := by decide +kernel
theorem d_L_law_387 : decode b_L_law 387 = .ok (.iconst 0, 1) := by decide +kernel
theorem d_L_law_388 : decode b_L_law 388 = .ok (.ireturn, 1) := by decide +kernel
theorem d_L_law_389 : decode b_L_law 389 = .ok (.iload 5, 2) := by decide +kernel
theorem d_L_law_391 : decode b_L_law 391 = .ok (.ifCond .ne 15, 3) := by decide +kernel
theorem d_L_law_394 : decode b_L_law 394 = .ok (.aload_n 3, 1) := by decide +kernel
theorem d_L_law_395 : decode b_L_law 395 = .ok (.iconst 0, 1) := by decide +kernel
theorem d_L_law_396 : decode b_L_law 396 = .ok (.laload, 1) := by decide +kernel
theorem d_L_law_397 : decode b_L_law 397 = .ok (.iload 6, 2) := by decide +kernel
theorem d_L_law_399 : decode b_L_law 399 = .ok (.i2l, 1) := by decide +kernel
theorem d_L_law_400 : decode b_L_law 400 = .ok (.lcmp, 1) := by decide +kernel
theorem d_L_law_401 : decode b_L_law 401 = .ok (.ifCond .eq 5, 3) := by decide +kernel
theorem d_L_law_404 : decode b_L_law 404 = .ok (.iconst 0, 1) := by decide +kernel
theorem d_L_law_405 : decode b_L_law 405 = .ok (.ireturn, 1) := by decide +kernel
theorem d_L_law_406 : decode b_L_law 406 = .ok (.goto 229, 3) := by decide +kernel
theorem d_L_law_409 : decode b_L_law 409 = .ok (.aload_n 1, 1) := by decide +kernel
theorem d_L_law_410 : decode b_L_law 410 = .ok (.aload_n 0, 1) := by decide +kernel
theorem d_L_law_411 : decode b_L_law 411 = .ok (.iload 4, 2) := by decide +kernel
theorem d_L_law_413 : decode b_L_law 413 = .ok (.iconst 1, 1) := by decide +kernel
theorem d_L_law_414 : decode b_L_law 414 = .ok (.iadd, 1) := by decide +kernel
theorem d_L_law_415 : decode b_L_law 415 = .ok (.iaload, 1) := by decide +kernel
theorem d_L_law_416 : decode b_L_law 416 = .ok (.aload_n 0, 1) := by decide +kernel
theorem d_L_law_417 : decode b_L_law 417 = .ok (.iload 4, 2) := by decide +kernel
theorem d_L_law_419 : decode b_L_law 419 = .ok (.iconst 2, 1) := by decide +kernel
theorem d_L_law_420 : decode b_L_law 420 = .ok (.iadd, 1) := by decide +kernel
theorem d_L_law_421 : decode b_L_law 421 = .ok (.iaload, 1) := by decide +kernel
theorem d_L_law_422 : decode b_L_law 422 = .ok (.aload_n 0, 1) := by decide +kernel
theorem d_L_law_423 : decode b_L_law 423 = .ok (.iload 4, 2) := by decide +kernel
theorem d_L_law_425 : decode b_L_law 425 = .ok (.iconst 3, 1) := by decide +kernel
theorem d_L_law_426 : decode b_L_law 426 = .ok (.iadd, 1) := by decide +kernel
theorem d_L_law_427 : decode b_L_law 427 = .ok (.iaload, 1) := by decide +kernel
theorem d_L_law_428 : decode b_L_law 428 = .ok (.ifCond .eq 7, 3) := by decide +kernel
theorem d_L_law_431 : decode b_L_law 431 = .ok (.iconst 1, 1) := by decide +kernel
theorem d_L_law_432 : decode b_L_law 432 = .ok (.goto 4, 3) := by decide +kernel
theorem d_L_law_435 : decode b_L_law 435 = .ok (.iconst 0, 1) := by decide +kernel
theorem d_L_law_436 : decode b_L_law 436 = .ok (.aload_n 3, 1) := by decide +kernel
theorem d_L_law_437 : decode b_L_law 437 = .ok (.invokestatic 74, 3) := by decide +kernel
theorem d_L_law_440 : decode b_L_law 440 = .ok (.istore 5, 2) := by decide +kernel
theorem d_L_law_442 : decode b_L_law 442 = .ok (.aload_n 2, 1) := by decide +kernel
theorem d_L_law_443 : decode b_L_law 443 = .ok (.aload_n 0, 1) := by decide +kernel
theorem d_L_law_444 : decode b_L_law 444 = .ok (.iload 4, 2) := by decide +kernel
theorem d_L_law_446 : decode b_L_law 446 = .ok (.iconst 1, 1) := by decide +kernel
theorem d_L_law_447 : decode b_L_law 447 = .ok (.iadd, 1) := by decide +kernel
theorem d_L_law_448 : decode b_L_law 448 = .ok (.iaload, 1) := by decide +kernel
theorem d_L_law_449 : decode b_L_law 449 = .ok (.aload_n 0, 1) := by decide +kernel
theorem d_L_law_450 : decode b_L_law 450 = .ok (.iload 4, 2) := by decide +kernel
theorem d_L_law_452 : decode b_L_law 452 = .ok (.iconst 2, 1) := by decide +kernel
theorem d_L_law_453 : decode b_L_law 453 = .ok (.iadd, 1) := by decide +kernel
theorem d_L_law_454 : decode b_L_law 454 = .ok (.iaload, 1) := by decide +kernel
theorem d_L_law_455 : decode b_L_law 455 = .ok (.aload_n 0, 1) := by decide +kernel
theorem d_L_law_456 : decode b_L_law 456 = .ok (.iload 4, 2) := by decide +kernel
theorem d_L_law_458 : decode b_L_law 458 = .ok (.iconst 3, 1) := by decide +kernel
theorem d_L_law_459 : decode b_L_law 459 = .ok (.iadd, 1) := by decide +kernel
theorem d_L_law_460 : decode b_L_law 460 = .ok (.iaload, 1) := by decide +kernel
theorem d_L_law_461 : decode b_L_law 461 = .ok (.ifCond .eq 7, 3) := by decide +kernel
theorem d_L_law_464 : decode b_L_law 464 = .ok (.iconst 1, 1) := by decide +kernel
theorem d_L_law_465 : decode b_L_law 465 = .ok (.goto 4, 3) := by decide +kernel
theorem d_L_law_468 : decode b_L_law 468 = .ok (.iconst 0, 1) := by decide +kernel
theorem d_L_law_469 : decode b_L_law 469 = .ok (.invokevirtual 77, 3) := by decide +kernel
theorem d_L_law_472 : decode b_L_law 472 = .ok (.lstore 6, 2) := by decide +kernel
theorem d_L_law_474 : decode b_L_law 474 = .ok (.aload_n 2, 1) := by decide +kernel
theorem d_L_law_475 : decode b_L_law 475 = .ok (.invokevirtual 57, 3) := by decide +kernel
theorem d_L_law_478 : decode b_L_law 478 = .ok (.iload 5, 2) := by decide +kernel
theorem d_L_law_480 : decode b_L_law 480 = .ok (.if_icmp .eq 5, 3) := by decide +kernel
theorem d_L_law_483 : decode b_L_law 483 = .ok (.iconst 0, 1) := by decide +kernel
theorem d_L_law_484 : decode b_L_law 484 = .ok (.ireturn, 1) := by decide +kernel
theorem d_L_law_485 : decode b_L_law 485 = .ok (.iload 5, 2) := by decide +kernel
theorem d_L_law_487 : decode b_L_law 487 = .ok (.ifCond .ne 14, 3) := by decide +kernel
theorem d_L_law_490 : decode b_L_law 490 = .ok (.aload_n 3, 1) := by decide +kernel
theorem d_L_law_491 : decode b_L_law 491 = .ok (.iconst 0, 1) := by decide +kernel
theorem d_L_law_492 : decode b_L_law 492 = .ok (.laload, 1) := by decide +kernel
theorem d_L_law_493 : decode b_L_law 493 = .ok (.lload 6, 2) := by decide +kernel
theorem d_L_law_495 : decode b_L_law 495 = .ok (.lcmp, 1) := by decide +kernel
theorem d_L_law_496 : decode b_L_law 496 = .ok (.ifCond .eq 5, 3) := by decide +kernel
theorem d_L_law_499 : decode b_L_law 499 = .ok (.iconst 0, 1) := by decide +kernel
theorem d_L_law_500 : decode b_L_law 500 = .ok (.ireturn, 1) := by decide +kernel
theorem d_L_law_501 : decode b_L_law 501 = .ok (.goto 134, 3) := by decide +kernel
theorem d_L_law_504 : decode b_L_law 504 = .ok (.aload_n 1, 1) := by decide +kernel
theorem d_L_law_505 : decode b_L_law 505 = .ok (.aload_n 0, 1) := by decide +kernel
theorem d_L_law_506 : decode b_L_law 506 = .ok (.iload 4, 2) := by decide +kernel
theorem d_L_law_508 : decode b_L_law 508 = .ok (.iconst 1, 1) := by decide +kernel
theorem d_L_law_509 : decode b_L_law 509 = .ok (.iadd, 1) := by decide +kernel
theorem d_L_law_510 : decode b_L_law 510 = .ok (.iaload, 1) := by decide +kernel
theorem d_L_law_511 : decode b_L_law 511 = .ok (.aload_n 0, 1) := by decide +kernel
theorem d_L_law_512 : decode b_L_law 512 = .ok (.iload 4, 2) := by decide +kernel
theorem d_L_law_514 : decode b_L_law 514 = .ok (.iconst 2, 1) := by decide +kernel
theorem d_L_law_515 : decode b_L_law 515 = .ok (.iadd, 1) := by decide +kernel
theorem d_L_law_516 : decode b_L_law 516 = .ok (.iaload, 1) := by decide +kernel
theorem d_L_law_517 : decode b_L_law 517 = .ok (.aload_n 3, 1) := by decide +kernel
theorem d_L_law_518 : decode b_L_law 518 = .ok (.invokestatic 78, 3) := by decide +kernel
theorem d_L_law_521 : decode b_L_law 521 = .ok (.istore 5, 2) := by decide +kernel
theorem d_L_law_523 : decode b_L_law 523 = .ok (.aload_n 2, 1) := by decide +kernel
theorem d_L_law_524 : decode b_L_law 524 = .ok (.aload_n 0, 1) := by decide +kernel
theorem d_L_law_525 : decode b_L_law 525 = .ok (.iload 4, 2) := by decide +kernel
theorem d_L_law_527 : decode b_L_law 527 = .ok (.iconst 1, 1) := by decide +kernel
theorem d_L_law_528 : decode b_L_law 528 = .ok (.iadd, 1) := by decide +kernel
theorem d_L_law_529 : decode b_L_law 529 = .ok (.iaload, 1) := by decide +kernel
theorem d_L_law_530 : decode b_L_law 530 = .ok (.aload_n 0, 1) := by decide +kernel
theorem d_L_law_531 : decode b_L_law 531 = .ok (.iload 4, 2) := by decide +kernel
theorem d_L_law_533 : decode b_L_law 533 = .ok (.iconst 2, 1) := by decide +kernel
theorem d_L_law_534 : decode b_L_law 534 = .ok (.iadd, 1) := by decide +kernel
theorem d_L_law_535 : decode b_L_law 535 = .ok (.iaload, 1) := by decide +kernel
theorem d_L_law_536 : decode b_L_law 536 = .ok (.invokevirtual 80, 3) := by decide +kernel
theorem d_L_law_539 : decode b_L_law 539 = .ok (.istore 6, 2) := by decide +kernel
theorem d_L_law_541 : decode b_L_law 541 = .ok (.aload_n 2, 1) := by decide +kernel
theorem d_L_law_542 : decode b_L_law 542 = .ok (.invokevirtual 57, 3) := by decide +kernel
theorem d_L_law_545 : decode b_L_law 545 = .ok (.iload 5, 2) := by decide +kernel
theorem d_L_law_547 : decode b_L_law 547 = .ok (.if_icmp .eq 5, 3) := by decide +kernel
theorem d_L_law_550 : decode b_L_law 550 = .ok (.iconst 0, 1) := by decide +kernel
theorem d_L_law_551 : decode b_L_law 551 = .ok (.ireturn, 1) := by decide +kernel
theorem d_L_law_552 : decode b_L_law 552 = .ok (.iload 5, 2) := by decide +kernel
theorem d_L_law_554 : decode b_L_law 554 = .ok (.ifCond .ne 22, 3) := by decide +kernel
theorem d_L_law_557 : decode b_L_law 557 = .ok (.aload_n 3, 1) := by decide +kernel
theorem d_L_law_558 : decode b_L_law 558 = .ok (.iconst 0, 1) := by decide +kernel
theorem d_L_law_559 : decode b_L_law 559 = .ok (.laload, 1) := by decide +kernel
theorem d_L_law_560 : decode b_L_law 560 = .ok (.iload 6, 2) := by decide +kernel
theorem d_L_law_562 : decode b_L_law 562 = .ok (.ifCond .eq 7, 3) := by decide +kernel
theorem d_L_law_565 : decode b_L_law 565 = .ok (.lconst 1, 1) := by decide +kernel
theorem d_L_law_566 : decode b_L_law 566 = .ok (.goto 4, 3) := by decide +kernel
theorem d_L_law_569 : decode b_L_law 569 = .ok (.lconst 0, 1) := by decide +kernel
theorem d_L_law_570 : decode b_L_law 570 = .ok (.lcmp, 1) := by decide +kernel
theorem d_L_law_571 : decode b_L_law 571 = .ok (.ifCond .eq 5, 3) := by decide +kernel
theorem d_L_law_574 : decode b_L_law 574 = .ok (.iconst 0, 1) := by decide +kernel
theorem d_L_law_575 : decode b_L_law 575 = .ok (.ireturn, 1) := by decide +kernel
theorem d_L_law_576 : decode b_L_law 576 = .ok (.goto 59, 3) := by decide +kernel
theorem d_L_law_579 : decode b_L_law 579 = .ok (.aload_n 1, 1) := by decide +kernel
theorem d_L_law_580 : decode b_L_law 580 = .ok (.aload_n 0, 1) := by decide +kernel
theorem d_L_law_581 : decode b_L_law 581 = .ok (.iload 4, 2) := by decide +kernel
theorem d_L_law_583 : decode b_L_law 583 = .ok (.iconst 1, 1) := by decide +kernel
theorem d_L_law_584 : decode b_L_law 584 = .ok (.iadd, 1) := by decide +kernel
theorem d_L_law_585 : decode b_L_law 585 = .ok (.iaload, 1) := by decide +kernel
theorem d_L_law_586 : decode b_L_law 586 = .ok (.aload_n 3, 1) := by decide +kernel
theorem d_L_law_587 : decode b_L_law 587 = .ok (.invokestatic 81, 3) := by decide +kernel
theorem d_L_law_590 : decode b_L_law 590 = .ok (.istore 5, 2) := by decide +kernel
theorem d_L_law_592 : decode b_L_law 592 = .ok (.aload_n 2, 1) := by decide +kernel
theorem d_L_law_593 : decode b_L_law 593 = .ok (.aload_n 0, 1) := by decide +kernel
theorem d_L_law_594 : decode b_L_law 594 = .ok (.iload 4, 2) := by decide +kernel
theorem d_L_law_596 : decode b_L_law 596 = .ok (.iconst 1, 1) := by decide +kernel
theorem d_L_law_597 : decode b_L_law 597 = .ok (.iadd, 1) := by decide +kernel
theorem d_L_law_598 : decode b_L_law 598 = .ok (.iaload, 1) := by decide +kernel
theorem d_L_law_599 : decode b_L_law 599 = .ok (.invokevirtual 84, 3) := by decide +kernel
theorem d_L_law_602 : decode b_L_law 602 = .ok (.istore 6, 2) := by decide +kernel
theorem d_L_law_604 : decode b_L_law 604 = .ok (.aload_n 2, 1) := by decide +kernel
theorem d_L_law_605 : decode b_L_law 605 = .ok (.invokevirtual 57, 3) := by decide +kernel
theorem d_L_law_608 : decode b_L_law 608 = .ok (.iload 5, 2) := by decide +kernel
theorem d_L_law_610 : decode b_L_law 610 = .ok (.if_icmp .eq 5, 3) := by decide +kernel
theorem d_L_law_613 : decode b_L_law 613 = .ok (.iconst 0, 1) := by decide +kernel
theorem d_L_law_614 : decode b_L_law 614 = .ok (.ireturn, 1) := by decide +kernel
theorem d_L_law_615 : decode b_L_law 615 = .ok (.iload 5, 2) := by decide +kernel
theorem d_L_law_617 : decode b_L_law 617 = .ok (.ifCond .ne 15, 3) := by decide +kernel
theorem d_L_law_620 : decode b_L_law 620 = .ok (.aload_n 3, 1) := by decide +kernel
theorem d_L_law_621 : decode b_L_law 621 = .ok (.iconst 0, 1) := by decide +kernel
theorem d_L_law_622 : decode b_L_law 622 = .ok (.laload, 1) := by decide +kernel
theorem d_L_law_623 : decode b_L_law 623 = .ok (.iload 6, 2) := by decide +kernel
theorem d_L_law_625 : decode b_L_law 625 = .ok (.i2l, 1) := by decide +kernel
theorem d_L_law_626 : decode b_L_law 626 = .ok (.lcmp, 1) := by decide +kernel
theorem d_L_law_627 : decode b_L_law 627 = .ok (.ifCond .eq 5, 3) := by decide +kernel
theorem d_L_law_630 : decode b_L_law 630 = .ok (.iconst 0, 1) := by decide +kernel
theorem d_L_law_631 : decode b_L_law 631 = .ok (.ireturn, 1) := by decide +kernel
theorem d_L_law_632 : decode b_L_law 632 = .ok (.goto 3, 3) := by decide +kernel
theorem d_L_law_635 : decode b_L_law 635 = .ok (.iinc 4 6, 3) := by decide +kernel
theorem d_L_law_638 : decode b_L_law 638 = .ok (.goto (-615), 3) := by decide +kernel
theorem d_L_law_641 : decode b_L_law 641 = .ok (.iconst 1, 1) := by decide +kernel
theorem d_L_law_642 : decode b_L_law 642 = .ok (.ireturn, 1) := by decide +kernel
