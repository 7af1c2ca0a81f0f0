theorem d_Lw_law_0 : decode m_Lw_law.2.1 0 = .ok (.new 7, 3) := by decide +kernel
theorem d_Lw_law_3 : decode m_Lw_law.2.1 3 = .ok (.dup, 1) := by decide +kernel
theorem d_Lw_law_4 : decode m_Lw_law.2.1 4 = .ok (.invokespecial 9, 3) := by decide +kernel
set_option maxRecDepth 100000 in
theorem s_Lw_law_4 {G : r_X} {n : Nat} {h : r_HI} {g : r_HR} {z : r_HL} {a : Nat} : r_cl G m_Lw_law m_Ra_init 4 (.ref a :: []) n h g z := r_clI d_Lw_law_4 w_Ra_init rfl (r_in 17 rfl rfl) a_Ra_init rfl n_Ra (by decide +kernel : r_mh m_Ra_init.1 0)
theorem d_Lw_law_7 : decode m_Lw_law.2.1 7 = .ok (.astore_n 1, 1) := by decide +kernel
theorem d_Lw_law_8 : decode m_Lw_law.2.1 8 = .ok (.new 10, 3) := by decide +kernel
theorem d_Lw_law_11 : decode m_Lw_law.2.1 11 = .ok (.dup, 1) := by decide +kernel
theorem d_Lw_law_12 : decode m_Lw_law.2.1 12 = .ok (.invokespecial 12, 3) := by decide +kernel
set_option maxRecDepth 100000 in
theorem s_Lw_law_12 {G : r_X} {n : Nat} {h : r_HI} {g : r_HR} {z : r_HL} {a : Nat} : r_cl G m_Lw_law m_Mo_init 12 (.ref a :: []) n h g z := r_clI d_Lw_law_12 w_Mo_init rfl (r_in 747 rfl rfl) a_Mo_init rfl n_Mo (by decide +kernel : r_mh m_Mo_init.1 0)
theorem d_Lw_law_15 : decode m_Lw_law.2.1 15 = .ok (.astore_n 2, 1) := by decide +kernel
theorem d_Lw_law_16 : decode m_Lw_law.2.1 16 = .ok (.iconst 0, 1) := by decide +kernel
theorem d_Lw_law_17 : decode m_Lw_law.2.1 17 = .ok (.istore_n 3, 1) := by decide +kernel
theorem d_Lw_law_18 : decode m_Lw_law.2.1 18 = .ok (.iload_n 3, 1) := by decide +kernel
theorem d_Lw_law_19 : decode m_Lw_law.2.1 19 = .ok (.aload_n 0, 1) := by decide +kernel
theorem d_Lw_law_20 : decode m_Lw_law.2.1 20 = .ok (.arraylength, 1) := by decide +kernel
theorem d_Lw_law_21 : decode m_Lw_law.2.1 21 = .ok (.iconst 4, 1) := by decide +kernel
theorem d_Lw_law_22 : decode m_Lw_law.2.1 22 = .ok (.isub, 1) := by decide +kernel
theorem d_Lw_law_23 : decode m_Lw_law.2.1 23 = .ok (.if_icmp .gt 872, 3) := by decide +kernel
theorem d_Lw_law_26 : decode m_Lw_law.2.1 26 = .ok (.aload_n 0, 1) := by decide +kernel
theorem d_Lw_law_27 : decode m_Lw_law.2.1 27 = .ok (.iload_n 3, 1) := by decide +kernel
theorem d_Lw_law_28 : decode m_Lw_law.2.1 28 = .ok (.iaload, 1) := by decide +kernel
theorem d_Lw_law_29 : decode m_Lw_law.2.1 29 = .ok (.bipush 31, 2) := by decide +kernel
theorem d_Lw_law_31 : decode m_Lw_law.2.1 31 = .ok (.iand, 1) := by decide +kernel
theorem d_Lw_law_32 : decode m_Lw_law.2.1 32 = .ok (.tableswitch 857 0 29 #[136, 159, 172, 185, 198, 231, 264, 287, 300, 333, 346, 369, 392, 415, 448, 481, 514, 537, 570, 593, 636, 679, 712, 725, 738, 751, 794, 807, 820, 843], 136) := by decide +kernel
theorem d_Lw_law_168 : decode m_Lw_law.2.1 168 = .ok (.aload_n 1, 1) := by decide +kernel
theorem d_Lw_law_169 : decode m_Lw_law.2.1 169 = .ok (.aload_n 0, 1) := by decide +kernel
theorem d_Lw_law_170 : decode m_Lw_law.2.1 170 = .ok (.iload_n 3, 1) := by decide +kernel
theorem d_Lw_law_171 : decode m_Lw_law.2.1 171 = .ok (.iconst 1, 1) := by decide +kernel
theorem d_Lw_law_172 : decode m_Lw_law.2.1 172 = .ok (.iadd, 1) := by decide +kernel
theorem d_Lw_law_173 : decode m_Lw_law.2.1 173 = .ok (.iaload, 1) := by decide +kernel
theorem d_Lw_law_174 : decode m_Lw_law.2.1 174 = .ok (.invokevirtual 13, 3) := by decide +kernel
set_option maxRecDepth 100000 in
theorem s_Lw_law_174 {G : r_X} {n : Nat} {h : r_HI} {g : r_HR} {z : r_HL} {k : Nat} {v0 : Value} (hp : r_pk k = (0, 11)) (hk : k < n) : r_cl G m_Lw_law m_Ra_letter 174 (.ref (G.2.1 + k) :: [v0]) n h g z := r_clV d_Lw_law_174 w_Ra_letter (r_in 279 rfl rfl) a_Ra_letter (r_in 281 rfl rfl) n_Ra (by decide +kernel : r_mh m_Ra_letter.1 1) hp hk (by decide)
theorem d_Lw_law_177 : decode m_Lw_law.2.1 177 = .ok (.aload_n 2, 1) := by decide +kernel
theorem d_Lw_law_178 : decode m_Lw_law.2.1 178 = .ok (.aload_n 0, 1) := by decide +kernel
theorem d_Lw_law_179 : decode m_Lw_law.2.1 179 = .ok (.iload_n 3, 1) := by decide +kernel
theorem d_Lw_law_180 : decode m_Lw_law.2.1 180 = .ok (.iconst 1, 1) := by decide +kernel
theorem d_Lw_law_181 : decode m_Lw_law.2.1 181 = .ok (.iadd, 1) := by decide +kernel
theorem d_Lw_law_182 : decode m_Lw_law.2.1 182 = .ok (.iaload, 1) := by decide +kernel
theorem d_Lw_law_183 : decode m_Lw_law.2.1 183 = .ok (.invokevirtual 17, 3) := by decide +kernel
set_option maxRecDepth 100000 in
theorem s_Lw_law_183 {G : r_X} {n : Nat} {h : r_HI} {g : r_HR} {z : r_HL} {k : Nat} {v0 : Value} (hp : r_pk k = (0, 12)) (hk : k < n) : r_cl G m_Lw_law m_Mo_letter 183 (.ref (G.2.1 + k) :: [v0]) n h g z := r_clV d_Lw_law_183 w_Mo_letter (r_in 875 rfl rfl) a_Mo_letter (r_in 877 rfl rfl) n_Mo (by decide +kernel : r_mh m_Mo_letter.1 1) hp hk (by decide)
theorem d_Lw_law_186 : decode m_Lw_law.2.1 186 = .ok (.if_icmp .eq 703, 3) := by decide +kernel
theorem d_Lw_law_189 : decode m_Lw_law.2.1 189 = .ok (.iconst 0, 1) := by decide +kernel
theorem d_Lw_law_190 : decode m_Lw_law.2.1 190 = .ok (.ireturn, 1) := by decide +kernel
theorem d_Lw_law_191 : decode m_Lw_law.2.1 191 = .ok (.aload_n 1, 1) := by decide +kernel
theorem d_Lw_law_192 : decode m_Lw_law.2.1 192 = .ok (.invokevirtual 18, 3) := by decide +kernel
set_option maxRecDepth 100000 in
theorem s_Lw_law_192 {G : r_X} {n : Nat} {h : r_HI} {g : r_HR} {z : r_HL} {k : Nat} (hp : r_pk k = (0, 11)) (hk : k < n) : r_cl G m_Lw_law m_Ra_blank 192 (.ref (G.2.1 + k) :: []) n h g z := r_clV d_Lw_law_192 w_Ra_blank (r_in 290 rfl rfl) a_Ra_blank (r_in 292 rfl rfl) n_Ra (by decide +kernel : r_mh m_Ra_blank.1 0) hp hk (by decide)
theorem d_Lw_law_195 : decode m_Lw_law.2.1 195 = .ok (.aload_n 2, 1) := by decide +kernel
theorem d_Lw_law_196 : decode m_Lw_law.2.1 196 = .ok (.invokevirtual 22, 3) := by decide +kernel
set_option maxRecDepth 100000 in
theorem s_Lw_law_196 {G : r_X} {n : Nat} {h : r_HI} {g : r_HR} {z : r_HL} {k : Nat} (hp : r_pk k = (0, 12)) (hk : k < n) : r_cl G m_Lw_law m_Mo_blank 196 (.ref (G.2.1 + k) :: []) n h g z := r_clV d_Lw_law_196 w_Mo_blank (r_in 883 rfl rfl) a_Mo_blank (r_in 885 rfl rfl) n_Mo (by decide +kernel : r_mh m_Mo_blank.1 0) hp hk (by decide)
theorem d_Lw_law_199 : decode m_Lw_law.2.1 199 = .ok (.if_icmp .eq 690, 3) := by decide +kernel
theorem d_Lw_law_202 : decode m_Lw_law.2.1 202 = .ok (.iconst 0, 1) := by decide +kernel
theorem d_Lw_law_203 : decode m_Lw_law.2.1 203 = .ok (.ireturn, 1) := by decide +kernel
theorem d_Lw_law_204 : decode m_Lw_law.2.1 204 = .ok (.aload_n 1, 1) := by decide +kernel
theorem d_Lw_law_205 : decode m_Lw_law.2.1 205 = .ok (.invokevirtual 23, 3) := by decide +kernel
set_option maxRecDepth 100000 in
theorem s_Lw_law_205 {G : r_X} {n : Nat} {h : r_HI} {g : r_HR} {z : r_HL} {k : Nat} (hp : r_pk k = (0, 11)) (hk : k < n) : r_cl G m_Lw_law m_Ra_fault 205 (.ref (G.2.1 + k) :: []) n h g z := r_clV d_Lw_law_205 w_Ra_fault (r_in 298 rfl rfl) a_Ra_fault (r_in 300 rfl rfl) n_Ra (by decide +kernel : r_mh m_Ra_fault.1 0) hp hk (by decide)
theorem d_Lw_law_208 : decode m_Lw_law.2.1 208 = .ok (.aload_n 2, 1) := by decide +kernel
theorem d_Lw_law_209 : decode m_Lw_law.2.1 209 = .ok (.invokevirtual 26, 3) := by decide +kernel
set_option maxRecDepth 100000 in
theorem s_Lw_law_209 {G : r_X} {n : Nat} {h : r_HI} {g : r_HR} {z : r_HL} {k : Nat} (hp : r_pk k = (0, 12)) (hk : k < n) : r_cl G m_Lw_law m_Mo_fault 209 (.ref (G.2.1 + k) :: []) n h g z := r_clV d_Lw_law_209 w_Mo_fault (r_in 887 rfl rfl) a_Mo_fault (r_in 889 rfl rfl) n_Mo (by decide +kernel : r_mh m_Mo_fault.1 0) hp hk (by decide)
theorem d_Lw_law_212 : decode m_Lw_law.2.1 212 = .ok (.if_icmp .eq 677, 3) := by decide +kernel
theorem d_Lw_law_215 : decode m_Lw_law.2.1 215 = .ok (.iconst 0, 1) := by decide +kernel
theorem d_Lw_law_216 : decode m_Lw_law.2.1 216 = .ok (.ireturn, 1) := by decide +kernel
theorem d_Lw_law_217 : decode m_Lw_law.2.1 217 = .ok (.aload_n 1, 1) := by decide +kernel
theorem d_Lw_law_218 : decode m_Lw_law.2.1 218 = .ok (.invokevirtual 27, 3) := by decide +kernel
set_option maxRecDepth 100000 in
theorem s_Lw_law_218 {G : r_X} {n : Nat} {h : r_HI} {g : r_HR} {z : r_HL} {k : Nat} (hp : r_pk k = (0, 11)) (hk : k < n) : r_cl G m_Lw_law m_Ra_plate 218 (.ref (G.2.1 + k) :: []) n h g z := r_clV d_Lw_law_218 w_Ra_plate (r_in 321 rfl rfl) a_Ra_plate (r_in 323 rfl rfl) n_Ra (by decide +kernel : r_mh m_Ra_plate.1 0) hp hk (by decide)
theorem d_Lw_law_221 : decode m_Lw_law.2.1 221 = .ok (.aload_n 2, 1) := by decide +kernel
theorem d_Lw_law_222 : decode m_Lw_law.2.1 222 = .ok (.invokevirtual 30, 3) := by decide +kernel
set_option maxRecDepth 100000 in
theorem s_Lw_law_222 {G : r_X} {n : Nat} {h : r_HI} {g : r_HR} {z : r_HL} {k : Nat} (hp : r_pk k = (0, 12)) (hk : k < n) : r_cl G m_Lw_law m_Mo_plate 222 (.ref (G.2.1 + k) :: []) n h g z := r_clV d_Lw_law_222 w_Mo_plate (r_in 914 rfl rfl) a_Mo_plate (r_in 916 rfl rfl) n_Mo (by decide +kernel : r_mh m_Mo_plate.1 0) hp hk (by decide)
theorem d_Lw_law_225 : decode m_Lw_law.2.1 225 = .ok (.if_icmp .eq 664, 3) := by decide +kernel
theorem d_Lw_law_228 : decode m_Lw_law.2.1 228 = .ok (.iconst 0, 1) := by decide +kernel
theorem d_Lw_law_229 : decode m_Lw_law.2.1 229 = .ok (.ireturn, 1) := by decide +kernel
theorem d_Lw_law_230 : decode m_Lw_law.2.1 230 = .ok (.aload_n 1, 1) := by decide +kernel
theorem d_Lw_law_231 : decode m_Lw_law.2.1 231 = .ok (.aload_n 0, 1) := by decide +kernel
theorem d_Lw_law_232 : decode m_Lw_law.2.1 232 = .ok (.iload_n 3, 1) := by decide +kernel
theorem d_Lw_law_233 : decode m_Lw_law.2.1 233 = .ok (.iconst 1, 1) := by decide +kernel
theorem d_Lw_law_234 : decode m_Lw_law.2.1 234 = .ok (.iadd, 1) := by decide +kernel
theorem d_Lw_law_235 : decode m_Lw_law.2.1 235 = .ok (.iaload, 1) := by decide +kernel
theorem d_Lw_law_236 : decode m_Lw_law.2.1 236 = .ok (.aload_n 0, 1) := by decide +kernel
theorem d_Lw_law_237 : decode m_Lw_law.2.1 237 = .ok (.iload_n 3, 1) := by decide +kernel
theorem d_Lw_law_238 : decode m_Lw_law.2.1 238 = .ok (.iconst 2, 1) := by decide +kernel
theorem d_Lw_law_239 : decode m_Lw_law.2.1 239 = .ok (.iadd, 1) := by decide +kernel
theorem d_Lw_law_240 : decode m_Lw_law.2.1 240 = .ok (.iaload, 1) := by decide +kernel
theorem d_Lw_law_241 : decode m_Lw_law.2.1 241 = .ok (.invokevirtual 31, 3) := by decide +kernel
set_option maxRecDepth 100000 in
theorem s_Lw_law_241 {G : r_X} {n : Nat} {h : r_HI} {g : r_HR} {z : r_HL} {k : Nat} {v0 v1 : Value} (hp : r_pk k = (0, 11)) (hk : k < n) : r_cl G m_Lw_law m_Ra_ring 241 (.ref (G.2.1 + k) :: [v0, v1]) n h g z := r_clV d_Lw_law_241 w_Ra_ring (r_in 366 rfl rfl) a_Ra_ring (r_in 368 rfl rfl) n_Ra (by decide +kernel : r_mh m_Ra_ring.1 2) hp hk (by decide)
theorem d_Lw_law_244 : decode m_Lw_law.2.1 244 = .ok (.aload_n 2, 1) := by decide +kernel
theorem d_Lw_law_245 : decode m_Lw_law.2.1 245 = .ok (.aload_n 0, 1) := by decide +kernel
theorem d_Lw_law_246 : decode m_Lw_law.2.1 246 = .ok (.iload_n 3, 1) := by decide +kernel
theorem d_Lw_law_247 : decode m_Lw_law.2.1 247 = .ok (.iconst 1, 1) := by decide +kernel
theorem d_Lw_law_248 : decode m_Lw_law.2.1 248 = .ok (.iadd, 1) := by decide +kernel
theorem d_Lw_law_249 : decode m_Lw_law.2.1 249 = .ok (.iaload, 1) := by decide +kernel
theorem d_Lw_law_250 : decode m_Lw_law.2.1 250 = .ok (.aload_n 0, 1) := by decide +kernel
theorem d_Lw_law_251 : decode m_Lw_law.2.1 251 = .ok (.iload_n 3, 1) := by decide +kernel
theorem d_Lw_law_252 : decode m_Lw_law.2.1 252 = .ok (.iconst 2, 1) := by decide +kernel
theorem d_Lw_law_253 : decode m_Lw_law.2.1 253 = .ok (.iadd, 1) := by decide +kernel
theorem d_Lw_law_254 : decode m_Lw_law.2.1 254 = .ok (.iaload, 1) := by decide +kernel
theorem d_Lw_law_255 : decode m_Lw_law.2.1 255 = .ok (.invokevirtual 35, 3) := by decide +kernel
set_option maxRecDepth 100000 in
theorem s_Lw_law_255 {G : r_X} {n : Nat} {h : r_HI} {g : r_HR} {z : r_HL} {k : Nat} {v0 v1 : Value} (hp : r_pk k = (0, 12)) (hk : k < n) : r_cl G m_Lw_law m_Mo_ring 255 (.ref (G.2.1 + k) :: [v0, v1]) n h g z := r_clV d_Lw_law_255 w_Mo_ring (r_in 918 rfl rfl) a_Mo_ring (r_in 920 rfl rfl) n_Mo (by decide +kernel : r_mh m_Mo_ring.1 2) hp hk (by decide)
theorem d_Lw_law_258 : decode m_Lw_law.2.1 258 = .ok (.if_icmp .eq 631, 3) := by decide +kernel
theorem d_Lw_law_261 : decode m_Lw_law.2.1 261 = .ok (.iconst 0, 1) := by decide +kernel
theorem d_Lw_law_262 : decode m_Lw_law.2.1 262 = .ok (.ireturn, 1) := by decide +kernel
theorem d_Lw_law_263 : decode m_Lw_law.2.1 263 = .ok (.aload_n 1, 1) := by decide +kernel
theorem d_Lw_law_264 : decode m_Lw_law.2.1 264 = .ok (.aload_n 0, 1) := by decide +kernel
theorem d_Lw_law_265 : decode m_Lw_law.2.1 265 = .ok (.iload_n 3, 1) := by decide +kernel
theorem d_Lw_law_266 : decode m_Lw_law.2.1 266 = .ok (.iconst 1, 1) := by decide +kernel
theorem d_Lw_law_267 : decode m_Lw_law.2.1 267 = .ok (.iadd, 1) := by decide +kernel
theorem d_Lw_law_268 : decode m_Lw_law.2.1 268 = .ok (.iaload, 1) := by decide +kernel
theorem d_Lw_law_269 : decode m_Lw_law.2.1 269 = .ok (.aload_n 0, 1) := by decide +kernel
theorem d_Lw_law_270 : decode m_Lw_law.2.1 270 = .ok (.iload_n 3, 1) := by decide +kernel
theorem d_Lw_law_271 : decode m_Lw_law.2.1 271 = .ok (.iconst 2, 1) := by decide +kernel
theorem d_Lw_law_272 : decode m_Lw_law.2.1 272 = .ok (.iadd, 1) := by decide +kernel
theorem d_Lw_law_273 : decode m_Lw_law.2.1 273 = .ok (.iaload, 1) := by decide +kernel
theorem d_Lw_law_274 : decode m_Lw_law.2.1 274 = .ok (.invokevirtual 36, 3) := by decide +kernel
set_option maxRecDepth 100000 in
theorem s_Lw_law_274 {G : r_X} {n : Nat} {h : r_HI} {g : r_HR} {z : r_HL} {k : Nat} {v0 v1 : Value} (hp : r_pk k = (0, 11)) (hk : k < n) : r_cl G m_Lw_law m_Ra_asked 274 (.ref (G.2.1 + k) :: [v0, v1]) n h g z := r_clV d_Lw_law_274 w_Ra_asked (r_in 384 rfl rfl) a_Ra_asked (r_in 386 rfl rfl) n_Ra (by decide +kernel : r_mh m_Ra_asked.1 2) hp hk (by decide)
theorem d_Lw_law_277 : decode m_Lw_law.2.1 277 = .ok (.aload_n 2, 1) := by decide +kernel
theorem d_Lw_law_278 : decode m_Lw_law.2.1 278 = .ok (.aload_n 0, 1) := by decide +kernel
theorem d_Lw_law_279 : decode m_Lw_law.2.1 279 = .ok (.iload_n 3, 1) := by decide +kernel
theorem d_Lw_law_280 : decode m_Lw_law.2.1 280 = .ok (.iconst 1, 1) := by decide +kernel
theorem d_Lw_law_281 : decode m_Lw_law.2.1 281 = .ok (.iadd, 1) := by decide +kernel
theorem d_Lw_law_282 : decode m_Lw_law.2.1 282 = .ok (.iaload, 1) := by decide +kernel
theorem d_Lw_law_283 : decode m_Lw_law.2.1 283 = .ok (.aload_n 0, 1) := by decide +kernel
theorem d_Lw_law_284 : decode m_Lw_law.2.1 284 = .ok (.iload_n 3, 1) := by decide +kernel
theorem d_Lw_law_285 : decode m_Lw_law.2.1 285 = .ok (.iconst 2, 1) := by decide +kernel
theorem d_Lw_law_286 : decode m_Lw_law.2.1 286 = .ok (.iadd, 1) := by decide +kernel
theorem d_Lw_law_287 : decode m_Lw_law.2.1 287 = .ok (.iaload, 1) := by decide +kernel
theorem d_Lw_law_288 : decode m_Lw_law.2.1 288 = .ok (.invokevirtual 39, 3) := by decide +kernel
set_option maxRecDepth 100000 in
theorem s_Lw_law_288 {G : r_X} {n : Nat} {h : r_HI} {g : r_HR} {z : r_HL} {k : Nat} {v0 v1 : Value} (hp : r_pk k = (0, 12)) (hk : k < n) : r_cl G m_Lw_law m_Mo_asked 288 (.ref (G.2.1 + k) :: [v0, v1]) n h g z := r_clV d_Lw_law_288 w_Mo_asked (r_in 942 rfl rfl) a_Mo_asked (r_in 944 rfl rfl) n_Mo (by decide +kernel : r_mh m_Mo_asked.1 2) hp hk (by decide)
theorem d_Lw_law_291 : decode m_Lw_law.2.1 291 = .ok (.if_icmp .eq 598, 3) := by decide +kernel
theorem d_Lw_law_294 : decode m_Lw_law.2.1 294 = .ok (.iconst 0, 1) := by decide +kernel
theorem d_Lw_law_295 : decode m_Lw_law.2.1 295 = .ok (.ireturn, 1) := by decide +kernel
theorem d_Lw_law_296 : decode m_Lw_law.2.1 296 = .ok (.aload_n 1, 1) := by decide +kernel
theorem d_Lw_law_297 : decode m_Lw_law.2.1 297 = .ok (.aload_n 0, 1) := by decide +kernel
theorem d_Lw_law_298 : decode m_Lw_law.2.1 298 = .ok (.iload_n 3, 1) := by decide +kernel
theorem d_Lw_law_299 : decode m_Lw_law.2.1 299 = .ok (.iconst 1, 1) := by decide +kernel
theorem d_Lw_law_300 : decode m_Lw_law.2.1 300 = .ok (.iadd, 1) := by decide +kernel
theorem d_Lw_law_301 : decode m_Lw_law.2.1 301 = .ok (.iaload, 1) := by decide +kernel
theorem d_Lw_law_302 : decode m_Lw_law.2.1 302 = .ok (.invokevirtual 40, 3) := by decide +kernel
set_option maxRecDepth 100000 in
theorem s_Lw_law_302 {G : r_X} {n : Nat} {h : r_HI} {g : r_HR} {z : r_HL} {k : Nat} {v0 : Value} (hp : r_pk k = (0, 11)) (hk : k < n) : r_cl G m_Lw_law m_Ra_as 302 (.ref (G.2.1 + k) :: [v0]) n h g z := r_clV d_Lw_law_302 w_Ra_as (r_in 404 rfl rfl) a_Ra_as (r_in 406 rfl rfl) n_Ra (by decide +kernel : r_mh m_Ra_as.1 1) hp hk (by decide)
theorem d_Lw_law_305 : decode m_Lw_law.2.1 305 = .ok (.aload_n 2, 1) := by decide +kernel
theorem d_Lw_law_306 : decode m_Lw_law.2.1 306 = .ok (.aload_n 0, 1) := by decide +kernel
theorem d_Lw_law_307 : decode m_Lw_law.2.1 307 = .ok (.iload_n 3, 1) := by decide +kernel
theorem d_Lw_law_308 : decode m_Lw_law.2.1 308 = .ok (.iconst 1, 1) := by decide +kernel
theorem d_Lw_law_309 : decode m_Lw_law.2.1 309 = .ok (.iadd, 1) := by decide +kernel
theorem d_Lw_law_310 : decode m_Lw_law.2.1 310 = .ok (.iaload, 1) := by decide +kernel
theorem d_Lw_law_311 : decode m_Lw_law.2.1 311 = .ok (.invokevirtual 43, 3) := by decide +kernel
set_option maxRecDepth 100000 in
theorem s_Lw_law_311 {G : r_X} {n : Nat} {h : r_HI} {g : r_HR} {z : r_HL} {k : Nat} {v0 : Value} (hp : r_pk k = (0, 12)) (hk : k < n) : r_cl G m_Lw_law m_Mo_as 311 (.ref (G.2.1 + k) :: [v0]) n h g z := r_clV d_Lw_law_311 w_Mo_as (r_in 966 rfl rfl) a_Mo_as (r_in 968 rfl rfl) n_Mo (by decide +kernel : r_mh m_Mo_as.1 1) hp hk (by decide)
theorem d_Lw_law_314 : decode m_Lw_law.2.1 314 = .ok (.if_icmp .eq 575, 3) := by decide +kernel
theorem d_Lw_law_317 : decode m_Lw_law.2.1 317 = .ok (.iconst 0, 1) := by decide +kernel
theorem d_Lw_law_318 : decode m_Lw_law.2.1 318 = .ok (.ireturn, 1) := by decide +kernel
theorem d_Lw_law_319 : decode m_Lw_law.2.1 319 = .ok (.aload_n 1, 1) := by decide +kernel
theorem d_Lw_law_320 : decode m_Lw_law.2.1 320 = .ok (.invokevirtual 44, 3) := by decide +kernel
set_option maxRecDepth 100000 in
theorem s_Lw_law_320 {G : r_X} {n : Nat} {h : r_HI} {g : r_HR} {z : r_HL} {k : Nat} (hp : r_pk k = (0, 11)) (hk : k < n) : r_cl G m_Lw_law m_Ra_next 320 (.ref (G.2.1 + k) :: []) n h g z := r_clV d_Lw_law_320 w_Ra_next (r_in 435 rfl rfl) a_Ra_next (r_in 437 rfl rfl) n_Ra (by decide +kernel : r_mh m_Ra_next.1 0) hp hk (by decide)
theorem d_Lw_law_323 : decode m_Lw_law.2.1 323 = .ok (.aload_n 2, 1) := by decide +kernel
theorem d_Lw_law_324 : decode m_Lw_law.2.1 324 = .ok (.invokevirtual 47, 3) := by decide +kernel
set_option maxRecDepth 100000 in
theorem s_Lw_law_324 {G : r_X} {n : Nat} {h : r_HI} {g : r_HR} {z : r_HL} {k : Nat} (hp : r_pk k = (0, 12)) (hk : k < n) : r_cl G m_Lw_law m_Mo_next 324 (.ref (G.2.1 + k) :: []) n h g z := r_clV d_Lw_law_324 w_Mo_next (r_in 975 rfl rfl) a_Mo_next (r_in 977 rfl rfl) n_Mo (by decide +kernel : r_mh m_Mo_next.1 0) hp hk (by decide)
theorem d_Lw_law_327 : decode m_Lw_law.2.1 327 = .ok (.if_icmp .eq 562, 3) := by decide +kernel
theorem d_Lw_law_330 : decode m_Lw_law.2.1 330 = .ok (.iconst 0, 1) := by decide +kernel
theorem d_Lw_law_331 : decode m_Lw_law.2.1 331 = .ok (.ireturn, 1) := by decide +kernel
theorem d_Lw_law_332 : decode m_Lw_law.2.1 332 = .ok (.aload_n 1, 1) := by decide +kernel
theorem d_Lw_law_333 : decode m_Lw_law.2.1 333 = .ok (.aload_n 0, 1) := by decide +kernel
theorem d_Lw_law_334 : decode m_Lw_law.2.1 334 = .ok (.iload_n 3, 1) := by decide +kernel
theorem d_Lw_law_335 : decode m_Lw_law.2.1 335 = .ok (.iconst 1, 1) := by decide +kernel
theorem d_Lw_law_336 : decode m_Lw_law.2.1 336 = .ok (.iadd, 1) := by decide +kernel
theorem d_Lw_law_337 : decode m_Lw_law.2.1 337 = .ok (.iaload, 1) := by decide +kernel
theorem d_Lw_law_338 : decode m_Lw_law.2.1 338 = .ok (.aload_n 0, 1) := by decide +kernel
theorem d_Lw_law_339 : decode m_Lw_law.2.1 339 = .ok (.iload_n 3, 1) := by decide +kernel
theorem d_Lw_law_340 : decode m_Lw_law.2.1 340 = .ok (.iconst 2, 1) := by decide +kernel
theorem d_Lw_law_341 : decode m_Lw_law.2.1 341 = .ok (.iadd, 1) := by decide +kernel
theorem d_Lw_law_342 : decode m_Lw_law.2.1 342 = .ok (.iaload, 1) := by decide +kernel
theorem d_Lw_law_343 : decode m_Lw_law.2.1 343 = .ok (.invokevirtual 48, 3) := by decide +kernel
set_option maxRecDepth 100000 in
theorem s_Lw_law_343 {G : r_X} {n : Nat} {h : r_HI} {g : r_HR} {z : r_HL} {k : Nat} {v0 v1 : Value} (hp : r_pk k = (0, 11)) (hk : k < n) : r_cl G m_Lw_law m_Ra_ask 343 (.ref (G.2.1 + k) :: [v0, v1]) n h g z := r_clV d_Lw_law_343 w_Ra_ask (r_in 477 rfl rfl) a_Ra_ask (r_in 479 rfl rfl) n_Ra (by decide +kernel : r_mh m_Ra_ask.1 2) hp hk (by decide)
theorem d_Lw_law_346 : decode m_Lw_law.2.1 346 = .ok (.aload_n 2, 1) := by decide +kernel
theorem d_Lw_law_347 : decode m_Lw_law.2.1 347 = .ok (.aload_n 0, 1) := by decide +kernel
theorem d_Lw_law_348 : decode m_Lw_law.2.1 348 = .ok (.iload_n 3, 1) := by decide +kernel
theorem d_Lw_law_349 : decode m_Lw_law.2.1 349 = .ok (.iconst 1, 1) := by decide +kernel
theorem d_Lw_law_350 : decode m_Lw_law.2.1 350 = .ok (.iadd, 1) := by decide +kernel
theorem d_Lw_law_351 : decode m_Lw_law.2.1 351 = .ok (.iaload, 1) := by decide +kernel
theorem d_Lw_law_352 : decode m_Lw_law.2.1 352 = .ok (.aload_n 0, 1) := by decide +kernel
theorem d_Lw_law_353 : decode m_Lw_law.2.1 353 = .ok (.iload_n 3, 1) := by decide +kernel
theorem d_Lw_law_354 : decode m_Lw_law.2.1 354 = .ok (.iconst 2, 1) := by decide +kernel
theorem d_Lw_law_355 : decode m_Lw_law.2.1 355 = .ok (.iadd, 1) := by decide +kernel
theorem d_Lw_law_356 : decode m_Lw_law.2.1 356 = .ok (.iaload, 1) := by decide +kernel
theorem d_Lw_law_357 : decode m_Lw_law.2.1 357 = .ok (.invokevirtual 51, 3) := by decide +kernel
set_option maxRecDepth 100000 in
theorem s_Lw_law_357 {G : r_X} {n : Nat} {h : r_HI} {g : r_HR} {z : r_HL} {k : Nat} {v0 v1 : Value} (hp : r_pk k = (0, 12)) (hk : k < n) : r_cl G m_Lw_law m_Mo_ask 357 (.ref (G.2.1 + k) :: [v0, v1]) n h g z := r_clV d_Lw_law_357 w_Mo_ask (r_in 1003 rfl rfl) a_Mo_ask (r_in 1005 rfl rfl) n_Mo (by decide +kernel : r_mh m_Mo_ask.1 2) hp hk (by decide)
theorem d_Lw_law_360 : decode m_Lw_law.2.1 360 = .ok (.if_icmp .eq 529, 3) := by decide +kernel
theorem d_Lw_law_363 : decode m_Lw_law.2.1 363 = .ok (.iconst 0, 1) := by decide +kernel
theorem d_Lw_law_364 : decode m_Lw_law.2.1 364 = .ok (.ireturn, 1) := by decide +kernel
theorem d_Lw_law_365 : decode m_Lw_law.2.1 365 = .ok (.aload_n 1, 1) := by decide +kernel
theorem d_Lw_law_366 : decode m_Lw_law.2.1 366 = .ok (.invokevirtual 52, 3) := by decide +kernel
set_option maxRecDepth 100000 in
theorem s_Lw_law_366 {G : r_X} {n : Nat} {h : r_HI} {g : r_HR} {z : r_HL} {k : Nat} (hp : r_pk k = (0, 11)) (hk : k < n) : r_cl G m_Lw_law m_Ra_serve 366 (.ref (G.2.1 + k) :: []) n h g z := r_clV d_Lw_law_366 w_Ra_serve (r_in 486 rfl rfl) a_Ra_serve (r_in 488 rfl rfl) n_Ra (by decide +kernel : r_mh m_Ra_serve.1 0) hp hk (by decide)
theorem d_Lw_law_369 : decode m_Lw_law.2.1 369 = .ok (.aload_n 2, 1) := by decide +kernel
theorem d_Lw_law_370 : decode m_Lw_law.2.1 370 = .ok (.invokevirtual 55, 3) := by decide +kernel
set_option maxRecDepth 100000 in
theorem s_Lw_law_370 {G : r_X} {n : Nat} {h : r_HI} {g : r_HR} {z : r_HL} {k : Nat} (hp : r_pk k = (0, 12)) (hk : k < n) : r_cl G m_Lw_law m_Mo_serve 370 (.ref (G.2.1 + k) :: []) n h g z := r_clV d_Lw_law_370 w_Mo_serve (r_in 1015 rfl rfl) a_Mo_serve (r_in 1017 rfl rfl) n_Mo (by decide +kernel : r_mh m_Mo_serve.1 0) hp hk (by decide)
theorem d_Lw_law_373 : decode m_Lw_law.2.1 373 = .ok (.if_icmp .eq 516, 3) := by decide +kernel
theorem d_Lw_law_376 : decode m_Lw_law.2.1 376 = .ok (.iconst 0, 1) := by decide +kernel
theorem d_Lw_law_377 : decode m_Lw_law.2.1 377 = .ok (.ireturn, 1) := by decide +kernel
theorem d_Lw_law_378 : decode m_Lw_law.2.1 378 = .ok (.aload_n 1, 1) := by decide +kernel
theorem d_Lw_law_379 : decode m_Lw_law.2.1 379 = .ok (.aload_n 0, 1) := by decide +kernel
theorem d_Lw_law_380 : decode m_Lw_law.2.1 380 = .ok (.iload_n 3, 1) := by decide +kernel
theorem d_Lw_law_381 : decode m_Lw_law.2.1 381 = .ok (.iconst 1, 1) := by decide +kernel
theorem d_Lw_law_382 : decode m_Lw_law.2.1 382 = .ok (.iadd, 1) := by decide +kernel
theorem d_Lw_law_383 : decode m_Lw_law.2.1 383 = .ok (.iaload, 1) := by decide +kernel
theorem d_Lw_law_384 : decode m_Lw_law.2.1 384 = .ok (.invokevirtual 56, 3) := by decide +kernel
set_option maxRecDepth 100000 in
theorem s_Lw_law_384 {G : r_X} {n : Nat} {h : r_HI} {g : r_HR} {z : r_HL} {k : Nat} {v0 : Value} (hp : r_pk k = (0, 11)) (hk : k < n) : r_cl G m_Lw_law m_Ra_read 384 (.ref (G.2.1 + k) :: [v0]) n h g z := r_clV d_Lw_law_384 w_Ra_read (r_in 513 rfl rfl) a_Ra_read (r_in 515 rfl rfl) n_Ra (by decide +kernel : r_mh m_Ra_read.1 1) hp hk (by decide)
theorem d_Lw_law_387 : decode m_Lw_law.2.1 387 = .ok (.aload_n 2, 1) := by decide +kernel
theorem d_Lw_law_388 : decode m_Lw_law.2.1 388 = .ok (.aload_n 0, 1) := by decide +kernel
theorem d_Lw_law_389 : decode m_Lw_law.2.1 389 = .ok (.iload_n 3, 1) := by decide +kernel
theorem d_Lw_law_390 : decode m_Lw_law.2.1 390 = .ok (.iconst 1, 1) := by decide +kernel
theorem d_Lw_law_391 : decode m_Lw_law.2.1 391 = .ok (.iadd, 1) := by decide +kernel
theorem d_Lw_law_392 : decode m_Lw_law.2.1 392 = .ok (.iaload, 1) := by decide +kernel
theorem d_Lw_law_393 : decode m_Lw_law.2.1 393 = .ok (.invokevirtual 59, 3) := by decide +kernel
set_option maxRecDepth 100000 in
theorem s_Lw_law_393 {G : r_X} {n : Nat} {h : r_HI} {g : r_HR} {z : r_HL} {k : Nat} {v0 : Value} (hp : r_pk k = (0, 12)) (hk : k < n) : r_cl G m_Lw_law m_Mo_read 393 (.ref (G.2.1 + k) :: [v0]) n h g z := r_clV d_Lw_law_393 w_Mo_read (r_in 1028 rfl rfl) a_Mo_read (r_in 1030 rfl rfl) n_Mo (by decide +kernel : r_mh m_Mo_read.1 1) hp hk (by decide)
theorem d_Lw_law_396 : decode m_Lw_law.2.1 396 = .ok (.if_icmp .eq 493, 3) := by decide +kernel
theorem d_Lw_law_399 : decode m_Lw_law.2.1 399 = .ok (.iconst 0, 1) := by decide +kernel
theorem d_Lw_law_400 : decode m_Lw_law.2.1 400 = .ok (.ireturn, 1) := by decide +kernel
theorem d_Lw_law_401 : decode m_Lw_law.2.1 401 = .ok (.aload_n 1, 1) := by decide +kernel
theorem d_Lw_law_402 : decode m_Lw_law.2.1 402 = .ok (.aload_n 0, 1) := by decide +kernel
theorem d_Lw_law_403 : decode m_Lw_law.2.1 403 = .ok (.iload_n 3, 1) := by decide +kernel
theorem d_Lw_law_404 : decode m_Lw_law.2.1 404 = .ok (.iconst 1, 1) := by decide +kernel
theorem d_Lw_law_405 : decode m_Lw_law.2.1 405 = .ok (.iadd, 1) := by decide +kernel
theorem d_Lw_law_406 : decode m_Lw_law.2.1 406 = .ok (.iaload, 1) := by decide +kernel
theorem d_Lw_law_407 : decode m_Lw_law.2.1 407 = .ok (.invokevirtual 60, 3) := by decide +kernel
set_option maxRecDepth 100000 in
theorem s_Lw_law_407 {G : r_X} {n : Nat} {h : r_HI} {g : r_HR} {z : r_HL} {k : Nat} {v0 : Value} (hp : r_pk k = (0, 11)) (hk : k < n) : r_cl G m_Lw_law m_Ra_pass 407 (.ref (G.2.1 + k) :: [v0]) n h g z := r_clV d_Lw_law_407 w_Ra_pass (r_in 518 rfl rfl) a_Ra_pass (r_in 520 rfl rfl) n_Ra (by decide +kernel : r_mh m_Ra_pass.1 1) hp hk (by decide)
theorem d_Lw_law_410 : decode m_Lw_law.2.1 410 = .ok (.aload_n 2, 1) := by decide +kernel
theorem d_Lw_law_411 : decode m_Lw_law.2.1 411 = .ok (.aload_n 0, 1) := by decide +kernel
theorem d_Lw_law_412 : decode m_Lw_law.2.1 412 = .ok (.iload_n 3, 1) := by decide +kernel
theorem d_Lw_law_413 : decode m_Lw_law.2.1 413 = .ok (.iconst 1, 1) := by decide +kernel
theorem d_Lw_law_414 : decode m_Lw_law.2.1 414 = .ok (.iadd, 1) := by decide +kernel
theorem d_Lw_law_415 : decode m_Lw_law.2.1 415 = .ok (.iaload, 1) := by decide +kernel
theorem d_Lw_law_416 : decode m_Lw_law.2.1 416 = .ok (.invokevirtual 63, 3) := by decide +kernel
set_option maxRecDepth 100000 in
theorem s_Lw_law_416 {G : r_X} {n : Nat} {h : r_HI} {g : r_HR} {z : r_HL} {k : Nat} {v0 : Value} (hp : r_pk k = (0, 12)) (hk : k < n) : r_cl G m_Lw_law m_Mo_pass 416 (.ref (G.2.1 + k) :: [v0]) n h g z := r_clV d_Lw_law_416 w_Mo_pass (r_in 1032 rfl rfl) a_Mo_pass (r_in 1034 rfl rfl) n_Mo (by decide +kernel : r_mh m_Mo_pass.1 1) hp hk (by decide)
theorem d_Lw_law_419 : decode m_Lw_law.2.1 419 = .ok (.if_icmp .eq 470, 3) := by decide +kernel
theorem d_Lw_law_422 : decode m_Lw_law.2.1 422 = .ok (.iconst 0, 1) := by decide +kernel
theorem d_Lw_law_423 : decode m_Lw_law.2.1 423 = .ok (.ireturn, 1) := by decide +kernel
theorem d_Lw_law_424 : decode m_Lw_law.2.1 424 = .ok (.aload_n 1, 1) := by decide +kernel
theorem d_Lw_law_425 : decode m_Lw_law.2.1 425 = .ok (.aload_n 0, 1) := by decide +kernel
theorem d_Lw_law_426 : decode m_Lw_law.2.1 426 = .ok (.iload_n 3, 1) := by decide +kernel
theorem d_Lw_law_427 : decode m_Lw_law.2.1 427 = .ok (.iconst 1, 1) := by decide +kernel
theorem d_Lw_law_428 : decode m_Lw_law.2.1 428 = .ok (.iadd, 1) := by decide +kernel
theorem d_Lw_law_429 : decode m_Lw_law.2.1 429 = .ok (.iaload, 1) := by decide +kernel
theorem d_Lw_law_430 : decode m_Lw_law.2.1 430 = .ok (.invokevirtual 64, 3) := by decide +kernel
set_option maxRecDepth 100000 in
theorem s_Lw_law_430 {G : r_X} {n : Nat} {h : r_HI} {g : r_HR} {z : r_HL} {k : Nat} {v0 : Value} (hp : r_pk k = (0, 11)) (hk : k < n) : r_cl G m_Lw_law m_Ra_choose 430 (.ref (G.2.1 + k) :: [v0]) n h g z := r_clV d_Lw_law_430 w_Ra_choose (r_in 522 rfl rfl) a_Ra_choose (r_in 524 rfl rfl) n_Ra (by decide +kernel : r_mh m_Ra_choose.1 1) hp hk (by decide)
theorem d_Lw_law_433 : decode m_Lw_law.2.1 433 = .ok (.aload_n 2, 1) := by decide +kernel
theorem d_Lw_law_434 : decode m_Lw_law.2.1 434 = .ok (.aload_n 0, 1) := by decide +kernel
theorem d_Lw_law_435 : decode m_Lw_law.2.1 435 = .ok (.iload_n 3, 1) := by decide +kernel
theorem d_Lw_law_436 : decode m_Lw_law.2.1 436 = .ok (.iconst 1, 1) := by decide +kernel
theorem d_Lw_law_437 : decode m_Lw_law.2.1 437 = .ok (.iadd, 1) := by decide +kernel
theorem d_Lw_law_438 : decode m_Lw_law.2.1 438 = .ok (.iaload, 1) := by decide +kernel
theorem d_Lw_law_439 : decode m_Lw_law.2.1 439 = .ok (.invokevirtual 67, 3) := by decide +kernel
set_option maxRecDepth 100000 in
theorem s_Lw_law_439 {G : r_X} {n : Nat} {h : r_HI} {g : r_HR} {z : r_HL} {k : Nat} {v0 : Value} (hp : r_pk k = (0, 12)) (hk : k < n) : r_cl G m_Lw_law m_Mo_choose 439 (.ref (G.2.1 + k) :: [v0]) n h g z := r_clV d_Lw_law_439 w_Mo_choose (r_in 1037 rfl rfl) a_Mo_choose (r_in 1039 rfl rfl) n_Mo (by decide +kernel : r_mh m_Mo_choose.1 1) hp hk (by decide)
theorem d_Lw_law_442 : decode m_Lw_law.2.1 442 = .ok (.if_icmp .eq 447, 3) := by decide +kernel
theorem d_Lw_law_445 : decode m_Lw_law.2.1 445 = .ok (.iconst 0, 1) := by decide +kernel
theorem d_Lw_law_446 : decode m_Lw_law.2.1 446 = .ok (.ireturn, 1) := by decide +kernel
theorem d_Lw_law_447 : decode m_Lw_law.2.1 447 = .ok (.aload_n 1, 1) := by decide +kernel
theorem d_Lw_law_448 : decode m_Lw_law.2.1 448 = .ok (.aload_n 0, 1) := by decide +kernel
theorem d_Lw_law_449 : decode m_Lw_law.2.1 449 = .ok (.iload_n 3, 1) := by decide +kernel
theorem d_Lw_law_450 : decode m_Lw_law.2.1 450 = .ok (.iconst 1, 1) := by decide +kernel
theorem d_Lw_law_451 : decode m_Lw_law.2.1 451 = .ok (.iadd, 1) := by decide +kernel
theorem d_Lw_law_452 : decode m_Lw_law.2.1 452 = .ok (.iaload, 1) := by decide +kernel
theorem d_Lw_law_453 : decode m_Lw_law.2.1 453 = .ok (.aload_n 0, 1) := by decide +kernel
theorem d_Lw_law_454 : decode m_Lw_law.2.1 454 = .ok (.iload_n 3, 1) := by decide +kernel
theorem d_Lw_law_455 : decode m_Lw_law.2.1 455 = .ok (.iconst 2, 1) := by decide +kernel
theorem d_Lw_law_456 : decode m_Lw_law.2.1 456 = .ok (.iadd, 1) := by decide +kernel
theorem d_Lw_law_457 : decode m_Lw_law.2.1 457 = .ok (.iaload, 1) := by decide +kernel
theorem d_Lw_law_458 : decode m_Lw_law.2.1 458 = .ok (.invokevirtual 68, 3) := by decide +kernel
set_option maxRecDepth 100000 in
theorem s_Lw_law_458 {G : r_X} {n : Nat} {h : r_HI} {g : r_HR} {z : r_HL} {k : Nat} {v0 v1 : Value} (hp : r_pk k = (0, 11)) (hk : k < n) : r_cl G m_Lw_law m_Ra_skew 458 (.ref (G.2.1 + k) :: [v0, v1]) n h g z := r_clV d_Lw_law_458 w_Ra_skew (r_in 526 rfl rfl) a_Ra_skew (r_in 528 rfl rfl) n_Ra (by decide +kernel : r_mh m_Ra_skew.1 2) hp hk (by decide)
theorem d_Lw_law_461 : decode m_Lw_law.2.1 461 = .ok (.aload_n 2, 1) := by decide +kernel
theorem d_Lw_law_462 : decode m_Lw_law.2.1 462 = .ok (.aload_n 0, 1) := by decide +kernel
theorem d_Lw_law_463 : decode m_Lw_law.2.1 463 = .ok (.iload_n 3, 1) := by decide +kernel
theorem d_Lw_law_464 : decode m_Lw_law.2.1 464 = .ok (.iconst 1, 1) := by decide +kernel
theorem d_Lw_law_465 : decode m_Lw_law.2.1 465 = .ok (.iadd, 1) := by decide +kernel
theorem d_Lw_law_466 : decode m_Lw_law.2.1 466 = .ok (.iaload, 1) := by decide +kernel
theorem d_Lw_law_467 : decode m_Lw_law.2.1 467 = .ok (.aload_n 0, 1) := by decide +kernel
theorem d_Lw_law_468 : decode m_Lw_law.2.1 468 = .ok (.iload_n 3, 1) := by decide +kernel
theorem d_Lw_law_469 : decode m_Lw_law.2.1 469 = .ok (.iconst 2, 1) := by decide +kernel
theorem d_Lw_law_470 : decode m_Lw_law.2.1 470 = .ok (.iadd, 1) := by decide +kernel
theorem d_Lw_law_471 : decode m_Lw_law.2.1 471 = .ok (.iaload, 1) := by decide +kernel
theorem d_Lw_law_472 : decode m_Lw_law.2.1 472 = .ok (.invokevirtual 71, 3) := by decide +kernel
set_option maxRecDepth 100000 in
theorem s_Lw_law_472 {G : r_X} {n : Nat} {h : r_HI} {g : r_HR} {z : r_HL} {k : Nat} {v0 v1 : Value} (hp : r_pk k = (0, 12)) (hk : k < n) : r_cl G m_Lw_law m_Mo_skew 472 (.ref (G.2.1 + k) :: [v0, v1]) n h g z := r_clV d_Lw_law_472 w_Mo_skew (r_in 1041 rfl rfl) a_Mo_skew (r_in 1043 rfl rfl) n_Mo (by decide +kernel : r_mh m_Mo_skew.1 2) hp hk (by decide)
theorem d_Lw_law_475 : decode m_Lw_law.2.1 475 = .ok (.if_icmp .eq 414, 3) := by decide +kernel
theorem d_Lw_law_478 : decode m_Lw_law.2.1 478 = .ok (.iconst 0, 1) := by decide +kernel
theorem d_Lw_law_479 : decode m_Lw_law.2.1 479 = .ok (.ireturn, 1) := by decide +kernel
theorem d_Lw_law_480 : decode m_Lw_law.2.1 480 = .ok (.aload_n 1, 1) := by decide +kernel
theorem d_Lw_law_481 : decode m_Lw_law.2.1 481 = .ok (.aload_n 0, 1) := by decide +kernel
theorem d_Lw_law_482 : decode m_Lw_law.2.1 482 = .ok (.iload_n 3, 1) := by decide +kernel
theorem d_Lw_law_483 : decode m_Lw_law.2.1 483 = .ok (.iconst 1, 1) := by decide +kernel
theorem d_Lw_law_484 : decode m_Lw_law.2.1 484 = .ok (.iadd, 1) := by decide +kernel
theorem d_Lw_law_485 : decode m_Lw_law.2.1 485 = .ok (.iaload, 1) := by decide +kernel
theorem d_Lw_law_486 : decode m_Lw_law.2.1 486 = .ok (.aload_n 0, 1) := by decide +kernel
theorem d_Lw_law_487 : decode m_Lw_law.2.1 487 = .ok (.iload_n 3, 1) := by decide +kernel
theorem d_Lw_law_488 : decode m_Lw_law.2.1 488 = .ok (.iconst 2, 1) := by decide +kernel
theorem d_Lw_law_489 : decode m_Lw_law.2.1 489 = .ok (.iadd, 1) := by decide +kernel
theorem d_Lw_law_490 : decode m_Lw_law.2.1 490 = .ok (.iaload, 1) := by decide +kernel
theorem d_Lw_law_491 : decode m_Lw_law.2.1 491 = .ok (.invokevirtual 72, 3) := by decide +kernel
set_option maxRecDepth 100000 in
theorem s_Lw_law_491 {G : r_X} {n : Nat} {h : r_HI} {g : r_HR} {z : r_HL} {k : Nat} {v0 v1 : Value} (hp : r_pk k = (0, 11)) (hk : k < n) : r_cl G m_Lw_law m_Ra_gear 491 (.ref (G.2.1 + k) :: [v0, v1]) n h g z := r_clV d_Lw_law_491 w_Ra_gear (r_in 531 rfl rfl) a_Ra_gear (r_in 533 rfl rfl) n_Ra (by decide +kernel : r_mh m_Ra_gear.1 2) hp hk (by decide)
theorem d_Lw_law_494 : decode m_Lw_law.2.1 494 = .ok (.aload_n 2, 1) := by decide +kernel
theorem d_Lw_law_495 : decode m_Lw_law.2.1 495 = .ok (.aload_n 0, 1) := by decide +kernel
theorem d_Lw_law_496 : decode m_Lw_law.2.1 496 = .ok (.iload_n 3, 1) := by decide +kernel
theorem d_Lw_law_497 : decode m_Lw_law.2.1 497 = .ok (.iconst 1, 1) := by decide +kernel
theorem d_Lw_law_498 : decode m_Lw_law.2.1 498 = .ok (.iadd, 1) := by decide +kernel
theorem d_Lw_law_499 : decode m_Lw_law.2.1 499 = .ok (.iaload, 1) := by decide +kernel
theorem d_Lw_law_500 : decode m_Lw_law.2.1 500 = .ok (.aload_n 0, 1) := by decide +kernel
theorem d_Lw_law_501 : decode m_Lw_law.2.1 501 = .ok (.iload_n 3, 1) := by decide +kernel
theorem d_Lw_law_502 : decode m_Lw_law.2.1 502 = .ok (.iconst 2, 1) := by decide +kernel
theorem d_Lw_law_503 : decode m_Lw_law.2.1 503 = .ok (.iadd, 1) := by decide +kernel
theorem d_Lw_law_504 : decode m_Lw_law.2.1 504 = .ok (.iaload, 1) := by decide +kernel
theorem d_Lw_law_505 : decode m_Lw_law.2.1 505 = .ok (.invokevirtual 75, 3) := by decide +kernel
set_option maxRecDepth 100000 in
theorem s_Lw_law_505 {G : r_X} {n : Nat} {h : r_HI} {g : r_HR} {z : r_HL} {k : Nat} {v0 v1 : Value} (hp : r_pk k = (0, 12)) (hk : k < n) : r_cl G m_Lw_law m_Mo_gear 505 (.ref (G.2.1 + k) :: [v0, v1]) n h g z := r_clV d_Lw_law_505 w_Mo_gear (r_in 1046 rfl rfl) a_Mo_gear (r_in 1048 rfl rfl) n_Mo (by decide +kernel : r_mh m_Mo_gear.1 2) hp hk (by decide)
theorem d_Lw_law_508 : decode m_Lw_law.2.1 508 = .ok (.if_icmp .eq 381, 3) := by decide +kernel
theorem d_Lw_law_511 : decode m_Lw_law.2.1 511 = .ok (.iconst 0, 1) := by decide +kernel
theorem d_Lw_law_512 : decode m_Lw_law.2.1 512 = .ok (.ireturn, 1) := by decide +kernel
theorem d_Lw_law_513 : decode m_Lw_law.2.1 513 = .ok (.aload_n 1, 1) := by decide +kernel
theorem d_Lw_law_514 : decode m_Lw_law.2.1 514 = .ok (.aload_n 0, 1) := by decide +kernel
theorem d_Lw_law_515 : decode m_Lw_law.2.1 515 = .ok (.iload_n 3, 1) := by decide +kernel
theorem d_Lw_law_516 : decode m_Lw_law.2.1 516 = .ok (.iconst 1, 1) := by decide +kernel
theorem d_Lw_law_517 : decode m_Lw_law.2.1 517 = .ok (.iadd, 1) := by decide +kernel
theorem d_Lw_law_518 : decode m_Lw_law.2.1 518 = .ok (.iaload, 1) := by decide +kernel
theorem d_Lw_law_519 : decode m_Lw_law.2.1 519 = .ok (.aload_n 0, 1) := by decide +kernel
theorem d_Lw_law_520 : decode m_Lw_law.2.1 520 = .ok (.iload_n 3, 1) := by decide +kernel
theorem d_Lw_law_521 : decode m_Lw_law.2.1 521 = .ok (.iconst 2, 1) := by decide +kernel
theorem d_Lw_law_522 : decode m_Lw_law.2.1 522 = .ok (.iadd, 1) := by decide +kernel
theorem d_Lw_law_523 : decode m_Lw_law.2.1 523 = .ok (.iaload, 1) := by decide +kernel
theorem d_Lw_law_524 : decode m_Lw_law.2.1 524 = .ok (.invokevirtual 76, 3) := by decide +kernel
set_option maxRecDepth 100000 in
theorem s_Lw_law_524 {G : r_X} {n : Nat} {h : r_HI} {g : r_HR} {z : r_HL} {k : Nat} {v0 v1 : Value} (hp : r_pk k = (0, 11)) (hk : k < n) : r_cl G m_Lw_law m_Ra_run 524 (.ref (G.2.1 + k) :: [v0, v1]) n h g z := r_clV d_Lw_law_524 w_Ra_run (r_in 535 rfl rfl) a_Ra_run (r_in 537 rfl rfl) n_Ra (by decide +kernel : r_mh m_Ra_run.1 2) hp hk (by decide)
theorem d_Lw_law_527 : decode m_Lw_law.2.1 527 = .ok (.aload_n 2, 1) := by decide +kernel
theorem d_Lw_law_528 : decode m_Lw_law.2.1 528 = .ok (.aload_n 0, 1) := by decide +kernel
theorem d_Lw_law_529 : decode m_Lw_law.2.1 529 = .ok (.iload_n 3, 1) := by decide +kernel
theorem d_Lw_law_530 : decode m_Lw_law.2.1 530 = .ok (.iconst 1, 1) := by decide +kernel
theorem d_Lw_law_531 : decode m_Lw_law.2.1 531 = .ok (.iadd, 1) := by decide +kernel
theorem d_Lw_law_532 : decode m_Lw_law.2.1 532 = .ok (.iaload, 1) := by decide +kernel
theorem d_Lw_law_533 : decode m_Lw_law.2.1 533 = .ok (.aload_n 0, 1) := by decide +kernel
theorem d_Lw_law_534 : decode m_Lw_law.2.1 534 = .ok (.iload_n 3, 1) := by decide +kernel
theorem d_Lw_law_535 : decode m_Lw_law.2.1 535 = .ok (.iconst 2, 1) := by decide +kernel
theorem d_Lw_law_536 : decode m_Lw_law.2.1 536 = .ok (.iadd, 1) := by decide +kernel
theorem d_Lw_law_537 : decode m_Lw_law.2.1 537 = .ok (.iaload, 1) := by decide +kernel
theorem d_Lw_law_538 : decode m_Lw_law.2.1 538 = .ok (.invokevirtual 79, 3) := by decide +kernel
set_option maxRecDepth 100000 in
theorem s_Lw_law_538 {G : r_X} {n : Nat} {h : r_HI} {g : r_HR} {z : r_HL} {k : Nat} {v0 v1 : Value} (hp : r_pk k = (0, 12)) (hk : k < n) : r_cl G m_Lw_law m_Mo_run 538 (.ref (G.2.1 + k) :: [v0, v1]) n h g z := r_clV d_Lw_law_538 w_Mo_run (r_in 1051 rfl rfl) a_Mo_run (r_in 1053 rfl rfl) n_Mo (by decide +kernel : r_mh m_Mo_run.1 2) hp hk (by decide)
theorem d_Lw_law_541 : decode m_Lw_law.2.1 541 = .ok (.if_icmp .eq 348, 3) := by decide +kernel
theorem d_Lw_law_544 : decode m_Lw_law.2.1 544 = .ok (.iconst 0, 1) := by decide +kernel
theorem d_Lw_law_545 : decode m_Lw_law.2.1 545 = .ok (.ireturn, 1) := by decide +kernel
theorem d_Lw_law_546 : decode m_Lw_law.2.1 546 = .ok (.aload_n 1, 1) := by decide +kernel
theorem d_Lw_law_547 : decode m_Lw_law.2.1 547 = .ok (.aload_n 0, 1) := by decide +kernel
theorem d_Lw_law_548 : decode m_Lw_law.2.1 548 = .ok (.iload_n 3, 1) := by decide +kernel
theorem d_Lw_law_549 : decode m_Lw_law.2.1 549 = .ok (.iconst 1, 1) := by decide +kernel
theorem d_Lw_law_550 : decode m_Lw_law.2.1 550 = .ok (.iadd, 1) := by decide +kernel
theorem d_Lw_law_551 : decode m_Lw_law.2.1 551 = .ok (.iaload, 1) := by decide +kernel
theorem d_Lw_law_552 : decode m_Lw_law.2.1 552 = .ok (.invokevirtual 80, 3) := by decide +kernel
set_option maxRecDepth 100000 in
theorem s_Lw_law_552 {G : r_X} {n : Nat} {h : r_HI} {g : r_HR} {z : r_HL} {k : Nat} {v0 : Value} (hp : r_pk k = (0, 11)) (hk : k < n) : r_cl G m_Lw_law m_Ra_least 552 (.ref (G.2.1 + k) :: [v0]) n h g z := r_clV d_Lw_law_552 w_Ra_least (r_in 552 rfl rfl) a_Ra_least (r_in 554 rfl rfl) n_Ra (by decide +kernel : r_mh m_Ra_least.1 1) hp hk (by decide)
theorem d_Lw_law_555 : decode m_Lw_law.2.1 555 = .ok (.aload_n 2, 1) := by decide +kernel
theorem d_Lw_law_556 : decode m_Lw_law.2.1 556 = .ok (.aload_n 0, 1) := by decide +kernel
theorem d_Lw_law_557 : decode m_Lw_law.2.1 557 = .ok (.iload_n 3, 1) := by decide +kernel
theorem d_Lw_law_558 : decode m_Lw_law.2.1 558 = .ok (.iconst 1, 1) := by decide +kernel
theorem d_Lw_law_559 : decode m_Lw_law.2.1 559 = .ok (.iadd, 1) := by decide +kernel
theorem d_Lw_law_560 : decode m_Lw_law.2.1 560 = .ok (.iaload, 1) := by decide +kernel
theorem d_Lw_law_561 : decode m_Lw_law.2.1 561 = .ok (.invokevirtual 83, 3) := by decide +kernel
set_option maxRecDepth 100000 in
theorem s_Lw_law_561 {G : r_X} {n : Nat} {h : r_HI} {g : r_HR} {z : r_HL} {k : Nat} {v0 : Value} (hp : r_pk k = (0, 12)) (hk : k < n) : r_cl G m_Lw_law m_Mo_least 561 (.ref (G.2.1 + k) :: [v0]) n h g z := r_clV d_Lw_law_561 w_Mo_least (r_in 1059 rfl rfl) a_Mo_least (r_in 1061 rfl rfl) n_Mo (by decide +kernel : r_mh m_Mo_least.1 1) hp hk (by decide)
theorem d_Lw_law_564 : decode m_Lw_law.2.1 564 = .ok (.if_icmp .eq 325, 3) := by decide +kernel
theorem d_Lw_law_567 : decode m_Lw_law.2.1 567 = .ok (.iconst 0, 1) := by decide +kernel
theorem d_Lw_law_568 : decode m_Lw_law.2.1 568 = .ok (.ireturn, 1) := by decide +kernel
theorem d_Lw_law_569 : decode m_Lw_law.2.1 569 = .ok (.aload_n 1, 1) := by decide +kernel
theorem d_Lw_law_570 : decode m_Lw_law.2.1 570 = .ok (.aload_n 0, 1) := by decide +kernel
theorem d_Lw_law_571 : decode m_Lw_law.2.1 571 = .ok (.iload_n 3, 1) := by decide +kernel
theorem d_Lw_law_572 : decode m_Lw_law.2.1 572 = .ok (.iconst 1, 1) := by decide +kernel
theorem d_Lw_law_573 : decode m_Lw_law.2.1 573 = .ok (.iadd, 1) := by decide +kernel
theorem d_Lw_law_574 : decode m_Lw_law.2.1 574 = .ok (.iaload, 1) := by decide +kernel
theorem d_Lw_law_575 : decode m_Lw_law.2.1 575 = .ok (.aload_n 0, 1) := by decide +kernel
theorem d_Lw_law_576 : decode m_Lw_law.2.1 576 = .ok (.iload_n 3, 1) := by decide +kernel
theorem d_Lw_law_577 : decode m_Lw_law.2.1 577 = .ok (.iconst 2, 1) := by decide +kernel
theorem d_Lw_law_578 : decode m_Lw_law.2.1 578 = .ok (.iadd, 1) := by decide +kernel
theorem d_Lw_law_579 : decode m_Lw_law.2.1 579 = .ok (.iaload, 1) := by decide +kernel
theorem d_Lw_law_580 : decode m_Lw_law.2.1 580 = .ok (.invokevirtual 84, 3) := by decide +kernel
set_option maxRecDepth 100000 in
theorem s_Lw_law_580 {G : r_X} {n : Nat} {h : r_HI} {g : r_HR} {z : r_HL} {k : Nat} {v0 v1 : Value} (hp : r_pk k = (0, 11)) (hk : k < n) : r_cl G m_Lw_law m_Ra_weigh 580 (.ref (G.2.1 + k) :: [v0, v1]) n h g z := r_clV d_Lw_law_580 w_Ra_weigh (r_in 572 rfl rfl) a_Ra_weigh (r_in 574 rfl rfl) n_Ra (by decide +kernel : r_mh m_Ra_weigh.1 2) hp hk (by decide)
theorem d_Lw_law_583 : decode m_Lw_law.2.1 583 = .ok (.aload_n 2, 1) := by decide +kernel
theorem d_Lw_law_584 : decode m_Lw_law.2.1 584 = .ok (.aload_n 0, 1) := by decide +kernel
theorem d_Lw_law_585 : decode m_Lw_law.2.1 585 = .ok (.iload_n 3, 1) := by decide +kernel
theorem d_Lw_law_586 : decode m_Lw_law.2.1 586 = .ok (.iconst 1, 1) := by decide +kernel
theorem d_Lw_law_587 : decode m_Lw_law.2.1 587 = .ok (.iadd, 1) := by decide +kernel
theorem d_Lw_law_588 : decode m_Lw_law.2.1 588 = .ok (.iaload, 1) := by decide +kernel
theorem d_Lw_law_589 : decode m_Lw_law.2.1 589 = .ok (.aload_n 0, 1) := by decide +kernel
theorem d_Lw_law_590 : decode m_Lw_law.2.1 590 = .ok (.iload_n 3, 1) := by decide +kernel
theorem d_Lw_law_591 : decode m_Lw_law.2.1 591 = .ok (.iconst 2, 1) := by decide +kernel
theorem d_Lw_law_592 : decode m_Lw_law.2.1 592 = .ok (.iadd, 1) := by decide +kernel
theorem d_Lw_law_593 : decode m_Lw_law.2.1 593 = .ok (.iaload, 1) := by decide +kernel
theorem d_Lw_law_594 : decode m_Lw_law.2.1 594 = .ok (.invokevirtual 87, 3) := by decide +kernel
set_option maxRecDepth 100000 in
theorem s_Lw_law_594 {G : r_X} {n : Nat} {h : r_HI} {g : r_HR} {z : r_HL} {k : Nat} {v0 v1 : Value} (hp : r_pk k = (0, 12)) (hk : k < n) : r_cl G m_Lw_law m_Mo_weigh 594 (.ref (G.2.1 + k) :: [v0, v1]) n h g z := r_clV d_Lw_law_594 w_Mo_weigh (r_in 1085 rfl rfl) a_Mo_weigh (r_in 1087 rfl rfl) n_Mo (by decide +kernel : r_mh m_Mo_weigh.1 2) hp hk (by decide)
theorem d_Lw_law_597 : decode m_Lw_law.2.1 597 = .ok (.if_icmp .eq 292, 3) := by decide +kernel
theorem d_Lw_law_600 : decode m_Lw_law.2.1 600 = .ok (.iconst 0, 1) := by decide +kernel
theorem d_Lw_law_601 : decode m_Lw_law.2.1 601 = .ok (.ireturn, 1) := by decide +kernel
theorem d_Lw_law_602 : decode m_Lw_law.2.1 602 = .ok (.aload_n 1, 1) := by decide +kernel
theorem d_Lw_law_603 : decode m_Lw_law.2.1 603 = .ok (.aload_n 0, 1) := by decide +kernel
theorem d_Lw_law_604 : decode m_Lw_law.2.1 604 = .ok (.iload_n 3, 1) := by decide +kernel
theorem d_Lw_law_605 : decode m_Lw_law.2.1 605 = .ok (.iconst 1, 1) := by decide +kernel
theorem d_Lw_law_606 : decode m_Lw_law.2.1 606 = .ok (.iadd, 1) := by decide +kernel
theorem d_Lw_law_607 : decode m_Lw_law.2.1 607 = .ok (.iaload, 1) := by decide +kernel
theorem d_Lw_law_608 : decode m_Lw_law.2.1 608 = .ok (.invokevirtual 88, 3) := by decide +kernel
set_option maxRecDepth 100000 in
theorem s_Lw_law_608 {G : r_X} {n : Nat} {h : r_HI} {g : r_HR} {z : r_HL} {k : Nat} {v0 : Value} (hp : r_pk k = (0, 11)) (hk : k < n) : r_cl G m_Lw_law m_Ra_lay 608 (.ref (G.2.1 + k) :: [v0]) n h g z := r_clV d_Lw_law_608 w_Ra_lay (r_in 576 rfl rfl) a_Ra_lay (r_in 578 rfl rfl) n_Ra (by decide +kernel : r_mh m_Ra_lay.1 1) hp hk (by decide)
theorem d_Lw_law_611 : decode m_Lw_law.2.1 611 = .ok (.aload_n 2, 1) := by decide +kernel
theorem d_Lw_law_612 : decode m_Lw_law.2.1 612 = .ok (.aload_n 0, 1) := by decide +kernel
theorem d_Lw_law_613 : decode m_Lw_law.2.1 613 = .ok (.iload_n 3, 1) := by decide +kernel
theorem d_Lw_law_614 : decode m_Lw_law.2.1 614 = .ok (.iconst 1, 1) := by decide +kernel
theorem d_Lw_law_615 : decode m_Lw_law.2.1 615 = .ok (.iadd, 1) := by decide +kernel
theorem d_Lw_law_616 : decode m_Lw_law.2.1 616 = .ok (.iaload, 1) := by decide +kernel
theorem d_Lw_law_617 : decode m_Lw_law.2.1 617 = .ok (.invokevirtual 91, 3) := by decide +kernel
set_option maxRecDepth 100000 in
theorem s_Lw_law_617 {G : r_X} {n : Nat} {h : r_HI} {g : r_HR} {z : r_HL} {k : Nat} {v0 : Value} (hp : r_pk k = (0, 12)) (hk : k < n) : r_cl G m_Lw_law m_Mo_lay 617 (.ref (G.2.1 + k) :: [v0]) n h g z := r_clV d_Lw_law_617 w_Mo_lay (r_in 1090 rfl rfl) a_Mo_lay (r_in 1092 rfl rfl) n_Mo (by decide +kernel : r_mh m_Mo_lay.1 1) hp hk (by decide)
theorem d_Lw_law_620 : decode m_Lw_law.2.1 620 = .ok (.if_icmp .eq 269, 3) := by decide +kernel
theorem d_Lw_law_623 : decode m_Lw_law.2.1 623 = .ok (.iconst 0, 1) := by decide +kernel
theorem d_Lw_law_624 : decode m_Lw_law.2.1 624 = .ok (.ireturn, 1) := by decide +kernel
theorem d_Lw_law_625 : decode m_Lw_law.2.1 625 = .ok (.aload_n 1, 1) := by decide +kernel
theorem d_Lw_law_626 : decode m_Lw_law.2.1 626 = .ok (.aload_n 0, 1) := by decide +kernel
theorem d_Lw_law_627 : decode m_Lw_law.2.1 627 = .ok (.iload_n 3, 1) := by decide +kernel
theorem d_Lw_law_628 : decode m_Lw_law.2.1 628 = .ok (.iconst 1, 1) := by decide +kernel
theorem d_Lw_law_629 : decode m_Lw_law.2.1 629 = .ok (.iadd, 1) := by decide +kernel
theorem d_Lw_law_630 : decode m_Lw_law.2.1 630 = .ok (.iaload, 1) := by decide +kernel
theorem d_Lw_law_631 : decode m_Lw_law.2.1 631 = .ok (.aload_n 0, 1) := by decide +kernel
theorem d_Lw_law_632 : decode m_Lw_law.2.1 632 = .ok (.iload_n 3, 1) := by decide +kernel
theorem d_Lw_law_633 : decode m_Lw_law.2.1 633 = .ok (.iconst 2, 1) := by decide +kernel
theorem d_Lw_law_634 : decode m_Lw_law.2.1 634 = .ok (.iadd, 1) := by decide +kernel
theorem d_Lw_law_635 : decode m_Lw_law.2.1 635 = .ok (.iaload, 1) := by decide +kernel
theorem d_Lw_law_636 : decode m_Lw_law.2.1 636 = .ok (.aload_n 0, 1) := by decide +kernel
theorem d_Lw_law_637 : decode m_Lw_law.2.1 637 = .ok (.iload_n 3, 1) := by decide +kernel
theorem d_Lw_law_638 : decode m_Lw_law.2.1 638 = .ok (.iconst 3, 1) := by decide +kernel
theorem d_Lw_law_639 : decode m_Lw_law.2.1 639 = .ok (.iadd, 1) := by decide +kernel
theorem d_Lw_law_640 : decode m_Lw_law.2.1 640 = .ok (.iaload, 1) := by decide +kernel
theorem d_Lw_law_641 : decode m_Lw_law.2.1 641 = .ok (.invokevirtual 92, 3) := by decide +kernel
set_option maxRecDepth 100000 in
theorem s_Lw_law_641 {G : r_X} {n : Nat} {h : r_HI} {g : r_HR} {z : r_HL} {k : Nat} {v0 v1 v2 : Value} (hp : r_pk k = (0, 11)) (hk : k < n) : r_cl G m_Lw_law m_Ra_behind 641 (.ref (G.2.1 + k) :: [v0, v1, v2]) n h g z := r_clV d_Lw_law_641 w_Ra_behind (r_in 604 rfl rfl) a_Ra_behind (r_in 606 rfl rfl) n_Ra (by decide +kernel : r_mh m_Ra_behind.1 3) hp hk (by decide)
theorem d_Lw_law_644 : decode m_Lw_law.2.1 644 = .ok (.aload_n 2, 1) := by decide +kernel
theorem d_Lw_law_645 : decode m_Lw_law.2.1 645 = .ok (.aload_n 0, 1) := by decide +kernel
theorem d_Lw_law_646 : decode m_Lw_law.2.1 646 = .ok (.iload_n 3, 1) := by decide +kernel
theorem d_Lw_law_647 : decode m_Lw_law.2.1 647 = .ok (.iconst 1, 1) := by decide +kernel
theorem d_Lw_law_648 : decode m_Lw_law.2.1 648 = .ok (.iadd, 1) := by decide +kernel
theorem d_Lw_law_649 : decode m_Lw_law.2.1 649 = .ok (.iaload, 1) := by decide +kernel
theorem d_Lw_law_650 : decode m_Lw_law.2.1 650 = .ok (.aload_n 0, 1) := by decide +kernel
theorem d_Lw_law_651 : decode m_Lw_law.2.1 651 = .ok (.iload_n 3, 1) := by decide +kernel
theorem d_Lw_law_652 : decode m_Lw_law.2.1 652 = .ok (.iconst 2, 1) := by decide +kernel
theorem d_Lw_law_653 : decode m_Lw_law.2.1 653 = .ok (.iadd, 1) := by decide +kernel
theorem d_Lw_law_654 : decode m_Lw_law.2.1 654 = .ok (.iaload, 1) := by decide +kernel
theorem d_Lw_law_655 : decode m_Lw_law.2.1 655 = .ok (.aload_n 0, 1) := by decide +kernel
theorem d_Lw_law_656 : decode m_Lw_law.2.1 656 = .ok (.iload_n 3, 1) := by decide +kernel
theorem d_Lw_law_657 : decode m_Lw_law.2.1 657 = .ok (.iconst 3, 1) := by decide +kernel
theorem d_Lw_law_658 : decode m_Lw_law.2.1 658 = .ok (.iadd, 1) := by decide +kernel
theorem d_Lw_law_659 : decode m_Lw_law.2.1 659 = .ok (.iaload, 1) := by decide +kernel
theorem d_Lw_law_660 : decode m_Lw_law.2.1 660 = .ok (.invokevirtual 96, 3) := by decide +kernel
set_option maxRecDepth 100000 in
theorem s_Lw_law_660 {G : r_X} {n : Nat} {h : r_HI} {g : r_HR} {z : r_HL} {k : Nat} {v0 v1 v2 : Value} (hp : r_pk k = (0, 12)) (hk : k < n) : r_cl G m_Lw_law m_Mo_behind 660 (.ref (G.2.1 + k) :: [v0, v1, v2]) n h g z := r_clV d_Lw_law_660 w_Mo_behind (r_in 1107 rfl rfl) a_Mo_behind (r_in 1109 rfl rfl) n_Mo (by decide +kernel : r_mh m_Mo_behind.1 3) hp hk (by decide)
theorem d_Lw_law_663 : decode m_Lw_law.2.1 663 = .ok (.if_icmp .eq 226, 3) := by decide +kernel
theorem d_Lw_law_666 : decode m_Lw_law.2.1 666 = .ok (.iconst 0, 1) := by decide +kernel
theorem d_Lw_law_667 : decode m_Lw_law.2.1 667 = .ok (.ireturn, 1) := by decide +kernel
theorem d_Lw_law_668 : decode m_Lw_law.2.1 668 = .ok (.aload_n 1, 1) := by decide +kernel
theorem d_Lw_law_669 : decode m_Lw_law.2.1 669 = .ok (.aload_n 0, 1) := by decide +kernel
theorem d_Lw_law_670 : decode m_Lw_law.2.1 670 = .ok (.iload_n 3, 1) := by decide +kernel
theorem d_Lw_law_671 : decode m_Lw_law.2.1 671 = .ok (.iconst 1, 1) := by decide +kernel
theorem d_Lw_law_672 : decode m_Lw_law.2.1 672 = .ok (.iadd, 1) := by decide +kernel
theorem d_Lw_law_673 : decode m_Lw_law.2.1 673 = .ok (.iaload, 1) := by decide +kernel
theorem d_Lw_law_674 : decode m_Lw_law.2.1 674 = .ok (.aload_n 0, 1) := by decide +kernel
theorem d_Lw_law_675 : decode m_Lw_law.2.1 675 = .ok (.iload_n 3, 1) := by decide +kernel
theorem d_Lw_law_676 : decode m_Lw_law.2.1 676 = .ok (.iconst 2, 1) := by decide +kernel
theorem d_Lw_law_677 : decode m_Lw_law.2.1 677 = .ok (.iadd, 1) := by decide +kernel
theorem d_Lw_law_678 : decode m_Lw_law.2.1 678 = .ok (.iaload, 1) := by decide +kernel
theorem d_Lw_law_679 : decode m_Lw_law.2.1 679 = .ok (.aload_n 0, 1) := by decide +kernel
theorem d_Lw_law_680 : decode m_Lw_law.2.1 680 = .ok (.iload_n 3, 1) := by decide +kernel
theorem d_Lw_law_681 : decode m_Lw_law.2.1 681 = .ok (.iconst 3, 1) := by decide +kernel
theorem d_Lw_law_682 : decode m_Lw_law.2.1 682 = .ok (.iadd, 1) := by decide +kernel
theorem d_Lw_law_683 : decode m_Lw_law.2.1 683 = .ok (.iaload, 1) := by decide +kernel
theorem d_Lw_law_684 : decode m_Lw_law.2.1 684 = .ok (.invokevirtual 97, 3) := by decide +kernel
set_option maxRecDepth 100000 in
theorem s_Lw_law_684 {G : r_X} {n : Nat} {h : r_HI} {g : r_HR} {z : r_HL} {k : Nat} {v0 v1 v2 : Value} (hp : r_pk k = (0, 11)) (hk : k < n) : r_cl G m_Lw_law m_Ra_apart 684 (.ref (G.2.1 + k) :: [v0, v1, v2]) n h g z := r_clV d_Lw_law_684 w_Ra_apart (r_in 609 rfl rfl) a_Ra_apart (r_in 611 rfl rfl) n_Ra (by decide +kernel : r_mh m_Ra_apart.1 3) hp hk (by decide)
theorem d_Lw_law_687 : decode m_Lw_law.2.1 687 = .ok (.aload_n 2, 1) := by decide +kernel
theorem d_Lw_law_688 : decode m_Lw_law.2.1 688 = .ok (.aload_n 0, 1) := by decide +kernel
theorem d_Lw_law_689 : decode m_Lw_law.2.1 689 = .ok (.iload_n 3, 1) := by decide +kernel
theorem d_Lw_law_690 : decode m_Lw_law.2.1 690 = .ok (.iconst 1, 1) := by decide +kernel
theorem d_Lw_law_691 : decode m_Lw_law.2.1 691 = .ok (.iadd, 1) := by decide +kernel
theorem d_Lw_law_692 : decode m_Lw_law.2.1 692 = .ok (.iaload, 1) := by decide +kernel
theorem d_Lw_law_693 : decode m_Lw_law.2.1 693 = .ok (.aload_n 0, 1) := by decide +kernel
theorem d_Lw_law_694 : decode m_Lw_law.2.1 694 = .ok (.iload_n 3, 1) := by decide +kernel
theorem d_Lw_law_695 : decode m_Lw_law.2.1 695 = .ok (.iconst 2, 1) := by decide +kernel
theorem d_Lw_law_696 : decode m_Lw_law.2.1 696 = .ok (.iadd, 1) := by decide +kernel
theorem d_Lw_law_697 : decode m_Lw_law.2.1 697 = .ok (.iaload, 1) := by decide +kernel
theorem d_Lw_law_698 : decode m_Lw_law.2.1 698 = .ok (.aload_n 0, 1) := by decide +kernel
theorem d_Lw_law_699 : decode m_Lw_law.2.1 699 = .ok (.iload_n 3, 1) := by decide +kernel
theorem d_Lw_law_700 : decode m_Lw_law.2.1 700 = .ok (.iconst 3, 1) := by decide +kernel
theorem d_Lw_law_701 : decode m_Lw_law.2.1 701 = .ok (.iadd, 1) := by decide +kernel
theorem d_Lw_law_702 : decode m_Lw_law.2.1 702 = .ok (.iaload, 1) := by decide +kernel
theorem d_Lw_law_703 : decode m_Lw_law.2.1 703 = .ok (.invokevirtual 100, 3) := by decide +kernel
set_option maxRecDepth 100000 in
theorem s_Lw_law_703 {G : r_X} {n : Nat} {h : r_HI} {g : r_HR} {z : r_HL} {k : Nat} {v0 v1 v2 : Value} (hp : r_pk k = (0, 12)) (hk : k < n) : r_cl G m_Lw_law m_Mo_apart 703 (.ref (G.2.1 + k) :: [v0, v1, v2]) n h g z := r_clV d_Lw_law_703 w_Mo_apart (r_in 1116 rfl rfl) a_Mo_apart (r_in 1118 rfl rfl) n_Mo (by decide +kernel : r_mh m_Mo_apart.1 3) hp hk (by decide)
theorem d_Lw_law_706 : decode m_Lw_law.2.1 706 = .ok (.if_icmp .eq 183, 3) := by decide +kernel
theorem d_Lw_law_709 : decode m_Lw_law.2.1 709 = .ok (.iconst 0, 1) := by decide +kernel
theorem d_Lw_law_710 : decode m_Lw_law.2.1 710 = .ok (.ireturn, 1) := by decide +kernel
theorem d_Lw_law_711 : decode m_Lw_law.2.1 711 = .ok (.aload_n 1, 1) := by decide +kernel
theorem d_Lw_law_712 : decode m_Lw_law.2.1 712 = .ok (.aload_n 0, 1) := by decide +kernel
theorem d_Lw_law_713 : decode m_Lw_law.2.1 713 = .ok (.iload_n 3, 1) := by decide +kernel
theorem d_Lw_law_714 : decode m_Lw_law.2.1 714 = .ok (.iconst 1, 1) := by decide +kernel
theorem d_Lw_law_715 : decode m_Lw_law.2.1 715 = .ok (.iadd, 1) := by decide +kernel
theorem d_Lw_law_716 : decode m_Lw_law.2.1 716 = .ok (.iaload, 1) := by decide +kernel
theorem d_Lw_law_717 : decode m_Lw_law.2.1 717 = .ok (.aload_n 0, 1) := by decide +kernel
theorem d_Lw_law_718 : decode m_Lw_law.2.1 718 = .ok (.iload_n 3, 1) := by decide +kernel
theorem d_Lw_law_719 : decode m_Lw_law.2.1 719 = .ok (.iconst 2, 1) := by decide +kernel
theorem d_Lw_law_720 : decode m_Lw_law.2.1 720 = .ok (.iadd, 1) := by decide +kernel
theorem d_Lw_law_721 : decode m_Lw_law.2.1 721 = .ok (.iaload, 1) := by decide +kernel
theorem d_Lw_law_722 : decode m_Lw_law.2.1 722 = .ok (.invokevirtual 101, 3) := by decide +kernel
set_option maxRecDepth 100000 in
theorem s_Lw_law_722 {G : r_X} {n : Nat} {h : r_HI} {g : r_HR} {z : r_HL} {k : Nat} {v0 v1 : Value} (hp : r_pk k = (0, 11)) (hk : k < n) : r_cl G m_Lw_law m_Ra_see 722 (.ref (G.2.1 + k) :: [v0, v1]) n h g z := r_clV d_Lw_law_722 w_Ra_see (r_in 625 rfl rfl) a_Ra_see (r_in 627 rfl rfl) n_Ra (by decide +kernel : r_mh m_Ra_see.1 2) hp hk (by decide)
theorem d_Lw_law_725 : decode m_Lw_law.2.1 725 = .ok (.aload_n 2, 1) := by decide +kernel
theorem d_Lw_law_726 : decode m_Lw_law.2.1 726 = .ok (.aload_n 0, 1) := by decide +kernel
theorem d_Lw_law_727 : decode m_Lw_law.2.1 727 = .ok (.iload_n 3, 1) := by decide +kernel
theorem d_Lw_law_728 : decode m_Lw_law.2.1 728 = .ok (.iconst 1, 1) := by decide +kernel
theorem d_Lw_law_729 : decode m_Lw_law.2.1 729 = .ok (.iadd, 1) := by decide +kernel
theorem d_Lw_law_730 : decode m_Lw_law.2.1 730 = .ok (.iaload, 1) := by decide +kernel
theorem d_Lw_law_731 : decode m_Lw_law.2.1 731 = .ok (.aload_n 0, 1) := by decide +kernel
theorem d_Lw_law_732 : decode m_Lw_law.2.1 732 = .ok (.iload_n 3, 1) := by decide +kernel
theorem d_Lw_law_733 : decode m_Lw_law.2.1 733 = .ok (.iconst 2, 1) := by decide +kernel
theorem d_Lw_law_734 : decode m_Lw_law.2.1 734 = .ok (.iadd, 1) := by decide +kernel
theorem d_Lw_law_735 : decode m_Lw_law.2.1 735 = .ok (.iaload, 1) := by decide +kernel
theorem d_Lw_law_736 : decode m_Lw_law.2.1 736 = .ok (.invokevirtual 104, 3) := by decide +kernel
set_option maxRecDepth 100000 in
theorem s_Lw_law_736 {G : r_X} {n : Nat} {h : r_HI} {g : r_HR} {z : r_HL} {k : Nat} {v0 v1 : Value} (hp : r_pk k = (0, 12)) (hk : k < n) : r_cl G m_Lw_law m_Mo_see 736 (.ref (G.2.1 + k) :: [v0, v1]) n h g z := r_clV d_Lw_law_736 w_Mo_see (r_in 1131 rfl rfl) a_Mo_see (r_in 1133 rfl rfl) n_Mo (by decide +kernel : r_mh m_Mo_see.1 2) hp hk (by decide)
theorem d_Lw_law_739 : decode m_Lw_law.2.1 739 = .ok (.if_icmp .eq 150, 3) := by decide +kernel
theorem d_Lw_law_742 : decode m_Lw_law.2.1 742 = .ok (.iconst 0, 1) := by decide +kernel
theorem d_Lw_law_743 : decode m_Lw_law.2.1 743 = .ok (.ireturn, 1) := by decide +kernel
theorem d_Lw_law_744 : decode m_Lw_law.2.1 744 = .ok (.aload_n 1, 1) := by decide +kernel
theorem d_Lw_law_745 : decode m_Lw_law.2.1 745 = .ok (.invokevirtual 105, 3) := by decide +kernel
set_option maxRecDepth 100000 in
theorem s_Lw_law_745 {G : r_X} {n : Nat} {h : r_HI} {g : r_HR} {z : r_HL} {k : Nat} (hp : r_pk k = (0, 11)) (hk : k < n) : r_cl G m_Lw_law m_Ra_forget 745 (.ref (G.2.1 + k) :: []) n h g z := r_clV d_Lw_law_745 w_Ra_forget (r_in 634 rfl rfl) a_Ra_forget (r_in 636 rfl rfl) n_Ra (by decide +kernel : r_mh m_Ra_forget.1 0) hp hk (by decide)
theorem d_Lw_law_748 : decode m_Lw_law.2.1 748 = .ok (.aload_n 2, 1) := by decide +kernel
theorem d_Lw_law_749 : decode m_Lw_law.2.1 749 = .ok (.invokevirtual 108, 3) := by decide +kernel
set_option maxRecDepth 100000 in
theorem s_Lw_law_749 {G : r_X} {n : Nat} {h : r_HI} {g : r_HR} {z : r_HL} {k : Nat} (hp : r_pk k = (0, 12)) (hk : k < n) : r_cl G m_Lw_law m_Mo_forget 749 (.ref (G.2.1 + k) :: []) n h g z := r_clV d_Lw_law_749 w_Mo_forget (r_in 1135 rfl rfl) a_Mo_forget (r_in 1137 rfl rfl) n_Mo (by decide +kernel : r_mh m_Mo_forget.1 0) hp hk (by decide)
theorem d_Lw_law_752 : decode m_Lw_law.2.1 752 = .ok (.if_icmp .eq 137, 3) := by decide +kernel
theorem d_Lw_law_755 : decode m_Lw_law.2.1 755 = .ok (.iconst 0, 1) := by decide +kernel
theorem d_Lw_law_756 : decode m_Lw_law.2.1 756 = .ok (.ireturn, 1) := by decide +kernel
theorem d_Lw_law_757 : decode m_Lw_law.2.1 757 = .ok (.aload_n 1, 1) := by decide +kernel
theorem d_Lw_law_758 : decode m_Lw_law.2.1 758 = .ok (.invokevirtual 109, 3) := by decide +kernel
set_option maxRecDepth 100000 in
theorem s_Lw_law_758 {G : r_X} {n : Nat} {h : r_HI} {g : r_HR} {z : r_HL} {k : Nat} (hp : r_pk k = (0, 11)) (hk : k < n) : r_cl G m_Lw_law m_Ra_steps 758 (.ref (G.2.1 + k) :: []) n h g z := r_clV d_Lw_law_758 w_Ra_steps (r_in 638 rfl rfl) a_Ra_steps (r_in 640 rfl rfl) n_Ra (by decide +kernel : r_mh m_Ra_steps.1 0) hp hk (by decide)
theorem d_Lw_law_761 : decode m_Lw_law.2.1 761 = .ok (.aload_n 2, 1) := by decide +kernel
theorem d_Lw_law_762 : decode m_Lw_law.2.1 762 = .ok (.invokevirtual 112, 3) := by decide +kernel
set_option maxRecDepth 100000 in
theorem s_Lw_law_762 {G : r_X} {n : Nat} {h : r_HI} {g : r_HR} {z : r_HL} {k : Nat} (hp : r_pk k = (0, 12)) (hk : k < n) : r_cl G m_Lw_law m_Mo_steps 762 (.ref (G.2.1 + k) :: []) n h g z := r_clV d_Lw_law_762 w_Mo_steps (r_in 1139 rfl rfl) a_Mo_steps (r_in 1141 rfl rfl) n_Mo (by decide +kernel : r_mh m_Mo_steps.1 0) hp hk (by decide)
theorem d_Lw_law_765 : decode m_Lw_law.2.1 765 = .ok (.if_icmp .eq 124, 3) := by decide +kernel
theorem d_Lw_law_768 : decode m_Lw_law.2.1 768 = .ok (.iconst 0, 1) := by decide +kernel
theorem d_Lw_law_769 : decode m_Lw_law.2.1 769 = .ok (.ireturn, 1) := by decide +kernel
theorem d_Lw_law_770 : decode m_Lw_law.2.1 770 = .ok (.aload_n 1, 1) := by decide +kernel
theorem d_Lw_law_771 : decode m_Lw_law.2.1 771 = .ok (.invokevirtual 113, 3) := by decide +kernel
set_option maxRecDepth 100000 in
theorem s_Lw_law_771 {G : r_X} {n : Nat} {h : r_HI} {g : r_HR} {z : r_HL} {k : Nat} (hp : r_pk k = (0, 11)) (hk : k < n) : r_cl G m_Lw_law m_Ra_trial 771 (.ref (G.2.1 + k) :: []) n h g z := r_clV d_Lw_law_771 w_Ra_trial (r_in 652 rfl rfl) a_Ra_trial (r_in 654 rfl rfl) n_Ra (by decide +kernel : r_mh m_Ra_trial.1 0) hp hk (by decide)
theorem d_Lw_law_774 : decode m_Lw_law.2.1 774 = .ok (.aload_n 2, 1) := by decide +kernel
theorem d_Lw_law_775 : decode m_Lw_law.2.1 775 = .ok (.invokevirtual 116, 3) := by decide +kernel
set_option maxRecDepth 100000 in
theorem s_Lw_law_775 {G : r_X} {n : Nat} {h : r_HI} {g : r_HR} {z : r_HL} {k : Nat} (hp : r_pk k = (0, 12)) (hk : k < n) : r_cl G m_Lw_law m_Mo_trial 775 (.ref (G.2.1 + k) :: []) n h g z := r_clV d_Lw_law_775 w_Mo_trial (r_in 1148 rfl rfl) a_Mo_trial (r_in 1150 rfl rfl) n_Mo (by decide +kernel : r_mh m_Mo_trial.1 0) hp hk (by decide)
theorem d_Lw_law_778 : decode m_Lw_law.2.1 778 = .ok (.if_icmp .eq 111, 3) := by decide +kernel
theorem d_Lw_law_781 : decode m_Lw_law.2.1 781 = .ok (.iconst 0, 1) := by decide +kernel
theorem d_Lw_law_782 : decode m_Lw_law.2.1 782 = .ok (.ireturn, 1) := by decide +kernel
theorem d_Lw_law_783 : decode m_Lw_law.2.1 783 = .ok (.aload_n 1, 1) := by decide +kernel
theorem d_Lw_law_784 : decode m_Lw_law.2.1 784 = .ok (.aload_n 0, 1) := by decide +kernel
theorem d_Lw_law_785 : decode m_Lw_law.2.1 785 = .ok (.iload_n 3, 1) := by decide +kernel
theorem d_Lw_law_786 : decode m_Lw_law.2.1 786 = .ok (.iconst 1, 1) := by decide +kernel
theorem d_Lw_law_787 : decode m_Lw_law.2.1 787 = .ok (.iadd, 1) := by decide +kernel
theorem d_Lw_law_788 : decode m_Lw_law.2.1 788 = .ok (.iaload, 1) := by decide +kernel
theorem d_Lw_law_789 : decode m_Lw_law.2.1 789 = .ok (.aload_n 0, 1) := by decide +kernel
theorem d_Lw_law_790 : decode m_Lw_law.2.1 790 = .ok (.iload_n 3, 1) := by decide +kernel
theorem d_Lw_law_791 : decode m_Lw_law.2.1 791 = .ok (.iconst 2, 1) := by decide +kernel
theorem d_Lw_law_792 : decode m_Lw_law.2.1 792 = .ok (.iadd, 1) := by decide +kernel
theorem d_Lw_law_793 : decode m_Lw_law.2.1 793 = .ok (.iaload, 1) := by decide +kernel
theorem d_Lw_law_794 : decode m_Lw_law.2.1 794 = .ok (.aload_n 0, 1) := by decide +kernel
theorem d_Lw_law_795 : decode m_Lw_law.2.1 795 = .ok (.iload_n 3, 1) := by decide +kernel
theorem d_Lw_law_796 : decode m_Lw_law.2.1 796 = .ok (.iconst 3, 1) := by decide +kernel
theorem d_Lw_law_797 : decode m_Lw_law.2.1 797 = .ok (.iadd, 1) := by decide +kernel
theorem d_Lw_law_798 : decode m_Lw_law.2.1 798 = .ok (.iaload, 1) := by decide +kernel
theorem d_Lw_law_799 : decode m_Lw_law.2.1 799 = .ok (.invokevirtual 117, 3) := by decide +kernel
set_option maxRecDepth 100000 in
theorem s_Lw_law_799 {G : r_X} {n : Nat} {h : r_HI} {g : r_HR} {z : r_HL} {k : Nat} {v0 v1 v2 : Value} (hp : r_pk k = (0, 11)) (hk : k < n) : r_cl G m_Lw_law m_Ra_days 799 (.ref (G.2.1 + k) :: [v0, v1, v2]) n h g z := r_clV d_Lw_law_799 w_Ra_days (r_in 667 rfl rfl) a_Ra_days (r_in 669 rfl rfl) n_Ra (by decide +kernel : r_mh m_Ra_days.1 3) hp hk (by decide)
theorem d_Lw_law_802 : decode m_Lw_law.2.1 802 = .ok (.aload_n 2, 1) := by decide +kernel
theorem d_Lw_law_803 : decode m_Lw_law.2.1 803 = .ok (.aload_n 0, 1) := by decide +kernel
theorem d_Lw_law_804 : decode m_Lw_law.2.1 804 = .ok (.iload_n 3, 1) := by decide +kernel
theorem d_Lw_law_805 : decode m_Lw_law.2.1 805 = .ok (.iconst 1, 1) := by decide +kernel
theorem d_Lw_law_806 : decode m_Lw_law.2.1 806 = .ok (.iadd, 1) := by decide +kernel
theorem d_Lw_law_807 : decode m_Lw_law.2.1 807 = .ok (.iaload, 1) := by decide +kernel
theorem d_Lw_law_808 : decode m_Lw_law.2.1 808 = .ok (.aload_n 0, 1) := by decide +kernel
theorem d_Lw_law_809 : decode m_Lw_law.2.1 809 = .ok (.iload_n 3, 1) := by decide +kernel
theorem d_Lw_law_810 : decode m_Lw_law.2.1 810 = .ok (.iconst 2, 1) := by decide +kernel
theorem d_Lw_law_811 : decode m_Lw_law.2.1 811 = .ok (.iadd, 1) := by decide +kernel
theorem d_Lw_law_812 : decode m_Lw_law.2.1 812 = .ok (.iaload, 1) := by decide +kernel
theorem d_Lw_law_813 : decode m_Lw_law.2.1 813 = .ok (.aload_n 0, 1) := by decide +kernel
theorem d_Lw_law_814 : decode m_Lw_law.2.1 814 = .ok (.iload_n 3, 1) := by decide +kernel
theorem d_Lw_law_815 : decode m_Lw_law.2.1 815 = .ok (.iconst 3, 1) := by decide +kernel
theorem d_Lw_law_816 : decode m_Lw_law.2.1 816 = .ok (.iadd, 1) := by decide +kernel
theorem d_Lw_law_817 : decode m_Lw_law.2.1 817 = .ok (.iaload, 1) := by decide +kernel
theorem d_Lw_law_818 : decode m_Lw_law.2.1 818 = .ok (.invokevirtual 120, 3) := by decide +kernel
set_option maxRecDepth 100000 in
theorem s_Lw_law_818 {G : r_X} {n : Nat} {h : r_HI} {g : r_HR} {z : r_HL} {k : Nat} {v0 v1 v2 : Value} (hp : r_pk k = (0, 12)) (hk : k < n) : r_cl G m_Lw_law m_Mo_days 818 (.ref (G.2.1 + k) :: [v0, v1, v2]) n h g z := r_clV d_Lw_law_818 w_Mo_days (r_in 1156 rfl rfl) a_Mo_days (r_in 1158 rfl rfl) n_Mo (by decide +kernel : r_mh m_Mo_days.1 3) hp hk (by decide)
theorem d_Lw_law_821 : decode m_Lw_law.2.1 821 = .ok (.if_icmp .eq 68, 3) := by decide +kernel
theorem d_Lw_law_824 : decode m_Lw_law.2.1 824 = .ok (.iconst 0, 1) := by decide +kernel
theorem d_Lw_law_825 : decode m_Lw_law.2.1 825 = .ok (.ireturn, 1) := by decide +kernel
theorem d_Lw_law_826 : decode m_Lw_law.2.1 826 = .ok (.aload_n 1, 1) := by decide +kernel
theorem d_Lw_law_827 : decode m_Lw_law.2.1 827 = .ok (.invokevirtual 121, 3) := by decide +kernel
set_option maxRecDepth 100000 in
theorem s_Lw_law_827 {G : r_X} {n : Nat} {h : r_HI} {g : r_HR} {z : r_HL} {k : Nat} (hp : r_pk k = (0, 11)) (hk : k < n) : r_cl G m_Lw_law m_Ra_image 827 (.ref (G.2.1 + k) :: []) n h g z := r_clV d_Lw_law_827 w_Ra_image (r_in 685 rfl rfl) a_Ra_image (r_in 687 rfl rfl) n_Ra (by decide +kernel : r_mh m_Ra_image.1 0) hp hk (by decide)
theorem d_Lw_law_830 : decode m_Lw_law.2.1 830 = .ok (.aload_n 2, 1) := by decide +kernel
theorem d_Lw_law_831 : decode m_Lw_law.2.1 831 = .ok (.invokevirtual 124, 3) := by decide +kernel
set_option maxRecDepth 100000 in
theorem s_Lw_law_831 {G : r_X} {n : Nat} {h : r_HI} {g : r_HR} {z : r_HL} {k : Nat} (hp : r_pk k = (0, 12)) (hk : k < n) : r_cl G m_Lw_law m_Mo_image 831 (.ref (G.2.1 + k) :: []) n h g z := r_clV d_Lw_law_831 w_Mo_image (r_in 1169 rfl rfl) a_Mo_image (r_in 1171 rfl rfl) n_Mo (by decide +kernel : r_mh m_Mo_image.1 0) hp hk (by decide)
theorem d_Lw_law_834 : decode m_Lw_law.2.1 834 = .ok (.if_icmp .eq 55, 3) := by decide +kernel
theorem d_Lw_law_837 : decode m_Lw_law.2.1 837 = .ok (.iconst 0, 1) := by decide +kernel
theorem d_Lw_law_838 : decode m_Lw_law.2.1 838 = .ok (.ireturn, 1) := by decide +kernel
theorem d_Lw_law_839 : decode m_Lw_law.2.1 839 = .ok (.aload_n 1, 1) := by decide +kernel
theorem d_Lw_law_840 : decode m_Lw_law.2.1 840 = .ok (.invokevirtual 125, 3) := by decide +kernel
set_option maxRecDepth 100000 in
theorem s_Lw_law_840 {G : r_X} {n : Nat} {h : r_HI} {g : r_HR} {z : r_HL} {k : Nat} (hp : r_pk k = (0, 11)) (hk : k < n) : r_cl G m_Lw_law m_Ra_restore 840 (.ref (G.2.1 + k) :: []) n h g z := r_clV d_Lw_law_840 w_Ra_restore (r_in 703 rfl rfl) a_Ra_restore (r_in 705 rfl rfl) n_Ra (by decide +kernel : r_mh m_Ra_restore.1 0) hp hk (by decide)
theorem d_Lw_law_843 : decode m_Lw_law.2.1 843 = .ok (.aload_n 2, 1) := by decide +kernel
theorem d_Lw_law_844 : decode m_Lw_law.2.1 844 = .ok (.invokevirtual 128, 3) := by decide +kernel
set_option maxRecDepth 100000 in
theorem s_Lw_law_844 {G : r_X} {n : Nat} {h : r_HI} {g : r_HR} {z : r_HL} {k : Nat} (hp : r_pk k = (0, 12)) (hk : k < n) : r_cl G m_Lw_law m_Mo_restore 844 (.ref (G.2.1 + k) :: []) n h g z := r_clV d_Lw_law_844 w_Mo_restore (r_in 1173 rfl rfl) a_Mo_restore (r_in 1175 rfl rfl) n_Mo (by decide +kernel : r_mh m_Mo_restore.1 0) hp hk (by decide)
theorem d_Lw_law_847 : decode m_Lw_law.2.1 847 = .ok (.if_icmp .eq 42, 3) := by decide +kernel
theorem d_Lw_law_850 : decode m_Lw_law.2.1 850 = .ok (.iconst 0, 1) := by decide +kernel
theorem d_Lw_law_851 : decode m_Lw_law.2.1 851 = .ok (.ireturn, 1) := by decide +kernel
theorem d_Lw_law_852 : decode m_Lw_law.2.1 852 = .ok (.aload_n 1, 1) := by decide +kernel
theorem d_Lw_law_853 : decode m_Lw_law.2.1 853 = .ok (.aload_n 0, 1) := by decide +kernel
theorem d_Lw_law_854 : decode m_Lw_law.2.1 854 = .ok (.iload_n 3, 1) := by decide +kernel
theorem d_Lw_law_855 : decode m_Lw_law.2.1 855 = .ok (.iconst 1, 1) := by decide +kernel
theorem d_Lw_law_856 : decode m_Lw_law.2.1 856 = .ok (.iadd, 1) := by decide +kernel
theorem d_Lw_law_857 : decode m_Lw_law.2.1 857 = .ok (.iaload, 1) := by decide +kernel
theorem d_Lw_law_858 : decode m_Lw_law.2.1 858 = .ok (.invokevirtual 129, 3) := by decide +kernel
set_option maxRecDepth 100000 in
theorem s_Lw_law_858 {G : r_X} {n : Nat} {h : r_HI} {g : r_HR} {z : r_HL} {k : Nat} {v0 : Value} (hp : r_pk k = (0, 11)) (hk : k < n) : r_cl G m_Lw_law m_Ra_count 858 (.ref (G.2.1 + k) :: [v0]) n h g z := r_clV d_Lw_law_858 w_Ra_count (r_in 707 rfl rfl) a_Ra_count (r_in 709 rfl rfl) n_Ra (by decide +kernel : r_mh m_Ra_count.1 1) hp hk (by decide)
theorem d_Lw_law_861 : decode m_Lw_law.2.1 861 = .ok (.aload_n 2, 1) := by decide +kernel
theorem d_Lw_law_862 : decode m_Lw_law.2.1 862 = .ok (.aload_n 0, 1) := by decide +kernel
theorem d_Lw_law_863 : decode m_Lw_law.2.1 863 = .ok (.iload_n 3, 1) := by decide +kernel
theorem d_Lw_law_864 : decode m_Lw_law.2.1 864 = .ok (.iconst 1, 1) := by decide +kernel
theorem d_Lw_law_865 : decode m_Lw_law.2.1 865 = .ok (.iadd, 1) := by decide +kernel
theorem d_Lw_law_866 : decode m_Lw_law.2.1 866 = .ok (.iaload, 1) := by decide +kernel
theorem d_Lw_law_867 : decode m_Lw_law.2.1 867 = .ok (.invokevirtual 132, 3) := by decide +kernel
set_option maxRecDepth 100000 in
theorem s_Lw_law_867 {G : r_X} {n : Nat} {h : r_HI} {g : r_HR} {z : r_HL} {k : Nat} {v0 : Value} (hp : r_pk k = (0, 12)) (hk : k < n) : r_cl G m_Lw_law m_Mo_count 867 (.ref (G.2.1 + k) :: [v0]) n h g z := r_clV d_Lw_law_867 w_Mo_count (r_in 1177 rfl rfl) a_Mo_count (r_in 1179 rfl rfl) n_Mo (by decide +kernel : r_mh m_Mo_count.1 1) hp hk (by decide)
theorem d_Lw_law_870 : decode m_Lw_law.2.1 870 = .ok (.if_icmp .eq 19, 3) := by decide +kernel
theorem d_Lw_law_873 : decode m_Lw_law.2.1 873 = .ok (.iconst 0, 1) := by decide +kernel
theorem d_Lw_law_874 : decode m_Lw_law.2.1 874 = .ok (.ireturn, 1) := by decide +kernel
theorem d_Lw_law_875 : decode m_Lw_law.2.1 875 = .ok (.aload_n 1, 1) := by decide +kernel
theorem d_Lw_law_876 : decode m_Lw_law.2.1 876 = .ok (.invokevirtual 133, 3) := by decide +kernel
set_option maxRecDepth 100000 in
theorem s_Lw_law_876 {G : r_X} {n : Nat} {h : r_HI} {g : r_HR} {z : r_HL} {k : Nat} (hp : r_pk k = (0, 11)) (hk : k < n) : r_cl G m_Lw_law m_Ra_digest 876 (.ref (G.2.1 + k) :: []) n h g z := r_clV d_Lw_law_876 w_Ra_digest (r_in 716 rfl rfl) a_Ra_digest (r_in 718 rfl rfl) n_Ra (by decide +kernel : r_mh m_Ra_digest.1 0) hp hk (by decide)
theorem d_Lw_law_879 : decode m_Lw_law.2.1 879 = .ok (.aload_n 2, 1) := by decide +kernel
theorem d_Lw_law_880 : decode m_Lw_law.2.1 880 = .ok (.invokevirtual 137, 3) := by decide +kernel
set_option maxRecDepth 100000 in
theorem s_Lw_law_880 {G : r_X} {n : Nat} {h : r_HI} {g : r_HR} {z : r_HL} {k : Nat} (hp : r_pk k = (0, 12)) (hk : k < n) : r_cl G m_Lw_law m_Mo_digest 880 (.ref (G.2.1 + k) :: []) n h g z := r_clV d_Lw_law_880 w_Mo_digest (r_in 1189 rfl rfl) a_Mo_digest (r_in 1191 rfl rfl) n_Mo (by decide +kernel : r_mh m_Mo_digest.1 0) hp hk (by decide)
theorem d_Lw_law_883 : decode m_Lw_law.2.1 883 = .ok (.lcmp, 1) := by decide +kernel
theorem d_Lw_law_884 : decode m_Lw_law.2.1 884 = .ok (.ifCond .eq 5, 3) := by decide +kernel
theorem d_Lw_law_887 : decode m_Lw_law.2.1 887 = .ok (.iconst 0, 1) := by decide +kernel
theorem d_Lw_law_888 : decode m_Lw_law.2.1 888 = .ok (.ireturn, 1) := by decide +kernel
theorem d_Lw_law_889 : decode m_Lw_law.2.1 889 = .ok (.iinc 3 4, 3) := by decide +kernel
theorem d_Lw_law_892 : decode m_Lw_law.2.1 892 = .ok (.goto (-874), 3) := by decide +kernel
theorem d_Lw_law_895 : decode m_Lw_law.2.1 895 = .ok (.iconst 1, 1) := by decide +kernel
theorem d_Lw_law_896 : decode m_Lw_law.2.1 896 = .ok (.ireturn, 1) := by decide +kernel
