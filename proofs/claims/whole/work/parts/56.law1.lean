set_option maxRecDepth 100000 in
set_option maxHeartbeats 4000000 in
theorem w_law_0 {G : r_X} {b L : Nat} {xs : Nat → Int32} {i : Nat} {Z : a_Z} {h : r_HI} {p q : Nat} {z : r_HL} (hL : L ≤ 2048) (hi : i + 4 ≤ L) (hI : z_I Z i) (hC : p_C h p q Z) (hM : p_M h Z) (key : ∀ (Z' : a_Z) (h' : r_HI) (p' q' : Nat) (z' : r_HL), z_I Z' (i + 4) → p_C h' p' q' Z' → p_M h' Z' → r_L G b L xs 889 [(0, .ref b), (1, .ref (G.2.1 + 0)), (2, .ref (G.2.1 + 47)), (3, .int (nI i))] [] 61 h' (r_gp p' q') z') : r_L G b L xs 168 [(0, .ref b), (1, .ref (G.2.1 + 0)), (2, .ref (G.2.1 + 47)), (3, .int (nI i))] [] 61 h (r_gp p q) z := by
  have hL2 := hL
  refine j_aload_n d_Lw_law_168 rfl rfl ?_
  refine j_aload_n d_Lw_law_169 rfl rfl ?_
  refine j_iload_n d_Lw_law_170 rfl rfl ?_
  refine j_iconst (v := 1) d_Lw_law_171 rfl ?_
  refine j_iadd d_Lw_law_172 ?_
  refine j_sld (j := i + 1) d_Lw_law_173 (nI_add i 1) (by omega) hL ?_
  refine q_Li (s_Lw_law_174 rfl (by decide)) rfl (Nat.le_of_ble_eq_true rfl) (Nat.le_of_ble_eq_true rfl) ?_
  refine c_Ra_letter (d := 2) hC hI.1 (fun h1 p1 q1 y1 C1 => ?_)
  have M1 := hM.mo y1
  refine j_aload_n d_Lw_law_177 rfl rfl ?_
  refine j_aload_n d_Lw_law_178 rfl rfl ?_
  refine j_iload_n d_Lw_law_179 rfl rfl ?_
  refine j_iconst (v := 1) d_Lw_law_180 rfl ?_
  refine j_iadd d_Lw_law_181 ?_
  refine j_sld (j := i + 1) d_Lw_law_182 (nI_add i 1) (by omega) hL ?_
  refine q_Li (s_Lw_law_183 rfl (by decide)) rfl (Nat.le_of_ble_eq_true rfl) (Nat.le_of_ble_eq_true rfl) ?_
  refine c_Mo_letter (d := 2) M1 hI.1 (fun h2 y2 M2 => ?_)
  have C2 := C1.ml y2
  refine j_icmp_eq (tgt := 889) d_Lw_law_186 rfl (fun _ => ?_) (fun e9 => absurd rfl e9)
  exact key _ _ _ _ _ ((zi_letter hI).mono (by omega)) C2 M2
set_option maxRecDepth 100000 in
set_option maxHeartbeats 4000000 in
theorem w_law_1 {G : r_X} {b L : Nat} {xs : Nat → Int32} {i : Nat} {Z : a_Z} {h : r_HI} {p q : Nat} {z : r_HL} (hL : L ≤ 2048) (hi : i + 4 ≤ L) (hI : z_I Z i) (hC : p_C h p q Z) (hM : p_M h Z) (key : ∀ (Z' : a_Z) (h' : r_HI) (p' q' : Nat) (z' : r_HL), z_I Z' (i + 4) → p_C h' p' q' Z' → p_M h' Z' → r_L G b L xs 889 [(0, .ref b), (1, .ref (G.2.1 + 0)), (2, .ref (G.2.1 + 47)), (3, .int (nI i))] [] 61 h' (r_gp p' q') z') : r_L G b L xs 191 [(0, .ref b), (1, .ref (G.2.1 + 0)), (2, .ref (G.2.1 + 47)), (3, .int (nI i))] [] 61 h (r_gp p q) z := by
  have hL2 := hL
  refine j_aload_n d_Lw_law_191 rfl rfl ?_
  refine q_Li (s_Lw_law_192 rfl (by decide)) rfl (Nat.le_of_ble_eq_true rfl) (Nat.le_of_ble_eq_true rfl) ?_
  refine c_Ra_blank (d := 2) hC hI.1 (fun h1 p1 q1 y1 C1 => ?_)
  have M1 := hM.mo y1
  refine j_aload_n d_Lw_law_195 rfl rfl ?_
  refine q_Li (s_Lw_law_196 rfl (by decide)) rfl (Nat.le_of_ble_eq_true rfl) (Nat.le_of_ble_eq_true rfl) ?_
  refine c_Mo_blank (d := 2) M1 hI.1 (fun h2 y2 M2 => ?_)
  have C2 := C1.ml y2
  refine j_icmp_eq (tgt := 889) d_Lw_law_199 rfl (fun _ => ?_) (fun e9 => absurd rfl e9)
  exact key _ _ _ _ _ ((zi_blank hI).mono (by omega)) C2 M2
set_option maxRecDepth 100000 in
set_option maxHeartbeats 4000000 in
theorem w_law_2 {G : r_X} {b L : Nat} {xs : Nat → Int32} {i : Nat} {Z : a_Z} {h : r_HI} {p q : Nat} {z : r_HL} (hL : L ≤ 2048) (hi : i + 4 ≤ L) (hI : z_I Z i) (hC : p_C h p q Z) (hM : p_M h Z) (key : ∀ (Z' : a_Z) (h' : r_HI) (p' q' : Nat) (z' : r_HL), z_I Z' (i + 4) → p_C h' p' q' Z' → p_M h' Z' → r_L G b L xs 889 [(0, .ref b), (1, .ref (G.2.1 + 0)), (2, .ref (G.2.1 + 47)), (3, .int (nI i))] [] 61 h' (r_gp p' q') z') : r_L G b L xs 204 [(0, .ref b), (1, .ref (G.2.1 + 0)), (2, .ref (G.2.1 + 47)), (3, .int (nI i))] [] 61 h (r_gp p q) z := by
  have hL2 := hL
  refine j_aload_n d_Lw_law_204 rfl rfl ?_
  refine q_Li (s_Lw_law_205 rfl (by decide)) rfl (Nat.le_of_ble_eq_true rfl) (Nat.le_of_ble_eq_true rfl) ?_
  refine c_Ra_fault (d := 2) hC hI.1 (fun h1 p1 q1 y1 C1 => ?_)
  have M1 := hM.mo y1
  refine j_aload_n d_Lw_law_208 rfl rfl ?_
  refine q_Li (s_Lw_law_209 rfl (by decide)) rfl (Nat.le_of_ble_eq_true rfl) (Nat.le_of_ble_eq_true rfl) ?_
  refine c_Mo_fault (d := 2) M1 hI.1 (fun h2 y2 M2 => ?_)
  have C2 := C1.ml y2
  refine j_icmp_eq (tgt := 889) d_Lw_law_212 rfl (fun _ => ?_) (fun e9 => absurd rfl e9)
  exact key _ _ _ _ _ ((show z_I (s_fault Z).2 i from hI).mono (by omega)) C2 M2
set_option maxRecDepth 100000 in
set_option maxHeartbeats 4000000 in
theorem w_law_3 {G : r_X} {b L : Nat} {xs : Nat → Int32} {i : Nat} {Z : a_Z} {h : r_HI} {p q : Nat} {z : r_HL} (hL : L ≤ 2048) (hi : i + 4 ≤ L) (hI : z_I Z i) (hC : p_C h p q Z) (hM : p_M h Z) (key : ∀ (Z' : a_Z) (h' : r_HI) (p' q' : Nat) (z' : r_HL), z_I Z' (i + 4) → p_C h' p' q' Z' → p_M h' Z' → r_L G b L xs 889 [(0, .ref b), (1, .ref (G.2.1 + 0)), (2, .ref (G.2.1 + 47)), (3, .int (nI i))] [] 61 h' (r_gp p' q') z') : r_L G b L xs 217 [(0, .ref b), (1, .ref (G.2.1 + 0)), (2, .ref (G.2.1 + 47)), (3, .int (nI i))] [] 61 h (r_gp p q) z := by
  have hL2 := hL
  refine j_aload_n d_Lw_law_217 rfl rfl ?_
  refine q_Li (s_Lw_law_218 rfl (by decide)) rfl (Nat.le_of_ble_eq_true rfl) (Nat.le_of_ble_eq_true rfl) ?_
  refine c_Ra_plate (d := 2) hC hI.1 (fun h1 p1 q1 y1 C1 => ?_)
  have M1 := hM.mo y1
  refine j_aload_n d_Lw_law_221 rfl rfl ?_
  refine q_Li (s_Lw_law_222 rfl (by decide)) rfl (Nat.le_of_ble_eq_true rfl) (Nat.le_of_ble_eq_true rfl) ?_
  refine c_Mo_plate (d := 2) M1 hI.1 (fun h2 y2 M2 => ?_)
  have C2 := C1.ml y2
  refine j_icmp_eq (tgt := 889) d_Lw_law_225 rfl (fun _ => ?_) (fun e9 => absurd rfl e9)
  exact key _ _ _ _ _ ((zi_plate hI (by omega)).mono (by omega)) C2 M2
set_option maxRecDepth 100000 in
set_option maxHeartbeats 4000000 in
theorem w_law_4 {G : r_X} {b L : Nat} {xs : Nat → Int32} {i : Nat} {Z : a_Z} {h : r_HI} {p q : Nat} {z : r_HL} (hL : L ≤ 2048) (hi : i + 4 ≤ L) (hI : z_I Z i) (hC : p_C h p q Z) (hM : p_M h Z) (key : ∀ (Z' : a_Z) (h' : r_HI) (p' q' : Nat) (z' : r_HL), z_I Z' (i + 4) → p_C h' p' q' Z' → p_M h' Z' → r_L G b L xs 889 [(0, .ref b), (1, .ref (G.2.1 + 0)), (2, .ref (G.2.1 + 47)), (3, .int (nI i))] [] 61 h' (r_gp p' q') z') : r_L G b L xs 230 [(0, .ref b), (1, .ref (G.2.1 + 0)), (2, .ref (G.2.1 + 47)), (3, .int (nI i))] [] 61 h (r_gp p q) z := by
  have hL2 := hL
  refine j_aload_n d_Lw_law_230 rfl rfl ?_
  refine j_aload_n d_Lw_law_231 rfl rfl ?_
  refine j_iload_n d_Lw_law_232 rfl rfl ?_
  refine j_iconst (v := 1) d_Lw_law_233 rfl ?_
  refine j_iadd d_Lw_law_234 ?_
  refine j_sld (j := i + 1) d_Lw_law_235 (nI_add i 1) (by omega) hL ?_
  refine j_aload_n d_Lw_law_236 rfl rfl ?_
  refine j_iload_n d_Lw_law_237 rfl rfl ?_
  refine j_iconst (v := 2) d_Lw_law_238 rfl ?_
  refine j_iadd d_Lw_law_239 ?_
  refine j_sld (j := i + 2) d_Lw_law_240 (nI_add i 2) (by omega) hL ?_
  refine q_Li (s_Lw_law_241 rfl (by decide)) rfl (Nat.le_of_ble_eq_true rfl) (Nat.le_of_ble_eq_true rfl) ?_
  refine c_Ra_ring (d := 2) hC hI.1 ?_
  have C1 := hC
  have M1 := hM
  refine j_aload_n d_Lw_law_244 rfl rfl ?_
  refine j_aload_n d_Lw_law_245 rfl rfl ?_
  refine j_iload_n d_Lw_law_246 rfl rfl ?_
  refine j_iconst (v := 1) d_Lw_law_247 rfl ?_
  refine j_iadd d_Lw_law_248 ?_
  refine j_sld (j := i + 1) d_Lw_law_249 (nI_add i 1) (by omega) hL ?_
  refine j_aload_n d_Lw_law_250 rfl rfl ?_
  refine j_iload_n d_Lw_law_251 rfl rfl ?_
  refine j_iconst (v := 2) d_Lw_law_252 rfl ?_
  refine j_iadd d_Lw_law_253 ?_
  refine j_sld (j := i + 2) d_Lw_law_254 (nI_add i 2) (by omega) hL ?_
  refine q_Li (s_Lw_law_255 rfl (by decide)) rfl (Nat.le_of_ble_eq_true rfl) (Nat.le_of_ble_eq_true rfl) ?_
  refine c_Mo_ring (d := 2) M1 hI.1 (fun h2 y2 => ?_)
  have M2 := M1.scr y2
  have C2 := C1.ml (y2.ml (by decide))
  refine j_icmp_eq (tgt := 889) d_Lw_law_258 rfl (fun _ => ?_) (fun e9 => absurd rfl e9)
  exact key _ _ _ _ _ (hI.mono (by omega)) C2 M2
set_option maxRecDepth 100000 in
set_option maxHeartbeats 4000000 in
theorem w_law_5 {G : r_X} {b L : Nat} {xs : Nat → Int32} {i : Nat} {Z : a_Z} {h : r_HI} {p q : Nat} {z : r_HL} (hL : L ≤ 2048) (hi : i + 4 ≤ L) (hI : z_I Z i) (hC : p_C h p q Z) (hM : p_M h Z) (key : ∀ (Z' : a_Z) (h' : r_HI) (p' q' : Nat) (z' : r_HL), z_I Z' (i + 4) → p_C h' p' q' Z' → p_M h' Z' → r_L G b L xs 889 [(0, .ref b), (1, .ref (G.2.1 + 0)), (2, .ref (G.2.1 + 47)), (3, .int (nI i))] [] 61 h' (r_gp p' q') z') : r_L G b L xs 263 [(0, .ref b), (1, .ref (G.2.1 + 0)), (2, .ref (G.2.1 + 47)), (3, .int (nI i))] [] 61 h (r_gp p q) z := by
  have hL2 := hL
  refine j_aload_n d_Lw_law_263 rfl rfl ?_
  refine j_aload_n d_Lw_law_264 rfl rfl ?_
  refine j_iload_n d_Lw_law_265 rfl rfl ?_
  refine j_iconst (v := 1) d_Lw_law_266 rfl ?_
  refine j_iadd d_Lw_law_267 ?_
  refine j_sld (j := i + 1) d_Lw_law_268 (nI_add i 1) (by omega) hL ?_
  refine j_aload_n d_Lw_law_269 rfl rfl ?_
  refine j_iload_n d_Lw_law_270 rfl rfl ?_
  refine j_iconst (v := 2) d_Lw_law_271 rfl ?_
  refine j_iadd d_Lw_law_272 ?_
  refine j_sld (j := i + 2) d_Lw_law_273 (nI_add i 2) (by omega) hL ?_
  refine q_Li (s_Lw_law_274 rfl (by decide)) rfl (Nat.le_of_ble_eq_true rfl) (Nat.le_of_ble_eq_true rfl) ?_
  refine c_Ra_asked (d := 2) hC hI.1 ?_
  have C1 := hC
  have M1 := hM
  refine j_aload_n d_Lw_law_277 rfl rfl ?_
  refine j_aload_n d_Lw_law_278 rfl rfl ?_
  refine j_iload_n d_Lw_law_279 rfl rfl ?_
  refine j_iconst (v := 1) d_Lw_law_280 rfl ?_
  refine j_iadd d_Lw_law_281 ?_
  refine j_sld (j := i + 1) d_Lw_law_282 (nI_add i 1) (by omega) hL ?_
  refine j_aload_n d_Lw_law_283 rfl rfl ?_
  refine j_iload_n d_Lw_law_284 rfl rfl ?_
  refine j_iconst (v := 2) d_Lw_law_285 rfl ?_
  refine j_iadd d_Lw_law_286 ?_
  refine j_sld (j := i + 2) d_Lw_law_287 (nI_add i 2) (by omega) hL ?_
  refine q_Li (s_Lw_law_288 rfl (by decide)) rfl (Nat.le_of_ble_eq_true rfl) (Nat.le_of_ble_eq_true rfl) ?_
  refine c_Mo_asked (d := 2) M1 hI.1 (fun h2 y2 => ?_)
  have M2 := M1.scr y2
  have C2 := C1.ml (y2.ml (by decide))
  refine j_icmp_eq (tgt := 889) d_Lw_law_291 rfl (fun _ => ?_) (fun e9 => absurd rfl e9)
  exact key _ _ _ _ _ (hI.mono (by omega)) C2 M2
set_option maxRecDepth 100000 in
set_option maxHeartbeats 4000000 in
theorem w_law_6 {G : r_X} {b L : Nat} {xs : Nat → Int32} {i : Nat} {Z : a_Z} {h : r_HI} {p q : Nat} {z : r_HL} (hL : L ≤ 2048) (hi : i + 4 ≤ L) (hI : z_I Z i) (hC : p_C h p q Z) (hM : p_M h Z) (key : ∀ (Z' : a_Z) (h' : r_HI) (p' q' : Nat) (z' : r_HL), z_I Z' (i + 4) → p_C h' p' q' Z' → p_M h' Z' → r_L G b L xs 889 [(0, .ref b), (1, .ref (G.2.1 + 0)), (2, .ref (G.2.1 + 47)), (3, .int (nI i))] [] 61 h' (r_gp p' q') z') : r_L G b L xs 296 [(0, .ref b), (1, .ref (G.2.1 + 0)), (2, .ref (G.2.1 + 47)), (3, .int (nI i))] [] 61 h (r_gp p q) z := by
  have hL2 := hL
  refine j_aload_n d_Lw_law_296 rfl rfl ?_
  refine j_aload_n d_Lw_law_297 rfl rfl ?_
  refine j_iload_n d_Lw_law_298 rfl rfl ?_
  refine j_iconst (v := 1) d_Lw_law_299 rfl ?_
  refine j_iadd d_Lw_law_300 ?_
  refine j_sld (j := i + 1) d_Lw_law_301 (nI_add i 1) (by omega) hL ?_
  refine q_Li (s_Lw_law_302 rfl (by decide)) rfl (Nat.le_of_ble_eq_true rfl) (Nat.le_of_ble_eq_true rfl) ?_
  refine c_Ra_as (d := 2) hC hI.1 ?_
  have C1 := hC
  have M1 := hM
  refine j_aload_n d_Lw_law_305 rfl rfl ?_
  refine j_aload_n d_Lw_law_306 rfl rfl ?_
  refine j_iload_n d_Lw_law_307 rfl rfl ?_
  refine j_iconst (v := 1) d_Lw_law_308 rfl ?_
  refine j_iadd d_Lw_law_309 ?_
  refine j_sld (j := i + 1) d_Lw_law_310 (nI_add i 1) (by omega) hL ?_
  refine q_Li (s_Lw_law_311 rfl (by decide)) rfl (Nat.le_of_ble_eq_true rfl) (Nat.le_of_ble_eq_true rfl) ?_
  refine c_Mo_as (d := 2) M1 hI.1 (fun h2 y2 => ?_)
  have M2 := M1.scr y2
  have C2 := C1.ml (y2.ml (by decide))
  refine j_icmp_eq (tgt := 889) d_Lw_law_314 rfl (fun _ => ?_) (fun e9 => absurd rfl e9)
  exact key _ _ _ _ _ (hI.mono (by omega)) C2 M2
set_option maxRecDepth 100000 in
set_option maxHeartbeats 4000000 in
theorem w_law_7 {G : r_X} {b L : Nat} {xs : Nat → Int32} {i : Nat} {Z : a_Z} {h : r_HI} {p q : Nat} {z : r_HL} (hL : L ≤ 2048) (hi : i + 4 ≤ L) (hI : z_I Z i) (hC : p_C h p q Z) (hM : p_M h Z) (key : ∀ (Z' : a_Z) (h' : r_HI) (p' q' : Nat) (z' : r_HL), z_I Z' (i + 4) → p_C h' p' q' Z' → p_M h' Z' → r_L G b L xs 889 [(0, .ref b), (1, .ref (G.2.1 + 0)), (2, .ref (G.2.1 + 47)), (3, .int (nI i))] [] 61 h' (r_gp p' q') z') : r_L G b L xs 319 [(0, .ref b), (1, .ref (G.2.1 + 0)), (2, .ref (G.2.1 + 47)), (3, .int (nI i))] [] 61 h (r_gp p q) z := by
  have hL2 := hL
  refine j_aload_n d_Lw_law_319 rfl rfl ?_
  refine q_Li (s_Lw_law_320 rfl (by decide)) rfl (Nat.le_of_ble_eq_true rfl) (Nat.le_of_ble_eq_true rfl) ?_
  refine c_Ra_next (d := 2) hC hI.1 ?_
  have C1 := hC
  have M1 := hM
  refine j_aload_n d_Lw_law_323 rfl rfl ?_
  refine q_Li (s_Lw_law_324 rfl (by decide)) rfl (Nat.le_of_ble_eq_true rfl) (Nat.le_of_ble_eq_true rfl) ?_
  refine c_Mo_next (d := 2) M1 hI.1 (fun h2 y2 => ?_)
  have M2 := M1.scr y2
  have C2 := C1.ml (y2.ml (by decide))
  refine j_icmp_eq (tgt := 889) d_Lw_law_327 rfl (fun _ => ?_) (fun e9 => absurd rfl e9)
  exact key _ _ _ _ _ (hI.mono (by omega)) C2 M2
set_option maxRecDepth 100000 in
set_option maxHeartbeats 4000000 in
theorem w_law_8 {G : r_X} {b L : Nat} {xs : Nat → Int32} {i : Nat} {Z : a_Z} {h : r_HI} {p q : Nat} {z : r_HL} (hL : L ≤ 2048) (hi : i + 4 ≤ L) (hI : z_I Z i) (hC : p_C h p q Z) (hM : p_M h Z) (key : ∀ (Z' : a_Z) (h' : r_HI) (p' q' : Nat) (z' : r_HL), z_I Z' (i + 4) → p_C h' p' q' Z' → p_M h' Z' → r_L G b L xs 889 [(0, .ref b), (1, .ref (G.2.1 + 0)), (2, .ref (G.2.1 + 47)), (3, .int (nI i))] [] 61 h' (r_gp p' q') z') : r_L G b L xs 332 [(0, .ref b), (1, .ref (G.2.1 + 0)), (2, .ref (G.2.1 + 47)), (3, .int (nI i))] [] 61 h (r_gp p q) z := by
  have hL2 := hL
  refine j_aload_n d_Lw_law_332 rfl rfl ?_
  refine j_aload_n d_Lw_law_333 rfl rfl ?_
  refine j_iload_n d_Lw_law_334 rfl rfl ?_
  refine j_iconst (v := 1) d_Lw_law_335 rfl ?_
  refine j_iadd d_Lw_law_336 ?_
  refine j_sld (j := i + 1) d_Lw_law_337 (nI_add i 1) (by omega) hL ?_
  refine j_aload_n d_Lw_law_338 rfl rfl ?_
  refine j_iload_n d_Lw_law_339 rfl rfl ?_
  refine j_iconst (v := 2) d_Lw_law_340 rfl ?_
  refine j_iadd d_Lw_law_341 ?_
  refine j_sld (j := i + 2) d_Lw_law_342 (nI_add i 2) (by omega) hL ?_
  refine q_Li (s_Lw_law_343 rfl (by decide)) rfl (Nat.le_of_ble_eq_true rfl) (Nat.le_of_ble_eq_true rfl) ?_
  refine c_Ra_ask (d := 2) hC hI.1 (fun h1 p1 q1 y1 C1 => ?_)
  have M1 := hM.mo y1
  refine j_aload_n d_Lw_law_346 rfl rfl ?_
  refine j_aload_n d_Lw_law_347 rfl rfl ?_
  refine j_iload_n d_Lw_law_348 rfl rfl ?_
  refine j_iconst (v := 1) d_Lw_law_349 rfl ?_
  refine j_iadd d_Lw_law_350 ?_
  refine j_sld (j := i + 1) d_Lw_law_351 (nI_add i 1) (by omega) hL ?_
  refine j_aload_n d_Lw_law_352 rfl rfl ?_
  refine j_iload_n d_Lw_law_353 rfl rfl ?_
  refine j_iconst (v := 2) d_Lw_law_354 rfl ?_
  refine j_iadd d_Lw_law_355 ?_
  refine j_sld (j := i + 2) d_Lw_law_356 (nI_add i 2) (by omega) hL ?_
  refine q_Li (s_Lw_law_357 rfl (by decide)) rfl (Nat.le_of_ble_eq_true rfl) (Nat.le_of_ble_eq_true rfl) ?_
  refine c_Mo_ask (d := 2) M1 hI.1 (fun h2 y2 M2 => ?_)
  have C2 := C1.ml y2
  refine j_icmp_eq (tgt := 889) d_Lw_law_360 rfl (fun _ => ?_) (fun e9 => absurd rfl e9)
  exact key _ _ _ _ _ ((zi_ask hI).mono (by omega)) C2 M2
set_option maxRecDepth 100000 in
set_option maxHeartbeats 4000000 in
theorem w_law_9 {G : r_X} {b L : Nat} {xs : Nat → Int32} {i : Nat} {Z : a_Z} {h : r_HI} {p q : Nat} {z : r_HL} (hL : L ≤ 2048) (hi : i + 4 ≤ L) (hI : z_I Z i) (hC : p_C h p q Z) (hM : p_M h Z) (key : ∀ (Z' : a_Z) (h' : r_HI) (p' q' : Nat) (z' : r_HL), z_I Z' (i + 4) → p_C h' p' q' Z' → p_M h' Z' → r_L G b L xs 889 [(0, .ref b), (1, .ref (G.2.1 + 0)), (2, .ref (G.2.1 + 47)), (3, .int (nI i))] [] 61 h' (r_gp p' q') z') : r_L G b L xs 365 [(0, .ref b), (1, .ref (G.2.1 + 0)), (2, .ref (G.2.1 + 47)), (3, .int (nI i))] [] 61 h (r_gp p q) z := by
  have hL2 := hL
  refine j_aload_n d_Lw_law_365 rfl rfl ?_
  refine q_Li (s_Lw_law_366 rfl (by decide)) rfl (Nat.le_of_ble_eq_true rfl) (Nat.le_of_ble_eq_true rfl) ?_
  refine c_Ra_serve (d := 2) hC hI.1 (fun h1 p1 q1 y1 C1 => ?_)
  have M1 := hM.mo y1
  refine j_aload_n d_Lw_law_369 rfl rfl ?_
  refine q_Li (s_Lw_law_370 rfl (by decide)) rfl (Nat.le_of_ble_eq_true rfl) (Nat.le_of_ble_eq_true rfl) ?_
  refine c_Mo_serve (d := 2) M1 hI.1 (fun h2 y2 M2 => ?_)
  have C2 := C1.ml y2
  refine j_icmp_eq (tgt := 889) d_Lw_law_373 rfl (fun _ => ?_) (fun e9 => absurd rfl e9)
  exact key _ _ _ _ _ ((zi_serve hI).mono (by omega)) C2 M2
set_option maxRecDepth 100000 in
set_option maxHeartbeats 4000000 in
theorem w_law_10 {G : r_X} {b L : Nat} {xs : Nat → Int32} {i : Nat} {Z : a_Z} {h : r_HI} {p q : Nat} {z : r_HL} (hL : L ≤ 2048) (hi : i + 4 ≤ L) (hI : z_I Z i) (hC : p_C h p q Z) (hM : p_M h Z) (key : ∀ (Z' : a_Z) (h' : r_HI) (p' q' : Nat) (z' : r_HL), z_I Z' (i + 4) → p_C h' p' q' Z' → p_M h' Z' → r_L G b L xs 889 [(0, .ref b), (1, .ref (G.2.1 + 0)), (2, .ref (G.2.1 + 47)), (3, .int (nI i))] [] 61 h' (r_gp p' q') z') : r_L G b L xs 378 [(0, .ref b), (1, .ref (G.2.1 + 0)), (2, .ref (G.2.1 + 47)), (3, .int (nI i))] [] 61 h (r_gp p q) z := by
  have hL2 := hL
  refine j_aload_n d_Lw_law_378 rfl rfl ?_
  refine j_aload_n d_Lw_law_379 rfl rfl ?_
  refine j_iload_n d_Lw_law_380 rfl rfl ?_
  refine j_iconst (v := 1) d_Lw_law_381 rfl ?_
  refine j_iadd d_Lw_law_382 ?_
  refine j_sld (j := i + 1) d_Lw_law_383 (nI_add i 1) (by omega) hL ?_
  refine q_Li (s_Lw_law_384 rfl (by decide)) rfl (Nat.le_of_ble_eq_true rfl) (Nat.le_of_ble_eq_true rfl) ?_
  refine c_Ra_read (d := 2) hC hI.1 (fun h1 p1 q1 y1 C1 => ?_)
  have M1 := hM.mo y1
  refine j_aload_n d_Lw_law_387 rfl rfl ?_
  refine j_aload_n d_Lw_law_388 rfl rfl ?_
  refine j_iload_n d_Lw_law_389 rfl rfl ?_
  refine j_iconst (v := 1) d_Lw_law_390 rfl ?_
  refine j_iadd d_Lw_law_391 ?_
  refine j_sld (j := i + 1) d_Lw_law_392 (nI_add i 1) (by omega) hL ?_
  refine q_Li (s_Lw_law_393 rfl (by decide)) rfl (Nat.le_of_ble_eq_true rfl) (Nat.le_of_ble_eq_true rfl) ?_
  refine c_Mo_read (d := 2) M1 hI.1 (fun h2 y2 M2 => ?_)
  have C2 := C1.ml y2
  refine j_icmp_eq (tgt := 889) d_Lw_law_396 rfl (fun _ => ?_) (fun e9 => absurd rfl e9)
  exact key _ _ _ _ _ ((zi_read hI).mono (by omega)) C2 M2
set_option maxRecDepth 100000 in
set_option maxHeartbeats 4000000 in
theorem w_law_11 {G : r_X} {b L : Nat} {xs : Nat → Int32} {i : Nat} {Z : a_Z} {h : r_HI} {p q : Nat} {z : r_HL} (hL : L ≤ 2048) (hi : i + 4 ≤ L) (hI : z_I Z i) (hC : p_C h p q Z) (hM : p_M h Z) (key : ∀ (Z' : a_Z) (h' : r_HI) (p' q' : Nat) (z' : r_HL), z_I Z' (i + 4) → p_C h' p' q' Z' → p_M h' Z' → r_L G b L xs 889 [(0, .ref b), (1, .ref (G.2.1 + 0)), (2, .ref (G.2.1 + 47)), (3, .int (nI i))] [] 61 h' (r_gp p' q') z') : r_L G b L xs 401 [(0, .ref b), (1, .ref (G.2.1 + 0)), (2, .ref (G.2.1 + 47)), (3, .int (nI i))] [] 61 h (r_gp p q) z := by
  have hL2 := hL
  refine j_aload_n d_Lw_law_401 rfl rfl ?_
  refine j_aload_n d_Lw_law_402 rfl rfl ?_
  refine j_iload_n d_Lw_law_403 rfl rfl ?_
  refine j_iconst (v := 1) d_Lw_law_404 rfl ?_
  refine j_iadd d_Lw_law_405 ?_
  refine j_sld (j := i + 1) d_Lw_law_406 (nI_add i 1) (by omega) hL ?_
  refine q_Li (s_Lw_law_407 rfl (by decide)) rfl (Nat.le_of_ble_eq_true rfl) (Nat.le_of_ble_eq_true rfl) ?_
  refine c_Ra_pass (d := 2) hC hI.1 (fun h1 p1 q1 y1 C1 => ?_)
  have M1 := hM.mo y1
  refine j_aload_n d_Lw_law_410 rfl rfl ?_
  refine j_aload_n d_Lw_law_411 rfl rfl ?_
  refine j_iload_n d_Lw_law_412 rfl rfl ?_
  refine j_iconst (v := 1) d_Lw_law_413 rfl ?_
  refine j_iadd d_Lw_law_414 ?_
  refine j_sld (j := i + 1) d_Lw_law_415 (nI_add i 1) (by omega) hL ?_
  refine q_Li (s_Lw_law_416 rfl (by decide)) rfl (Nat.le_of_ble_eq_true rfl) (Nat.le_of_ble_eq_true rfl) ?_
  refine c_Mo_pass (d := 2) M1 hI.1 (fun h2 y2 M2 => ?_)
  have C2 := C1.ml y2
  refine j_icmp_eq (tgt := 889) d_Lw_law_419 rfl (fun _ => ?_) (fun e9 => absurd rfl e9)
  exact key _ _ _ _ _ ((zi_pass hI).mono (by omega)) C2 M2
set_option maxRecDepth 100000 in
set_option maxHeartbeats 4000000 in
theorem w_law_12 {G : r_X} {b L : Nat} {xs : Nat → Int32} {i : Nat} {Z : a_Z} {h : r_HI} {p q : Nat} {z : r_HL} (hL : L ≤ 2048) (hi : i + 4 ≤ L) (hI : z_I Z i) (hC : p_C h p q Z) (hM : p_M h Z) (key : ∀ (Z' : a_Z) (h' : r_HI) (p' q' : Nat) (z' : r_HL), z_I Z' (i + 4) → p_C h' p' q' Z' → p_M h' Z' → r_L G b L xs 889 [(0, .ref b), (1, .ref (G.2.1 + 0)), (2, .ref (G.2.1 + 47)), (3, .int (nI i))] [] 61 h' (r_gp p' q') z') : r_L G b L xs 424 [(0, .ref b), (1, .ref (G.2.1 + 0)), (2, .ref (G.2.1 + 47)), (3, .int (nI i))] [] 61 h (r_gp p q) z := by
  have hL2 := hL
  refine j_aload_n d_Lw_law_424 rfl rfl ?_
  refine j_aload_n d_Lw_law_425 rfl rfl ?_
  refine j_iload_n d_Lw_law_426 rfl rfl ?_
  refine j_iconst (v := 1) d_Lw_law_427 rfl ?_
  refine j_iadd d_Lw_law_428 ?_
  refine j_sld (j := i + 1) d_Lw_law_429 (nI_add i 1) (by omega) hL ?_
  refine q_Li (s_Lw_law_430 rfl (by decide)) rfl (Nat.le_of_ble_eq_true rfl) (Nat.le_of_ble_eq_true rfl) ?_
  refine c_Ra_choose (d := 2) hC hI.1 (fun h1 p1 q1 y1 C1 => ?_)
  have M1 := hM.mo y1
  refine j_aload_n d_Lw_law_433 rfl rfl ?_
  refine j_aload_n d_Lw_law_434 rfl rfl ?_
  refine j_iload_n d_Lw_law_435 rfl rfl ?_
  refine j_iconst (v := 1) d_Lw_law_436 rfl ?_
  refine j_iadd d_Lw_law_437 ?_
  refine j_sld (j := i + 1) d_Lw_law_438 (nI_add i 1) (by omega) hL ?_
  refine q_Li (s_Lw_law_439 rfl (by decide)) rfl (Nat.le_of_ble_eq_true rfl) (Nat.le_of_ble_eq_true rfl) ?_
  refine c_Mo_choose (d := 2) M1 hI.1 (fun h2 y2 M2 => ?_)
  have C2 := C1.ml y2
  refine j_icmp_eq (tgt := 889) d_Lw_law_442 rfl (fun _ => ?_) (fun e9 => absurd rfl e9)
  exact key _ _ _ _ _ ((zi_choose hI).mono (by omega)) C2 M2
set_option maxRecDepth 100000 in
set_option maxHeartbeats 4000000 in
theorem w_law_13 {G : r_X} {b L : Nat} {xs : Nat → Int32} {i : Nat} {Z : a_Z} {h : r_HI} {p q : Nat} {z : r_HL} (hL : L ≤ 2048) (hi : i + 4 ≤ L) (hI : z_I Z i) (hC : p_C h p q Z) (hM : p_M h Z) (key : ∀ (Z' : a_Z) (h' : r_HI) (p' q' : Nat) (z' : r_HL), z_I Z' (i + 4) → p_C h' p' q' Z' → p_M h' Z' → r_L G b L xs 889 [(0, .ref b), (1, .ref (G.2.1 + 0)), (2, .ref (G.2.1 + 47)), (3, .int (nI i))] [] 61 h' (r_gp p' q') z') : r_L G b L xs 447 [(0, .ref b), (1, .ref (G.2.1 + 0)), (2, .ref (G.2.1 + 47)), (3, .int (nI i))] [] 61 h (r_gp p q) z := by
  have hL2 := hL
  refine j_aload_n d_Lw_law_447 rfl rfl ?_
  refine j_aload_n d_Lw_law_448 rfl rfl ?_
  refine j_iload_n d_Lw_law_449 rfl rfl ?_
  refine j_iconst (v := 1) d_Lw_law_450 rfl ?_
  refine j_iadd d_Lw_law_451 ?_
  refine j_sld (j := i + 1) d_Lw_law_452 (nI_add i 1) (by omega) hL ?_
  refine j_aload_n d_Lw_law_453 rfl rfl ?_
  refine j_iload_n d_Lw_law_454 rfl rfl ?_
  refine j_iconst (v := 2) d_Lw_law_455 rfl ?_
  refine j_iadd d_Lw_law_456 ?_
  refine j_sld (j := i + 2) d_Lw_law_457 (nI_add i 2) (by omega) hL ?_
  refine q_Li (s_Lw_law_458 rfl (by decide)) rfl (Nat.le_of_ble_eq_true rfl) (Nat.le_of_ble_eq_true rfl) ?_
  refine c_Ra_skew (d := 2) hC hI.1 (fun h1 p1 q1 y1 C1 => ?_)
  have M1 := hM.mo y1
  refine j_aload_n d_Lw_law_461 rfl rfl ?_
  refine j_aload_n d_Lw_law_462 rfl rfl ?_
  refine j_iload_n d_Lw_law_463 rfl rfl ?_
  refine j_iconst (v := 1) d_Lw_law_464 rfl ?_
  refine j_iadd d_Lw_law_465 ?_
  refine j_sld (j := i + 1) d_Lw_law_466 (nI_add i 1) (by omega) hL ?_
  refine j_aload_n d_Lw_law_467 rfl rfl ?_
  refine j_iload_n d_Lw_law_468 rfl rfl ?_
  refine j_iconst (v := 2) d_Lw_law_469 rfl ?_
  refine j_iadd d_Lw_law_470 ?_
  refine j_sld (j := i + 2) d_Lw_law_471 (nI_add i 2) (by omega) hL ?_
  refine q_Li (s_Lw_law_472 rfl (by decide)) rfl (Nat.le_of_ble_eq_true rfl) (Nat.le_of_ble_eq_true rfl) ?_
  refine c_Mo_skew (d := 2) M1 hI.1 (fun h2 y2 M2 => ?_)
  have C2 := C1.ml y2
  refine j_icmp_eq (tgt := 889) d_Lw_law_475 rfl (fun _ => ?_) (fun e9 => absurd rfl e9)
  exact key _ _ _ _ _ ((zi_skew hI).mono (by omega)) C2 M2
set_option maxRecDepth 100000 in
set_option maxHeartbeats 4000000 in
theorem w_law_14 {G : r_X} {b L : Nat} {xs : Nat → Int32} {i : Nat} {Z : a_Z} {h : r_HI} {p q : Nat} {z : r_HL} (hL : L ≤ 2048) (hi : i + 4 ≤ L) (hI : z_I Z i) (hC : p_C h p q Z) (hM : p_M h Z) (key : ∀ (Z' : a_Z) (h' : r_HI) (p' q' : Nat) (z' : r_HL), z_I Z' (i + 4) → p_C h' p' q' Z' → p_M h' Z' → r_L G b L xs 889 [(0, .ref b), (1, .ref (G.2.1 + 0)), (2, .ref (G.2.1 + 47)), (3, .int (nI i))] [] 61 h' (r_gp p' q') z') : r_L G b L xs 480 [(0, .ref b), (1, .ref (G.2.1 + 0)), (2, .ref (G.2.1 + 47)), (3, .int (nI i))] [] 61 h (r_gp p q) z := by
  have hL2 := hL
  refine j_aload_n d_Lw_law_480 rfl rfl ?_
  refine j_aload_n d_Lw_law_481 rfl rfl ?_
  refine j_iload_n d_Lw_law_482 rfl rfl ?_
  refine j_iconst (v := 1) d_Lw_law_483 rfl ?_
  refine j_iadd d_Lw_law_484 ?_
  refine j_sld (j := i + 1) d_Lw_law_485 (nI_add i 1) (by omega) hL ?_
  refine j_aload_n d_Lw_law_486 rfl rfl ?_
  refine j_iload_n d_Lw_law_487 rfl rfl ?_
  refine j_iconst (v := 2) d_Lw_law_488 rfl ?_
  refine j_iadd d_Lw_law_489 ?_
  refine j_sld (j := i + 2) d_Lw_law_490 (nI_add i 2) (by omega) hL ?_
  refine q_Li (s_Lw_law_491 rfl (by decide)) rfl (Nat.le_of_ble_eq_true rfl) (Nat.le_of_ble_eq_true rfl) ?_
  refine c_Ra_gear (d := 2) hC hI.1 (fun h1 p1 q1 y1 C1 => ?_)
  have M1 := hM.mo y1
  refine j_aload_n d_Lw_law_494 rfl rfl ?_
  refine j_aload_n d_Lw_law_495 rfl rfl ?_
  refine j_iload_n d_Lw_law_496 rfl rfl ?_
  refine j_iconst (v := 1) d_Lw_law_497 rfl ?_
  refine j_iadd d_Lw_law_498 ?_
  refine j_sld (j := i + 1) d_Lw_law_499 (nI_add i 1) (by omega) hL ?_
  refine j_aload_n d_Lw_law_500 rfl rfl ?_
  refine j_iload_n d_Lw_law_501 rfl rfl ?_
  refine j_iconst (v := 2) d_Lw_law_502 rfl ?_
  refine j_iadd d_Lw_law_503 ?_
  refine j_sld (j := i + 2) d_Lw_law_504 (nI_add i 2) (by omega) hL ?_
  refine q_Li (s_Lw_law_505 rfl (by decide)) rfl (Nat.le_of_ble_eq_true rfl) (Nat.le_of_ble_eq_true rfl) ?_
  refine c_Mo_gear (d := 2) M1 hI.1 (fun h2 y2 M2 => ?_)
  have C2 := C1.ml y2
  refine j_icmp_eq (tgt := 889) d_Lw_law_508 rfl (fun _ => ?_) (fun e9 => absurd rfl e9)
  exact key _ _ _ _ _ ((zi_gear hI).mono (by omega)) C2 M2
set_option maxRecDepth 100000 in
set_option maxHeartbeats 4000000 in
theorem w_law_15 {G : r_X} {b L : Nat} {xs : Nat → Int32} {i : Nat} {Z : a_Z} {h : r_HI} {p q : Nat} {z : r_HL} (hL : L ≤ 2048) (hi : i + 4 ≤ L) (hI : z_I Z i) (hC : p_C h p q Z) (hM : p_M h Z) (key : ∀ (Z' : a_Z) (h' : r_HI) (p' q' : Nat) (z' : r_HL), z_I Z' (i + 4) → p_C h' p' q' Z' → p_M h' Z' → r_L G b L xs 889 [(0, .ref b), (1, .ref (G.2.1 + 0)), (2, .ref (G.2.1 + 47)), (3, .int (nI i))] [] 61 h' (r_gp p' q') z') : r_L G b L xs 513 [(0, .ref b), (1, .ref (G.2.1 + 0)), (2, .ref (G.2.1 + 47)), (3, .int (nI i))] [] 61 h (r_gp p q) z := by
  have hL2 := hL
  refine j_aload_n d_Lw_law_513 rfl rfl ?_
  refine j_aload_n d_Lw_law_514 rfl rfl ?_
  refine j_iload_n d_Lw_law_515 rfl rfl ?_
  refine j_iconst (v := 1) d_Lw_law_516 rfl ?_
  refine j_iadd d_Lw_law_517 ?_
  refine j_sld (j := i + 1) d_Lw_law_518 (nI_add i 1) (by omega) hL ?_
  refine j_aload_n d_Lw_law_519 rfl rfl ?_
  refine j_iload_n d_Lw_law_520 rfl rfl ?_
  refine j_iconst (v := 2) d_Lw_law_521 rfl ?_
  refine j_iadd d_Lw_law_522 ?_
  refine j_sld (j := i + 2) d_Lw_law_523 (nI_add i 2) (by omega) hL ?_
  refine q_Li (s_Lw_law_524 rfl (by decide)) rfl (Nat.le_of_ble_eq_true rfl) (Nat.le_of_ble_eq_true rfl) ?_
  refine c_Ra_run (d := 2) hC hI.1 (fun h1 y1 => ?_)
  have C1 := hC.scr y1
  have M1 := hM.mo (r_scr_mo y1)
  refine j_aload_n d_Lw_law_527 rfl rfl ?_
  refine j_aload_n d_Lw_law_528 rfl rfl ?_
  refine j_iload_n d_Lw_law_529 rfl rfl ?_
  refine j_iconst (v := 1) d_Lw_law_530 rfl ?_
  refine j_iadd d_Lw_law_531 ?_
  refine j_sld (j := i + 1) d_Lw_law_532 (nI_add i 1) (by omega) hL ?_
  refine j_aload_n d_Lw_law_533 rfl rfl ?_
  refine j_iload_n d_Lw_law_534 rfl rfl ?_
  refine j_iconst (v := 2) d_Lw_law_535 rfl ?_
  refine j_iadd d_Lw_law_536 ?_
  refine j_sld (j := i + 2) d_Lw_law_537 (nI_add i 2) (by omega) hL ?_
  refine q_Li (s_Lw_law_538 rfl (by decide)) rfl (Nat.le_of_ble_eq_true rfl) (Nat.le_of_ble_eq_true rfl) ?_
  refine c_Mo_run (d := 2) M1 hI.1 (fun h2 y2 => ?_)
  have M2 := M1.scr y2
  have C2 := C1.ml (y2.ml (by decide))
  refine j_icmp_eq (tgt := 889) d_Lw_law_541 rfl (fun _ => ?_) (fun e9 => absurd rfl e9)
  exact key _ _ _ _ _ (hI.mono (by omega)) C2 M2
set_option maxRecDepth 100000 in
set_option maxHeartbeats 4000000 in
theorem w_law_16 {G : r_X} {b L : Nat} {xs : Nat → Int32} {i : Nat} {Z : a_Z} {h : r_HI} {p q : Nat} {z : r_HL} (hL : L ≤ 2048) (hi : i + 4 ≤ L) (hI : z_I Z i) (hC : p_C h p q Z) (hM : p_M h Z) (key : ∀ (Z' : a_Z) (h' : r_HI) (p' q' : Nat) (z' : r_HL), z_I Z' (i + 4) → p_C h' p' q' Z' → p_M h' Z' → r_L G b L xs 889 [(0, .ref b), (1, .ref (G.2.1 + 0)), (2, .ref (G.2.1 + 47)), (3, .int (nI i))] [] 61 h' (r_gp p' q') z') : r_L G b L xs 546 [(0, .ref b), (1, .ref (G.2.1 + 0)), (2, .ref (G.2.1 + 47)), (3, .int (nI i))] [] 61 h (r_gp p q) z := by
  have hL2 := hL
  refine j_aload_n d_Lw_law_546 rfl rfl ?_
  refine j_aload_n d_Lw_law_547 rfl rfl ?_
  refine j_iload_n d_Lw_law_548 rfl rfl ?_
  refine j_iconst (v := 1) d_Lw_law_549 rfl ?_
  refine j_iadd d_Lw_law_550 ?_
  refine j_sld (j := i + 1) d_Lw_law_551 (nI_add i 1) (by omega) hL ?_
  refine q_Li (s_Lw_law_552 rfl (by decide)) rfl (Nat.le_of_ble_eq_true rfl) (Nat.le_of_ble_eq_true rfl) ?_
  refine c_Ra_least (d := 2) hC hI.1 (fun h1 p1 q1 y1 C1 => ?_)
  have M1 := hM.mo y1
  refine j_aload_n d_Lw_law_555 rfl rfl ?_
  refine j_aload_n d_Lw_law_556 rfl rfl ?_
  refine j_iload_n d_Lw_law_557 rfl rfl ?_
  refine j_iconst (v := 1) d_Lw_law_558 rfl ?_
  refine j_iadd d_Lw_law_559 ?_
  refine j_sld (j := i + 1) d_Lw_law_560 (nI_add i 1) (by omega) hL ?_
  refine q_Li (s_Lw_law_561 rfl (by decide)) rfl (Nat.le_of_ble_eq_true rfl) (Nat.le_of_ble_eq_true rfl) ?_
  refine c_Mo_least (d := 2) M1 hI.1 (fun h2 y2 M2 => ?_)
  have C2 := C1.ml y2
  refine j_icmp_eq (tgt := 889) d_Lw_law_564 rfl (fun _ => ?_) (fun e9 => absurd rfl e9)
  exact key _ _ _ _ _ ((zi_least hI).mono (by omega)) C2 M2
set_option maxRecDepth 100000 in
set_option maxHeartbeats 4000000 in
theorem w_law_17 {G : r_X} {b L : Nat} {xs : Nat → Int32} {i : Nat} {Z : a_Z} {h : r_HI} {p q : Nat} {z : r_HL} (hL : L ≤ 2048) (hi : i + 4 ≤ L) (hI : z_I Z i) (hC : p_C h p q Z) (hM : p_M h Z) (key : ∀ (Z' : a_Z) (h' : r_HI) (p' q' : Nat) (z' : r_HL), z_I Z' (i + 4) → p_C h' p' q' Z' → p_M h' Z' → r_L G b L xs 889 [(0, .ref b), (1, .ref (G.2.1 + 0)), (2, .ref (G.2.1 + 47)), (3, .int (nI i))] [] 61 h' (r_gp p' q') z') : r_L G b L xs 569 [(0, .ref b), (1, .ref (G.2.1 + 0)), (2, .ref (G.2.1 + 47)), (3, .int (nI i))] [] 61 h (r_gp p q) z := by
  have hL2 := hL
  refine j_aload_n d_Lw_law_569 rfl rfl ?_
  refine j_aload_n d_Lw_law_570 rfl rfl ?_
  refine j_iload_n d_Lw_law_571 rfl rfl ?_
  refine j_iconst (v := 1) d_Lw_law_572 rfl ?_
  refine j_iadd d_Lw_law_573 ?_
  refine j_sld (j := i + 1) d_Lw_law_574 (nI_add i 1) (by omega) hL ?_
  refine j_aload_n d_Lw_law_575 rfl rfl ?_
  refine j_iload_n d_Lw_law_576 rfl rfl ?_
  refine j_iconst (v := 2) d_Lw_law_577 rfl ?_
  refine j_iadd d_Lw_law_578 ?_
  refine j_sld (j := i + 2) d_Lw_law_579 (nI_add i 2) (by omega) hL ?_
  refine q_Li (s_Lw_law_580 rfl (by decide)) rfl (Nat.le_of_ble_eq_true rfl) (Nat.le_of_ble_eq_true rfl) ?_
  refine c_Ra_weigh (d := 2) hC hI.1 (fun h1 p1 q1 y1 C1 => ?_)
  have M1 := hM.mo y1
  refine j_aload_n d_Lw_law_583 rfl rfl ?_
  refine j_aload_n d_Lw_law_584 rfl rfl ?_
  refine j_iload_n d_Lw_law_585 rfl rfl ?_
  refine j_iconst (v := 1) d_Lw_law_586 rfl ?_
  refine j_iadd d_Lw_law_587 ?_
  refine j_sld (j := i + 1) d_Lw_law_588 (nI_add i 1) (by omega) hL ?_
  refine j_aload_n d_Lw_law_589 rfl rfl ?_
  refine j_iload_n d_Lw_law_590 rfl rfl ?_
  refine j_iconst (v := 2) d_Lw_law_591 rfl ?_
  refine j_iadd d_Lw_law_592 ?_
  refine j_sld (j := i + 2) d_Lw_law_593 (nI_add i 2) (by omega) hL ?_
  refine q_Li (s_Lw_law_594 rfl (by decide)) rfl (Nat.le_of_ble_eq_true rfl) (Nat.le_of_ble_eq_true rfl) ?_
  refine c_Mo_weigh (d := 2) M1 hI.1 (fun h2 y2 M2 => ?_)
  have C2 := C1.ml y2
  refine j_icmp_eq (tgt := 889) d_Lw_law_597 rfl (fun _ => ?_) (fun e9 => absurd rfl e9)
  exact key _ _ _ _ _ ((zi_weigh hI).mono (by omega)) C2 M2
set_option maxRecDepth 100000 in
set_option maxHeartbeats 4000000 in
theorem w_law_18 {G : r_X} {b L : Nat} {xs : Nat → Int32} {i : Nat} {Z : a_Z} {h : r_HI} {p q : Nat} {z : r_HL} (hL : L ≤ 2048) (hi : i + 4 ≤ L) (hI : z_I Z i) (hC : p_C h p q Z) (hM : p_M h Z) (key : ∀ (Z' : a_Z) (h' : r_HI) (p' q' : Nat) (z' : r_HL), z_I Z' (i + 4) → p_C h' p' q' Z' → p_M h' Z' → r_L G b L xs 889 [(0, .ref b), (1, .ref (G.2.1 + 0)), (2, .ref (G.2.1 + 47)), (3, .int (nI i))] [] 61 h' (r_gp p' q') z') : r_L G b L xs 602 [(0, .ref b), (1, .ref (G.2.1 + 0)), (2, .ref (G.2.1 + 47)), (3, .int (nI i))] [] 61 h (r_gp p q) z := by
  have hL2 := hL
  refine j_aload_n d_Lw_law_602 rfl rfl ?_
  refine j_aload_n d_Lw_law_603 rfl rfl ?_
  refine j_iload_n d_Lw_law_604 rfl rfl ?_
  refine j_iconst (v := 1) d_Lw_law_605 rfl ?_
  refine j_iadd d_Lw_law_606 ?_
  refine j_sld (j := i + 1) d_Lw_law_607 (nI_add i 1) (by omega) hL ?_
  refine q_Li (s_Lw_law_608 rfl (by decide)) rfl (Nat.le_of_ble_eq_true rfl) (Nat.le_of_ble_eq_true rfl) ?_
  refine c_Ra_lay (d := 2) hC hI.1 (fun h1 y1 => ?_)
  have C1 := hC.scr y1
  have M1 := hM.mo (r_scr_mo y1)
  refine j_aload_n d_Lw_law_611 rfl rfl ?_
  refine j_aload_n d_Lw_law_612 rfl rfl ?_
  refine j_iload_n d_Lw_law_613 rfl rfl ?_
  refine j_iconst (v := 1) d_Lw_law_614 rfl ?_
  refine j_iadd d_Lw_law_615 ?_
  refine j_sld (j := i + 1) d_Lw_law_616 (nI_add i 1) (by omega) hL ?_
  refine q_Li (s_Lw_law_617 rfl (by decide)) rfl (Nat.le_of_ble_eq_true rfl) (Nat.le_of_ble_eq_true rfl) ?_
  refine c_Mo_lay (d := 2) M1 hI.1 (fun h2 y2 => ?_)
  have M2 := M1.scr y2
  have C2 := C1.ml (y2.ml (by decide))
  refine j_icmp_eq (tgt := 889) d_Lw_law_620 rfl (fun _ => ?_) (fun e9 => absurd rfl e9)
  exact key _ _ _ _ _ (hI.mono (by omega)) C2 M2
set_option maxRecDepth 100000 in
set_option maxHeartbeats 4000000 in
theorem w_law_19 {G : r_X} {b L : Nat} {xs : Nat → Int32} {i : Nat} {Z : a_Z} {h : r_HI} {p q : Nat} {z : r_HL} (hL : L ≤ 2048) (hi : i + 4 ≤ L) (hI : z_I Z i) (hC : p_C h p q Z) (hM : p_M h Z) (key : ∀ (Z' : a_Z) (h' : r_HI) (p' q' : Nat) (z' : r_HL), z_I Z' (i + 4) → p_C h' p' q' Z' → p_M h' Z' → r_L G b L xs 889 [(0, .ref b), (1, .ref (G.2.1 + 0)), (2, .ref (G.2.1 + 47)), (3, .int (nI i))] [] 61 h' (r_gp p' q') z') : r_L G b L xs 625 [(0, .ref b), (1, .ref (G.2.1 + 0)), (2, .ref (G.2.1 + 47)), (3, .int (nI i))] [] 61 h (r_gp p q) z := by
  have hL2 := hL
  refine j_aload_n d_Lw_law_625 rfl rfl ?_
  refine j_aload_n d_Lw_law_626 rfl rfl ?_
  refine j_iload_n d_Lw_law_627 rfl rfl ?_
  refine j_iconst (v := 1) d_Lw_law_628 rfl ?_
  refine j_iadd d_Lw_law_629 ?_
  refine j_sld (j := i + 1) d_Lw_law_630 (nI_add i 1) (by omega) hL ?_
  refine j_aload_n d_Lw_law_631 rfl rfl ?_
  refine j_iload_n d_Lw_law_632 rfl rfl ?_
  refine j_iconst (v := 2) d_Lw_law_633 rfl ?_
  refine j_iadd d_Lw_law_634 ?_
  refine j_sld (j := i + 2) d_Lw_law_635 (nI_add i 2) (by omega) hL ?_
  refine j_aload_n d_Lw_law_636 rfl rfl ?_
  refine j_iload_n d_Lw_law_637 rfl rfl ?_
  refine j_iconst (v := 3) d_Lw_law_638 rfl ?_
  refine j_iadd d_Lw_law_639 ?_
  refine j_sld (j := i + 3) d_Lw_law_640 (nI_add i 3) (by omega) hL ?_
  refine q_Li (s_Lw_law_641 rfl (by decide)) rfl (Nat.le_of_ble_eq_true rfl) (Nat.le_of_ble_eq_true rfl) ?_
  refine c_Ra_behind (d := 2) hC hI.1 ?_
  have C1 := hC
  have M1 := hM
  refine j_aload_n d_Lw_law_644 rfl rfl ?_
  refine j_aload_n d_Lw_law_645 rfl rfl ?_
  refine j_iload_n d_Lw_law_646 rfl rfl ?_
  refine j_iconst (v := 1) d_Lw_law_647 rfl ?_
  refine j_iadd d_Lw_law_648 ?_
  refine j_sld (j := i + 1) d_Lw_law_649 (nI_add i 1) (by omega) hL ?_
  refine j_aload_n d_Lw_law_650 rfl rfl ?_
  refine j_iload_n d_Lw_law_651 rfl rfl ?_
  refine j_iconst (v := 2) d_Lw_law_652 rfl ?_
  refine j_iadd d_Lw_law_653 ?_
  refine j_sld (j := i + 2) d_Lw_law_654 (nI_add i 2) (by omega) hL ?_
  refine j_aload_n d_Lw_law_655 rfl rfl ?_
  refine j_iload_n d_Lw_law_656 rfl rfl ?_
  refine j_iconst (v := 3) d_Lw_law_657 rfl ?_
  refine j_iadd d_Lw_law_658 ?_
  refine j_sld (j := i + 3) d_Lw_law_659 (nI_add i 3) (by omega) hL ?_
  refine q_Li (s_Lw_law_660 rfl (by decide)) rfl (Nat.le_of_ble_eq_true rfl) (Nat.le_of_ble_eq_true rfl) ?_
  refine c_Mo_behind (d := 2) M1 hI.1 (fun h2 y2 => ?_)
  have M2 := M1.scr y2
  have C2 := C1.ml (y2.ml (by decide))
  refine j_icmp_eq (tgt := 889) d_Lw_law_663 rfl (fun _ => ?_) (fun e9 => absurd rfl e9)
  exact key _ _ _ _ _ (hI.mono (by omega)) C2 M2
set_option maxRecDepth 100000 in
set_option maxHeartbeats 4000000 in
theorem w_law_20 {G : r_X} {b L : Nat} {xs : Nat → Int32} {i : Nat} {Z : a_Z} {h : r_HI} {p q : Nat} {z : r_HL} (hL : L ≤ 2048) (hi : i + 4 ≤ L) (hI : z_I Z i) (hC : p_C h p q Z) (hM : p_M h Z) (key : ∀ (Z' : a_Z) (h' : r_HI) (p' q' : Nat) (z' : r_HL), z_I Z' (i + 4) → p_C h' p' q' Z' → p_M h' Z' → r_L G b L xs 889 [(0, .ref b), (1, .ref (G.2.1 + 0)), (2, .ref (G.2.1 + 47)), (3, .int (nI i))] [] 61 h' (r_gp p' q') z') : r_L G b L xs 668 [(0, .ref b), (1, .ref (G.2.1 + 0)), (2, .ref (G.2.1 + 47)), (3, .int (nI i))] [] 61 h (r_gp p q) z := by
  have hL2 := hL
  refine j_aload_n d_Lw_law_668 rfl rfl ?_
  refine j_aload_n d_Lw_law_669 rfl rfl ?_
  refine j_iload_n d_Lw_law_670 rfl rfl ?_
  refine j_iconst (v := 1) d_Lw_law_671 rfl ?_
  refine j_iadd d_Lw_law_672 ?_
  refine j_sld (j := i + 1) d_Lw_law_673 (nI_add i 1) (by omega) hL ?_
  refine j_aload_n d_Lw_law_674 rfl rfl ?_
  refine j_iload_n d_Lw_law_675 rfl rfl ?_
  refine j_iconst (v := 2) d_Lw_law_676 rfl ?_
  refine j_iadd d_Lw_law_677 ?_
  refine j_sld (j := i + 2) d_Lw_law_678 (nI_add i 2) (by omega) hL ?_
  refine j_aload_n d_Lw_law_679 rfl rfl ?_
  refine j_iload_n d_Lw_law_680 rfl rfl ?_
  refine j_iconst (v := 3) d_Lw_law_681 rfl ?_
  refine j_iadd d_Lw_law_682 ?_
  refine j_sld (j := i + 3) d_Lw_law_683 (nI_add i 3) (by omega) hL ?_
  refine q_Li (s_Lw_law_684 rfl (by decide)) rfl (Nat.le_of_ble_eq_true rfl) (Nat.le_of_ble_eq_true rfl) ?_
  refine c_Ra_apart (d := 2) hC hI.1 ?_
  have C1 := hC
  have M1 := hM
  refine j_aload_n d_Lw_law_687 rfl rfl ?_
  refine j_aload_n d_Lw_law_688 rfl rfl ?_
  refine j_iload_n d_Lw_law_689 rfl rfl ?_
  refine j_iconst (v := 1) d_Lw_law_690 rfl ?_
  refine j_iadd d_Lw_law_691 ?_
  refine j_sld (j := i + 1) d_Lw_law_692 (nI_add i 1) (by omega) hL ?_
  refine j_aload_n d_Lw_law_693 rfl rfl ?_
  refine j_iload_n d_Lw_law_694 rfl rfl ?_
  refine j_iconst (v := 2) d_Lw_law_695 rfl ?_
  refine j_iadd d_Lw_law_696 ?_
  refine j_sld (j := i + 2) d_Lw_law_697 (nI_add i 2) (by omega) hL ?_
  refine j_aload_n d_Lw_law_698 rfl rfl ?_
  refine j_iload_n d_Lw_law_699 rfl rfl ?_
  refine j_iconst (v := 3) d_Lw_law_700 rfl ?_
  refine j_iadd d_Lw_law_701 ?_
  refine j_sld (j := i + 3) d_Lw_law_702 (nI_add i 3) (by omega) hL ?_
  refine q_Li (s_Lw_law_703 rfl (by decide)) rfl (Nat.le_of_ble_eq_true rfl) (Nat.le_of_ble_eq_true rfl) ?_
  refine c_Mo_apart (d := 2) M1 hI.1 (fun h2 y2 => ?_)
  have M2 := M1.scr y2
  have C2 := C1.ml (y2.ml (by decide))
  refine j_icmp_eq (tgt := 889) d_Lw_law_706 rfl (fun _ => ?_) (fun e9 => absurd rfl e9)
  exact key _ _ _ _ _ (hI.mono (by omega)) C2 M2
set_option maxRecDepth 100000 in
set_option maxHeartbeats 4000000 in
theorem w_law_21 {G : r_X} {b L : Nat} {xs : Nat → Int32} {i : Nat} {Z : a_Z} {h : r_HI} {p q : Nat} {z : r_HL} (hL : L ≤ 2048) (hi : i + 4 ≤ L) (hI : z_I Z i) (hC : p_C h p q Z) (hM : p_M h Z) (key : ∀ (Z' : a_Z) (h' : r_HI) (p' q' : Nat) (z' : r_HL), z_I Z' (i + 4) → p_C h' p' q' Z' → p_M h' Z' → r_L G b L xs 889 [(0, .ref b), (1, .ref (G.2.1 + 0)), (2, .ref (G.2.1 + 47)), (3, .int (nI i))] [] 61 h' (r_gp p' q') z') : r_L G b L xs 711 [(0, .ref b), (1, .ref (G.2.1 + 0)), (2, .ref (G.2.1 + 47)), (3, .int (nI i))] [] 61 h (r_gp p q) z := by
  have hL2 := hL
  refine j_aload_n d_Lw_law_711 rfl rfl ?_
  refine j_aload_n d_Lw_law_712 rfl rfl ?_
  refine j_iload_n d_Lw_law_713 rfl rfl ?_
  refine j_iconst (v := 1) d_Lw_law_714 rfl ?_
  refine j_iadd d_Lw_law_715 ?_
  refine j_sld (j := i + 1) d_Lw_law_716 (nI_add i 1) (by omega) hL ?_
  refine j_aload_n d_Lw_law_717 rfl rfl ?_
  refine j_iload_n d_Lw_law_718 rfl rfl ?_
  refine j_iconst (v := 2) d_Lw_law_719 rfl ?_
  refine j_iadd d_Lw_law_720 ?_
  refine j_sld (j := i + 2) d_Lw_law_721 (nI_add i 2) (by omega) hL ?_
  refine q_Li (s_Lw_law_722 rfl (by decide)) rfl (Nat.le_of_ble_eq_true rfl) (Nat.le_of_ble_eq_true rfl) ?_
  refine c_Ra_see (d := 2) hC hI.1 (fun h1 p1 q1 y1 C1 => ?_)
  have M1 := hM.mo y1
  refine j_aload_n d_Lw_law_725 rfl rfl ?_
  refine j_aload_n d_Lw_law_726 rfl rfl ?_
  refine j_iload_n d_Lw_law_727 rfl rfl ?_
  refine j_iconst (v := 1) d_Lw_law_728 rfl ?_
  refine j_iadd d_Lw_law_729 ?_
  refine j_sld (j := i + 1) d_Lw_law_730 (nI_add i 1) (by omega) hL ?_
  refine j_aload_n d_Lw_law_731 rfl rfl ?_
  refine j_iload_n d_Lw_law_732 rfl rfl ?_
  refine j_iconst (v := 2) d_Lw_law_733 rfl ?_
  refine j_iadd d_Lw_law_734 ?_
  refine j_sld (j := i + 2) d_Lw_law_735 (nI_add i 2) (by omega) hL ?_
  refine q_Li (s_Lw_law_736 rfl (by decide)) rfl (Nat.le_of_ble_eq_true rfl) (Nat.le_of_ble_eq_true rfl) ?_
  refine c_Mo_see (d := 2) M1 hI.1 (fun h2 y2 M2 => ?_)
  have C2 := C1.ml y2
  refine j_icmp_eq (tgt := 889) d_Lw_law_739 rfl (fun _ => ?_) (fun e9 => absurd rfl e9)
  exact key _ _ _ _ _ ((zi_see hI).mono (by omega)) C2 M2
set_option maxRecDepth 100000 in
set_option maxHeartbeats 4000000 in
theorem w_law_22 {G : r_X} {b L : Nat} {xs : Nat → Int32} {i : Nat} {Z : a_Z} {h : r_HI} {p q : Nat} {z : r_HL} (hL : L ≤ 2048) (hi : i + 4 ≤ L) (hI : z_I Z i) (hC : p_C h p q Z) (hM : p_M h Z) (key : ∀ (Z' : a_Z) (h' : r_HI) (p' q' : Nat) (z' : r_HL), z_I Z' (i + 4) → p_C h' p' q' Z' → p_M h' Z' → r_L G b L xs 889 [(0, .ref b), (1, .ref (G.2.1 + 0)), (2, .ref (G.2.1 + 47)), (3, .int (nI i))] [] 61 h' (r_gp p' q') z') : r_L G b L xs 744 [(0, .ref b), (1, .ref (G.2.1 + 0)), (2, .ref (G.2.1 + 47)), (3, .int (nI i))] [] 61 h (r_gp p q) z := by
  have hL2 := hL
  refine j_aload_n d_Lw_law_744 rfl rfl ?_
  refine q_Li (s_Lw_law_745 rfl (by decide)) rfl (Nat.le_of_ble_eq_true rfl) (Nat.le_of_ble_eq_true rfl) ?_
  refine c_Ra_forget (d := 2) hC hI.1 (fun h1 p1 q1 y1 C1 => ?_)
  have M1 := hM.mo y1
  refine j_aload_n d_Lw_law_748 rfl rfl ?_
  refine q_Li (s_Lw_law_749 rfl (by decide)) rfl (Nat.le_of_ble_eq_true rfl) (Nat.le_of_ble_eq_true rfl) ?_
  refine c_Mo_forget (d := 2) M1 hI.1 (fun h2 y2 M2 => ?_)
  have C2 := C1.ml y2
  refine j_icmp_eq (tgt := 889) d_Lw_law_752 rfl (fun _ => ?_) (fun e9 => absurd rfl e9)
  exact key _ _ _ _ _ ((zi_forget hI).mono (by omega)) C2 M2
set_option maxRecDepth 100000 in
set_option maxHeartbeats 4000000 in
theorem w_law_23 {G : r_X} {b L : Nat} {xs : Nat → Int32} {i : Nat} {Z : a_Z} {h : r_HI} {p q : Nat} {z : r_HL} (hL : L ≤ 2048) (hi : i + 4 ≤ L) (hI : z_I Z i) (hC : p_C h p q Z) (hM : p_M h Z) (key : ∀ (Z' : a_Z) (h' : r_HI) (p' q' : Nat) (z' : r_HL), z_I Z' (i + 4) → p_C h' p' q' Z' → p_M h' Z' → r_L G b L xs 889 [(0, .ref b), (1, .ref (G.2.1 + 0)), (2, .ref (G.2.1 + 47)), (3, .int (nI i))] [] 61 h' (r_gp p' q') z') : r_L G b L xs 757 [(0, .ref b), (1, .ref (G.2.1 + 0)), (2, .ref (G.2.1 + 47)), (3, .int (nI i))] [] 61 h (r_gp p q) z := by
  have hL2 := hL
  refine j_aload_n d_Lw_law_757 rfl rfl ?_
  refine q_Li (s_Lw_law_758 rfl (by decide)) rfl (Nat.le_of_ble_eq_true rfl) (Nat.le_of_ble_eq_true rfl) ?_
  refine c_Ra_steps (d := 2) hC hI.1 ?_
  have C1 := hC
  have M1 := hM
  refine j_aload_n d_Lw_law_761 rfl rfl ?_
  refine q_Li (s_Lw_law_762 rfl (by decide)) rfl (Nat.le_of_ble_eq_true rfl) (Nat.le_of_ble_eq_true rfl) ?_
  refine c_Mo_steps (d := 2) M1 hI.1 (fun h2 y2 => ?_)
  have M2 := M1.scr y2
  have C2 := C1.ml (y2.ml (by decide))
  refine j_icmp_eq (tgt := 889) d_Lw_law_765 rfl (fun _ => ?_) (fun e9 => absurd rfl e9)
  exact key _ _ _ _ _ (hI.mono (by omega)) C2 M2
set_option maxRecDepth 100000 in
set_option maxHeartbeats 4000000 in
theorem w_law_24 {G : r_X} {b L : Nat} {xs : Nat → Int32} {i : Nat} {Z : a_Z} {h : r_HI} {p q : Nat} {z : r_HL} (hL : L ≤ 2048) (hi : i + 4 ≤ L) (hI : z_I Z i) (hC : p_C h p q Z) (hM : p_M h Z) (key : ∀ (Z' : a_Z) (h' : r_HI) (p' q' : Nat) (z' : r_HL), z_I Z' (i + 4) → p_C h' p' q' Z' → p_M h' Z' → r_L G b L xs 889 [(0, .ref b), (1, .ref (G.2.1 + 0)), (2, .ref (G.2.1 + 47)), (3, .int (nI i))] [] 61 h' (r_gp p' q') z') : r_L G b L xs 770 [(0, .ref b), (1, .ref (G.2.1 + 0)), (2, .ref (G.2.1 + 47)), (3, .int (nI i))] [] 61 h (r_gp p q) z := by
  have hL2 := hL
  refine j_aload_n d_Lw_law_770 rfl rfl ?_
  refine q_Li (s_Lw_law_771 rfl (by decide)) rfl (Nat.le_of_ble_eq_true rfl) (Nat.le_of_ble_eq_true rfl) ?_
  refine c_Ra_trial (d := 2) hC hI.1 ?_
  have C1 := hC
  have M1 := hM
  refine j_aload_n d_Lw_law_774 rfl rfl ?_
  refine q_Li (s_Lw_law_775 rfl (by decide)) rfl (Nat.le_of_ble_eq_true rfl) (Nat.le_of_ble_eq_true rfl) ?_
  refine c_Mo_trial (d := 2) M1 hI.1 (fun h2 y2 => ?_)
  have M2 := M1.scr y2
  have C2 := C1.ml (y2.ml (by decide))
  refine j_icmp_eq (tgt := 889) d_Lw_law_778 rfl (fun _ => ?_) (fun e9 => absurd rfl e9)
  exact key _ _ _ _ _ (hI.mono (by omega)) C2 M2
set_option maxRecDepth 100000 in
set_option maxHeartbeats 4000000 in
theorem w_law_25 {G : r_X} {b L : Nat} {xs : Nat → Int32} {i : Nat} {Z : a_Z} {h : r_HI} {p q : Nat} {z : r_HL} (hL : L ≤ 2048) (hi : i + 4 ≤ L) (hI : z_I Z i) (hC : p_C h p q Z) (hM : p_M h Z) (key : ∀ (Z' : a_Z) (h' : r_HI) (p' q' : Nat) (z' : r_HL), z_I Z' (i + 4) → p_C h' p' q' Z' → p_M h' Z' → r_L G b L xs 889 [(0, .ref b), (1, .ref (G.2.1 + 0)), (2, .ref (G.2.1 + 47)), (3, .int (nI i))] [] 61 h' (r_gp p' q') z') : r_L G b L xs 783 [(0, .ref b), (1, .ref (G.2.1 + 0)), (2, .ref (G.2.1 + 47)), (3, .int (nI i))] [] 61 h (r_gp p q) z := by
  have hL2 := hL
  refine j_aload_n d_Lw_law_783 rfl rfl ?_
  refine j_aload_n d_Lw_law_784 rfl rfl ?_
  refine j_iload_n d_Lw_law_785 rfl rfl ?_
  refine j_iconst (v := 1) d_Lw_law_786 rfl ?_
  refine j_iadd d_Lw_law_787 ?_
  refine j_sld (j := i + 1) d_Lw_law_788 (nI_add i 1) (by omega) hL ?_
  refine j_aload_n d_Lw_law_789 rfl rfl ?_
  refine j_iload_n d_Lw_law_790 rfl rfl ?_
  refine j_iconst (v := 2) d_Lw_law_791 rfl ?_
  refine j_iadd d_Lw_law_792 ?_
  refine j_sld (j := i + 2) d_Lw_law_793 (nI_add i 2) (by omega) hL ?_
  refine j_aload_n d_Lw_law_794 rfl rfl ?_
  refine j_iload_n d_Lw_law_795 rfl rfl ?_
  refine j_iconst (v := 3) d_Lw_law_796 rfl ?_
  refine j_iadd d_Lw_law_797 ?_
  refine j_sld (j := i + 3) d_Lw_law_798 (nI_add i 3) (by omega) hL ?_
  refine q_Li (s_Lw_law_799 rfl (by decide)) rfl (Nat.le_of_ble_eq_true rfl) (Nat.le_of_ble_eq_true rfl) ?_
  refine c_Ra_days (d := 2) hC hI.1 (fun h1 y1 => ?_)
  have C1 := hC.scr y1
  have M1 := hM.mo (r_scr_mo y1)
  refine j_aload_n d_Lw_law_802 rfl rfl ?_
  refine j_aload_n d_Lw_law_803 rfl rfl ?_
  refine j_iload_n d_Lw_law_804 rfl rfl ?_
  refine j_iconst (v := 1) d_Lw_law_805 rfl ?_
  refine j_iadd d_Lw_law_806 ?_
  refine j_sld (j := i + 1) d_Lw_law_807 (nI_add i 1) (by omega) hL ?_
  refine j_aload_n d_Lw_law_808 rfl rfl ?_
  refine j_iload_n d_Lw_law_809 rfl rfl ?_
  refine j_iconst (v := 2) d_Lw_law_810 rfl ?_
  refine j_iadd d_Lw_law_811 ?_
  refine j_sld (j := i + 2) d_Lw_law_812 (nI_add i 2) (by omega) hL ?_
  refine j_aload_n d_Lw_law_813 rfl rfl ?_
  refine j_iload_n d_Lw_law_814 rfl rfl ?_
  refine j_iconst (v := 3) d_Lw_law_815 rfl ?_
  refine j_iadd d_Lw_law_816 ?_
  refine j_sld (j := i + 3) d_Lw_law_817 (nI_add i 3) (by omega) hL ?_
  refine q_Li (s_Lw_law_818 rfl (by decide)) rfl (Nat.le_of_ble_eq_true rfl) (Nat.le_of_ble_eq_true rfl) ?_
  refine c_Mo_days (d := 2) M1 hI.1 (fun h2 y2 => ?_)
  have M2 := M1.scr y2
  have C2 := C1.ml (y2.ml (by decide))
  refine j_icmp_eq (tgt := 889) d_Lw_law_821 rfl (fun _ => ?_) (fun e9 => absurd rfl e9)
  exact key _ _ _ _ _ (hI.mono (by omega)) C2 M2
set_option maxRecDepth 100000 in
set_option maxHeartbeats 4000000 in
theorem w_law_26 {G : r_X} {b L : Nat} {xs : Nat → Int32} {i : Nat} {Z : a_Z} {h : r_HI} {p q : Nat} {z : r_HL} (hL : L ≤ 2048) (hi : i + 4 ≤ L) (hI : z_I Z i) (hC : p_C h p q Z) (hM : p_M h Z) (key : ∀ (Z' : a_Z) (h' : r_HI) (p' q' : Nat) (z' : r_HL), z_I Z' (i + 4) → p_C h' p' q' Z' → p_M h' Z' → r_L G b L xs 889 [(0, .ref b), (1, .ref (G.2.1 + 0)), (2, .ref (G.2.1 + 47)), (3, .int (nI i))] [] 61 h' (r_gp p' q') z') : r_L G b L xs 826 [(0, .ref b), (1, .ref (G.2.1 + 0)), (2, .ref (G.2.1 + 47)), (3, .int (nI i))] [] 61 h (r_gp p q) z := by
  have hL2 := hL
  refine j_aload_n d_Lw_law_826 rfl rfl ?_
  refine q_Li (s_Lw_law_827 rfl (by decide)) rfl (Nat.le_of_ble_eq_true rfl) (Nat.le_of_ble_eq_true rfl) ?_
  refine c_Ra_image (d := 2) hC hI.1 (fun h1 p1 q1 y1 C1 => ?_)
  have M1 := hM.mo y1
  refine j_aload_n d_Lw_law_830 rfl rfl ?_
  refine q_Li (s_Lw_law_831 rfl (by decide)) rfl (Nat.le_of_ble_eq_true rfl) (Nat.le_of_ble_eq_true rfl) ?_
  refine c_Mo_image (d := 2) M1 hI.1 (fun h2 y2 M2 => ?_)
  have C2 := C1.ml y2
  refine j_icmp_eq (tgt := 889) d_Lw_law_834 rfl (fun _ => ?_) (fun e9 => absurd rfl e9)
  exact key _ _ _ _ _ ((zi_image hI).mono (by omega)) C2 M2
set_option maxRecDepth 100000 in
set_option maxHeartbeats 4000000 in
theorem w_law_27 {G : r_X} {b L : Nat} {xs : Nat → Int32} {i : Nat} {Z : a_Z} {h : r_HI} {p q : Nat} {z : r_HL} (hL : L ≤ 2048) (hi : i + 4 ≤ L) (hI : z_I Z i) (hC : p_C h p q Z) (hM : p_M h Z) (key : ∀ (Z' : a_Z) (h' : r_HI) (p' q' : Nat) (z' : r_HL), z_I Z' (i + 4) → p_C h' p' q' Z' → p_M h' Z' → r_L G b L xs 889 [(0, .ref b), (1, .ref (G.2.1 + 0)), (2, .ref (G.2.1 + 47)), (3, .int (nI i))] [] 61 h' (r_gp p' q') z') : r_L G b L xs 839 [(0, .ref b), (1, .ref (G.2.1 + 0)), (2, .ref (G.2.1 + 47)), (3, .int (nI i))] [] 61 h (r_gp p q) z := by
  have hL2 := hL
  refine j_aload_n d_Lw_law_839 rfl rfl ?_
  refine q_Li (s_Lw_law_840 rfl (by decide)) rfl (Nat.le_of_ble_eq_true rfl) (Nat.le_of_ble_eq_true rfl) ?_
  refine c_Ra_restore (d := 2) hC hI.1 (fun h1 p1 q1 y1 C1 => ?_)
  have M1 := hM.mo y1
  refine j_aload_n d_Lw_law_843 rfl rfl ?_
  refine q_Li (s_Lw_law_844 rfl (by decide)) rfl (Nat.le_of_ble_eq_true rfl) (Nat.le_of_ble_eq_true rfl) ?_
  refine c_Mo_restore (d := 2) M1 hI.1 (fun h2 y2 M2 => ?_)
  have C2 := C1.ml y2
  refine j_icmp_eq (tgt := 889) d_Lw_law_847 rfl (fun _ => ?_) (fun e9 => absurd rfl e9)
  exact key _ _ _ _ _ ((zi_restore hI).mono (by omega)) C2 M2
set_option maxRecDepth 100000 in
set_option maxHeartbeats 4000000 in
theorem w_law_28 {G : r_X} {b L : Nat} {xs : Nat → Int32} {i : Nat} {Z : a_Z} {h : r_HI} {p q : Nat} {z : r_HL} (hL : L ≤ 2048) (hi : i + 4 ≤ L) (hI : z_I Z i) (hC : p_C h p q Z) (hM : p_M h Z) (key : ∀ (Z' : a_Z) (h' : r_HI) (p' q' : Nat) (z' : r_HL), z_I Z' (i + 4) → p_C h' p' q' Z' → p_M h' Z' → r_L G b L xs 889 [(0, .ref b), (1, .ref (G.2.1 + 0)), (2, .ref (G.2.1 + 47)), (3, .int (nI i))] [] 61 h' (r_gp p' q') z') : r_L G b L xs 852 [(0, .ref b), (1, .ref (G.2.1 + 0)), (2, .ref (G.2.1 + 47)), (3, .int (nI i))] [] 61 h (r_gp p q) z := by
  have hL2 := hL
  refine j_aload_n d_Lw_law_852 rfl rfl ?_
  refine j_aload_n d_Lw_law_853 rfl rfl ?_
  refine j_iload_n d_Lw_law_854 rfl rfl ?_
  refine j_iconst (v := 1) d_Lw_law_855 rfl ?_
  refine j_iadd d_Lw_law_856 ?_
  refine j_sld (j := i + 1) d_Lw_law_857 (nI_add i 1) (by omega) hL ?_
  refine q_Li (s_Lw_law_858 rfl (by decide)) rfl (Nat.le_of_ble_eq_true rfl) (Nat.le_of_ble_eq_true rfl) ?_
  refine c_Ra_count (d := 2) hC hI.1 ?_
  have C1 := hC
  have M1 := hM
  refine j_aload_n d_Lw_law_861 rfl rfl ?_
  refine j_aload_n d_Lw_law_862 rfl rfl ?_
  refine j_iload_n d_Lw_law_863 rfl rfl ?_
  refine j_iconst (v := 1) d_Lw_law_864 rfl ?_
  refine j_iadd d_Lw_law_865 ?_
  refine j_sld (j := i + 1) d_Lw_law_866 (nI_add i 1) (by omega) hL ?_
  refine q_Li (s_Lw_law_867 rfl (by decide)) rfl (Nat.le_of_ble_eq_true rfl) (Nat.le_of_ble_eq_true rfl) ?_
  refine c_Mo_count (d := 2) M1 hI.1 (fun h2 y2 => ?_)
  have M2 := M1.scr y2
  have C2 := C1.ml (y2.ml (by decide))
  refine j_icmp_eq (tgt := 889) d_Lw_law_870 rfl (fun _ => ?_) (fun e9 => absurd rfl e9)
  exact key _ _ _ _ _ (hI.mono (by omega)) C2 M2
set_option maxRecDepth 100000 in
set_option maxHeartbeats 4000000 in
theorem w_law_29 {G : r_X} {b L : Nat} {xs : Nat → Int32} {i : Nat} {Z : a_Z} {h : r_HI} {p q : Nat} {z : r_HL} (hL : L ≤ 2048) (hi : i + 4 ≤ L) (hI : z_I Z i) (hC : p_C h p q Z) (hM : p_M h Z) (key : ∀ (Z' : a_Z) (h' : r_HI) (p' q' : Nat) (z' : r_HL), z_I Z' (i + 4) → p_C h' p' q' Z' → p_M h' Z' → r_L G b L xs 889 [(0, .ref b), (1, .ref (G.2.1 + 0)), (2, .ref (G.2.1 + 47)), (3, .int (nI i))] [] 61 h' (r_gp p' q') z') : r_L G b L xs 875 [(0, .ref b), (1, .ref (G.2.1 + 0)), (2, .ref (G.2.1 + 47)), (3, .int (nI i))] [] 61 h (r_gp p q) z := by
  have hL2 := hL
  refine j_aload_n d_Lw_law_875 rfl rfl ?_
  refine q_Ll (s_Lw_law_876 rfl (by decide)) rfl (Nat.le_of_ble_eq_true rfl) (Nat.le_of_ble_eq_true rfl) ?_
  refine c_Ra_digest (d := 0) hC hI.1 (fun h1 y1 => ?_)
  have C1 := hC.scr y1
  have M1 := hM.mo (r_scr_mo y1)
  refine j_aload_n d_Lw_law_879 rfl rfl ?_
  refine q_Ll (s_Lw_law_880 rfl (by decide)) rfl (Nat.le_of_ble_eq_true rfl) (Nat.le_of_ble_eq_true rfl) ?_
  refine c_Mo_digest (d := 13) M1 hI.1 (fun h2 z2 y2 => ?_)
  have M2 := M1.scr y2
  have C2 := C1.ml (y2.ml (by decide))
  refine j_lcmp d_Lw_law_883 ?_
  refine j_if_eq (tgt := 889) d_Lw_law_884 rfl (fun _ => ?_) (fun e9 => absurd (lg_same _) e9)
  exact key _ _ _ _ _ (hI.mono (by omega)) C2 M2
