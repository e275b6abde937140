/-! the law: its script, its cases -/
def CS (X : XT) (G : GT) (b n : Nat) (xs : Nat → Int32) : Prop := match X with
  | (_, _, _, s, _, _, _, _, _, _, _, _) => va_X b n xs s s.heap ∧ b < s.heap.size ∧ ¬ Aq G b
theorem jl_scr {X : XT} {G : GT} {own : String} {cc : ByteArray} {nL fr lo : Nat} {g : Mem} {L : List (Option Value)} {st : List Value} (pc : Nat) {b n i : Nat} {xs : Nat → Int32} (S : CS X G b n xs) (hi : i < n) (hn : n < 2 ^ 31) (C : CX X G own cc nL fr lo) (hd : decode cc pc = .ok (.iaload, 1)) (k : J X G nL g (pc + 1) L (.int (xs i) :: st)) : J X G nL g pc L (.int (nI i) :: .ref b :: st) := by
  obtain ⟨p, e, R, s, m, args, below, meth, c, Q, cells, slots⟩ := X
  obtain ⟨hx, hb, hml, hown, hts, hE, hc1, hc2, hfr, hlo⟩ := C
  obtain ⟨hX, hbl, hbA⟩ := S
  intro H locs ls hP hS hl
  refine va_sld hx hb hX hbl hbA hS (vp_in_nI hi hn) hd ?_
  rw [show (nI i).toNatClampNeg = i from cl_nI (by omega)]
  exact k H locs ls hP hS hl
theorem j_scl {X : XT} {G : GT} {own : String} {cc : ByteArray} {nL fr lo : Nat} {g : Mem} {L : List (Option Value)} {st : List Value} (pc : Nat) {b n : Nat} {xs : Nat → Int32} (S : CS X G b n xs) (C : CX X G own cc nL fr lo) (hd : decode cc pc = .ok (.arraylength, 1)) (k : J X G nL g (pc + 1) L (.int (nI n) :: st)) : J X G nL g pc L (.ref b :: st) := by
  obtain ⟨p, e, R, s, m, args, below, meth, c, Q, cells, slots⟩ := X
  obtain ⟨hx, hb, hml, hown, hts, hE, hc1, hc2, hfr, hlo⟩ := C
  obtain ⟨hX, hbl, hbA⟩ := S
  intro H locs ls hP hS hl
  exact va_slen hx hb hX hbl hbA hS hd (k H locs ls hP hS hl)
theorem HZ_MP {g g' : Mem} (h : MP g' g) (r : RS g) : HZ g' := by
  intro t ht
  rw [h.1 18 (by decide), h.1 19 (by decide)]
  exact HZ_of r t ht
set_option maxRecDepth 20000 in
theorem lw_word {X : XT} {G : GT} {b Ls : Nat} {xs : Nat → Int32} (C : CX X G RL cL_law 4 13 486) (S : CS X G b Ls xs) {n i : Nat} {g : Mem} (hi : i + 6 ≤ Ls) (hL : Ls ≤ 3072) (hn : n ≤ 511) (hR : REL n g) (k : ∀ g', REL (n + 1) g' → J X G 4 g' 1533 [some (.ref b), some (.ref (xo G)), some (.ref (mo G)), some (.int (nI i))] []) : J X G 4 g 216 [some (.ref b), some (.ref (xo G)), some (.ref (mo G)), some (.int (nI i))] [] := by
  obtain ⟨hS, T, hT, hT1⟩ := hR.2.1
  have hH := hR.2.2.2.2.2.1
  have h31 : T ≤ 31000 := by omega
  refine j_al1 216 C dL_law_216 ?_
  refine j_al0 217 C dL_law_217 ?_
  refine j_il3 218 C dL_law_218 ?_
  refine j_iconst 219 C dL_law_219 ic_1 ?_
  refine j_iadd 220 C dL_law_220 ?_
  refine j_top (nI (i + 1)) (nI_add i 1) ?_
  refine jl_scr 221 S (by omega) (by omega) C dL_law_221 ?_
  refine j_al0 222 C dL_law_222 ?_
  refine j_il3 223 C dL_law_223 ?_
  refine j_iconst 224 C dL_law_224 ic_2 ?_
  refine j_iadd 225 C dL_law_225 ?_
  refine j_top (nI (i + 2)) (nI_add i 2) ?_
  refine jl_scr 226 S (by omega) (by omega) C dL_law_226 ?_
  refine j_al0 227 C dL_law_227 ?_
  refine j_il3 228 C dL_law_228 ?_
  refine j_iconst 229 C dL_law_229 ic_3 ?_
  refine j_iadd 230 C dL_law_230 ?_
  refine j_top (nI (i + 3)) (nI_add i 3) ?_
  refine jl_scr 231 S (by omega) (by omega) C dL_law_231 ?_
  refine j_vi 232 C dL_law_232 mv_X4_word lk_L_13 (c_X4_word hS hT1 h31) rc_x rfl rfl ⟨(Nat.le_of_ble_eq_true rfl), (Nat.le_of_ble_eq_true rfl)⟩ (Nat.le_of_ble_eq_true rfl) (fun r1 g1 hp1 => ?_)
  have hM : MP g1 g := MP_X hp1
  have e12 : g1 12 = g 0 := (hM.1 12 (by decide)).trans hR.1
  refine j_al2 235 C dL_law_235 ?_
  refine j_al0 236 C dL_law_236 ?_
  refine j_il3 237 C dL_law_237 ?_
  refine j_iconst 238 C dL_law_238 ic_1 ?_
  refine j_iadd 239 C dL_law_239 ?_
  refine j_top (nI (i + 1)) (nI_add i 1) ?_
  refine jl_scr 240 S (by omega) (by omega) C dL_law_240 ?_
  refine j_al0 241 C dL_law_241 ?_
  refine j_il3 242 C dL_law_242 ?_
  refine j_iconst 243 C dL_law_243 ic_2 ?_
  refine j_iadd 244 C dL_law_244 ?_
  refine j_top (nI (i + 2)) (nI_add i 2) ?_
  refine jl_scr 245 S (by omega) (by omega) C dL_law_245 ?_
  refine j_al0 246 C dL_law_246 ?_
  refine j_il3 247 C dL_law_247 ?_
  refine j_iconst 248 C dL_law_248 ic_3 ?_
  refine j_iadd 249 C dL_law_249 ?_
  refine j_top (nI (i + 3)) (nI_add i 3) ?_
  refine jl_scr 250 S (by omega) (by omega) C dL_law_250 ?_
  refine j_vi 251 C dL_law_251 mv_X5_word lk_L_17 (c_X5_word (by rw [e12]; exact hS) (T := T) (by rw [e12]; exact hT1) h31) rc_m rfl rfl ⟨(Nat.le_of_ble_eq_true rfl), (Nat.le_of_ble_eq_true rfl)⟩ (Nat.le_of_ble_eq_true rfl) (fun r2 g2 hp2 => ?_)
  rw [e12] at hp2
  obtain ⟨e, hR2⟩ := pr_row hR (gs_word hR.2.1) hp1 hp2
  exact j_iceq 254 1533 C dL_law_254 (by decide) (fun _ => k g2 hR2) (fun q => absurd e q)
set_option maxRecDepth 20000 in
theorem lw_reads {X : XT} {G : GT} {b Ls : Nat} {xs : Nat → Int32} (C : CX X G RL cL_law 4 13 486) (S : CS X G b Ls xs) {n i : Nat} {g : Mem} (hi : i + 6 ≤ Ls) (hL : Ls ≤ 3072) (hn : n ≤ 511) (hR : REL n g) (k : ∀ g', REL (n + 1) g' → J X G 4 g' 1533 [some (.ref b), some (.ref (xo G)), some (.ref (mo G)), some (.int (nI i))] []) : J X G 4 g 259 [some (.ref b), some (.ref (xo G)), some (.ref (mo G)), some (.int (nI i))] [] := by
  obtain ⟨hS, T, hT, hT1⟩ := hR.2.1
  have hH := hR.2.2.2.2.2.1
  have h31 : T ≤ 31000 := by omega
  refine j_al1 259 C dL_law_259 ?_
  refine j_al0 260 C dL_law_260 ?_
  refine j_il3 261 C dL_law_261 ?_
  refine j_iconst 262 C dL_law_262 ic_1 ?_
  refine j_iadd 263 C dL_law_263 ?_
  refine j_top (nI (i + 1)) (nI_add i 1) ?_
  refine jl_scr 264 S (by omega) (by omega) C dL_law_264 ?_
  refine j_al0 265 C dL_law_265 ?_
  refine j_il3 266 C dL_law_266 ?_
  refine j_iconst 267 C dL_law_267 ic_2 ?_
  refine j_iadd 268 C dL_law_268 ?_
  refine j_top (nI (i + 2)) (nI_add i 2) ?_
  refine jl_scr 269 S (by omega) (by omega) C dL_law_269 ?_
  refine j_vi 270 C dL_law_270 mv_X4_reads lk_L_18 (c_X4_reads hS hT1 h31) rc_x rfl rfl ⟨(Nat.le_of_ble_eq_true rfl), (Nat.le_of_ble_eq_true rfl)⟩ (Nat.le_of_ble_eq_true rfl) (fun r1 g1 hp1 => ?_)
  have hM : MP g1 g := MP_X hp1
  have e12 : g1 12 = g 0 := (hM.1 12 (by decide)).trans hR.1
  refine j_al2 273 C dL_law_273 ?_
  refine j_al0 274 C dL_law_274 ?_
  refine j_il3 275 C dL_law_275 ?_
  refine j_iconst 276 C dL_law_276 ic_1 ?_
  refine j_iadd 277 C dL_law_277 ?_
  refine j_top (nI (i + 1)) (nI_add i 1) ?_
  refine jl_scr 278 S (by omega) (by omega) C dL_law_278 ?_
  refine j_al0 279 C dL_law_279 ?_
  refine j_il3 280 C dL_law_280 ?_
  refine j_iconst 281 C dL_law_281 ic_2 ?_
  refine j_iadd 282 C dL_law_282 ?_
  refine j_top (nI (i + 2)) (nI_add i 2) ?_
  refine jl_scr 283 S (by omega) (by omega) C dL_law_283 ?_
  refine j_vi 284 C dL_law_284 mv_X5_reads lk_L_22 (c_X5_reads (by rw [e12]; exact hS) (T := T) (by rw [e12]; exact hT1) h31) rc_m rfl rfl ⟨(Nat.le_of_ble_eq_true rfl), (Nat.le_of_ble_eq_true rfl)⟩ (Nat.le_of_ble_eq_true rfl) (fun r2 g2 hp2 => ?_)
  rw [e12] at hp2
  obtain ⟨e, hR2⟩ := pr_row hR (gs_reads hR.2.1) hp1 hp2
  exact j_iceq 287 1533 C dL_law_287 (by decide) (fun _ => k g2 hR2) (fun q => absurd e q)
set_option maxRecDepth 20000 in
theorem lw_page {X : XT} {G : GT} {b Ls : Nat} {xs : Nat → Int32} (C : CX X G RL cL_law 4 13 486) (S : CS X G b Ls xs) {n i : Nat} {g : Mem} (hi : i + 6 ≤ Ls) (hL : Ls ≤ 3072) (hn : n ≤ 511) (hR : REL n g) (k : ∀ g', REL (n + 1) g' → J X G 4 g' 1533 [some (.ref b), some (.ref (xo G)), some (.ref (mo G)), some (.int (nI i))] []) : J X G 4 g 292 [some (.ref b), some (.ref (xo G)), some (.ref (mo G)), some (.int (nI i))] [] := by
  obtain ⟨hS, T, hT, hT1⟩ := hR.2.1
  have hH := hR.2.2.2.2.2.1
  have h31 : T ≤ 31000 := by omega
  refine j_al1 292 C dL_law_292 ?_
  refine j_al0 293 C dL_law_293 ?_
  refine j_il3 294 C dL_law_294 ?_
  refine j_iconst 295 C dL_law_295 ic_1 ?_
  refine j_iadd 296 C dL_law_296 ?_
  refine j_top (nI (i + 1)) (nI_add i 1) ?_
  refine jl_scr 297 S (by omega) (by omega) C dL_law_297 ?_
  refine j_al0 298 C dL_law_298 ?_
  refine j_il3 299 C dL_law_299 ?_
  refine j_iconst 300 C dL_law_300 ic_2 ?_
  refine j_iadd 301 C dL_law_301 ?_
  refine j_top (nI (i + 2)) (nI_add i 2) ?_
  refine jl_scr 302 S (by omega) (by omega) C dL_law_302 ?_
  refine j_vi 303 C dL_law_303 mv_X4_page lk_L_23 (c_X4_page hS hT1 h31) rc_x rfl rfl ⟨(Nat.le_of_ble_eq_true rfl), (Nat.le_of_ble_eq_true rfl)⟩ (Nat.le_of_ble_eq_true rfl) (fun r1 g1 hp1 => ?_)
  have hM : MP g1 g := MP_X hp1
  have e12 : g1 12 = g 0 := (hM.1 12 (by decide)).trans hR.1
  refine j_al2 306 C dL_law_306 ?_
  refine j_al0 307 C dL_law_307 ?_
  refine j_il3 308 C dL_law_308 ?_
  refine j_iconst 309 C dL_law_309 ic_1 ?_
  refine j_iadd 310 C dL_law_310 ?_
  refine j_top (nI (i + 1)) (nI_add i 1) ?_
  refine jl_scr 311 S (by omega) (by omega) C dL_law_311 ?_
  refine j_al0 312 C dL_law_312 ?_
  refine j_il3 313 C dL_law_313 ?_
  refine j_iconst 314 C dL_law_314 ic_2 ?_
  refine j_iadd 315 C dL_law_315 ?_
  refine j_top (nI (i + 2)) (nI_add i 2) ?_
  refine jl_scr 316 S (by omega) (by omega) C dL_law_316 ?_
  refine j_vi 317 C dL_law_317 mv_X5_page lk_L_26 (c_X5_page (by rw [e12]; exact hS) (T := T) (by rw [e12]; exact hT1) h31) rc_m rfl rfl ⟨(Nat.le_of_ble_eq_true rfl), (Nat.le_of_ble_eq_true rfl)⟩ (Nat.le_of_ble_eq_true rfl) (fun r2 g2 hp2 => ?_)
  rw [e12] at hp2
  obtain ⟨e, hR2⟩ := pr_row hR (gs_page hR.2.1) hp1 hp2
  exact j_iceq 320 1533 C dL_law_320 (by decide) (fun _ => k g2 hR2) (fun q => absurd e q)
set_option maxRecDepth 20000 in
theorem lw_copied {X : XT} {G : GT} {b Ls : Nat} {xs : Nat → Int32} (C : CX X G RL cL_law 4 13 486) (S : CS X G b Ls xs) {n i : Nat} {g : Mem} (hi : i + 6 ≤ Ls) (hL : Ls ≤ 3072) (hn : n ≤ 511) (hR : REL n g) (k : ∀ g', REL (n + 1) g' → J X G 4 g' 1533 [some (.ref b), some (.ref (xo G)), some (.ref (mo G)), some (.int (nI i))] []) : J X G 4 g 325 [some (.ref b), some (.ref (xo G)), some (.ref (mo G)), some (.int (nI i))] [] := by
  obtain ⟨hS, T, hT, hT1⟩ := hR.2.1
  have hH := hR.2.2.2.2.2.1
  have h31 : T ≤ 31000 := by omega
  refine j_al1 325 C dL_law_325 ?_
  refine j_al0 326 C dL_law_326 ?_
  refine j_il3 327 C dL_law_327 ?_
  refine j_iconst 328 C dL_law_328 ic_1 ?_
  refine j_iadd 329 C dL_law_329 ?_
  refine j_top (nI (i + 1)) (nI_add i 1) ?_
  refine jl_scr 330 S (by omega) (by omega) C dL_law_330 ?_
  refine j_al0 331 C dL_law_331 ?_
  refine j_il3 332 C dL_law_332 ?_
  refine j_iconst 333 C dL_law_333 ic_2 ?_
  refine j_iadd 334 C dL_law_334 ?_
  refine j_top (nI (i + 2)) (nI_add i 2) ?_
  refine jl_scr 335 S (by omega) (by omega) C dL_law_335 ?_
  refine j_vi 336 C dL_law_336 mv_X4_copied lk_L_27 (c_X4_copied hS hT1 h31) rc_x rfl rfl ⟨(Nat.le_of_ble_eq_true rfl), (Nat.le_of_ble_eq_true rfl)⟩ (Nat.le_of_ble_eq_true rfl) (fun r1 g1 hp1 => ?_)
  have hM : MP g1 g := MP_X hp1
  have e12 : g1 12 = g 0 := (hM.1 12 (by decide)).trans hR.1
  refine j_al2 339 C dL_law_339 ?_
  refine j_al0 340 C dL_law_340 ?_
  refine j_il3 341 C dL_law_341 ?_
  refine j_iconst 342 C dL_law_342 ic_1 ?_
  refine j_iadd 343 C dL_law_343 ?_
  refine j_top (nI (i + 1)) (nI_add i 1) ?_
  refine jl_scr 344 S (by omega) (by omega) C dL_law_344 ?_
  refine j_al0 345 C dL_law_345 ?_
  refine j_il3 346 C dL_law_346 ?_
  refine j_iconst 347 C dL_law_347 ic_2 ?_
  refine j_iadd 348 C dL_law_348 ?_
  refine j_top (nI (i + 2)) (nI_add i 2) ?_
  refine jl_scr 349 S (by omega) (by omega) C dL_law_349 ?_
  refine j_vi 350 C dL_law_350 mv_X5_copied lk_L_30 (c_X5_copied (by rw [e12]; exact hS) (T := T) (by rw [e12]; exact hT1) h31) rc_m rfl rfl ⟨(Nat.le_of_ble_eq_true rfl), (Nat.le_of_ble_eq_true rfl)⟩ (Nat.le_of_ble_eq_true rfl) (fun r2 g2 hp2 => ?_)
  rw [e12] at hp2
  obtain ⟨e, hR2⟩ := pr_row hR (gs_copied hR.2.1) hp1 hp2
  exact j_iceq 353 1533 C dL_law_353 (by decide) (fun _ => k g2 hR2) (fun q => absurd e q)
set_option maxRecDepth 20000 in
theorem lw_moth {X : XT} {G : GT} {b Ls : Nat} {xs : Nat → Int32} (C : CX X G RL cL_law 4 13 486) (S : CS X G b Ls xs) {n i : Nat} {g : Mem} (hi : i + 6 ≤ Ls) (hL : Ls ≤ 3072) (hn : n ≤ 511) (hR : REL n g) (k : ∀ g', REL (n + 1) g' → J X G 4 g' 1533 [some (.ref b), some (.ref (xo G)), some (.ref (mo G)), some (.int (nI i))] []) : J X G 4 g 358 [some (.ref b), some (.ref (xo G)), some (.ref (mo G)), some (.int (nI i))] [] := by
  obtain ⟨hS, T, hT, hT1⟩ := hR.2.1
  have hH := hR.2.2.2.2.2.1
  have h31 : T ≤ 31000 := by omega
  refine j_al1 358 C dL_law_358 ?_
  refine j_al0 359 C dL_law_359 ?_
  refine j_il3 360 C dL_law_360 ?_
  refine j_iconst 361 C dL_law_361 ic_1 ?_
  refine j_iadd 362 C dL_law_362 ?_
  refine j_top (nI (i + 1)) (nI_add i 1) ?_
  refine jl_scr 363 S (by omega) (by omega) C dL_law_363 ?_
  refine j_al0 364 C dL_law_364 ?_
  refine j_il3 365 C dL_law_365 ?_
  refine j_iconst 366 C dL_law_366 ic_2 ?_
  refine j_iadd 367 C dL_law_367 ?_
  refine j_top (nI (i + 2)) (nI_add i 2) ?_
  refine jl_scr 368 S (by omega) (by omega) C dL_law_368 ?_
  refine j_vi 369 C dL_law_369 mv_X4_moth lk_L_31 (c_X4_moth hS hT1 h31) rc_x rfl rfl ⟨(Nat.le_of_ble_eq_true rfl), (Nat.le_of_ble_eq_true rfl)⟩ (Nat.le_of_ble_eq_true rfl) (fun r1 g1 hp1 => ?_)
  have hM : MP g1 g := MP_X hp1
  have e12 : g1 12 = g 0 := (hM.1 12 (by decide)).trans hR.1
  refine j_al2 372 C dL_law_372 ?_
  refine j_al0 373 C dL_law_373 ?_
  refine j_il3 374 C dL_law_374 ?_
  refine j_iconst 375 C dL_law_375 ic_1 ?_
  refine j_iadd 376 C dL_law_376 ?_
  refine j_top (nI (i + 1)) (nI_add i 1) ?_
  refine jl_scr 377 S (by omega) (by omega) C dL_law_377 ?_
  refine j_al0 378 C dL_law_378 ?_
  refine j_il3 379 C dL_law_379 ?_
  refine j_iconst 380 C dL_law_380 ic_2 ?_
  refine j_iadd 381 C dL_law_381 ?_
  refine j_top (nI (i + 2)) (nI_add i 2) ?_
  refine jl_scr 382 S (by omega) (by omega) C dL_law_382 ?_
  refine j_vi 383 C dL_law_383 mv_X5_moth lk_L_34 (c_X5_moth (by rw [e12]; exact hS) (T := T) (by rw [e12]; exact hT1) h31) rc_m rfl rfl ⟨(Nat.le_of_ble_eq_true rfl), (Nat.le_of_ble_eq_true rfl)⟩ (Nat.le_of_ble_eq_true rfl) (fun r2 g2 hp2 => ?_)
  rw [e12] at hp2
  obtain ⟨e, hR2⟩ := pr_row hR (gs_moth hR.2.1) hp1 hp2
  exact j_iceq 386 1533 C dL_law_386 (by decide) (fun _ => k g2 hR2) (fun q => absurd e q)
set_option maxRecDepth 20000 in
theorem lw_of {X : XT} {G : GT} {b Ls : Nat} {xs : Nat → Int32} (C : CX X G RL cL_law 4 13 486) (S : CS X G b Ls xs) {n i : Nat} {g : Mem} (hi : i + 6 ≤ Ls) (hL : Ls ≤ 3072) (hn : n ≤ 511) (hR : REL n g) (k : ∀ g', REL (n + 1) g' → J X G 4 g' 1533 [some (.ref b), some (.ref (xo G)), some (.ref (mo G)), some (.int (nI i))] []) : J X G 4 g 391 [some (.ref b), some (.ref (xo G)), some (.ref (mo G)), some (.int (nI i))] [] := by
  obtain ⟨hS, T, hT, hT1⟩ := hR.2.1
  have hH := hR.2.2.2.2.2.1
  have h31 : T ≤ 31000 := by omega
  refine j_al1 391 C dL_law_391 ?_
  refine j_al0 392 C dL_law_392 ?_
  refine j_il3 393 C dL_law_393 ?_
  refine j_iconst 394 C dL_law_394 ic_1 ?_
  refine j_iadd 395 C dL_law_395 ?_
  refine j_top (nI (i + 1)) (nI_add i 1) ?_
  refine jl_scr 396 S (by omega) (by omega) C dL_law_396 ?_
  refine j_al0 397 C dL_law_397 ?_
  refine j_il3 398 C dL_law_398 ?_
  refine j_iconst 399 C dL_law_399 ic_2 ?_
  refine j_iadd 400 C dL_law_400 ?_
  refine j_top (nI (i + 2)) (nI_add i 2) ?_
  refine jl_scr 401 S (by omega) (by omega) C dL_law_401 ?_
  refine j_vi 402 C dL_law_402 mv_X4_of lk_L_35 (c_X4_of hS hT1 h31) rc_x rfl rfl ⟨(Nat.le_of_ble_eq_true rfl), (Nat.le_of_ble_eq_true rfl)⟩ (Nat.le_of_ble_eq_true rfl) (fun r1 g1 hp1 => ?_)
  have hM : MP g1 g := MP_X hp1
  have e12 : g1 12 = g 0 := (hM.1 12 (by decide)).trans hR.1
  refine j_al2 405 C dL_law_405 ?_
  refine j_al0 406 C dL_law_406 ?_
  refine j_il3 407 C dL_law_407 ?_
  refine j_iconst 408 C dL_law_408 ic_1 ?_
  refine j_iadd 409 C dL_law_409 ?_
  refine j_top (nI (i + 1)) (nI_add i 1) ?_
  refine jl_scr 410 S (by omega) (by omega) C dL_law_410 ?_
  refine j_al0 411 C dL_law_411 ?_
  refine j_il3 412 C dL_law_412 ?_
  refine j_iconst 413 C dL_law_413 ic_2 ?_
  refine j_iadd 414 C dL_law_414 ?_
  refine j_top (nI (i + 2)) (nI_add i 2) ?_
  refine jl_scr 415 S (by omega) (by omega) C dL_law_415 ?_
  refine j_vi 416 C dL_law_416 mv_X5_of lk_L_38 (c_X5_of (by rw [e12]; exact hS) (T := T) (by rw [e12]; exact hT1) h31) rc_m rfl rfl ⟨(Nat.le_of_ble_eq_true rfl), (Nat.le_of_ble_eq_true rfl)⟩ (Nat.le_of_ble_eq_true rfl) (fun r2 g2 hp2 => ?_)
  rw [e12] at hp2
  obtain ⟨e, hR2⟩ := pr_row hR (gs_of hR.2.1) hp1 hp2
  exact j_iceq 419 1533 C dL_law_419 (by decide) (fun _ => k g2 hR2) (fun q => absurd e q)
set_option maxRecDepth 20000 in
theorem lw_change {X : XT} {G : GT} {b Ls : Nat} {xs : Nat → Int32} (C : CX X G RL cL_law 4 13 486) (S : CS X G b Ls xs) {n i : Nat} {g : Mem} (hi : i + 6 ≤ Ls) (hL : Ls ≤ 3072) (hn : n ≤ 511) (hR : REL n g) (k : ∀ g', REL (n + 1) g' → J X G 4 g' 1533 [some (.ref b), some (.ref (xo G)), some (.ref (mo G)), some (.int (nI i))] []) : J X G 4 g 424 [some (.ref b), some (.ref (xo G)), some (.ref (mo G)), some (.int (nI i))] [] := by
  obtain ⟨hS, T, hT, hT1⟩ := hR.2.1
  have hH := hR.2.2.2.2.2.1
  have h31 : T ≤ 31000 := by omega
  refine j_al1 424 C dL_law_424 ?_
  refine j_al0 425 C dL_law_425 ?_
  refine j_il3 426 C dL_law_426 ?_
  refine j_iconst 427 C dL_law_427 ic_1 ?_
  refine j_iadd 428 C dL_law_428 ?_
  refine j_top (nI (i + 1)) (nI_add i 1) ?_
  refine jl_scr 429 S (by omega) (by omega) C dL_law_429 ?_
  refine j_al0 430 C dL_law_430 ?_
  refine j_il3 431 C dL_law_431 ?_
  refine j_iconst 432 C dL_law_432 ic_2 ?_
  refine j_iadd 433 C dL_law_433 ?_
  refine j_top (nI (i + 2)) (nI_add i 2) ?_
  refine jl_scr 434 S (by omega) (by omega) C dL_law_434 ?_
  refine j_al0 435 C dL_law_435 ?_
  refine j_il3 436 C dL_law_436 ?_
  refine j_iconst 437 C dL_law_437 ic_3 ?_
  refine j_iadd 438 C dL_law_438 ?_
  refine j_top (nI (i + 3)) (nI_add i 3) ?_
  refine jl_scr 439 S (by omega) (by omega) C dL_law_439 ?_
  refine j_vi 440 C dL_law_440 mv_X4_change lk_L_39 (c_X4_change hS hT1 h31) rc_x rfl rfl ⟨(Nat.le_of_ble_eq_true rfl), (Nat.le_of_ble_eq_true rfl)⟩ (Nat.le_of_ble_eq_true rfl) (fun r1 g1 hp1 => ?_)
  have hM : MP g1 g := MP_X hp1
  have e12 : g1 12 = g 0 := (hM.1 12 (by decide)).trans hR.1
  refine j_al2 443 C dL_law_443 ?_
  refine j_al0 444 C dL_law_444 ?_
  refine j_il3 445 C dL_law_445 ?_
  refine j_iconst 446 C dL_law_446 ic_1 ?_
  refine j_iadd 447 C dL_law_447 ?_
  refine j_top (nI (i + 1)) (nI_add i 1) ?_
  refine jl_scr 448 S (by omega) (by omega) C dL_law_448 ?_
  refine j_al0 449 C dL_law_449 ?_
  refine j_il3 450 C dL_law_450 ?_
  refine j_iconst 451 C dL_law_451 ic_2 ?_
  refine j_iadd 452 C dL_law_452 ?_
  refine j_top (nI (i + 2)) (nI_add i 2) ?_
  refine jl_scr 453 S (by omega) (by omega) C dL_law_453 ?_
  refine j_al0 454 C dL_law_454 ?_
  refine j_il3 455 C dL_law_455 ?_
  refine j_iconst 456 C dL_law_456 ic_3 ?_
  refine j_iadd 457 C dL_law_457 ?_
  refine j_top (nI (i + 3)) (nI_add i 3) ?_
  refine jl_scr 458 S (by omega) (by omega) C dL_law_458 ?_
  refine j_vi 459 C dL_law_459 mv_X5_change lk_L_42 (c_X5_change (by rw [e12]; exact hS) (T := T) (by rw [e12]; exact hT1) h31) rc_m rfl rfl ⟨(Nat.le_of_ble_eq_true rfl), (Nat.le_of_ble_eq_true rfl)⟩ (Nat.le_of_ble_eq_true rfl) (fun r2 g2 hp2 => ?_)
  rw [e12] at hp2
  obtain ⟨e, hR2⟩ := pr_row hR (gs_change hR.2.1) hp1 hp2
  exact j_iceq 462 1533 C dL_law_462 (by decide) (fun _ => k g2 hR2) (fun q => absurd e q)
set_option maxRecDepth 20000 in
theorem lw_leaves {X : XT} {G : GT} {b Ls : Nat} {xs : Nat → Int32} (C : CX X G RL cL_law 4 13 486) (S : CS X G b Ls xs) {n i : Nat} {g : Mem} (hi : i + 6 ≤ Ls) (hL : Ls ≤ 3072) (hn : n ≤ 511) (hR : REL n g) (k : ∀ g', REL (n + 1) g' → J X G 4 g' 1533 [some (.ref b), some (.ref (xo G)), some (.ref (mo G)), some (.int (nI i))] []) : J X G 4 g 467 [some (.ref b), some (.ref (xo G)), some (.ref (mo G)), some (.int (nI i))] [] := by
  obtain ⟨hS, T, hT, hT1⟩ := hR.2.1
  have hH := hR.2.2.2.2.2.1
  have h31 : T ≤ 31000 := by omega
  refine j_al1 467 C dL_law_467 ?_
  refine j_al0 468 C dL_law_468 ?_
  refine j_il3 469 C dL_law_469 ?_
  refine j_iconst 470 C dL_law_470 ic_1 ?_
  refine j_iadd 471 C dL_law_471 ?_
  refine j_top (nI (i + 1)) (nI_add i 1) ?_
  refine jl_scr 472 S (by omega) (by omega) C dL_law_472 ?_
  refine j_al0 473 C dL_law_473 ?_
  refine j_il3 474 C dL_law_474 ?_
  refine j_iconst 475 C dL_law_475 ic_2 ?_
  refine j_iadd 476 C dL_law_476 ?_
  refine j_top (nI (i + 2)) (nI_add i 2) ?_
  refine jl_scr 477 S (by omega) (by omega) C dL_law_477 ?_
  refine j_al0 478 C dL_law_478 ?_
  refine j_il3 479 C dL_law_479 ?_
  refine j_iconst 480 C dL_law_480 ic_3 ?_
  refine j_iadd 481 C dL_law_481 ?_
  refine j_top (nI (i + 3)) (nI_add i 3) ?_
  refine jl_scr 482 S (by omega) (by omega) C dL_law_482 ?_
  refine j_vi 483 C dL_law_483 mv_X4_leaves lk_L_43 (c_X4_leaves hS hT1 h31) rc_x rfl rfl ⟨(Nat.le_of_ble_eq_true rfl), (Nat.le_of_ble_eq_true rfl)⟩ (Nat.le_of_ble_eq_true rfl) (fun r1 g1 hp1 => ?_)
  have hM : MP g1 g := MP_X hp1
  have e12 : g1 12 = g 0 := (hM.1 12 (by decide)).trans hR.1
  refine j_al2 486 C dL_law_486 ?_
  refine j_al0 487 C dL_law_487 ?_
  refine j_il3 488 C dL_law_488 ?_
  refine j_iconst 489 C dL_law_489 ic_1 ?_
  refine j_iadd 490 C dL_law_490 ?_
  refine j_top (nI (i + 1)) (nI_add i 1) ?_
  refine jl_scr 491 S (by omega) (by omega) C dL_law_491 ?_
  refine j_al0 492 C dL_law_492 ?_
  refine j_il3 493 C dL_law_493 ?_
  refine j_iconst 494 C dL_law_494 ic_2 ?_
  refine j_iadd 495 C dL_law_495 ?_
  refine j_top (nI (i + 2)) (nI_add i 2) ?_
  refine jl_scr 496 S (by omega) (by omega) C dL_law_496 ?_
  refine j_al0 497 C dL_law_497 ?_
  refine j_il3 498 C dL_law_498 ?_
  refine j_iconst 499 C dL_law_499 ic_3 ?_
  refine j_iadd 500 C dL_law_500 ?_
  refine j_top (nI (i + 3)) (nI_add i 3) ?_
  refine jl_scr 501 S (by omega) (by omega) C dL_law_501 ?_
  refine j_vi 502 C dL_law_502 mv_X5_leaves lk_L_46 (c_X5_leaves (by rw [e12]; exact hS) (T := T) (by rw [e12]; exact hT1) h31) rc_m rfl rfl ⟨(Nat.le_of_ble_eq_true rfl), (Nat.le_of_ble_eq_true rfl)⟩ (Nat.le_of_ble_eq_true rfl) (fun r2 g2 hp2 => ?_)
  rw [e12] at hp2
  obtain ⟨e, hR2⟩ := pr_row hR (gs_leaves hR.2.1) hp1 hp2
  exact j_iceq 505 1533 C dL_law_505 (by decide) (fun _ => k g2 hR2) (fun q => absurd e q)
set_option maxRecDepth 20000 in
theorem lw_go {X : XT} {G : GT} {b Ls : Nat} {xs : Nat → Int32} (C : CX X G RL cL_law 4 13 486) (S : CS X G b Ls xs) {n i : Nat} {g : Mem} (hi : i + 6 ≤ Ls) (hL : Ls ≤ 3072) (hn : n ≤ 511) (hR : REL n g) (k : ∀ g', REL (n + 1) g' → J X G 4 g' 1533 [some (.ref b), some (.ref (xo G)), some (.ref (mo G)), some (.int (nI i))] []) : J X G 4 g 510 [some (.ref b), some (.ref (xo G)), some (.ref (mo G)), some (.int (nI i))] [] := by
  obtain ⟨hS, T, hT, hT1⟩ := hR.2.1
  have hH := hR.2.2.2.2.2.1
  have h31 : T ≤ 31000 := by omega
  refine j_al1 510 C dL_law_510 ?_
  refine j_al0 511 C dL_law_511 ?_
  refine j_il3 512 C dL_law_512 ?_
  refine j_iconst 513 C dL_law_513 ic_1 ?_
  refine j_iadd 514 C dL_law_514 ?_
  refine j_top (nI (i + 1)) (nI_add i 1) ?_
  refine jl_scr 515 S (by omega) (by omega) C dL_law_515 ?_
  refine j_vi 516 C dL_law_516 mv_X4_go lk_L_47 (c_X4_go hS hT1 h31) rc_x rfl rfl ⟨(Nat.le_of_ble_eq_true rfl), (Nat.le_of_ble_eq_true rfl)⟩ (Nat.le_of_ble_eq_true rfl) (fun r1 g1 hp1 => ?_)
  have hM : MP g1 g := MP_X hp1
  have e12 : g1 12 = g 0 := (hM.1 12 (by decide)).trans hR.1
  refine j_al2 519 C dL_law_519 ?_
  refine j_al0 520 C dL_law_520 ?_
  refine j_il3 521 C dL_law_521 ?_
  refine j_iconst 522 C dL_law_522 ic_1 ?_
  refine j_iadd 523 C dL_law_523 ?_
  refine j_top (nI (i + 1)) (nI_add i 1) ?_
  refine jl_scr 524 S (by omega) (by omega) C dL_law_524 ?_
  refine j_vi 525 C dL_law_525 mv_X5_go lk_L_51 (c_X5_go (by rw [e12]; exact hS) (T := T) (by rw [e12]; exact hT1) h31) rc_m rfl rfl ⟨(Nat.le_of_ble_eq_true rfl), (Nat.le_of_ble_eq_true rfl)⟩ (Nat.le_of_ble_eq_true rfl) (fun r2 g2 hp2 => ?_)
  rw [e12] at hp2
  obtain ⟨e, hR2⟩ := pr_row hR (gs_go hR.2.1) hp1 hp2
  exact j_iceq 528 1533 C dL_law_528 (by decide) (fun _ => k g2 hR2) (fun q => absurd e q)
set_option maxRecDepth 20000 in
theorem lw_now {X : XT} {G : GT} {b Ls : Nat} {xs : Nat → Int32} (C : CX X G RL cL_law 4 13 486) (S : CS X G b Ls xs) {n i : Nat} {g : Mem} (hi : i + 6 ≤ Ls) (hL : Ls ≤ 3072) (hn : n ≤ 511) (hR : REL n g) (k : ∀ g', REL (n + 1) g' → J X G 4 g' 1533 [some (.ref b), some (.ref (xo G)), some (.ref (mo G)), some (.int (nI i))] []) : J X G 4 g 533 [some (.ref b), some (.ref (xo G)), some (.ref (mo G)), some (.int (nI i))] [] := by
  obtain ⟨hS, T, hT, hT1⟩ := hR.2.1
  have hH := hR.2.2.2.2.2.1
  have h31 : T ≤ 31000 := by omega
  refine j_al1 533 C dL_law_533 ?_
  refine j_al0 534 C dL_law_534 ?_
  refine j_il3 535 C dL_law_535 ?_
  refine j_iconst 536 C dL_law_536 ic_1 ?_
  refine j_iadd 537 C dL_law_537 ?_
  refine j_top (nI (i + 1)) (nI_add i 1) ?_
  refine jl_scr 538 S (by omega) (by omega) C dL_law_538 ?_
  refine j_vi 539 C dL_law_539 mv_X4_now lk_L_52 (c_X4_now hS hT1 h31) rc_x rfl rfl ⟨(Nat.le_of_ble_eq_true rfl), (Nat.le_of_ble_eq_true rfl)⟩ (Nat.le_of_ble_eq_true rfl) (fun r1 g1 hp1 => ?_)
  have hM : MP g1 g := MP_X hp1
  have e12 : g1 12 = g 0 := (hM.1 12 (by decide)).trans hR.1
  refine j_al2 542 C dL_law_542 ?_
  refine j_al0 543 C dL_law_543 ?_
  refine j_il3 544 C dL_law_544 ?_
  refine j_iconst 545 C dL_law_545 ic_1 ?_
  refine j_iadd 546 C dL_law_546 ?_
  refine j_top (nI (i + 1)) (nI_add i 1) ?_
  refine jl_scr 547 S (by omega) (by omega) C dL_law_547 ?_
  refine j_vi 548 C dL_law_548 mv_X5_now lk_L_55 (c_X5_now (by rw [e12]; exact hS) (T := T) (by rw [e12]; exact hT1) h31) rc_m rfl rfl ⟨(Nat.le_of_ble_eq_true rfl), (Nat.le_of_ble_eq_true rfl)⟩ (Nat.le_of_ble_eq_true rfl) (fun r2 g2 hp2 => ?_)
  rw [e12] at hp2
  obtain ⟨e, hR2⟩ := pr_row hR (gs_now hR.2.1) hp1 hp2
  exact j_iceq 551 1533 C dL_law_551 (by decide) (fun _ => k g2 hR2) (fun q => absurd e q)
set_option maxRecDepth 20000 in
theorem lw_ahead {X : XT} {G : GT} {b Ls : Nat} {xs : Nat → Int32} (C : CX X G RL cL_law 4 13 486) (S : CS X G b Ls xs) {n i : Nat} {g : Mem} (hi : i + 6 ≤ Ls) (hL : Ls ≤ 3072) (hn : n ≤ 511) (hR : REL n g) (k : ∀ g', REL (n + 1) g' → J X G 4 g' 1533 [some (.ref b), some (.ref (xo G)), some (.ref (mo G)), some (.int (nI i))] []) : J X G 4 g 556 [some (.ref b), some (.ref (xo G)), some (.ref (mo G)), some (.int (nI i))] [] := by
  obtain ⟨hS, T, hT, hT1⟩ := hR.2.1
  have hH := hR.2.2.2.2.2.1
  have h31 : T ≤ 31000 := by omega
  refine j_al1 556 C dL_law_556 ?_
  refine j_al0 557 C dL_law_557 ?_
  refine j_il3 558 C dL_law_558 ?_
  refine j_iconst 559 C dL_law_559 ic_1 ?_
  refine j_iadd 560 C dL_law_560 ?_
  refine j_top (nI (i + 1)) (nI_add i 1) ?_
  refine jl_scr 561 S (by omega) (by omega) C dL_law_561 ?_
  refine j_al0 562 C dL_law_562 ?_
  refine j_il3 563 C dL_law_563 ?_
  refine j_iconst 564 C dL_law_564 ic_2 ?_
  refine j_iadd 565 C dL_law_565 ?_
  refine j_top (nI (i + 2)) (nI_add i 2) ?_
  refine jl_scr 566 S (by omega) (by omega) C dL_law_566 ?_
  refine j_al0 567 C dL_law_567 ?_
  refine j_il3 568 C dL_law_568 ?_
  refine j_iconst 569 C dL_law_569 ic_3 ?_
  refine j_iadd 570 C dL_law_570 ?_
  refine j_top (nI (i + 3)) (nI_add i 3) ?_
  refine jl_scr 571 S (by omega) (by omega) C dL_law_571 ?_
  refine j_vi 572 C dL_law_572 mv_X4_ahead lk_L_56 (c_X4_ahead hS hT1 h31) rc_x rfl rfl ⟨(Nat.le_of_ble_eq_true rfl), (Nat.le_of_ble_eq_true rfl)⟩ (Nat.le_of_ble_eq_true rfl) (fun r1 g1 hp1 => ?_)
  have hM : MP g1 g := MP_X hp1
  have e12 : g1 12 = g 0 := (hM.1 12 (by decide)).trans hR.1
  refine j_al2 575 C dL_law_575 ?_
  refine j_al0 576 C dL_law_576 ?_
  refine j_il3 577 C dL_law_577 ?_
  refine j_iconst 578 C dL_law_578 ic_1 ?_
  refine j_iadd 579 C dL_law_579 ?_
  refine j_top (nI (i + 1)) (nI_add i 1) ?_
  refine jl_scr 580 S (by omega) (by omega) C dL_law_580 ?_
  refine j_al0 581 C dL_law_581 ?_
  refine j_il3 582 C dL_law_582 ?_
  refine j_iconst 583 C dL_law_583 ic_2 ?_
  refine j_iadd 584 C dL_law_584 ?_
  refine j_top (nI (i + 2)) (nI_add i 2) ?_
  refine jl_scr 585 S (by omega) (by omega) C dL_law_585 ?_
  refine j_al0 586 C dL_law_586 ?_
  refine j_il3 587 C dL_law_587 ?_
  refine j_iconst 588 C dL_law_588 ic_3 ?_
  refine j_iadd 589 C dL_law_589 ?_
  refine j_top (nI (i + 3)) (nI_add i 3) ?_
  refine jl_scr 590 S (by omega) (by omega) C dL_law_590 ?_
  refine j_vi 591 C dL_law_591 mv_X5_ahead lk_L_59 (c_X5_ahead (by rw [e12]; exact hS) (T := T) (by rw [e12]; exact hT1) h31) rc_m rfl rfl ⟨(Nat.le_of_ble_eq_true rfl), (Nat.le_of_ble_eq_true rfl)⟩ (Nat.le_of_ble_eq_true rfl) (fun r2 g2 hp2 => ?_)
  rw [e12] at hp2
  obtain ⟨e, hR2⟩ := pr_row hR (gs_ahead hR.2.1) hp1 hp2
  exact j_iceq 594 1533 C dL_law_594 (by decide) (fun _ => k g2 hR2) (fun q => absurd e q)
set_option maxRecDepth 20000 in
theorem lw_says {X : XT} {G : GT} {b Ls : Nat} {xs : Nat → Int32} (C : CX X G RL cL_law 4 13 486) (S : CS X G b Ls xs) {n i : Nat} {g : Mem} (hi : i + 6 ≤ Ls) (hL : Ls ≤ 3072) (hn : n ≤ 511) (hR : REL n g) (k : ∀ g', REL (n + 1) g' → J X G 4 g' 1533 [some (.ref b), some (.ref (xo G)), some (.ref (mo G)), some (.int (nI i))] []) : J X G 4 g 599 [some (.ref b), some (.ref (xo G)), some (.ref (mo G)), some (.int (nI i))] [] := by
  obtain ⟨hS, T, hT, hT1⟩ := hR.2.1
  have hH := hR.2.2.2.2.2.1
  have h31 : T ≤ 31000 := by omega
  refine j_al1 599 C dL_law_599 ?_
  refine j_al0 600 C dL_law_600 ?_
  refine j_il3 601 C dL_law_601 ?_
  refine j_iconst 602 C dL_law_602 ic_1 ?_
  refine j_iadd 603 C dL_law_603 ?_
  refine j_top (nI (i + 1)) (nI_add i 1) ?_
  refine jl_scr 604 S (by omega) (by omega) C dL_law_604 ?_
  refine j_al0 605 C dL_law_605 ?_
  refine j_il3 606 C dL_law_606 ?_
  refine j_iconst 607 C dL_law_607 ic_2 ?_
  refine j_iadd 608 C dL_law_608 ?_
  refine j_top (nI (i + 2)) (nI_add i 2) ?_
  refine jl_scr 609 S (by omega) (by omega) C dL_law_609 ?_
  refine j_vi 610 C dL_law_610 mv_X4_says lk_L_60 (c_X4_says hS hT1 h31) rc_x rfl rfl ⟨(Nat.le_of_ble_eq_true rfl), (Nat.le_of_ble_eq_true rfl)⟩ (Nat.le_of_ble_eq_true rfl) (fun r1 g1 hp1 => ?_)
  have hM : MP g1 g := MP_X hp1
  have e12 : g1 12 = g 0 := (hM.1 12 (by decide)).trans hR.1
  refine j_al2 613 C dL_law_613 ?_
  refine j_al0 614 C dL_law_614 ?_
  refine j_il3 615 C dL_law_615 ?_
  refine j_iconst 616 C dL_law_616 ic_1 ?_
  refine j_iadd 617 C dL_law_617 ?_
  refine j_top (nI (i + 1)) (nI_add i 1) ?_
  refine jl_scr 618 S (by omega) (by omega) C dL_law_618 ?_
  refine j_al0 619 C dL_law_619 ?_
  refine j_il3 620 C dL_law_620 ?_
  refine j_iconst 621 C dL_law_621 ic_2 ?_
  refine j_iadd 622 C dL_law_622 ?_
  refine j_top (nI (i + 2)) (nI_add i 2) ?_
  refine jl_scr 623 S (by omega) (by omega) C dL_law_623 ?_
  refine j_vi 624 C dL_law_624 mv_X5_says lk_L_63 (c_X5_says (by rw [e12]; exact hS) (T := T) (by rw [e12]; exact hT1) h31) rc_m rfl rfl ⟨(Nat.le_of_ble_eq_true rfl), (Nat.le_of_ble_eq_true rfl)⟩ (Nat.le_of_ble_eq_true rfl) (fun r2 g2 hp2 => ?_)
  rw [e12] at hp2
  obtain ⟨e, hR2⟩ := pr_row hR (gs_says hR.2.1) hp1 hp2
  exact j_iceq 627 1533 C dL_law_627 (by decide) (fun _ => k g2 hR2) (fun q => absurd e q)
set_option maxRecDepth 20000 in
theorem lw_fed {X : XT} {G : GT} {b Ls : Nat} {xs : Nat → Int32} (C : CX X G RL cL_law 4 13 486) (S : CS X G b Ls xs) {n i : Nat} {g : Mem} (hi : i + 6 ≤ Ls) (hL : Ls ≤ 3072) (hn : n ≤ 511) (hR : REL n g) (k : ∀ g', REL (n + 1) g' → J X G 4 g' 1533 [some (.ref b), some (.ref (xo G)), some (.ref (mo G)), some (.int (nI i))] []) : J X G 4 g 632 [some (.ref b), some (.ref (xo G)), some (.ref (mo G)), some (.int (nI i))] [] := by
  obtain ⟨hS, T, hT, hT1⟩ := hR.2.1
  have hH := hR.2.2.2.2.2.1
  have h31 : T ≤ 31000 := by omega
  refine j_al1 632 C dL_law_632 ?_
  refine j_al0 633 C dL_law_633 ?_
  refine j_il3 634 C dL_law_634 ?_
  refine j_iconst 635 C dL_law_635 ic_1 ?_
  refine j_iadd 636 C dL_law_636 ?_
  refine j_top (nI (i + 1)) (nI_add i 1) ?_
  refine jl_scr 637 S (by omega) (by omega) C dL_law_637 ?_
  refine j_al0 638 C dL_law_638 ?_
  refine j_il3 639 C dL_law_639 ?_
  refine j_iconst 640 C dL_law_640 ic_2 ?_
  refine j_iadd 641 C dL_law_641 ?_
  refine j_top (nI (i + 2)) (nI_add i 2) ?_
  refine jl_scr 642 S (by omega) (by omega) C dL_law_642 ?_
  refine j_vi 643 C dL_law_643 mv_X4_fed lk_L_64 (c_X4_fed hS hT1 h31) rc_x rfl rfl ⟨(Nat.le_of_ble_eq_true rfl), (Nat.le_of_ble_eq_true rfl)⟩ (Nat.le_of_ble_eq_true rfl) (fun r1 g1 hp1 => ?_)
  have hM : MP g1 g := MP_X hp1
  have e12 : g1 12 = g 0 := (hM.1 12 (by decide)).trans hR.1
  refine j_al2 646 C dL_law_646 ?_
  refine j_al0 647 C dL_law_647 ?_
  refine j_il3 648 C dL_law_648 ?_
  refine j_iconst 649 C dL_law_649 ic_1 ?_
  refine j_iadd 650 C dL_law_650 ?_
  refine j_top (nI (i + 1)) (nI_add i 1) ?_
  refine jl_scr 651 S (by omega) (by omega) C dL_law_651 ?_
  refine j_al0 652 C dL_law_652 ?_
  refine j_il3 653 C dL_law_653 ?_
  refine j_iconst 654 C dL_law_654 ic_2 ?_
  refine j_iadd 655 C dL_law_655 ?_
  refine j_top (nI (i + 2)) (nI_add i 2) ?_
  refine jl_scr 656 S (by omega) (by omega) C dL_law_656 ?_
  refine j_vi 657 C dL_law_657 mv_X5_fed lk_L_67 (c_X5_fed (by rw [e12]; exact hS) (T := T) (by rw [e12]; exact hT1) h31) rc_m rfl rfl ⟨(Nat.le_of_ble_eq_true rfl), (Nat.le_of_ble_eq_true rfl)⟩ (Nat.le_of_ble_eq_true rfl) (fun r2 g2 hp2 => ?_)
  rw [e12] at hp2
  obtain ⟨e, hR2⟩ := pr_row hR (gs_fed hR.2.1) hp1 hp2
  exact j_iceq 660 1533 C dL_law_660 (by decide) (fun _ => k g2 hR2) (fun q => absurd e q)
set_option maxRecDepth 20000 in
theorem lw_bare {X : XT} {G : GT} {b Ls : Nat} {xs : Nat → Int32} (C : CX X G RL cL_law 4 13 486) (S : CS X G b Ls xs) {n i : Nat} {g : Mem} (hi : i + 6 ≤ Ls) (hL : Ls ≤ 3072) (hn : n ≤ 511) (hR : REL n g) (k : ∀ g', REL (n + 1) g' → J X G 4 g' 1533 [some (.ref b), some (.ref (xo G)), some (.ref (mo G)), some (.int (nI i))] []) : J X G 4 g 665 [some (.ref b), some (.ref (xo G)), some (.ref (mo G)), some (.int (nI i))] [] := by
  obtain ⟨hS, T, hT, hT1⟩ := hR.2.1
  have hH := hR.2.2.2.2.2.1
  have h31 : T ≤ 31000 := by omega
  refine j_al1 665 C dL_law_665 ?_
  refine j_al0 666 C dL_law_666 ?_
  refine j_il3 667 C dL_law_667 ?_
  refine j_iconst 668 C dL_law_668 ic_1 ?_
  refine j_iadd 669 C dL_law_669 ?_
  refine j_top (nI (i + 1)) (nI_add i 1) ?_
  refine jl_scr 670 S (by omega) (by omega) C dL_law_670 ?_
  refine j_vi 671 C dL_law_671 mv_X4_bare lk_L_68 (c_X4_bare hS hT1 h31) rc_x rfl rfl ⟨(Nat.le_of_ble_eq_true rfl), (Nat.le_of_ble_eq_true rfl)⟩ (Nat.le_of_ble_eq_true rfl) (fun r1 g1 hp1 => ?_)
  have hM : MP g1 g := MP_X hp1
  have e12 : g1 12 = g 0 := (hM.1 12 (by decide)).trans hR.1
  refine j_al2 674 C dL_law_674 ?_
  refine j_al0 675 C dL_law_675 ?_
  refine j_il3 676 C dL_law_676 ?_
  refine j_iconst 677 C dL_law_677 ic_1 ?_
  refine j_iadd 678 C dL_law_678 ?_
  refine j_top (nI (i + 1)) (nI_add i 1) ?_
  refine jl_scr 679 S (by omega) (by omega) C dL_law_679 ?_
  refine j_vi 680 C dL_law_680 mv_X5_bare lk_L_71 (c_X5_bare (by rw [e12]; exact hS) (T := T) (by rw [e12]; exact hT1) h31) rc_m rfl rfl ⟨(Nat.le_of_ble_eq_true rfl), (Nat.le_of_ble_eq_true rfl)⟩ (Nat.le_of_ble_eq_true rfl) (fun r2 g2 hp2 => ?_)
  rw [e12] at hp2
  obtain ⟨e, hR2⟩ := pr_row hR (gs_bare hR.2.1) hp1 hp2
  exact j_iceq 683 1533 C dL_law_683 (by decide) (fun _ => k g2 hR2) (fun q => absurd e q)
set_option maxRecDepth 20000 in
theorem lw_when {X : XT} {G : GT} {b Ls : Nat} {xs : Nat → Int32} (C : CX X G RL cL_law 4 13 486) (S : CS X G b Ls xs) {n i : Nat} {g : Mem} (hi : i + 6 ≤ Ls) (hL : Ls ≤ 3072) (hn : n ≤ 511) (hR : REL n g) (k : ∀ g', REL (n + 1) g' → J X G 4 g' 1533 [some (.ref b), some (.ref (xo G)), some (.ref (mo G)), some (.int (nI i))] []) : J X G 4 g 688 [some (.ref b), some (.ref (xo G)), some (.ref (mo G)), some (.int (nI i))] [] := by
  obtain ⟨hS, T, hT, hT1⟩ := hR.2.1
  have hH := hR.2.2.2.2.2.1
  have h31 : T ≤ 31000 := by omega
  refine j_al1 688 C dL_law_688 ?_
  refine j_al0 689 C dL_law_689 ?_
  refine j_il3 690 C dL_law_690 ?_
  refine j_iconst 691 C dL_law_691 ic_1 ?_
  refine j_iadd 692 C dL_law_692 ?_
  refine j_top (nI (i + 1)) (nI_add i 1) ?_
  refine jl_scr 693 S (by omega) (by omega) C dL_law_693 ?_
  refine j_al0 694 C dL_law_694 ?_
  refine j_il3 695 C dL_law_695 ?_
  refine j_iconst 696 C dL_law_696 ic_2 ?_
  refine j_iadd 697 C dL_law_697 ?_
  refine j_top (nI (i + 2)) (nI_add i 2) ?_
  refine jl_scr 698 S (by omega) (by omega) C dL_law_698 ?_
  refine j_vi 699 C dL_law_699 mv_X4_when lk_L_72 (c_X4_when hS hT1 h31) rc_x rfl rfl ⟨(Nat.le_of_ble_eq_true rfl), (Nat.le_of_ble_eq_true rfl)⟩ (Nat.le_of_ble_eq_true rfl) (fun r1 g1 hp1 => ?_)
  have hM : MP g1 g := MP_X hp1
  have e12 : g1 12 = g 0 := (hM.1 12 (by decide)).trans hR.1
  refine j_al2 702 C dL_law_702 ?_
  refine j_al0 703 C dL_law_703 ?_
  refine j_il3 704 C dL_law_704 ?_
  refine j_iconst 705 C dL_law_705 ic_1 ?_
  refine j_iadd 706 C dL_law_706 ?_
  refine j_top (nI (i + 1)) (nI_add i 1) ?_
  refine jl_scr 707 S (by omega) (by omega) C dL_law_707 ?_
  refine j_al0 708 C dL_law_708 ?_
  refine j_il3 709 C dL_law_709 ?_
  refine j_iconst 710 C dL_law_710 ic_2 ?_
  refine j_iadd 711 C dL_law_711 ?_
  refine j_top (nI (i + 2)) (nI_add i 2) ?_
  refine jl_scr 712 S (by omega) (by omega) C dL_law_712 ?_
  refine j_vi 713 C dL_law_713 mv_X5_when lk_L_75 (c_X5_when (by rw [e12]; exact hS) (T := T) (by rw [e12]; exact hT1) h31) rc_m rfl rfl ⟨(Nat.le_of_ble_eq_true rfl), (Nat.le_of_ble_eq_true rfl)⟩ (Nat.le_of_ble_eq_true rfl) (fun r2 g2 hp2 => ?_)
  rw [e12] at hp2
  obtain ⟨e, hR2⟩ := pr_row hR (gs_when hR.2.1) hp1 hp2
  exact j_iceq 716 1533 C dL_law_716 (by decide) (fun _ => k g2 hR2) (fun q => absurd e q)
set_option maxRecDepth 20000 in
theorem lw_settles {X : XT} {G : GT} {b Ls : Nat} {xs : Nat → Int32} (C : CX X G RL cL_law 4 13 486) (S : CS X G b Ls xs) {n i : Nat} {g : Mem} (hi : i + 6 ≤ Ls) (hL : Ls ≤ 3072) (hn : n ≤ 511) (hR : REL n g) (k : ∀ g', REL (n + 1) g' → J X G 4 g' 1533 [some (.ref b), some (.ref (xo G)), some (.ref (mo G)), some (.int (nI i))] []) : J X G 4 g 721 [some (.ref b), some (.ref (xo G)), some (.ref (mo G)), some (.int (nI i))] [] := by
  obtain ⟨hS, T, hT, hT1⟩ := hR.2.1
  have hH := hR.2.2.2.2.2.1
  have h31 : T ≤ 31000 := by omega
  refine j_al1 721 C dL_law_721 ?_
  refine j_vi 722 C dL_law_722 mv_X4_settles lk_L_76 (c_X4_settles hS hT1 h31) rc_x rfl rfl ⟨(Nat.le_of_ble_eq_true rfl), (Nat.le_of_ble_eq_true rfl)⟩ (Nat.le_of_ble_eq_true rfl) (fun r1 g1 hp1 => ?_)
  have hM : MP g1 g := MP_X hp1
  have e12 : g1 12 = g 0 := (hM.1 12 (by decide)).trans hR.1
  refine j_al2 725 C dL_law_725 ?_
  refine j_vi 726 C dL_law_726 mv_X5_settles lk_L_80 (c_X5_settles (by rw [e12]; exact hS) (T := T) (by rw [e12]; exact hT1) h31) rc_m rfl rfl ⟨(Nat.le_of_ble_eq_true rfl), (Nat.le_of_ble_eq_true rfl)⟩ (Nat.le_of_ble_eq_true rfl) (fun r2 g2 hp2 => ?_)
  rw [e12] at hp2
  obtain ⟨e, hR2⟩ := pr_row hR (gs_settles hR.2.1) hp1 hp2
  exact j_iceq 729 1533 C dL_law_729 (by decide) (fun _ => k g2 hR2) (fun q => absurd e q)
set_option maxRecDepth 20000 in
theorem lw_alike {X : XT} {G : GT} {b Ls : Nat} {xs : Nat → Int32} (C : CX X G RL cL_law 4 13 486) (S : CS X G b Ls xs) {n i : Nat} {g : Mem} (hi : i + 6 ≤ Ls) (hL : Ls ≤ 3072) (hn : n ≤ 511) (hR : REL n g) (k : ∀ g', REL (n + 1) g' → J X G 4 g' 1533 [some (.ref b), some (.ref (xo G)), some (.ref (mo G)), some (.int (nI i))] []) : J X G 4 g 734 [some (.ref b), some (.ref (xo G)), some (.ref (mo G)), some (.int (nI i))] [] := by
  obtain ⟨hS, T, hT, hT1⟩ := hR.2.1
  have hH := hR.2.2.2.2.2.1
  have h31 : T ≤ 31000 := by omega
  refine j_al1 734 C dL_law_734 ?_
  refine j_al0 735 C dL_law_735 ?_
  refine j_il3 736 C dL_law_736 ?_
  refine j_iconst 737 C dL_law_737 ic_1 ?_
  refine j_iadd 738 C dL_law_738 ?_
  refine j_top (nI (i + 1)) (nI_add i 1) ?_
  refine jl_scr 739 S (by omega) (by omega) C dL_law_739 ?_
  refine j_al0 740 C dL_law_740 ?_
  refine j_il3 741 C dL_law_741 ?_
  refine j_iconst 742 C dL_law_742 ic_2 ?_
  refine j_iadd 743 C dL_law_743 ?_
  refine j_top (nI (i + 2)) (nI_add i 2) ?_
  refine jl_scr 744 S (by omega) (by omega) C dL_law_744 ?_
  refine j_vi 745 C dL_law_745 mv_X4_alike lk_L_81 (c_X4_alike hS hT1 h31) rc_x rfl rfl ⟨(Nat.le_of_ble_eq_true rfl), (Nat.le_of_ble_eq_true rfl)⟩ (Nat.le_of_ble_eq_true rfl) (fun r1 g1 hp1 => ?_)
  have hM : MP g1 g := MP_X hp1
  have e12 : g1 12 = g 0 := (hM.1 12 (by decide)).trans hR.1
  refine j_al2 748 C dL_law_748 ?_
  refine j_al0 749 C dL_law_749 ?_
  refine j_il3 750 C dL_law_750 ?_
  refine j_iconst 751 C dL_law_751 ic_1 ?_
  refine j_iadd 752 C dL_law_752 ?_
  refine j_top (nI (i + 1)) (nI_add i 1) ?_
  refine jl_scr 753 S (by omega) (by omega) C dL_law_753 ?_
  refine j_al0 754 C dL_law_754 ?_
  refine j_il3 755 C dL_law_755 ?_
  refine j_iconst 756 C dL_law_756 ic_2 ?_
  refine j_iadd 757 C dL_law_757 ?_
  refine j_top (nI (i + 2)) (nI_add i 2) ?_
  refine jl_scr 758 S (by omega) (by omega) C dL_law_758 ?_
  refine j_vi 759 C dL_law_759 mv_X5_alike lk_L_84 (c_X5_alike (by rw [e12]; exact hS) (T := T) (by rw [e12]; exact hT1) h31) rc_m rfl rfl ⟨(Nat.le_of_ble_eq_true rfl), (Nat.le_of_ble_eq_true rfl)⟩ (Nat.le_of_ble_eq_true rfl) (fun r2 g2 hp2 => ?_)
  rw [e12] at hp2
  obtain ⟨e, hR2⟩ := pr_row hR (gs_alike hR.2.1) hp1 hp2
  exact j_iceq 762 1533 C dL_law_762 (by decide) (fun _ => k g2 hR2) (fun q => absurd e q)
set_option maxRecDepth 20000 in
theorem lw_put {X : XT} {G : GT} {b Ls : Nat} {xs : Nat → Int32} (C : CX X G RL cL_law 4 13 486) (S : CS X G b Ls xs) {n i : Nat} {g : Mem} (hi : i + 6 ≤ Ls) (hL : Ls ≤ 3072) (hn : n ≤ 511) (hR : REL n g) (k : ∀ g', REL (n + 1) g' → J X G 4 g' 1533 [some (.ref b), some (.ref (xo G)), some (.ref (mo G)), some (.int (nI i))] []) : J X G 4 g 767 [some (.ref b), some (.ref (xo G)), some (.ref (mo G)), some (.int (nI i))] [] := by
  obtain ⟨hS, T, hT, hT1⟩ := hR.2.1
  have hH := hR.2.2.2.2.2.1
  have h31 : T ≤ 31000 := by omega
  refine j_al1 767 C dL_law_767 ?_
  refine j_al0 768 C dL_law_768 ?_
  refine j_il3 769 C dL_law_769 ?_
  refine j_iconst 770 C dL_law_770 ic_1 ?_
  refine j_iadd 771 C dL_law_771 ?_
  refine j_top (nI (i + 1)) (nI_add i 1) ?_
  refine jl_scr 772 S (by omega) (by omega) C dL_law_772 ?_
  refine j_al0 773 C dL_law_773 ?_
  refine j_il3 774 C dL_law_774 ?_
  refine j_iconst 775 C dL_law_775 ic_2 ?_
  refine j_iadd 776 C dL_law_776 ?_
  refine j_top (nI (i + 2)) (nI_add i 2) ?_
  refine jl_scr 777 S (by omega) (by omega) C dL_law_777 ?_
  refine j_al0 778 C dL_law_778 ?_
  refine j_il3 779 C dL_law_779 ?_
  refine j_iconst 780 C dL_law_780 ic_3 ?_
  refine j_iadd 781 C dL_law_781 ?_
  refine j_top (nI (i + 3)) (nI_add i 3) ?_
  refine jl_scr 782 S (by omega) (by omega) C dL_law_782 ?_
  refine j_vi 783 C dL_law_783 mv_X4_put lk_L_85 (c_X4_put hS hT1 h31) rc_x rfl rfl ⟨(Nat.le_of_ble_eq_true rfl), (Nat.le_of_ble_eq_true rfl)⟩ (Nat.le_of_ble_eq_true rfl) (fun r1 g1 hp1 => ?_)
  have hM : MP g1 g := MP_X hp1
  have e12 : g1 12 = g 0 := (hM.1 12 (by decide)).trans hR.1
  refine j_al2 786 C dL_law_786 ?_
  refine j_al0 787 C dL_law_787 ?_
  refine j_il3 788 C dL_law_788 ?_
  refine j_iconst 789 C dL_law_789 ic_1 ?_
  refine j_iadd 790 C dL_law_790 ?_
  refine j_top (nI (i + 1)) (nI_add i 1) ?_
  refine jl_scr 791 S (by omega) (by omega) C dL_law_791 ?_
  refine j_al0 792 C dL_law_792 ?_
  refine j_il3 793 C dL_law_793 ?_
  refine j_iconst 794 C dL_law_794 ic_2 ?_
  refine j_iadd 795 C dL_law_795 ?_
  refine j_top (nI (i + 2)) (nI_add i 2) ?_
  refine jl_scr 796 S (by omega) (by omega) C dL_law_796 ?_
  refine j_al0 797 C dL_law_797 ?_
  refine j_il3 798 C dL_law_798 ?_
  refine j_iconst 799 C dL_law_799 ic_3 ?_
  refine j_iadd 800 C dL_law_800 ?_
  refine j_top (nI (i + 3)) (nI_add i 3) ?_
  refine jl_scr 801 S (by omega) (by omega) C dL_law_801 ?_
  refine j_vi 802 C dL_law_802 mv_X5_put lk_L_88 (c_X5_put (by rw [e12]; exact hS) (T := T) (by rw [e12]; exact hT1) h31) rc_m rfl rfl ⟨(Nat.le_of_ble_eq_true rfl), (Nat.le_of_ble_eq_true rfl)⟩ (Nat.le_of_ble_eq_true rfl) (fun r2 g2 hp2 => ?_)
  rw [e12] at hp2
  obtain ⟨e, hR2⟩ := pr_row hR (gs_best hR.2.1) hp1 hp2
  exact j_iceq 805 1533 C dL_law_805 (by decide) (fun _ => k g2 hR2) (fun q => absurd e q)
set_option maxRecDepth 20000 in
theorem lw_tasteFor {X : XT} {G : GT} {b Ls : Nat} {xs : Nat → Int32} (C : CX X G RL cL_law 4 13 486) (S : CS X G b Ls xs) {n i : Nat} {g : Mem} (hi : i + 6 ≤ Ls) (hL : Ls ≤ 3072) (hn : n ≤ 511) (hR : REL n g) (k : ∀ g', REL (n + 1) g' → J X G 4 g' 1533 [some (.ref b), some (.ref (xo G)), some (.ref (mo G)), some (.int (nI i))] []) : J X G 4 g 810 [some (.ref b), some (.ref (xo G)), some (.ref (mo G)), some (.int (nI i))] [] := by
  obtain ⟨hS, T, hT, hT1⟩ := hR.2.1
  have hH := hR.2.2.2.2.2.1
  have h31 : T ≤ 31000 := by omega
  refine j_al1 810 C dL_law_810 ?_
  refine j_al0 811 C dL_law_811 ?_
  refine j_il3 812 C dL_law_812 ?_
  refine j_iconst 813 C dL_law_813 ic_1 ?_
  refine j_iadd 814 C dL_law_814 ?_
  refine j_top (nI (i + 1)) (nI_add i 1) ?_
  refine jl_scr 815 S (by omega) (by omega) C dL_law_815 ?_
  refine j_al0 816 C dL_law_816 ?_
  refine j_il3 817 C dL_law_817 ?_
  refine j_iconst 818 C dL_law_818 ic_2 ?_
  refine j_iadd 819 C dL_law_819 ?_
  refine j_top (nI (i + 2)) (nI_add i 2) ?_
  refine jl_scr 820 S (by omega) (by omega) C dL_law_820 ?_
  refine j_al0 821 C dL_law_821 ?_
  refine j_il3 822 C dL_law_822 ?_
  refine j_iconst 823 C dL_law_823 ic_3 ?_
  refine j_iadd 824 C dL_law_824 ?_
  refine j_top (nI (i + 3)) (nI_add i 3) ?_
  refine jl_scr 825 S (by omega) (by omega) C dL_law_825 ?_
  refine j_vi 826 C dL_law_826 mv_X4_tasteFor lk_L_89 (c_X4_tasteFor hS hT1 h31) rc_x rfl rfl ⟨(Nat.le_of_ble_eq_true rfl), (Nat.le_of_ble_eq_true rfl)⟩ (Nat.le_of_ble_eq_true rfl) (fun r1 g1 hp1 => ?_)
  have hM : MP g1 g := MP_X hp1
  have e12 : g1 12 = g 0 := (hM.1 12 (by decide)).trans hR.1
  refine j_al2 829 C dL_law_829 ?_
  refine j_al0 830 C dL_law_830 ?_
  refine j_il3 831 C dL_law_831 ?_
  refine j_iconst 832 C dL_law_832 ic_1 ?_
  refine j_iadd 833 C dL_law_833 ?_
  refine j_top (nI (i + 1)) (nI_add i 1) ?_
  refine jl_scr 834 S (by omega) (by omega) C dL_law_834 ?_
  refine j_al0 835 C dL_law_835 ?_
  refine j_il3 836 C dL_law_836 ?_
  refine j_iconst 837 C dL_law_837 ic_2 ?_
  refine j_iadd 838 C dL_law_838 ?_
  refine j_top (nI (i + 2)) (nI_add i 2) ?_
  refine jl_scr 839 S (by omega) (by omega) C dL_law_839 ?_
  refine j_al0 840 C dL_law_840 ?_
  refine j_il3 841 C dL_law_841 ?_
  refine j_iconst 842 C dL_law_842 ic_3 ?_
  refine j_iadd 843 C dL_law_843 ?_
  refine j_top (nI (i + 3)) (nI_add i 3) ?_
  refine jl_scr 844 S (by omega) (by omega) C dL_law_844 ?_
  refine j_vi 845 C dL_law_845 mv_X5_tasteFor lk_L_92 (c_X5_tasteFor (by rw [e12]; exact hS) (T := T) (by rw [e12]; exact hT1) h31) rc_m rfl rfl ⟨(Nat.le_of_ble_eq_true rfl), (Nat.le_of_ble_eq_true rfl)⟩ (Nat.le_of_ble_eq_true rfl) (fun r2 g2 hp2 => ?_)
  rw [e12] at hp2
  obtain ⟨e, hR2⟩ := pr_row hR (gs_best hR.2.1) hp1 hp2
  exact j_iceq 848 1533 C dL_law_848 (by decide) (fun _ => k g2 hR2) (fun q => absurd e q)
set_option maxRecDepth 20000 in
theorem lw_kindFor {X : XT} {G : GT} {b Ls : Nat} {xs : Nat → Int32} (C : CX X G RL cL_law 4 13 486) (S : CS X G b Ls xs) {n i : Nat} {g : Mem} (hi : i + 6 ≤ Ls) (hL : Ls ≤ 3072) (hn : n ≤ 511) (hR : REL n g) (k : ∀ g', REL (n + 1) g' → J X G 4 g' 1533 [some (.ref b), some (.ref (xo G)), some (.ref (mo G)), some (.int (nI i))] []) : J X G 4 g 853 [some (.ref b), some (.ref (xo G)), some (.ref (mo G)), some (.int (nI i))] [] := by
  obtain ⟨hS, T, hT, hT1⟩ := hR.2.1
  have hH := hR.2.2.2.2.2.1
  have h31 : T ≤ 31000 := by omega
  refine j_al1 853 C dL_law_853 ?_
  refine j_al0 854 C dL_law_854 ?_
  refine j_il3 855 C dL_law_855 ?_
  refine j_iconst 856 C dL_law_856 ic_1 ?_
  refine j_iadd 857 C dL_law_857 ?_
  refine j_top (nI (i + 1)) (nI_add i 1) ?_
  refine jl_scr 858 S (by omega) (by omega) C dL_law_858 ?_
  refine j_al0 859 C dL_law_859 ?_
  refine j_il3 860 C dL_law_860 ?_
  refine j_iconst 861 C dL_law_861 ic_2 ?_
  refine j_iadd 862 C dL_law_862 ?_
  refine j_top (nI (i + 2)) (nI_add i 2) ?_
  refine jl_scr 863 S (by omega) (by omega) C dL_law_863 ?_
  refine j_al0 864 C dL_law_864 ?_
  refine j_il3 865 C dL_law_865 ?_
  refine j_iconst 866 C dL_law_866 ic_3 ?_
  refine j_iadd 867 C dL_law_867 ?_
  refine j_top (nI (i + 3)) (nI_add i 3) ?_
  refine jl_scr 868 S (by omega) (by omega) C dL_law_868 ?_
  refine j_vi 869 C dL_law_869 mv_X4_kindFor lk_L_93 (c_X4_kindFor hS hT1 h31) rc_x rfl rfl ⟨(Nat.le_of_ble_eq_true rfl), (Nat.le_of_ble_eq_true rfl)⟩ (Nat.le_of_ble_eq_true rfl) (fun r1 g1 hp1 => ?_)
  have hM : MP g1 g := MP_X hp1
  have e12 : g1 12 = g 0 := (hM.1 12 (by decide)).trans hR.1
  refine j_al2 872 C dL_law_872 ?_
  refine j_al0 873 C dL_law_873 ?_
  refine j_il3 874 C dL_law_874 ?_
  refine j_iconst 875 C dL_law_875 ic_1 ?_
  refine j_iadd 876 C dL_law_876 ?_
  refine j_top (nI (i + 1)) (nI_add i 1) ?_
  refine jl_scr 877 S (by omega) (by omega) C dL_law_877 ?_
  refine j_al0 878 C dL_law_878 ?_
  refine j_il3 879 C dL_law_879 ?_
  refine j_iconst 880 C dL_law_880 ic_2 ?_
  refine j_iadd 881 C dL_law_881 ?_
  refine j_top (nI (i + 2)) (nI_add i 2) ?_
  refine jl_scr 882 S (by omega) (by omega) C dL_law_882 ?_
  refine j_al0 883 C dL_law_883 ?_
  refine j_il3 884 C dL_law_884 ?_
  refine j_iconst 885 C dL_law_885 ic_3 ?_
  refine j_iadd 886 C dL_law_886 ?_
  refine j_top (nI (i + 3)) (nI_add i 3) ?_
  refine jl_scr 887 S (by omega) (by omega) C dL_law_887 ?_
  refine j_vi 888 C dL_law_888 mv_X5_kindFor lk_L_96 (c_X5_kindFor (by rw [e12]; exact hS) (T := T) (by rw [e12]; exact hT1) h31) rc_m rfl rfl ⟨(Nat.le_of_ble_eq_true rfl), (Nat.le_of_ble_eq_true rfl)⟩ (Nat.le_of_ble_eq_true rfl) (fun r2 g2 hp2 => ?_)
  rw [e12] at hp2
  obtain ⟨e, hR2⟩ := pr_row hR (gs_best hR.2.1) hp1 hp2
  exact j_iceq 891 1533 C dL_law_891 (by decide) (fun _ => k g2 hR2) (fun q => absurd e q)
set_option maxRecDepth 20000 in
theorem lw_swapFor {X : XT} {G : GT} {b Ls : Nat} {xs : Nat → Int32} (C : CX X G RL cL_law 4 13 486) (S : CS X G b Ls xs) {n i : Nat} {g : Mem} (hi : i + 6 ≤ Ls) (hL : Ls ≤ 3072) (hn : n ≤ 511) (hR : REL n g) (k : ∀ g', REL (n + 1) g' → J X G 4 g' 1533 [some (.ref b), some (.ref (xo G)), some (.ref (mo G)), some (.int (nI i))] []) : J X G 4 g 896 [some (.ref b), some (.ref (xo G)), some (.ref (mo G)), some (.int (nI i))] [] := by
  obtain ⟨hS, T, hT, hT1⟩ := hR.2.1
  have hH := hR.2.2.2.2.2.1
  have h31 : T ≤ 31000 := by omega
  refine j_al1 896 C dL_law_896 ?_
  refine j_al0 897 C dL_law_897 ?_
  refine j_il3 898 C dL_law_898 ?_
  refine j_iconst 899 C dL_law_899 ic_1 ?_
  refine j_iadd 900 C dL_law_900 ?_
  refine j_top (nI (i + 1)) (nI_add i 1) ?_
  refine jl_scr 901 S (by omega) (by omega) C dL_law_901 ?_
  refine j_al0 902 C dL_law_902 ?_
  refine j_il3 903 C dL_law_903 ?_
  refine j_iconst 904 C dL_law_904 ic_2 ?_
  refine j_iadd 905 C dL_law_905 ?_
  refine j_top (nI (i + 2)) (nI_add i 2) ?_
  refine jl_scr 906 S (by omega) (by omega) C dL_law_906 ?_
  refine j_vi 907 C dL_law_907 mv_X4_swapFor lk_L_97 (c_X4_swapFor hS hT1 h31) rc_x rfl rfl ⟨(Nat.le_of_ble_eq_true rfl), (Nat.le_of_ble_eq_true rfl)⟩ (Nat.le_of_ble_eq_true rfl) (fun r1 g1 hp1 => ?_)
  have hM : MP g1 g := MP_X hp1
  have e12 : g1 12 = g 0 := (hM.1 12 (by decide)).trans hR.1
  refine j_al2 910 C dL_law_910 ?_
  refine j_al0 911 C dL_law_911 ?_
  refine j_il3 912 C dL_law_912 ?_
  refine j_iconst 913 C dL_law_913 ic_1 ?_
  refine j_iadd 914 C dL_law_914 ?_
  refine j_top (nI (i + 1)) (nI_add i 1) ?_
  refine jl_scr 915 S (by omega) (by omega) C dL_law_915 ?_
  refine j_al0 916 C dL_law_916 ?_
  refine j_il3 917 C dL_law_917 ?_
  refine j_iconst 918 C dL_law_918 ic_2 ?_
  refine j_iadd 919 C dL_law_919 ?_
  refine j_top (nI (i + 2)) (nI_add i 2) ?_
  refine jl_scr 920 S (by omega) (by omega) C dL_law_920 ?_
  refine j_vi 921 C dL_law_921 mv_X5_swapFor lk_L_100 (c_X5_swapFor (by rw [e12]; exact hS) (T := T) (by rw [e12]; exact hT1) h31) rc_m rfl rfl ⟨(Nat.le_of_ble_eq_true rfl), (Nat.le_of_ble_eq_true rfl)⟩ (Nat.le_of_ble_eq_true rfl) (fun r2 g2 hp2 => ?_)
  rw [e12] at hp2
  obtain ⟨e, hR2⟩ := pr_row hR (gs_swapFor hR.2.1) hp1 hp2
  exact j_iceq 924 1533 C dL_law_924 (by decide) (fun _ => k g2 hR2) (fun q => absurd e q)
