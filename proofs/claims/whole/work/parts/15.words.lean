theorem ti_X4 : Cond.initialized RX4 ∈ TBL := TBL_of 69 (by decide +kernel) rfl
theorem ti_X0 : Cond.initialized RX0 ∈ TBL := TBL_of 70 (by decide +kernel) rfl
theorem ti_X3 : Cond.initialized RX3 ∈ TBL := TBL_of 71 (by decide +kernel) rfl
theorem ti_X2 : Cond.initialized RX2 ∈ TBL := TBL_of 72 (by decide +kernel) rfl
theorem ti_X5 : Cond.initialized RX5 ∈ TBL := TBL_of 73 (by decide +kernel) rfl
theorem ti_J6 : Cond.initialized RJ6 ∈ TBL := TBL_of 74 (by decide +kernel) rfl
theorem ti_J10 : Cond.initialized RJ10 ∈ TBL := TBL_of 75 (by decide +kernel) rfl
theorem ti_X1 : Cond.initialized RX1 ∈ TBL := TBL_of 76 (by decide +kernel) rfl
theorem ti_J9 : Cond.initialized RJ9 ∈ TBL := TBL_of 77 (by decide +kernel) rfl
theorem ti_J0 : Cond.initialized RJ0 ∈ TBL := TBL_of 78 (by decide +kernel) rfl
theorem ti_J1 : Cond.initialized RJ1 ∈ TBL := TBL_of 79 (by decide +kernel) rfl
theorem ti_J3 : Cond.initialized RJ3 ∈ TBL := TBL_of 80 (by decide +kernel) rfl
theorem ti_J2 : Cond.initialized RJ2 ∈ TBL := TBL_of 81 (by decide +kernel) rfl
theorem tc_X4_init : Cond.code yX4_init cX4_init 2 none ∈ TBL := TBL_of 86 rfl rfl
theorem tc_X0_init : Cond.code yX0_init cX0_init 2 none ∈ TBL := TBL_of 94 rfl rfl
theorem tc_X3_init : Cond.code yX3_init cX3_init 1 none ∈ TBL := TBL_of 124 rfl rfl
theorem tc_X2_init : Cond.code yX2_init cX2_init 1 none ∈ TBL := TBL_of 152 rfl rfl
theorem tc_X4_word : Cond.code yX4_word cX4_word 5 (some .int) ∈ TBL := TBL_of 195 rfl rfl
theorem mv_X4_word : MV yX4_word cX4_word 5 (some .int) 3 := ⟨tc_X4_word, TBL_of 193 (by decide +kernel) rfl, TBL_of 194 (by decide +kernel) rfl, ti_X4, ⟨by decide +kernel, by decide +kernel, by decide +kernel⟩⟩
theorem tc_X4_isPage : Cond.code yX4_isPage cX4_isPage 1 (some .boolean) ∈ TBL := TBL_of 198 rfl rfl
theorem ms_X4_isPage : MS yX4_isPage cX4_isPage 1 (some .boolean) 1 := ⟨tc_X4_isPage, TBL_of 197 (by decide +kernel) rfl, ti_X4, ⟨by decide +kernel, by decide +kernel, by decide +kernel⟩⟩
theorem tc_X4_within : Cond.code yX4_within cX4_within 3 (some .boolean) ∈ TBL := TBL_of 201 rfl rfl
theorem ms_X4_within : MS yX4_within cX4_within 3 (some .boolean) 3 := ⟨tc_X4_within, TBL_of 200 (by decide +kernel) rfl, ti_X4, ⟨by decide +kernel, by decide +kernel, by decide +kernel⟩⟩
theorem tc_X4_isPlace : Cond.code yX4_isPlace cX4_isPlace 1 (some .boolean) ∈ TBL := TBL_of 204 rfl rfl
theorem ms_X4_isPlace : MS yX4_isPlace cX4_isPlace 1 (some .boolean) 1 := ⟨tc_X4_isPlace, TBL_of 203 (by decide +kernel) rfl, ti_X4, ⟨by decide +kernel, by decide +kernel, by decide +kernel⟩⟩
theorem tc_X4_isWord : Cond.code yX4_isWord cX4_isWord 1 (some .boolean) ∈ TBL := TBL_of 207 rfl rfl
theorem ms_X4_isWord : MS yX4_isWord cX4_isWord 1 (some .boolean) 1 := ⟨tc_X4_isWord, TBL_of 206 (by decide +kernel) rfl, ti_X4, ⟨by decide +kernel, by decide +kernel, by decide +kernel⟩⟩
theorem tc_X4_finding : Cond.code yX4_finding cX4_finding 2 (some .int) ∈ TBL := TBL_of 212 rfl rfl
theorem mv_X4_finding : MV yX4_finding cX4_finding 2 (some .int) 1 := ⟨tc_X4_finding, TBL_of 211 (by decide +kernel) rfl, TBL_of 0 (by decide +kernel) rfl, ti_X4, ⟨by decide +kernel, by decide +kernel, by decide +kernel⟩⟩
theorem tc_X0_wordAt : Cond.code yX0_wordAt cX0_wordAt 3 (some .int) ∈ TBL := TBL_of 216 rfl rfl
theorem mv_X0_wordAt : MV yX0_wordAt cX0_wordAt 3 (some .int) 2 := ⟨tc_X0_wordAt, TBL_of 214 (by decide +kernel) rfl, TBL_of 215 (by decide +kernel) rfl, ti_X0, ⟨by decide +kernel, by decide +kernel, by decide +kernel⟩⟩
theorem tc_X0_setWord : Cond.code yX0_setWord cX0_setWord 4 none ∈ TBL := TBL_of 220 rfl rfl
theorem mv_X0_setWord : MV yX0_setWord cX0_setWord 4 none 3 := ⟨tc_X0_setWord, TBL_of 218 (by decide +kernel) rfl, TBL_of 219 (by decide +kernel) rfl, ti_X0, ⟨by decide +kernel, by decide +kernel, by decide +kernel⟩⟩
theorem tc_X4_reads : Cond.code yX4_reads cX4_reads 3 (some .int) ∈ TBL := TBL_of 224 rfl rfl
theorem mv_X4_reads : MV yX4_reads cX4_reads 3 (some .int) 2 := ⟨tc_X4_reads, TBL_of 222 (by decide +kernel) rfl, TBL_of 223 (by decide +kernel) rfl, ti_X4, ⟨by decide +kernel, by decide +kernel, by decide +kernel⟩⟩
theorem tc_X4_page : Cond.code yX4_page cX4_page 3 (some .int) ∈ TBL := TBL_of 228 rfl rfl
theorem mv_X4_page : MV yX4_page cX4_page 3 (some .int) 2 := ⟨tc_X4_page, TBL_of 226 (by decide +kernel) rfl, TBL_of 227 (by decide +kernel) rfl, ti_X4, ⟨by decide +kernel, by decide +kernel, by decide +kernel⟩⟩
theorem tc_X0_saidBy : Cond.code yX0_saidBy cX0_saidBy 4 (some .int) ∈ TBL := TBL_of 232 rfl rfl
theorem mv_X0_saidBy : MV yX0_saidBy cX0_saidBy 4 (some .int) 1 := ⟨tc_X0_saidBy, TBL_of 230 (by decide +kernel) rfl, TBL_of 231 (by decide +kernel) rfl, ti_X0, ⟨by decide +kernel, by decide +kernel, by decide +kernel⟩⟩
theorem tc_X0_holesOf : Cond.code yX0_holesOf cX0_holesOf 2 (some .int) ∈ TBL := TBL_of 237 rfl rfl
theorem mv_X0_holesOf : MV yX0_holesOf cX0_holesOf 2 (some .int) 1 := ⟨tc_X0_holesOf, TBL_of 235 (by decide +kernel) rfl, TBL_of 236 (by decide +kernel) rfl, ti_X0, ⟨by decide +kernel, by decide +kernel, by decide +kernel⟩⟩
theorem tc_X0_placesWithWords : Cond.code yX0_placesWithWords cX0_placesWithWords 4 (some .int) ∈ TBL := TBL_of 241 rfl rfl
theorem mv_X0_placesWithWords : MV yX0_placesWithWords cX0_placesWithWords 4 (some .int) 1 := ⟨tc_X0_placesWithWords, TBL_of 239 (by decide +kernel) rfl, TBL_of 240 (by decide +kernel) rfl, ti_X0, ⟨by decide +kernel, by decide +kernel, by decide +kernel⟩⟩
theorem tc_J6_bitCount_0f7a4 : Cond.code yJ6_bitCount_0f7a4 cJ6_bitCount_0f7a4 1 (some .int) ∈ TBL := TBL_of 244 rfl rfl
theorem ms_J6_bitCount_0f7a4 : MS yJ6_bitCount_0f7a4 cJ6_bitCount_0f7a4 1 (some .int) 1 := ⟨tc_J6_bitCount_0f7a4, TBL_of 243 (by decide +kernel) rfl, ti_J6, ⟨by decide +kernel, by decide +kernel, by decide +kernel⟩⟩
theorem tc_X0_mothsOn : Cond.code yX0_mothsOn cX0_mothsOn 4 (some .int) ∈ TBL := TBL_of 251 rfl rfl
theorem mv_X0_mothsOn : MV yX0_mothsOn cX0_mothsOn 4 (some .int) 1 := ⟨tc_X0_mothsOn, TBL_of 249 (by decide +kernel) rfl, TBL_of 250 (by decide +kernel) rfl, ti_X0, ⟨by decide +kernel, by decide +kernel, by decide +kernel⟩⟩
theorem tc_X0_trait : Cond.code yX0_trait cX0_trait 3 (some .int) ∈ TBL := TBL_of 255 rfl rfl
theorem mv_X0_trait : MV yX0_trait cX0_trait 3 (some .int) 2 := ⟨tc_X0_trait, TBL_of 253 (by decide +kernel) rfl, TBL_of 254 (by decide +kernel) rfl, ti_X0, ⟨by decide +kernel, by decide +kernel, by decide +kernel⟩⟩
theorem tc_X4_copied : Cond.code yX4_copied cX4_copied 3 (some .int) ∈ TBL := TBL_of 260 rfl rfl
theorem mv_X4_copied : MV yX4_copied cX4_copied 3 (some .int) 2 := ⟨tc_X4_copied, TBL_of 258 (by decide +kernel) rfl, TBL_of 259 (by decide +kernel) rfl, ti_X4, ⟨by decide +kernel, by decide +kernel, by decide +kernel⟩⟩
theorem tc_X0_copyPage : Cond.code yX0_copyPage cX0_copyPage 4 (some .int) ∈ TBL := TBL_of 264 rfl rfl
theorem mv_X0_copyPage : MV yX0_copyPage cX0_copyPage 4 (some .int) 2 := ⟨tc_X0_copyPage, TBL_of 262 (by decide +kernel) rfl, TBL_of 263 (by decide +kernel) rfl, ti_X0, ⟨by decide +kernel, by decide +kernel, by decide +kernel⟩⟩
theorem tc_X0_unlikePlaces : Cond.code yX0_unlikePlaces cX0_unlikePlaces 5 (some .int) ∈ TBL := TBL_of 268 rfl rfl
theorem mv_X0_unlikePlaces : MV yX0_unlikePlaces cX0_unlikePlaces 5 (some .int) 2 := ⟨tc_X0_unlikePlaces, TBL_of 266 (by decide +kernel) rfl, TBL_of 267 (by decide +kernel) rfl, ti_X0, ⟨by decide +kernel, by decide +kernel, by decide +kernel⟩⟩
theorem tc_X4_moth : Cond.code yX4_moth cX4_moth 3 (some .int) ∈ TBL := TBL_of 275 rfl rfl
theorem mv_X4_moth : MV yX4_moth cX4_moth 3 (some .int) 2 := ⟨tc_X4_moth, TBL_of 273 (by decide +kernel) rfl, TBL_of 274 (by decide +kernel) rfl, ti_X4, ⟨by decide +kernel, by decide +kernel, by decide +kernel⟩⟩
theorem tc_X4_isKind : Cond.code yX4_isKind cX4_isKind 1 (some .boolean) ∈ TBL := TBL_of 278 rfl rfl
theorem ms_X4_isKind : MS yX4_isKind cX4_isKind 1 (some .boolean) 1 := ⟨tc_X4_isKind, TBL_of 277 (by decide +kernel) rfl, ti_X4, ⟨by decide +kernel, by decide +kernel, by decide +kernel⟩⟩
theorem tc_X0_isFull : Cond.code yX0_isFull cX0_isFull 1 (some .boolean) ∈ TBL := TBL_of 282 rfl rfl
theorem mv_X0_isFull : MV yX0_isFull cX0_isFull 1 (some .boolean) 0 := ⟨tc_X0_isFull, TBL_of 280 (by decide +kernel) rfl, TBL_of 281 (by decide +kernel) rfl, ti_X0, ⟨by decide +kernel, by decide +kernel, by decide +kernel⟩⟩
theorem tc_X0_addMoth : Cond.code yX0_addMoth cX0_addMoth 4 (some .int) ∈ TBL := TBL_of 287 rfl rfl
theorem mv_X0_addMoth : MV yX0_addMoth cX0_addMoth 4 (some .int) 2 := ⟨tc_X0_addMoth, TBL_of 285 (by decide +kernel) rfl, TBL_of 286 (by decide +kernel) rfl, ti_X0, ⟨by decide +kernel, by decide +kernel, by decide +kernel⟩⟩
theorem tc_X0_setTrait : Cond.code yX0_setTrait cX0_setTrait 4 none ∈ TBL := TBL_of 291 rfl rfl
theorem mv_X0_setTrait : MV yX0_setTrait cX0_setTrait 4 none 3 := ⟨tc_X0_setTrait, TBL_of 289 (by decide +kernel) rfl, TBL_of 290 (by decide +kernel) rfl, ti_X0, ⟨by decide +kernel, by decide +kernel, by decide +kernel⟩⟩
theorem tc_X4_of : Cond.code yX4_of cX4_of 3 (some .int) ∈ TBL := TBL_of 295 rfl rfl
theorem mv_X4_of : MV yX4_of cX4_of 3 (some .int) 2 := ⟨tc_X4_of, TBL_of 293 (by decide +kernel) rfl, TBL_of 294 (by decide +kernel) rfl, ti_X4, ⟨by decide +kernel, by decide +kernel, by decide +kernel⟩⟩
theorem tc_X4_isMoth : Cond.code yX4_isMoth cX4_isMoth 2 (some .boolean) ∈ TBL := TBL_of 299 rfl rfl
theorem mv_X4_isMoth : MV yX4_isMoth cX4_isMoth 2 (some .boolean) 1 := ⟨tc_X4_isMoth, TBL_of 298 (by decide +kernel) rfl, TBL_of 1 (by decide +kernel) rfl, ti_X4, ⟨by decide +kernel, by decide +kernel, by decide +kernel⟩⟩
theorem tc_X0_bittenPlace : Cond.code yX0_bittenPlace cX0_bittenPlace 2 (some .int) ∈ TBL := TBL_of 303 rfl rfl
theorem mv_X0_bittenPlace : MV yX0_bittenPlace cX0_bittenPlace 2 (some .int) 1 := ⟨tc_X0_bittenPlace, TBL_of 301 (by decide +kernel) rfl, TBL_of 302 (by decide +kernel) rfl, ti_X0, ⟨by decide +kernel, by decide +kernel, by decide +kernel⟩⟩
theorem tc_X1_bittenPlace : Cond.code yX1_bittenPlace cX1_bittenPlace 6 (some .int) ∈ TBL := TBL_of 306 rfl rfl
theorem ms_X1_bittenPlace : MS yX1_bittenPlace cX1_bittenPlace 6 (some .int) 5 := ⟨tc_X1_bittenPlace, TBL_of 305 (by decide +kernel) rfl, ti_X1, ⟨by decide +kernel, by decide +kernel, by decide +kernel⟩⟩
theorem tc_X1_firstWord : Cond.code yX1_firstWord cX1_firstWord 3 (some .int) ∈ TBL := TBL_of 309 rfl rfl
theorem ms_X1_firstWord : MS yX1_firstWord cX1_firstWord 3 (some .int) 2 := ⟨tc_X1_firstWord, TBL_of 308 (by decide +kernel) rfl, ti_X1, ⟨by decide +kernel, by decide +kernel, by decide +kernel⟩⟩
theorem tc_X1_lastWord : Cond.code yX1_lastWord cX1_lastWord 3 (some .int) ∈ TBL := TBL_of 312 rfl rfl
theorem ms_X1_lastWord : MS yX1_lastWord cX1_lastWord 3 (some .int) 2 := ⟨tc_X1_lastWord, TBL_of 311 (by decide +kernel) rfl, ti_X1, ⟨by decide +kernel, by decide +kernel, by decide +kernel⟩⟩
theorem tc_X1_firstOfParity : Cond.code yX1_firstOfParity cX1_firstOfParity 5 (some .int) ∈ TBL := TBL_of 315 rfl rfl
theorem ms_X1_firstOfParity : MS yX1_firstOfParity cX1_firstOfParity 5 (some .int) 3 := ⟨tc_X1_firstOfParity, TBL_of 314 (by decide +kernel) rfl, ti_X1, ⟨by decide +kernel, by decide +kernel, by decide +kernel⟩⟩
theorem tc_X1_firstLike : Cond.code yX1_firstLike cX1_firstLike 4 (some .int) ∈ TBL := TBL_of 318 rfl rfl
theorem ms_X1_firstLike : MS yX1_firstLike cX1_firstLike 4 (some .int) 3 := ⟨tc_X1_firstLike, TBL_of 317 (by decide +kernel) rfl, ti_X1, ⟨by decide +kernel, by decide +kernel, by decide +kernel⟩⟩
theorem tc_X4_change : Cond.code yX4_change cX4_change 5 (some .int) ∈ TBL := TBL_of 323 rfl rfl
theorem mv_X4_change : MV yX4_change cX4_change 5 (some .int) 3 := ⟨tc_X4_change, TBL_of 321 (by decide +kernel) rfl, TBL_of 322 (by decide +kernel) rfl, ti_X4, ⟨by decide +kernel, by decide +kernel, by decide +kernel⟩⟩
theorem tc_X4_leaves : Cond.code yX4_leaves cX4_leaves 5 (some .int) ∈ TBL := TBL_of 332 rfl rfl
theorem mv_X4_leaves : MV yX4_leaves cX4_leaves 5 (some .int) 3 := ⟨tc_X4_leaves, TBL_of 330 (by decide +kernel) rfl, TBL_of 331 (by decide +kernel) rfl, ti_X4, ⟨by decide +kernel, by decide +kernel, by decide +kernel⟩⟩
theorem tc_X1_leftOf : Cond.code yX1_leftOf cX1_leftOf 2 (some .int) ∈ TBL := TBL_of 335 rfl rfl
theorem ms_X1_leftOf : MS yX1_leftOf cX1_leftOf 2 (some .int) 2 := ⟨tc_X1_leftOf, TBL_of 334 (by decide +kernel) rfl, ti_X1, ⟨by decide +kernel, by decide +kernel, by decide +kernel⟩⟩
theorem tc_J9_max_7cf53 : Cond.code yJ9_max_7cf53 cJ9_max_7cf53 2 (some .int) ∈ TBL := TBL_of 338 rfl rfl
theorem ms_J9_max_7cf53 : MS yJ9_max_7cf53 cJ9_max_7cf53 2 (some .int) 2 := ⟨tc_J9_max_7cf53, TBL_of 337 (by decide +kernel) rfl, ti_J9, ⟨by decide +kernel, by decide +kernel, by decide +kernel⟩⟩
theorem tc_X1_learnedLeft : Cond.code yX1_learnedLeft cX1_learnedLeft 1 (some .int) ∈ TBL := TBL_of 341 rfl rfl
theorem ms_X1_learnedLeft : MS yX1_learnedLeft cX1_learnedLeft 1 (some .int) 1 := ⟨tc_X1_learnedLeft, TBL_of 340 (by decide +kernel) rfl, ti_X1, ⟨by decide +kernel, by decide +kernel, by decide +kernel⟩⟩
theorem tc_J9_min_7cf53 : Cond.code yJ9_min_7cf53 cJ9_min_7cf53 2 (some .int) ∈ TBL := TBL_of 344 rfl rfl
theorem ms_J9_min_7cf53 : MS yJ9_min_7cf53 cJ9_min_7cf53 2 (some .int) 2 := ⟨tc_J9_min_7cf53, TBL_of 343 (by decide +kernel) rfl, ti_J9, ⟨by decide +kernel, by decide +kernel, by decide +kernel⟩⟩
theorem tc_X1_gainBy : Cond.code yX1_gainBy cX1_gainBy 2 (some .int) ∈ TBL := TBL_of 347 rfl rfl
theorem ms_X1_gainBy : MS yX1_gainBy cX1_gainBy 2 (some .int) 2 := ⟨tc_X1_gainBy, TBL_of 346 (by decide +kernel) rfl, ti_X1, ⟨by decide +kernel, by decide +kernel, by decide +kernel⟩⟩
theorem tc_X4_go : Cond.code yX4_go cX4_go 2 (some .int) ∈ TBL := TBL_of 351 rfl rfl
theorem mv_X4_go : MV yX4_go cX4_go 2 (some .int) 1 := ⟨tc_X4_go, TBL_of 349 (by decide +kernel) rfl, TBL_of 350 (by decide +kernel) rfl, ti_X4, ⟨by decide +kernel, by decide +kernel, by decide +kernel⟩⟩
theorem tc_X0_passNights : Cond.code yX0_passNights cX0_passNights 5 none ∈ TBL := TBL_of 357 rfl rfl
theorem mv_X0_passNights : MV yX0_passNights cX0_passNights 5 none 2 := ⟨tc_X0_passNights, TBL_of 355 (by decide +kernel) rfl, TBL_of 356 (by decide +kernel) rfl, ti_X0, ⟨by decide +kernel, by decide +kernel, by decide +kernel⟩⟩
theorem tc_X0_bite : Cond.code yX0_bite cX0_bite 7 none ∈ TBL := TBL_of 361 rfl rfl
theorem mv_X0_bite : MV yX0_bite cX0_bite 7 none 1 := ⟨tc_X0_bite, TBL_of 359 (by decide +kernel) rfl, TBL_of 360 (by decide +kernel) rfl, ti_X0, ⟨by decide +kernel, by decide +kernel, by decide +kernel⟩⟩
theorem tc_X0_allHoles : Cond.code yX0_allHoles cX0_allHoles 3 (some .int) ∈ TBL := TBL_of 371 rfl rfl
theorem mv_X0_allHoles : MV yX0_allHoles cX0_allHoles 3 (some .int) 0 := ⟨tc_X0_allHoles, TBL_of 369 (by decide +kernel) rfl, TBL_of 370 (by decide +kernel) rfl, ti_X0, ⟨by decide +kernel, by decide +kernel, by decide +kernel⟩⟩
theorem tc_X4_now : Cond.code yX4_now cX4_now 2 (some .int) ∈ TBL := TBL_of 376 rfl rfl
theorem mv_X4_now : MV yX4_now cX4_now 2 (some .int) 1 := ⟨tc_X4_now, TBL_of 374 (by decide +kernel) rfl, TBL_of 375 (by decide +kernel) rfl, ti_X4, ⟨by decide +kernel, by decide +kernel, by decide +kernel⟩⟩
theorem tc_X0_allSaid : Cond.code yX0_allSaid cX0_allSaid 3 (some .int) ∈ TBL := TBL_of 380 rfl rfl
theorem mv_X0_allSaid : MV yX0_allSaid cX0_allSaid 3 (some .int) 0 := ⟨tc_X0_allSaid, TBL_of 378 (by decide +kernel) rfl, TBL_of 379 (by decide +kernel) rfl, ti_X0, ⟨by decide +kernel, by decide +kernel, by decide +kernel⟩⟩
theorem tc_X0_allFed : Cond.code yX0_allFed cX0_allFed 3 (some .int) ∈ TBL := TBL_of 385 rfl rfl
theorem mv_X0_allFed : MV yX0_allFed cX0_allFed 3 (some .int) 0 := ⟨tc_X0_allFed, TBL_of 383 (by decide +kernel) rfl, TBL_of 384 (by decide +kernel) rfl, ti_X0, ⟨by decide +kernel, by decide +kernel, by decide +kernel⟩⟩
theorem tc_X0_idleMoths : Cond.code yX0_idleMoths cX0_idleMoths 3 (some .int) ∈ TBL := TBL_of 389 rfl rfl
theorem mv_X0_idleMoths : MV yX0_idleMoths cX0_idleMoths 3 (some .int) 0 := ⟨tc_X0_idleMoths, TBL_of 387 (by decide +kernel) rfl, TBL_of 388 (by decide +kernel) rfl, ti_X0, ⟨by decide +kernel, by decide +kernel, by decide +kernel⟩⟩
theorem tc_X0_barePages : Cond.code yX0_barePages cX0_barePages 3 (some .int) ∈ TBL := TBL_of 393 rfl rfl
theorem mv_X0_barePages : MV yX0_barePages cX0_barePages 3 (some .int) 0 := ⟨tc_X0_barePages, TBL_of 391 (by decide +kernel) rfl, TBL_of 392 (by decide +kernel) rfl, ti_X0, ⟨by decide +kernel, by decide +kernel, by decide +kernel⟩⟩
theorem tc_X0_isBare : Cond.code yX0_isBare cX0_isBare 2 (some .boolean) ∈ TBL := TBL_of 397 rfl rfl
theorem mv_X0_isBare : MV yX0_isBare cX0_isBare 2 (some .boolean) 1 := ⟨tc_X0_isBare, TBL_of 395 (by decide +kernel) rfl, TBL_of 396 (by decide +kernel) rfl, ti_X0, ⟨by decide +kernel, by decide +kernel, by decide +kernel⟩⟩
set_option maxRecDepth 100000 in
theorem tc_X4_ahead : Cond.code yX4_ahead cX4_ahead 4 (some .int) ∈ TBL := TBL_of 401 rfl rfl
theorem mv_X4_ahead : MV yX4_ahead cX4_ahead 4 (some .int) 3 := ⟨tc_X4_ahead, TBL_of 399 (by decide +kernel) rfl, TBL_of 400 (by decide +kernel) rfl, ti_X4, ⟨by decide +kernel, by decide +kernel, by decide +kernel⟩⟩
set_option maxRecDepth 100000 in
theorem tc_X4_lookAhead : Cond.code yX4_lookAhead cX4_lookAhead 2 none ∈ TBL := TBL_of 405 rfl rfl
theorem mv_X4_lookAhead : MV yX4_lookAhead cX4_lookAhead 2 none 1 := ⟨tc_X4_lookAhead, TBL_of 404 (by decide +kernel) rfl, TBL_of 2 (by decide +kernel) rfl, ti_X4, ⟨by decide +kernel, by decide +kernel, by decide +kernel⟩⟩
set_option maxRecDepth 100000 in
theorem tc_X0_become : Cond.code yX0_become cX0_become 2 none ∈ TBL := TBL_of 409 rfl rfl
theorem mv_X0_become : MV yX0_become cX0_become 2 none 1 := ⟨tc_X0_become, TBL_of 407 (by decide +kernel) rfl, TBL_of 408 (by decide +kernel) rfl, ti_X0, ⟨by decide +kernel, by decide +kernel, by decide +kernel⟩⟩
set_option maxRecDepth 100000 in
theorem tc_X4_says : Cond.code yX4_says cX4_says 3 (some .int) ∈ TBL := TBL_of 413 rfl rfl
theorem mv_X4_says : MV yX4_says cX4_says 3 (some .int) 2 := ⟨tc_X4_says, TBL_of 411 (by decide +kernel) rfl, TBL_of 412 (by decide +kernel) rfl, ti_X4, ⟨by decide +kernel, by decide +kernel, by decide +kernel⟩⟩
set_option maxRecDepth 100000 in
theorem tc_X4_fed : Cond.code yX4_fed cX4_fed 3 (some .int) ∈ TBL := TBL_of 417 rfl rfl
theorem mv_X4_fed : MV yX4_fed cX4_fed 3 (some .int) 2 := ⟨tc_X4_fed, TBL_of 415 (by decide +kernel) rfl, TBL_of 416 (by decide +kernel) rfl, ti_X4, ⟨by decide +kernel, by decide +kernel, by decide +kernel⟩⟩
set_option maxRecDepth 100000 in
theorem tc_X4_bare : Cond.code yX4_bare cX4_bare 2 (some .int) ∈ TBL := TBL_of 421 rfl rfl
theorem mv_X4_bare : MV yX4_bare cX4_bare 2 (some .int) 1 := ⟨tc_X4_bare, TBL_of 419 (by decide +kernel) rfl, TBL_of 420 (by decide +kernel) rfl, ti_X4, ⟨by decide +kernel, by decide +kernel, by decide +kernel⟩⟩
set_option maxRecDepth 100000 in
theorem tc_X4_fewestNights : Cond.code yX4_fewestNights cX4_fewestNights 5 (some .int) ∈ TBL := TBL_of 425 rfl rfl
theorem mv_X4_fewestNights : MV yX4_fewestNights cX4_fewestNights 5 (some .int) 3 := ⟨tc_X4_fewestNights, TBL_of 424 (by decide +kernel) rfl, TBL_of 3 (by decide +kernel) rfl, ti_X4, ⟨by decide +kernel, by decide +kernel, by decide +kernel⟩⟩
set_option maxRecDepth 100000 in
theorem tc_X4_hasCome : Cond.code yX4_hasCome cX4_hasCome 4 (some .boolean) ∈ TBL := TBL_of 429 rfl rfl
theorem mv_X4_hasCome : MV yX4_hasCome cX4_hasCome 4 (some .boolean) 3 := ⟨tc_X4_hasCome, TBL_of 428 (by decide +kernel) rfl, TBL_of 4 (by decide +kernel) rfl, ti_X4, ⟨by decide +kernel, by decide +kernel, by decide +kernel⟩⟩
set_option maxRecDepth 100000 in
theorem tc_X0_hasPagesOf : Cond.code yX0_hasPagesOf cX0_hasPagesOf 3 (some .boolean) ∈ TBL := TBL_of 434 rfl rfl
theorem mv_X0_hasPagesOf : MV yX0_hasPagesOf cX0_hasPagesOf 3 (some .boolean) 1 := ⟨tc_X0_hasPagesOf, TBL_of 432 (by decide +kernel) rfl, TBL_of 433 (by decide +kernel) rfl, ti_X0, ⟨by decide +kernel, by decide +kernel, by decide +kernel⟩⟩
set_option maxRecDepth 100000 in
theorem tc_X0_hasPageOf : Cond.code yX0_hasPageOf cX0_hasPageOf 4 (some .boolean) ∈ TBL := TBL_of 438 rfl rfl
theorem mv_X0_hasPageOf : MV yX0_hasPageOf cX0_hasPageOf 4 (some .boolean) 2 := ⟨tc_X0_hasPageOf, TBL_of 436 (by decide +kernel) rfl, TBL_of 437 (by decide +kernel) rfl, ti_X0, ⟨by decide +kernel, by decide +kernel, by decide +kernel⟩⟩
set_option maxRecDepth 100000 in
theorem tc_X4_when : Cond.code yX4_when cX4_when 3 (some .int) ∈ TBL := TBL_of 444 rfl rfl
theorem mv_X4_when : MV yX4_when cX4_when 3 (some .int) 2 := ⟨tc_X4_when, TBL_of 442 (by decide +kernel) rfl, TBL_of 443 (by decide +kernel) rfl, ti_X4, ⟨by decide +kernel, by decide +kernel, by decide +kernel⟩⟩
set_option maxRecDepth 100000 in
theorem tc_X4_settles : Cond.code yX4_settles cX4_settles 1 (some .int) ∈ TBL := TBL_of 448 rfl rfl
theorem mv_X4_settles : MV yX4_settles cX4_settles 1 (some .int) 0 := ⟨tc_X4_settles, TBL_of 446 (by decide +kernel) rfl, TBL_of 447 (by decide +kernel) rfl, ti_X4, ⟨by decide +kernel, by decide +kernel, by decide +kernel⟩⟩
set_option maxRecDepth 100000 in
theorem tc_X4_alike : Cond.code yX4_alike cX4_alike 3 (some .int) ∈ TBL := TBL_of 452 rfl rfl
theorem mv_X4_alike : MV yX4_alike cX4_alike 3 (some .int) 2 := ⟨tc_X4_alike, TBL_of 450 (by decide +kernel) rfl, TBL_of 451 (by decide +kernel) rfl, ti_X4, ⟨by decide +kernel, by decide +kernel, by decide +kernel⟩⟩
set_option maxRecDepth 100000 in
theorem tc_X4_put : Cond.code yX4_put cX4_put 4 (some .int) ∈ TBL := TBL_of 456 rfl rfl
theorem mv_X4_put : MV yX4_put cX4_put 4 (some .int) 3 := ⟨tc_X4_put, TBL_of 454 (by decide +kernel) rfl, TBL_of 455 (by decide +kernel) rfl, ti_X4, ⟨by decide +kernel, by decide +kernel, by decide +kernel⟩⟩
set_option maxRecDepth 100000 in
theorem tc_X4_bestTrait : Cond.code yX4_bestTrait cX4_bestTrait 9 (some .int) ∈ TBL := TBL_of 460 rfl rfl
theorem mv_X4_bestTrait : MV yX4_bestTrait cX4_bestTrait 9 (some .int) 4 := ⟨tc_X4_bestTrait, TBL_of 459 (by decide +kernel) rfl, TBL_of 5 (by decide +kernel) rfl, ti_X4, ⟨by decide +kernel, by decide +kernel, by decide +kernel⟩⟩
set_option maxRecDepth 100000 in
theorem tc_X4_tasteFor : Cond.code yX4_tasteFor cX4_tasteFor 4 (some .int) ∈ TBL := TBL_of 464 rfl rfl
theorem mv_X4_tasteFor : MV yX4_tasteFor cX4_tasteFor 4 (some .int) 3 := ⟨tc_X4_tasteFor, TBL_of 462 (by decide +kernel) rfl, TBL_of 463 (by decide +kernel) rfl, ti_X4, ⟨by decide +kernel, by decide +kernel, by decide +kernel⟩⟩
set_option maxRecDepth 100000 in
theorem tc_X4_kindFor : Cond.code yX4_kindFor cX4_kindFor 4 (some .int) ∈ TBL := TBL_of 468 rfl rfl
theorem mv_X4_kindFor : MV yX4_kindFor cX4_kindFor 4 (some .int) 3 := ⟨tc_X4_kindFor, TBL_of 466 (by decide +kernel) rfl, TBL_of 467 (by decide +kernel) rfl, ti_X4, ⟨by decide +kernel, by decide +kernel, by decide +kernel⟩⟩
set_option maxRecDepth 100000 in
theorem tc_X4_swapFor : Cond.code yX4_swapFor cX4_swapFor 8 (some .int) ∈ TBL := TBL_of 472 rfl rfl
theorem mv_X4_swapFor : MV yX4_swapFor cX4_swapFor 8 (some .int) 2 := ⟨tc_X4_swapFor, TBL_of 470 (by decide +kernel) rfl, TBL_of 471 (by decide +kernel) rfl, ti_X4, ⟨by decide +kernel, by decide +kernel, by decide +kernel⟩⟩
set_option maxRecDepth 100000 in
theorem tc_X0_swapPages : Cond.code yX0_swapPages cX0_swapPages 4 none ∈ TBL := TBL_of 476 rfl rfl
theorem mv_X0_swapPages : MV yX0_swapPages cX0_swapPages 4 none 2 := ⟨tc_X0_swapPages, TBL_of 474 (by decide +kernel) rfl, TBL_of 475 (by decide +kernel) rfl, ti_X0, ⟨by decide +kernel, by decide +kernel, by decide +kernel⟩⟩
set_option maxRecDepth 100000 in
theorem tc_X4_out : Cond.code yX4_out cX4_out 7 (some .int) ∈ TBL := TBL_of 480 rfl rfl
theorem mv_X4_out : MV yX4_out cX4_out 7 (some .int) 2 := ⟨tc_X4_out, TBL_of 478 (by decide +kernel) rfl, TBL_of 479 (by decide +kernel) rfl, ti_X4, ⟨by decide +kernel, by decide +kernel, by decide +kernel⟩⟩
set_option maxRecDepth 100000 in
theorem tc_X4_staysWithout : Cond.code yX4_staysWithout cX4_staysWithout 4 (some .boolean) ∈ TBL := TBL_of 485 rfl rfl
theorem mv_X4_staysWithout : MV yX4_staysWithout cX4_staysWithout 4 (some .boolean) 3 := ⟨tc_X4_staysWithout, TBL_of 484 (by decide +kernel) rfl, TBL_of 6 (by decide +kernel) rfl, ti_X4, ⟨by decide +kernel, by decide +kernel, by decide +kernel⟩⟩
set_option maxRecDepth 100000 in
theorem tc_X4_fits : Cond.code yX4_fits cX4_fits 7 (some .int) ∈ TBL := TBL_of 490 rfl rfl
theorem mv_X4_fits : MV yX4_fits cX4_fits 7 (some .int) 4 := ⟨tc_X4_fits, TBL_of 488 (by decide +kernel) rfl, TBL_of 489 (by decide +kernel) rfl, ti_X4, ⟨by decide +kernel, by decide +kernel, by decide +kernel⟩⟩
set_option maxRecDepth 100000 in
theorem tc_X4_isSheet : Cond.code yX4_isSheet cX4_isSheet 1 (some .boolean) ∈ TBL := TBL_of 493 rfl rfl
theorem ms_X4_isSheet : MS yX4_isSheet cX4_isSheet 1 (some .boolean) 1 := ⟨tc_X4_isSheet, TBL_of 492 (by decide +kernel) rfl, ti_X4, ⟨by decide +kernel, by decide +kernel, by decide +kernel⟩⟩
set_option maxRecDepth 100000 in
theorem tc_X2_isMissing : Cond.code yX2_isMissing cX2_isMissing 1 (some .boolean) ∈ TBL := TBL_of 497 rfl rfl
theorem mv_X2_isMissing : MV yX2_isMissing cX2_isMissing 1 (some .boolean) 0 := ⟨tc_X2_isMissing, TBL_of 495 (by decide +kernel) rfl, TBL_of 496 (by decide +kernel) rfl, ti_X2, ⟨by decide +kernel, by decide +kernel, by decide +kernel⟩⟩
set_option maxRecDepth 100000 in
theorem tc_X4_isPageAsTold : Cond.code yX4_isPageAsTold cX4_isPageAsTold 5 (some .boolean) ∈ TBL := TBL_of 502 rfl rfl
theorem mv_X4_isPageAsTold : MV yX4_isPageAsTold cX4_isPageAsTold 5 (some .boolean) 2 := ⟨tc_X4_isPageAsTold, TBL_of 501 (by decide +kernel) rfl, TBL_of 7 (by decide +kernel) rfl, ti_X4, ⟨by decide +kernel, by decide +kernel, by decide +kernel⟩⟩
set_option maxRecDepth 100000 in
theorem tc_X4_kinds : Cond.code yX4_kinds cX4_kinds 5 (some .int) ∈ TBL := TBL_of 507 rfl rfl
theorem mv_X4_kinds : MV yX4_kinds cX4_kinds 5 (some .int) 2 := ⟨tc_X4_kinds, TBL_of 505 (by decide +kernel) rfl, TBL_of 506 (by decide +kernel) rfl, ti_X4, ⟨by decide +kernel, by decide +kernel, by decide +kernel⟩⟩
set_option maxRecDepth 100000 in
theorem tc_X4_isFedAsTold : Cond.code yX4_isFedAsTold cX4_isFedAsTold 4 (some .boolean) ∈ TBL := TBL_of 511 rfl rfl
theorem mv_X4_isFedAsTold : MV yX4_isFedAsTold cX4_isFedAsTold 4 (some .boolean) 2 := ⟨tc_X4_isFedAsTold, TBL_of 510 (by decide +kernel) rfl, TBL_of 8 (by decide +kernel) rfl, ti_X4, ⟨by decide +kernel, by decide +kernel, by decide +kernel⟩⟩
set_option maxRecDepth 100000 in
theorem tc_X4_lights : Cond.code yX4_lights cX4_lights 3 (some .int) ∈ TBL := TBL_of 515 rfl rfl
theorem mv_X4_lights : MV yX4_lights cX4_lights 3 (some .int) 1 := ⟨tc_X4_lights, TBL_of 513 (by decide +kernel) rfl, TBL_of 514 (by decide +kernel) rfl, ti_X4, ⟨by decide +kernel, by decide +kernel, by decide +kernel⟩⟩
set_option maxRecDepth 100000 in
theorem tc_X0_leaveLightOn : Cond.code yX0_leaveLightOn cX0_leaveLightOn 3 none ∈ TBL := TBL_of 519 rfl rfl
theorem mv_X0_leaveLightOn : MV yX0_leaveLightOn cX0_leaveLightOn 3 none 0 := ⟨tc_X0_leaveLightOn, TBL_of 517 (by decide +kernel) rfl, TBL_of 518 (by decide +kernel) rfl, ti_X0, ⟨by decide +kernel, by decide +kernel, by decide +kernel⟩⟩
set_option maxRecDepth 100000 in
theorem tc_X0_draw : Cond.code yX0_draw cX0_draw 1 (some .int) ∈ TBL := TBL_of 523 rfl rfl
theorem mv_X0_draw : MV yX0_draw cX0_draw 1 (some .int) 0 := ⟨tc_X0_draw, TBL_of 521 (by decide +kernel) rfl, TBL_of 522 (by decide +kernel) rfl, ti_X0, ⟨by decide +kernel, by decide +kernel, by decide +kernel⟩⟩
set_option maxRecDepth 100000 in
theorem tc_X4_odds : Cond.code yX4_odds cX4_odds 5 (some .long) ∈ TBL := TBL_of 528 rfl rfl
theorem mv_X4_odds : MV yX4_odds cX4_odds 5 (some .long) 2 := ⟨tc_X4_odds, TBL_of 526 (by decide +kernel) rfl, TBL_of 527 (by decide +kernel) rfl, ti_X4, ⟨by decide +kernel, by decide +kernel, by decide +kernel⟩⟩
set_option maxRecDepth 100000 in
theorem tc_X4_commonDivisor : Cond.code yX4_commonDivisor cX4_commonDivisor 3 (some .int) ∈ TBL := TBL_of 531 rfl rfl
theorem ms_X4_commonDivisor : MS yX4_commonDivisor cX4_commonDivisor 3 (some .int) 2 := ⟨tc_X4_commonDivisor, TBL_of 530 (by decide +kernel) rfl, ti_X4, ⟨by decide +kernel, by decide +kernel, by decide +kernel⟩⟩
set_option maxRecDepth 100000 in
theorem tc_X4_power : Cond.code yX4_power cX4_power 6 (some .long) ∈ TBL := TBL_of 534 rfl rfl
theorem ms_X4_power : MS yX4_power cX4_power 6 (some .long) 2 := ⟨tc_X4_power, TBL_of 533 (by decide +kernel) rfl, ti_X4, ⟨by decide +kernel, by decide +kernel, by decide +kernel⟩⟩
set_option maxRecDepth 100000 in
theorem tc_X4_seed : Cond.code yX4_seed cX4_seed 3 (some .int) ∈ TBL := TBL_of 538 rfl rfl
theorem mv_X4_seed : MV yX4_seed cX4_seed 3 (some .int) 1 := ⟨tc_X4_seed, TBL_of 536 (by decide +kernel) rfl, TBL_of 537 (by decide +kernel) rfl, ti_X4, ⟨by decide +kernel, by decide +kernel, by decide +kernel⟩⟩
set_option maxRecDepth 100000 in
theorem tc_X4_feed : Cond.code yX4_feed cX4_feed 4 (some .int) ∈ TBL := TBL_of 542 rfl rfl
theorem mv_X4_feed : MV yX4_feed cX4_feed 4 (some .int) 2 := ⟨tc_X4_feed, TBL_of 540 (by decide +kernel) rfl, TBL_of 541 (by decide +kernel) rfl, ti_X4, ⟨by decide +kernel, by decide +kernel, by decide +kernel⟩⟩
set_option maxRecDepth 100000 in
theorem tc_X3_append : Cond.code yX3_append cX3_append 2 none ∈ TBL := TBL_of 546 rfl rfl
theorem mv_X3_append : MV yX3_append cX3_append 2 none 1 := ⟨tc_X3_append, TBL_of 544 (by decide +kernel) rfl, TBL_of 545 (by decide +kernel) rfl, ti_X3, ⟨by decide +kernel, by decide +kernel, by decide +kernel⟩⟩
set_option maxRecDepth 100000 in
theorem tc_X4_wipe : Cond.code yX4_wipe cX4_wipe 1 (some .int) ∈ TBL := TBL_of 550 rfl rfl
theorem mv_X4_wipe : MV yX4_wipe cX4_wipe 1 (some .int) 0 := ⟨tc_X4_wipe, TBL_of 548 (by decide +kernel) rfl, TBL_of 549 (by decide +kernel) rfl, ti_X4, ⟨by decide +kernel, by decide +kernel, by decide +kernel⟩⟩
set_option maxRecDepth 100000 in
theorem tc_X3_empty : Cond.code yX3_empty cX3_empty 2 (some .int) ∈ TBL := TBL_of 554 rfl rfl
theorem mv_X3_empty : MV yX3_empty cX3_empty 2 (some .int) 0 := ⟨tc_X3_empty, TBL_of 552 (by decide +kernel) rfl, TBL_of 553 (by decide +kernel) rfl, ti_X3, ⟨by decide +kernel, by decide +kernel, by decide +kernel⟩⟩
set_option maxRecDepth 100000 in
theorem tc_X4_text : Cond.code yX4_text cX4_text 2 (some .int) ∈ TBL := TBL_of 558 rfl rfl
theorem mv_X4_text : MV yX4_text cX4_text 2 (some .int) 0 := ⟨tc_X4_text, TBL_of 556 (by decide +kernel) rfl, TBL_of 557 (by decide +kernel) rfl, ti_X4, ⟨by decide +kernel, by decide +kernel, by decide +kernel⟩⟩
set_option maxRecDepth 100000 in
theorem tc_X3_readInto : Cond.code yX3_readInto cX3_readInto 3 (some .int) ∈ TBL := TBL_of 562 rfl rfl
theorem mv_X3_readInto : MV yX3_readInto cX3_readInto 3 (some .int) 1 := ⟨tc_X3_readInto, TBL_of 560 (by decide +kernel) rfl, TBL_of 561 (by decide +kernel) rfl, ti_X3, ⟨by decide +kernel, by decide +kernel, by decide +kernel⟩⟩
set_option maxRecDepth 100000 in
theorem tc_X3_step : Cond.code yX3_step cX3_step 1 none ∈ TBL := TBL_of 566 rfl rfl
theorem mv_X3_step : MV yX3_step cX3_step 1 none 0 := ⟨tc_X3_step, TBL_of 565 (by decide +kernel) rfl, TBL_of 9 (by decide +kernel) rfl, ti_X3, ⟨by decide +kernel, by decide +kernel, by decide +kernel⟩⟩
set_option maxRecDepth 100000 in
theorem tc_X3_readItem : Cond.code yX3_readItem cX3_readItem 3 (some .boolean) ∈ TBL := TBL_of 570 rfl rfl
theorem mv_X3_readItem : MV yX3_readItem cX3_readItem 3 (some .boolean) 1 := ⟨tc_X3_readItem, TBL_of 569 (by decide +kernel) rfl, TBL_of 10 (by decide +kernel) rfl, ti_X3, ⟨by decide +kernel, by decide +kernel, by decide +kernel⟩⟩
set_option maxRecDepth 100000 in
theorem tc_X3_isName : Cond.code yX3_isName cX3_isName 3 (some .boolean) ∈ TBL := TBL_of 575 rfl rfl
theorem mv_X3_isName : MV yX3_isName cX3_isName 3 (some .boolean) 1 := ⟨tc_X3_isName, TBL_of 574 (by decide +kernel) rfl, TBL_of 11 (by decide +kernel) rfl, ti_X3, ⟨by decide +kernel, by decide +kernel, by decide +kernel⟩⟩
set_option maxRecDepth 100000 in
theorem tc_J0_length_8abf5 : Cond.code yJ0_length_8abf5 cJ0_length_8abf5 1 (some .int) ∈ TBL := TBL_of 579 rfl rfl
theorem mv_J0_length_8abf5 : MV yJ0_length_8abf5 cJ0_length_8abf5 1 (some .int) 0 := ⟨tc_J0_length_8abf5, TBL_of 577 (by decide +kernel) rfl, TBL_of 578 (by decide +kernel) rfl, ti_J0, ⟨by decide +kernel, by decide +kernel, by decide +kernel⟩⟩
set_option maxRecDepth 100000 in
theorem tc_J0_coder_7d493 : Cond.code yJ0_coder_7d493 cJ0_coder_7d493 1 (some .byte) ∈ TBL := TBL_of 583 rfl rfl
theorem mv_J0_coder_7d493 : MV yJ0_coder_7d493 cJ0_coder_7d493 1 (some .byte) 0 := ⟨tc_J0_coder_7d493, TBL_of 581 (by decide +kernel) rfl, TBL_of 582 (by decide +kernel) rfl, ti_J0, ⟨by decide +kernel, by decide +kernel, by decide +kernel⟩⟩
set_option maxRecDepth 100000 in
theorem tc_J0_charAt_5068e : Cond.code yJ0_charAt_5068e cJ0_charAt_5068e 2 (some .char) ∈ TBL := TBL_of 589 rfl rfl
theorem mv_J0_charAt_5068e : MV yJ0_charAt_5068e cJ0_charAt_5068e 2 (some .char) 1 := ⟨tc_J0_charAt_5068e, TBL_of 587 (by decide +kernel) rfl, TBL_of 588 (by decide +kernel) rfl, ti_J0, ⟨by decide +kernel, by decide +kernel, by decide +kernel⟩⟩
set_option maxRecDepth 100000 in
theorem tc_J0_isLatin1_aae02 : Cond.code yJ0_isLatin1_aae02 cJ0_isLatin1_aae02 1 (some .boolean) ∈ TBL := TBL_of 593 rfl rfl
theorem mv_J0_isLatin1_aae02 : MV yJ0_isLatin1_aae02 cJ0_isLatin1_aae02 1 (some .boolean) 0 := ⟨tc_J0_isLatin1_aae02, TBL_of 591 (by decide +kernel) rfl, TBL_of 592 (by decide +kernel) rfl, ti_J0, ⟨by decide +kernel, by decide +kernel, by decide +kernel⟩⟩
set_option maxRecDepth 100000 in
theorem tc_J1_charAt_3b067 : Cond.code yJ1_charAt_3b067 cJ1_charAt_3b067 2 (some .char) ∈ TBL := TBL_of 596 rfl rfl
theorem ms_J1_charAt_3b067 : MS yJ1_charAt_3b067 cJ1_charAt_3b067 2 (some .char) 2 := ⟨tc_J1_charAt_3b067, TBL_of 595 (by decide +kernel) rfl, ti_J1, ⟨by decide +kernel, by decide +kernel, by decide +kernel⟩⟩
set_option maxRecDepth 100000 in
theorem tc_J0_checkIndex_df160 : Cond.code yJ0_checkIndex_df160 cJ0_checkIndex_df160 2 none ∈ TBL := TBL_of 599 rfl rfl
theorem ms_J0_checkIndex_df160 : MS yJ0_checkIndex_df160 cJ0_checkIndex_df160 2 none 2 := ⟨tc_J0_checkIndex_df160, TBL_of 598 (by decide +kernel) rfl, ti_J0, ⟨by decide +kernel, by decide +kernel, by decide +kernel⟩⟩
set_option maxRecDepth 100000 in
theorem tc_J3_checkIndex_8e157 : Cond.code yJ3_checkIndex_8e157 cJ3_checkIndex_8e157 3 (some .int) ∈ TBL := TBL_of 604 rfl rfl
theorem ms_J3_checkIndex_8e157 : MS yJ3_checkIndex_8e157 cJ3_checkIndex_8e157 3 (some .int) 3 := ⟨tc_J3_checkIndex_8e157, TBL_of 603 (by decide +kernel) rfl, ti_J3, ⟨by decide +kernel, by decide +kernel, by decide +kernel⟩⟩
set_option maxRecDepth 100000 in
theorem tc_J2_charAt_3b067 : Cond.code yJ2_charAt_3b067 cJ2_charAt_3b067 2 (some .char) ∈ TBL := TBL_of 607 rfl rfl
theorem ms_J2_charAt_3b067 : MS yJ2_charAt_3b067 cJ2_charAt_3b067 2 (some .char) 2 := ⟨tc_J2_charAt_3b067, TBL_of 606 (by decide +kernel) rfl, ti_J2, ⟨by decide +kernel, by decide +kernel, by decide +kernel⟩⟩
set_option maxRecDepth 100000 in
theorem tc_J2_checkIndex_2214a : Cond.code yJ2_checkIndex_2214a cJ2_checkIndex_2214a 2 none ∈ TBL := TBL_of 610 rfl rfl
theorem ms_J2_checkIndex_2214a : MS yJ2_checkIndex_2214a cJ2_checkIndex_2214a 2 none 2 := ⟨tc_J2_checkIndex_2214a, TBL_of 609 (by decide +kernel) rfl, ti_J2, ⟨by decide +kernel, by decide +kernel, by decide +kernel⟩⟩
set_option maxRecDepth 100000 in
theorem tc_J2_length_9d52b : Cond.code yJ2_length_9d52b cJ2_length_9d52b 1 (some .int) ∈ TBL := TBL_of 613 rfl rfl
theorem ms_J2_length_9d52b : MS yJ2_length_9d52b cJ2_length_9d52b 1 (some .int) 1 := ⟨tc_J2_length_9d52b, TBL_of 612 (by decide +kernel) rfl, ti_J2, ⟨by decide +kernel, by decide +kernel, by decide +kernel⟩⟩
set_option maxRecDepth 100000 in
theorem tc_J2_getChar_3b067 : Cond.code yJ2_getChar_3b067 cJ2_getChar_3b067 2 (some .char) ∈ TBL := TBL_of 617 rfl rfl
theorem ms_J2_getChar_3b067 : MS yJ2_getChar_3b067 cJ2_getChar_3b067 2 (some .char) 2 := ⟨tc_J2_getChar_3b067, TBL_of 616 (by decide +kernel) rfl, ti_J2, ⟨by decide +kernel, by decide +kernel, by decide +kernel⟩⟩
set_option maxRecDepth 100000 in
theorem tc_X3_readPage : Cond.code yX3_readPage cX3_readPage 5 (some .boolean) ∈ TBL := TBL_of 627 rfl rfl
theorem mv_X3_readPage : MV yX3_readPage cX3_readPage 5 (some .boolean) 1 := ⟨tc_X3_readPage, TBL_of 626 (by decide +kernel) rfl, TBL_of 12 (by decide +kernel) rfl, ti_X3, ⟨by decide +kernel, by decide +kernel, by decide +kernel⟩⟩
set_option maxRecDepth 100000 in
theorem tc_X3_takeBarePage : Cond.code yX3_takeBarePage cX3_takeBarePage 3 (some .int) ∈ TBL := TBL_of 631 rfl rfl
theorem mv_X3_takeBarePage : MV yX3_takeBarePage cX3_takeBarePage 3 (some .int) 1 := ⟨tc_X3_takeBarePage, TBL_of 630 (by decide +kernel) rfl, TBL_of 13 (by decide +kernel) rfl, ti_X3, ⟨by decide +kernel, by decide +kernel, by decide +kernel⟩⟩
set_option maxRecDepth 100000 in
theorem tc_X3_takeNumber : Cond.code yX3_takeNumber cX3_takeNumber 4 (some .int) ∈ TBL := TBL_of 635 rfl rfl
theorem mv_X3_takeNumber : MV yX3_takeNumber cX3_takeNumber 4 (some .int) 2 := ⟨tc_X3_takeNumber, TBL_of 634 (by decide +kernel) rfl, TBL_of 14 (by decide +kernel) rfl, ti_X3, ⟨by decide +kernel, by decide +kernel, by decide +kernel⟩⟩
set_option maxRecDepth 100000 in
theorem tc_X0_setHoles : Cond.code yX0_setHoles cX0_setHoles 3 none ∈ TBL := TBL_of 640 rfl rfl
theorem mv_X0_setHoles : MV yX0_setHoles cX0_setHoles 3 none 1 := ⟨tc_X0_setHoles, TBL_of 638 (by decide +kernel) rfl, TBL_of 639 (by decide +kernel) rfl, ti_X0, ⟨by decide +kernel, by decide +kernel, by decide +kernel⟩⟩
set_option maxRecDepth 100000 in
theorem tc_X3_kindName : Cond.code yX3_kindName cX3_kindName 1 (some (.object "java/lang/String")) ∈ TBL := TBL_of 645 rfl rfl
theorem ms_X3_kindName : MS yX3_kindName cX3_kindName 1 (some (.object "java/lang/String")) 1 := ⟨tc_X3_kindName, TBL_of 644 (by decide +kernel) rfl, ti_X3, ⟨by decide +kernel, by decide +kernel, by decide +kernel⟩⟩
set_option maxRecDepth 100000 in
theorem tc_X3_readMoth : Cond.code yX3_readMoth cX3_readMoth 4 (some .boolean) ∈ TBL := TBL_of 656 rfl rfl
theorem mv_X3_readMoth : MV yX3_readMoth cX3_readMoth 4 (some .boolean) 2 := ⟨tc_X3_readMoth, TBL_of 655 (by decide +kernel) rfl, TBL_of 15 (by decide +kernel) rfl, ti_X3, ⟨by decide +kernel, by decide +kernel, by decide +kernel⟩⟩
set_option maxRecDepth 100000 in
theorem tc_X3_readTrait : Cond.code yX3_readTrait cX3_readTrait 7 (some .boolean) ∈ TBL := TBL_of 664 rfl rfl
theorem mv_X3_readTrait : MV yX3_readTrait cX3_readTrait 7 (some .boolean) 5 := ⟨tc_X3_readTrait, TBL_of 663 (by decide +kernel) rfl, TBL_of 16 (by decide +kernel) rfl, ti_X3, ⟨by decide +kernel, by decide +kernel, by decide +kernel⟩⟩
set_option maxRecDepth 100000 in
theorem tc_X4_hold : Cond.code yX4_hold cX4_hold 3 (some .int) ∈ TBL := TBL_of 672 rfl rfl
theorem mv_X4_hold : MV yX4_hold cX4_hold 3 (some .int) 2 := ⟨tc_X4_hold, TBL_of 670 (by decide +kernel) rfl, TBL_of 671 (by decide +kernel) rfl, ti_X4, ⟨by decide +kernel, by decide +kernel, by decide +kernel⟩⟩
set_option maxRecDepth 100000 in
theorem tc_X4_isSpot : Cond.code yX4_isSpot cX4_isSpot 1 (some .boolean) ∈ TBL := TBL_of 675 rfl rfl
theorem ms_X4_isSpot : MS yX4_isSpot cX4_isSpot 1 (some .boolean) 1 := ⟨tc_X4_isSpot, TBL_of 674 (by decide +kernel) rfl, ti_X4, ⟨by decide +kernel, by decide +kernel, by decide +kernel⟩⟩
set_option maxRecDepth 100000 in
theorem tc_X4_as : Cond.code yX4_as cX4_as 4 (some .int) ∈ TBL := TBL_of 679 rfl rfl
theorem mv_X4_as : MV yX4_as cX4_as 4 (some .int) 2 := ⟨tc_X4_as, TBL_of 677 (by decide +kernel) rfl, TBL_of 678 (by decide +kernel) rfl, ti_X4, ⟨by decide +kernel, by decide +kernel, by decide +kernel⟩⟩
set_option maxRecDepth 100000 in
theorem tc_X1_isOneOf : Cond.code yX1_isOneOf cX1_isOneOf 4 (some .boolean) ∈ TBL := TBL_of 682 rfl rfl
theorem ms_X1_isOneOf : MS yX1_isOneOf cX1_isOneOf 4 (some .boolean) 2 := ⟨tc_X1_isOneOf, TBL_of 681 (by decide +kernel) rfl, ti_X1, ⟨by decide +kernel, by decide +kernel, by decide +kernel⟩⟩
set_option maxRecDepth 100000 in
theorem tc_X4_sheet : Cond.code yX4_sheet cX4_sheet 4 (some .int) ∈ TBL := TBL_of 689 rfl rfl
theorem mv_X4_sheet : MV yX4_sheet cX4_sheet 4 (some .int) 3 := ⟨tc_X4_sheet, TBL_of 687 (by decide +kernel) rfl, TBL_of 688 (by decide +kernel) rfl, ti_X4, ⟨by decide +kernel, by decide +kernel, by decide +kernel⟩⟩
set_option maxRecDepth 100000 in
theorem tc_X2_make : Cond.code yX2_make cX2_make 4 none ∈ TBL := TBL_of 694 rfl rfl
theorem mv_X2_make : MV yX2_make cX2_make 4 none 2 := ⟨tc_X2_make, TBL_of 692 (by decide +kernel) rfl, TBL_of 693 (by decide +kernel) rfl, ti_X2, ⟨by decide +kernel, by decide +kernel, by decide +kernel⟩⟩
set_option maxRecDepth 100000 in
theorem tc_X4_write : Cond.code yX4_write cX4_write 4 (some .int) ∈ TBL := TBL_of 698 rfl rfl
theorem mv_X4_write : MV yX4_write cX4_write 4 (some .int) 3 := ⟨tc_X4_write, TBL_of 696 (by decide +kernel) rfl, TBL_of 697 (by decide +kernel) rfl, ti_X4, ⟨by decide +kernel, by decide +kernel, by decide +kernel⟩⟩
set_option maxRecDepth 100000 in
theorem tc_X2_set : Cond.code yX2_set cX2_set 3 none ∈ TBL := TBL_of 702 rfl rfl
theorem mv_X2_set : MV yX2_set cX2_set 3 none 2 := ⟨tc_X2_set, TBL_of 700 (by decide +kernel) rfl, TBL_of 701 (by decide +kernel) rfl, ti_X2, ⟨by decide +kernel, by decide +kernel, by decide +kernel⟩⟩
set_option maxRecDepth 100000 in
theorem tc_X4_copy : Cond.code yX4_copy cX4_copy 6 (some .int) ∈ TBL := TBL_of 706 rfl rfl
theorem mv_X4_copy : MV yX4_copy cX4_copy 6 (some .int) 5 := ⟨tc_X4_copy, TBL_of 704 (by decide +kernel) rfl, TBL_of 705 (by decide +kernel) rfl, ti_X4, ⟨by decide +kernel, by decide +kernel, by decide +kernel⟩⟩
set_option maxRecDepth 100000 in
theorem tc_X2_hasRun : Cond.code yX2_hasRun cX2_hasRun 3 (some .boolean) ∈ TBL := TBL_of 710 rfl rfl
theorem mv_X2_hasRun : MV yX2_hasRun cX2_hasRun 3 (some .boolean) 2 := ⟨tc_X2_hasRun, TBL_of 708 (by decide +kernel) rfl, TBL_of 709 (by decide +kernel) rfl, ti_X2, ⟨by decide +kernel, by decide +kernel, by decide +kernel⟩⟩
set_option maxRecDepth 100000 in
theorem tc_X4_load : Cond.code yX4_load cX4_load 5 (some .int) ∈ TBL := TBL_of 715 rfl rfl
theorem mv_X4_load : MV yX4_load cX4_load 5 (some .int) 1 := ⟨tc_X4_load, TBL_of 713 (by decide +kernel) rfl, TBL_of 714 (by decide +kernel) rfl, ti_X4, ⟨by decide +kernel, by decide +kernel, by decide +kernel⟩⟩
set_option maxRecDepth 100000 in
theorem tc_X4_judge : Cond.code yX4_judge cX4_judge 3 (some .int) ∈ TBL := TBL_of 719 rfl rfl
theorem mv_X4_judge : MV yX4_judge cX4_judge 3 (some .int) 1 := ⟨tc_X4_judge, TBL_of 717 (by decide +kernel) rfl, TBL_of 718 (by decide +kernel) rfl, ti_X4, ⟨by decide +kernel, by decide +kernel, by decide +kernel⟩⟩
set_option maxRecDepth 100000 in
theorem tc_X4_image : Cond.code yX4_image cX4_image 1 (some .int) ∈ TBL := TBL_of 723 rfl rfl
theorem mv_X4_image : MV yX4_image cX4_image 1 (some .int) 0 := ⟨tc_X4_image, TBL_of 721 (by decide +kernel) rfl, TBL_of 722 (by decide +kernel) rfl, ti_X4, ⟨by decide +kernel, by decide +kernel, by decide +kernel⟩⟩
set_option maxRecDepth 100000 in
theorem tc_X4_undo : Cond.code yX4_undo cX4_undo 1 (some .int) ∈ TBL := TBL_of 727 rfl rfl
theorem mv_X4_undo : MV yX4_undo cX4_undo 1 (some .int) 0 := ⟨tc_X4_undo, TBL_of 725 (by decide +kernel) rfl, TBL_of 726 (by decide +kernel) rfl, ti_X4, ⟨by decide +kernel, by decide +kernel, by decide +kernel⟩⟩
set_option maxRecDepth 100000 in
theorem tc_X4_tear : Cond.code yX4_tear cX4_tear 2 (some .int) ∈ TBL := TBL_of 731 rfl rfl
theorem mv_X4_tear : MV yX4_tear cX4_tear 2 (some .int) 0 := ⟨tc_X4_tear, TBL_of 729 (by decide +kernel) rfl, TBL_of 730 (by decide +kernel) rfl, ti_X4, ⟨by decide +kernel, by decide +kernel, by decide +kernel⟩⟩
set_option maxRecDepth 100000 in
theorem tc_X4_count : Cond.code yX4_count cX4_count 2 (some .int) ∈ TBL := TBL_of 735 rfl rfl
theorem mv_X4_count : MV yX4_count cX4_count 2 (some .int) 1 := ⟨tc_X4_count, TBL_of 733 (by decide +kernel) rfl, TBL_of 734 (by decide +kernel) rfl, ti_X4, ⟨by decide +kernel, by decide +kernel, by decide +kernel⟩⟩
set_option maxRecDepth 100000 in
theorem tc_X0_heldSpots : Cond.code yX0_heldSpots cX0_heldSpots 3 (some .int) ∈ TBL := TBL_of 739 rfl rfl
theorem mv_X0_heldSpots : MV yX0_heldSpots cX0_heldSpots 3 (some .int) 0 := ⟨tc_X0_heldSpots, TBL_of 737 (by decide +kernel) rfl, TBL_of 738 (by decide +kernel) rfl, ti_X0, ⟨by decide +kernel, by decide +kernel, by decide +kernel⟩⟩
set_option maxRecDepth 100000 in
theorem tc_X4_status : Cond.code yX4_status cX4_status 4 (some .int) ∈ TBL := TBL_of 743 rfl rfl
theorem mv_X4_status : MV yX4_status cX4_status 4 (some .int) 1 := ⟨tc_X4_status, TBL_of 741 (by decide +kernel) rfl, TBL_of 742 (by decide +kernel) rfl, ti_X4, ⟨by decide +kernel, by decide +kernel, by decide +kernel⟩⟩
set_option maxRecDepth 100000 in
theorem tc_X5_init : Cond.code yX5_init cX5_init 2 none ∈ TBL := TBL_of 748 rfl rfl
set_option maxRecDepth 100000 in
theorem tc_X5_word : Cond.code yX5_word cX5_word 4 (some .int) ∈ TBL := TBL_of 805 rfl rfl
theorem mv_X5_word : MV yX5_word cX5_word 4 (some .int) 3 := ⟨tc_X5_word, TBL_of 803 (by decide +kernel) rfl, TBL_of 804 (by decide +kernel) rfl, ti_X5, ⟨by decide +kernel, by decide +kernel, by decide +kernel⟩⟩
set_option maxRecDepth 100000 in
theorem tc_X5_isPlace : Cond.code yX5_isPlace cX5_isPlace 2 (some .boolean) ∈ TBL := TBL_of 808 rfl rfl
theorem ms_X5_isPlace : MS yX5_isPlace cX5_isPlace 2 (some .boolean) 2 := ⟨tc_X5_isPlace, TBL_of 807 (by decide +kernel) rfl, ti_X5, ⟨by decide +kernel, by decide +kernel, by decide +kernel⟩⟩
set_option maxRecDepth 100000 in
theorem tc_X5_isPage : Cond.code yX5_isPage cX5_isPage 1 (some .boolean) ∈ TBL := TBL_of 811 rfl rfl
theorem ms_X5_isPage : MS yX5_isPage cX5_isPage 1 (some .boolean) 1 := ⟨tc_X5_isPage, TBL_of 810 (by decide +kernel) rfl, ti_X5, ⟨by decide +kernel, by decide +kernel, by decide +kernel⟩⟩
set_option maxRecDepth 100000 in
theorem tc_X5_isIn : Cond.code yX5_isIn cX5_isIn 6 (some .boolean) ∈ TBL := TBL_of 815 rfl rfl
theorem ms_X5_isIn : MS yX5_isIn cX5_isIn 6 (some .boolean) 3 := ⟨tc_X5_isIn, TBL_of 814 (by decide +kernel) rfl, ti_X5, ⟨by decide +kernel, by decide +kernel, by decide +kernel⟩⟩
set_option maxRecDepth 100000 in
theorem tc_X5_becomes : Cond.code yX5_becomes cX5_becomes 4 (some .int) ∈ TBL := TBL_of 819 rfl rfl
theorem mv_X5_becomes : MV yX5_becomes cX5_becomes 4 (some .int) 2 := ⟨tc_X5_becomes, TBL_of 818 (by decide +kernel) rfl, TBL_of 17 (by decide +kernel) rfl, ti_X5, ⟨by decide +kernel, by decide +kernel, by decide +kernel⟩⟩
set_option maxRecDepth 100000 in
theorem tc_X5_finds : Cond.code yX5_finds cX5_finds 2 (some .int) ∈ TBL := TBL_of 824 rfl rfl
theorem mv_X5_finds : MV yX5_finds cX5_finds 2 (some .int) 1 := ⟨tc_X5_finds, TBL_of 823 (by decide +kernel) rfl, TBL_of 18 (by decide +kernel) rfl, ti_X5, ⟨by decide +kernel, by decide +kernel, by decide +kernel⟩⟩
set_option maxRecDepth 100000 in
theorem tc_X5_reads : Cond.code yX5_reads cX5_reads 3 (some .int) ∈ TBL := TBL_of 828 rfl rfl
theorem mv_X5_reads : MV yX5_reads cX5_reads 3 (some .int) 2 := ⟨tc_X5_reads, TBL_of 826 (by decide +kernel) rfl, TBL_of 827 (by decide +kernel) rfl, ti_X5, ⟨by decide +kernel, by decide +kernel, by decide +kernel⟩⟩
set_option maxRecDepth 100000 in
theorem tc_X5_wordAt : Cond.code yX5_wordAt cX5_wordAt 3 (some .int) ∈ TBL := TBL_of 832 rfl rfl
theorem mv_X5_wordAt : MV yX5_wordAt cX5_wordAt 3 (some .int) 2 := ⟨tc_X5_wordAt, TBL_of 831 (by decide +kernel) rfl, TBL_of 19 (by decide +kernel) rfl, ti_X5, ⟨by decide +kernel, by decide +kernel, by decide +kernel⟩⟩
set_option maxRecDepth 100000 in
theorem tc_X5_page : Cond.code yX5_page cX5_page 3 (some .int) ∈ TBL := TBL_of 836 rfl rfl
theorem mv_X5_page : MV yX5_page cX5_page 3 (some .int) 2 := ⟨tc_X5_page, TBL_of 834 (by decide +kernel) rfl, TBL_of 835 (by decide +kernel) rfl, ti_X5, ⟨by decide +kernel, by decide +kernel, by decide +kernel⟩⟩
set_option maxRecDepth 100000 in
theorem tc_X5_saysNow : Cond.code yX5_saysNow cX5_saysNow 4 (some .int) ∈ TBL := TBL_of 841 rfl rfl
theorem mv_X5_saysNow : MV yX5_saysNow cX5_saysNow 4 (some .int) 1 := ⟨tc_X5_saysNow, TBL_of 840 (by decide +kernel) rfl, TBL_of 20 (by decide +kernel) rfl, ti_X5, ⟨by decide +kernel, by decide +kernel, by decide +kernel⟩⟩
set_option maxRecDepth 100000 in
theorem tc_X5_whole : Cond.code yX5_whole cX5_whole 4 (some .int) ∈ TBL := TBL_of 845 rfl rfl
theorem mv_X5_whole : MV yX5_whole cX5_whole 4 (some .int) 1 := ⟨tc_X5_whole, TBL_of 844 (by decide +kernel) rfl, TBL_of 21 (by decide +kernel) rfl, ti_X5, ⟨by decide +kernel, by decide +kernel, by decide +kernel⟩⟩
set_option maxRecDepth 100000 in
theorem tc_X5_many : Cond.code yX5_many cX5_many 3 (some .int) ∈ TBL := TBL_of 848 rfl rfl
theorem ms_X5_many : MS yX5_many cX5_many 3 (some .int) 1 := ⟨tc_X5_many, TBL_of 847 (by decide +kernel) rfl, ti_X5, ⟨by decide +kernel, by decide +kernel, by decide +kernel⟩⟩
set_option maxRecDepth 100000 in
theorem tc_X5_there : Cond.code yX5_there cX5_there 4 (some .int) ∈ TBL := TBL_of 852 rfl rfl
theorem mv_X5_there : MV yX5_there cX5_there 4 (some .int) 1 := ⟨tc_X5_there, TBL_of 851 (by decide +kernel) rfl, TBL_of 22 (by decide +kernel) rfl, ti_X5, ⟨by decide +kernel, by decide +kernel, by decide +kernel⟩⟩
set_option maxRecDepth 100000 in
theorem tc_X5_its : Cond.code yX5_its cX5_its 3 (some .int) ∈ TBL := TBL_of 856 rfl rfl
theorem mv_X5_its : MV yX5_its cX5_its 3 (some .int) 2 := ⟨tc_X5_its, TBL_of 855 (by decide +kernel) rfl, TBL_of 23 (by decide +kernel) rfl, ti_X5, ⟨by decide +kernel, by decide +kernel, by decide +kernel⟩⟩
set_option maxRecDepth 100000 in
theorem tc_X5_copied : Cond.code yX5_copied cX5_copied 5 (some .int) ∈ TBL := TBL_of 860 rfl rfl
theorem mv_X5_copied : MV yX5_copied cX5_copied 5 (some .int) 2 := ⟨tc_X5_copied, TBL_of 858 (by decide +kernel) rfl, TBL_of 859 (by decide +kernel) rfl, ti_X5, ⟨by decide +kernel, by decide +kernel, by decide +kernel⟩⟩
set_option maxRecDepth 100000 in
theorem tc_X5_moth : Cond.code yX5_moth cX5_moth 3 (some .int) ∈ TBL := TBL_of 864 rfl rfl
theorem mv_X5_moth : MV yX5_moth cX5_moth 3 (some .int) 2 := ⟨tc_X5_moth, TBL_of 862 (by decide +kernel) rfl, TBL_of 863 (by decide +kernel) rfl, ti_X5, ⟨by decide +kernel, by decide +kernel, by decide +kernel⟩⟩
set_option maxRecDepth 100000 in
theorem tc_X5_comes : Cond.code yX5_comes cX5_comes 3 none ∈ TBL := TBL_of 870 rfl rfl
theorem mv_X5_comes : MV yX5_comes cX5_comes 3 none 2 := ⟨tc_X5_comes, TBL_of 869 (by decide +kernel) rfl, TBL_of 24 (by decide +kernel) rfl, ti_X5, ⟨by decide +kernel, by decide +kernel, by decide +kernel⟩⟩
set_option maxRecDepth 100000 in
theorem tc_X5_at : Cond.code yX5_at cX5_at 2 (some .int) ∈ TBL := TBL_of 873 rfl rfl
theorem ms_X5_at : MS yX5_at cX5_at 2 (some .int) 2 := ⟨tc_X5_at, TBL_of 872 (by decide +kernel) rfl, ti_X5, ⟨by decide +kernel, by decide +kernel, by decide +kernel⟩⟩
set_option maxRecDepth 100000 in
theorem tc_X5_of : Cond.code yX5_of cX5_of 3 (some .int) ∈ TBL := TBL_of 877 rfl rfl
theorem mv_X5_of : MV yX5_of cX5_of 3 (some .int) 2 := ⟨tc_X5_of, TBL_of 875 (by decide +kernel) rfl, TBL_of 876 (by decide +kernel) rfl, ti_X5, ⟨by decide +kernel, by decide +kernel, by decide +kernel⟩⟩
set_option maxRecDepth 100000 in
theorem tc_X5_isMoth : Cond.code yX5_isMoth cX5_isMoth 2 (some .boolean) ∈ TBL := TBL_of 881 rfl rfl
theorem mv_X5_isMoth : MV yX5_isMoth cX5_isMoth 2 (some .boolean) 1 := ⟨tc_X5_isMoth, TBL_of 880 (by decide +kernel) rfl, TBL_of 25 (by decide +kernel) rfl, ti_X5, ⟨by decide +kernel, by decide +kernel, by decide +kernel⟩⟩
set_option maxRecDepth 100000 in
theorem tc_X5_bites : Cond.code yX5_bites cX5_bites 4 (some .int) ∈ TBL := TBL_of 886 rfl rfl
theorem mv_X5_bites : MV yX5_bites cX5_bites 4 (some .int) 1 := ⟨tc_X5_bites, TBL_of 885 (by decide +kernel) rfl, TBL_of 26 (by decide +kernel) rfl, ti_X5, ⟨by decide +kernel, by decide +kernel, by decide +kernel⟩⟩
set_option maxRecDepth 100000 in
theorem tc_X5_firstWhole : Cond.code yX5_firstWhole cX5_firstWhole 4 (some .int) ∈ TBL := TBL_of 890 rfl rfl
theorem mv_X5_firstWhole : MV yX5_firstWhole cX5_firstWhole 4 (some .int) 1 := ⟨tc_X5_firstWhole, TBL_of 889 (by decide +kernel) rfl, TBL_of 27 (by decide +kernel) rfl, ti_X5, ⟨by decide +kernel, by decide +kernel, by decide +kernel⟩⟩
set_option maxRecDepth 100000 in
theorem tc_X5_firstLike : Cond.code yX5_firstLike cX5_firstLike 6 (some .int) ∈ TBL := TBL_of 894 rfl rfl
theorem mv_X5_firstLike : MV yX5_firstLike cX5_firstLike 6 (some .int) 2 := ⟨tc_X5_firstLike, TBL_of 893 (by decide +kernel) rfl, TBL_of 28 (by decide +kernel) rfl, ti_X5, ⟨by decide +kernel, by decide +kernel, by decide +kernel⟩⟩
set_option maxRecDepth 100000 in
theorem tc_X5_scholarBites : Cond.code yX5_scholarBites cX5_scholarBites 4 (some .int) ∈ TBL := TBL_of 898 rfl rfl
theorem mv_X5_scholarBites : MV yX5_scholarBites cX5_scholarBites 4 (some .int) 2 := ⟨tc_X5_scholarBites, TBL_of 897 (by decide +kernel) rfl, TBL_of 29 (by decide +kernel) rfl, ti_X5, ⟨by decide +kernel, by decide +kernel, by decide +kernel⟩⟩
set_option maxRecDepth 100000 in
theorem tc_X5_firstOf : Cond.code yX5_firstOf cX5_firstOf 5 (some .int) ∈ TBL := TBL_of 902 rfl rfl
theorem mv_X5_firstOf : MV yX5_firstOf cX5_firstOf 5 (some .int) 2 := ⟨tc_X5_firstOf, TBL_of 901 (by decide +kernel) rfl, TBL_of 30 (by decide +kernel) rfl, ti_X5, ⟨by decide +kernel, by decide +kernel, by decide +kernel⟩⟩
set_option maxRecDepth 100000 in
theorem tc_X5_lastWhole : Cond.code yX5_lastWhole cX5_lastWhole 4 (some .int) ∈ TBL := TBL_of 906 rfl rfl
theorem mv_X5_lastWhole : MV yX5_lastWhole cX5_lastWhole 4 (some .int) 1 := ⟨tc_X5_lastWhole, TBL_of 905 (by decide +kernel) rfl, TBL_of 31 (by decide +kernel) rfl, ti_X5, ⟨by decide +kernel, by decide +kernel, by decide +kernel⟩⟩
set_option maxRecDepth 100000 in
theorem tc_X5_change : Cond.code yX5_change cX5_change 4 (some .int) ∈ TBL := TBL_of 910 rfl rfl
theorem mv_X5_change : MV yX5_change cX5_change 4 (some .int) 3 := ⟨tc_X5_change, TBL_of 908 (by decide +kernel) rfl, TBL_of 909 (by decide +kernel) rfl, ti_X5, ⟨by decide +kernel, by decide +kernel, by decide +kernel⟩⟩
set_option maxRecDepth 100000 in
theorem tc_X5_isFit : Cond.code yX5_isFit cX5_isFit 2 (some .boolean) ∈ TBL := TBL_of 913 rfl rfl
theorem ms_X5_isFit : MS yX5_isFit cX5_isFit 2 (some .boolean) 2 := ⟨tc_X5_isFit, TBL_of 912 (by decide +kernel) rfl, ti_X5, ⟨by decide +kernel, by decide +kernel, by decide +kernel⟩⟩
set_option maxRecDepth 100000 in
theorem tc_X5_leaves : Cond.code yX5_leaves cX5_leaves 4 (some .int) ∈ TBL := TBL_of 918 rfl rfl
theorem mv_X5_leaves : MV yX5_leaves cX5_leaves 4 (some .int) 3 := ⟨tc_X5_leaves, TBL_of 916 (by decide +kernel) rfl, TBL_of 917 (by decide +kernel) rfl, ti_X5, ⟨by decide +kernel, by decide +kernel, by decide +kernel⟩⟩
set_option maxRecDepth 100000 in
theorem tc_X5_leavesBy : Cond.code yX5_leavesBy cX5_leavesBy 2 (some .int) ∈ TBL := TBL_of 921 rfl rfl
theorem ms_X5_leavesBy : MS yX5_leavesBy cX5_leavesBy 2 (some .int) 2 := ⟨tc_X5_leavesBy, TBL_of 920 (by decide +kernel) rfl, ti_X5, ⟨by decide +kernel, by decide +kernel, by decide +kernel⟩⟩
set_option maxRecDepth 100000 in
theorem tc_X5_least : Cond.code yX5_least cX5_least 2 (some .int) ∈ TBL := TBL_of 924 rfl rfl
theorem ms_X5_least : MS yX5_least cX5_least 2 (some .int) 2 := ⟨tc_X5_least, TBL_of 923 (by decide +kernel) rfl, ti_X5, ⟨by decide +kernel, by decide +kernel, by decide +kernel⟩⟩
set_option maxRecDepth 100000 in
theorem tc_X5_gainsBy : Cond.code yX5_gainsBy cX5_gainsBy 2 (some .int) ∈ TBL := TBL_of 927 rfl rfl
theorem ms_X5_gainsBy : MS yX5_gainsBy cX5_gainsBy 2 (some .int) 2 := ⟨tc_X5_gainsBy, TBL_of 926 (by decide +kernel) rfl, ti_X5, ⟨by decide +kernel, by decide +kernel, by decide +kernel⟩⟩
set_option maxRecDepth 100000 in
theorem tc_X5_go : Cond.code yX5_go cX5_go 2 (some .int) ∈ TBL := TBL_of 931 rfl rfl
theorem mv_X5_go : MV yX5_go cX5_go 2 (some .int) 1 := ⟨tc_X5_go, TBL_of 929 (by decide +kernel) rfl, TBL_of 930 (by decide +kernel) rfl, ti_X5, ⟨by decide +kernel, by decide +kernel, by decide +kernel⟩⟩
set_option maxRecDepth 100000 in
theorem tc_X5_goes : Cond.code yX5_goes cX5_goes 3 none ∈ TBL := TBL_of 938 rfl rfl
theorem mv_X5_goes : MV yX5_goes cX5_goes 3 none 1 := ⟨tc_X5_goes, TBL_of 937 (by decide +kernel) rfl, TBL_of 32 (by decide +kernel) rfl, ti_X5, ⟨by decide +kernel, by decide +kernel, by decide +kernel⟩⟩
set_option maxRecDepth 100000 in
theorem tc_X5_nightBut : Cond.code yX5_nightBut cX5_nightBut 6 none ∈ TBL := TBL_of 942 rfl rfl
theorem mv_X5_nightBut : MV yX5_nightBut cX5_nightBut 6 none 1 := ⟨tc_X5_nightBut, TBL_of 941 (by decide +kernel) rfl, TBL_of 33 (by decide +kernel) rfl, ti_X5, ⟨by decide +kernel, by decide +kernel, by decide +kernel⟩⟩
set_option maxRecDepth 100000 in
theorem tc_X5_holes : Cond.code yX5_holes cX5_holes 3 (some .int) ∈ TBL := TBL_of 946 rfl rfl
theorem mv_X5_holes : MV yX5_holes cX5_holes 3 (some .int) 0 := ⟨tc_X5_holes, TBL_of 945 (by decide +kernel) rfl, TBL_of 34 (by decide +kernel) rfl, ti_X5, ⟨by decide +kernel, by decide +kernel, by decide +kernel⟩⟩
set_option maxRecDepth 100000 in
theorem tc_X5_now : Cond.code yX5_now cX5_now 2 (some .int) ∈ TBL := TBL_of 950 rfl rfl
theorem mv_X5_now : MV yX5_now cX5_now 2 (some .int) 1 := ⟨tc_X5_now, TBL_of 948 (by decide +kernel) rfl, TBL_of 949 (by decide +kernel) rfl, ti_X5, ⟨by decide +kernel, by decide +kernel, by decide +kernel⟩⟩
set_option maxRecDepth 100000 in
theorem tc_X5_saysAll : Cond.code yX5_saysAll cX5_saysAll 3 (some .int) ∈ TBL := TBL_of 954 rfl rfl
theorem mv_X5_saysAll : MV yX5_saysAll cX5_saysAll 3 (some .int) 0 := ⟨tc_X5_saysAll, TBL_of 953 (by decide +kernel) rfl, TBL_of 35 (by decide +kernel) rfl, ti_X5, ⟨by decide +kernel, by decide +kernel, by decide +kernel⟩⟩
set_option maxRecDepth 100000 in
theorem tc_X5_fedAll : Cond.code yX5_fedAll cX5_fedAll 3 (some .int) ∈ TBL := TBL_of 958 rfl rfl
theorem mv_X5_fedAll : MV yX5_fedAll cX5_fedAll 3 (some .int) 0 := ⟨tc_X5_fedAll, TBL_of 957 (by decide +kernel) rfl, TBL_of 36 (by decide +kernel) rfl, ti_X5, ⟨by decide +kernel, by decide +kernel, by decide +kernel⟩⟩
set_option maxRecDepth 100000 in
theorem tc_X5_hungry : Cond.code yX5_hungry cX5_hungry 3 (some .int) ∈ TBL := TBL_of 962 rfl rfl
theorem mv_X5_hungry : MV yX5_hungry cX5_hungry 3 (some .int) 0 := ⟨tc_X5_hungry, TBL_of 961 (by decide +kernel) rfl, TBL_of 37 (by decide +kernel) rfl, ti_X5, ⟨by decide +kernel, by decide +kernel, by decide +kernel⟩⟩
set_option maxRecDepth 100000 in
theorem tc_X5_barePages : Cond.code yX5_barePages cX5_barePages 3 (some .int) ∈ TBL := TBL_of 966 rfl rfl
theorem mv_X5_barePages : MV yX5_barePages cX5_barePages 3 (some .int) 0 := ⟨tc_X5_barePages, TBL_of 965 (by decide +kernel) rfl, TBL_of 38 (by decide +kernel) rfl, ti_X5, ⟨by decide +kernel, by decide +kernel, by decide +kernel⟩⟩
set_option maxRecDepth 100000 in
theorem tc_X5_ahead : Cond.code yX5_ahead cX5_ahead 5 (some .int) ∈ TBL := TBL_of 970 rfl rfl
theorem mv_X5_ahead : MV yX5_ahead cX5_ahead 5 (some .int) 3 := ⟨tc_X5_ahead, TBL_of 968 (by decide +kernel) rfl, TBL_of 969 (by decide +kernel) rfl, ti_X5, ⟨by decide +kernel, by decide +kernel, by decide +kernel⟩⟩
set_option maxRecDepth 100000 in
theorem tc_X5_copyRow : Cond.code yX5_copyRow cX5_copyRow 3 none ∈ TBL := TBL_of 974 rfl rfl
theorem ms_X5_copyRow : MS yX5_copyRow cX5_copyRow 3 none 2 := ⟨tc_X5_copyRow, TBL_of 973 (by decide +kernel) rfl, ti_X5, ⟨by decide +kernel, by decide +kernel, by decide +kernel⟩⟩
set_option maxRecDepth 100000 in
theorem tc_X5_says : Cond.code yX5_says cX5_says 3 (some .int) ∈ TBL := TBL_of 978 rfl rfl
theorem mv_X5_says : MV yX5_says cX5_says 3 (some .int) 2 := ⟨tc_X5_says, TBL_of 976 (by decide +kernel) rfl, TBL_of 977 (by decide +kernel) rfl, ti_X5, ⟨by decide +kernel, by decide +kernel, by decide +kernel⟩⟩
set_option maxRecDepth 100000 in
theorem tc_X5_saysIn : Cond.code yX5_saysIn cX5_saysIn 4 (some .int) ∈ TBL := TBL_of 982 rfl rfl
theorem mv_X5_saysIn : MV yX5_saysIn cX5_saysIn 4 (some .int) 2 := ⟨tc_X5_saysIn, TBL_of 981 (by decide +kernel) rfl, TBL_of 39 (by decide +kernel) rfl, ti_X5, ⟨by decide +kernel, by decide +kernel, by decide +kernel⟩⟩
set_option maxRecDepth 100000 in
theorem tc_X5_fed : Cond.code yX5_fed cX5_fed 4 (some .int) ∈ TBL := TBL_of 986 rfl rfl
theorem mv_X5_fed : MV yX5_fed cX5_fed 4 (some .int) 2 := ⟨tc_X5_fed, TBL_of 984 (by decide +kernel) rfl, TBL_of 985 (by decide +kernel) rfl, ti_X5, ⟨by decide +kernel, by decide +kernel, by decide +kernel⟩⟩
set_option maxRecDepth 100000 in
theorem tc_X5_bare : Cond.code yX5_bare cX5_bare 3 (some .int) ∈ TBL := TBL_of 990 rfl rfl
theorem mv_X5_bare : MV yX5_bare cX5_bare 3 (some .int) 1 := ⟨tc_X5_bare, TBL_of 988 (by decide +kernel) rfl, TBL_of 989 (by decide +kernel) rfl, ti_X5, ⟨by decide +kernel, by decide +kernel, by decide +kernel⟩⟩
set_option maxRecDepth 100000 in
theorem tc_X5_when : Cond.code yX5_when cX5_when 4 (some .int) ∈ TBL := TBL_of 995 rfl rfl
theorem mv_X5_when : MV yX5_when cX5_when 4 (some .int) 2 := ⟨tc_X5_when, TBL_of 993 (by decide +kernel) rfl, TBL_of 994 (by decide +kernel) rfl, ti_X5, ⟨by decide +kernel, by decide +kernel, by decide +kernel⟩⟩
set_option maxRecDepth 100000 in
theorem tc_X5_settles : Cond.code yX5_settles cX5_settles 2 (some .int) ∈ TBL := TBL_of 1000 rfl rfl
theorem mv_X5_settles : MV yX5_settles cX5_settles 2 (some .int) 0 := ⟨tc_X5_settles, TBL_of 998 (by decide +kernel) rfl, TBL_of 999 (by decide +kernel) rfl, ti_X5, ⟨by decide +kernel, by decide +kernel, by decide +kernel⟩⟩
set_option maxRecDepth 100000 in
theorem tc_X5_leavesAll : Cond.code yX5_leavesAll cX5_leavesAll 3 (some .boolean) ∈ TBL := TBL_of 1004 rfl rfl
theorem mv_X5_leavesAll : MV yX5_leavesAll cX5_leavesAll 3 (some .boolean) 0 := ⟨tc_X5_leavesAll, TBL_of 1003 (by decide +kernel) rfl, TBL_of 40 (by decide +kernel) rfl, ti_X5, ⟨by decide +kernel, by decide +kernel, by decide +kernel⟩⟩
set_option maxRecDepth 100000 in
theorem tc_X5_alike : Cond.code yX5_alike cX5_alike 4 (some .int) ∈ TBL := TBL_of 1008 rfl rfl
theorem mv_X5_alike : MV yX5_alike cX5_alike 4 (some .int) 2 := ⟨tc_X5_alike, TBL_of 1006 (by decide +kernel) rfl, TBL_of 1007 (by decide +kernel) rfl, ti_X5, ⟨by decide +kernel, by decide +kernel, by decide +kernel⟩⟩
set_option maxRecDepth 100000 in
theorem tc_X5_areAlike : Cond.code yX5_areAlike cX5_areAlike 5 (some .boolean) ∈ TBL := TBL_of 1012 rfl rfl
theorem mv_X5_areAlike : MV yX5_areAlike cX5_areAlike 5 (some .boolean) 2 := ⟨tc_X5_areAlike, TBL_of 1011 (by decide +kernel) rfl, TBL_of 41 (by decide +kernel) rfl, ti_X5, ⟨by decide +kernel, by decide +kernel, by decide +kernel⟩⟩
set_option maxRecDepth 100000 in
theorem tc_X5_put : Cond.code yX5_put cX5_put 4 (some .int) ∈ TBL := TBL_of 1016 rfl rfl
theorem mv_X5_put : MV yX5_put cX5_put 4 (some .int) 3 := ⟨tc_X5_put, TBL_of 1014 (by decide +kernel) rfl, TBL_of 1015 (by decide +kernel) rfl, ti_X5, ⟨by decide +kernel, by decide +kernel, by decide +kernel⟩⟩
set_option maxRecDepth 100000 in
theorem tc_X5_isAsked : Cond.code yX5_isAsked cX5_isAsked 4 (some .boolean) ∈ TBL := TBL_of 1020 rfl rfl
theorem mv_X5_isAsked : MV yX5_isAsked cX5_isAsked 4 (some .boolean) 3 := ⟨tc_X5_isAsked, TBL_of 1019 (by decide +kernel) rfl, TBL_of 42 (by decide +kernel) rfl, ti_X5, ⟨by decide +kernel, by decide +kernel, by decide +kernel⟩⟩
set_option maxRecDepth 100000 in
theorem tc_X5_mostBy : Cond.code yX5_mostBy cX5_mostBy 12 (some .int) ∈ TBL := TBL_of 1025 rfl rfl
theorem mv_X5_mostBy : MV yX5_mostBy cX5_mostBy 12 (some .int) 6 := ⟨tc_X5_mostBy, TBL_of 1024 (by decide +kernel) rfl, TBL_of 43 (by decide +kernel) rfl, ti_X5, ⟨by decide +kernel, by decide +kernel, by decide +kernel⟩⟩
set_option maxRecDepth 100000 in
theorem tc_X5_tasteFor : Cond.code yX5_tasteFor cX5_tasteFor 4 (some .int) ∈ TBL := TBL_of 1029 rfl rfl
theorem mv_X5_tasteFor : MV yX5_tasteFor cX5_tasteFor 4 (some .int) 3 := ⟨tc_X5_tasteFor, TBL_of 1027 (by decide +kernel) rfl, TBL_of 1028 (by decide +kernel) rfl, ti_X5, ⟨by decide +kernel, by decide +kernel, by decide +kernel⟩⟩
set_option maxRecDepth 100000 in
theorem tc_X5_kindFor : Cond.code yX5_kindFor cX5_kindFor 4 (some .int) ∈ TBL := TBL_of 1033 rfl rfl
theorem mv_X5_kindFor : MV yX5_kindFor cX5_kindFor 4 (some .int) 3 := ⟨tc_X5_kindFor, TBL_of 1031 (by decide +kernel) rfl, TBL_of 1032 (by decide +kernel) rfl, ti_X5, ⟨by decide +kernel, by decide +kernel, by decide +kernel⟩⟩
set_option maxRecDepth 100000 in
theorem tc_X5_swapFor : Cond.code yX5_swapFor cX5_swapFor 8 (some .int) ∈ TBL := TBL_of 1037 rfl rfl
theorem mv_X5_swapFor : MV yX5_swapFor cX5_swapFor 8 (some .int) 2 := ⟨tc_X5_swapFor, TBL_of 1035 (by decide +kernel) rfl, TBL_of 1036 (by decide +kernel) rfl, ti_X5, ⟨by decide +kernel, by decide +kernel, by decide +kernel⟩⟩
set_option maxRecDepth 100000 in
theorem tc_X5_swaps : Cond.code yX5_swaps cX5_swaps 3 none ∈ TBL := TBL_of 1041 rfl rfl
theorem mv_X5_swaps : MV yX5_swaps cX5_swaps 3 none 2 := ⟨tc_X5_swaps, TBL_of 1040 (by decide +kernel) rfl, TBL_of 44 (by decide +kernel) rfl, ti_X5, ⟨by decide +kernel, by decide +kernel, by decide +kernel⟩⟩
set_option maxRecDepth 100000 in
theorem tc_X5_orNone : Cond.code yX5_orNone cX5_orNone 2 (some .int) ∈ TBL := TBL_of 1045 rfl rfl
theorem mv_X5_orNone : MV yX5_orNone cX5_orNone 2 (some .int) 1 := ⟨tc_X5_orNone, TBL_of 1044 (by decide +kernel) rfl, TBL_of 45 (by decide +kernel) rfl, ti_X5, ⟨by decide +kernel, by decide +kernel, by decide +kernel⟩⟩
set_option maxRecDepth 100000 in
theorem tc_X5_out : Cond.code yX5_out cX5_out 5 (some .int) ∈ TBL := TBL_of 1049 rfl rfl
theorem mv_X5_out : MV yX5_out cX5_out 5 (some .int) 2 := ⟨tc_X5_out, TBL_of 1047 (by decide +kernel) rfl, TBL_of 1048 (by decide +kernel) rfl, ti_X5, ⟨by decide +kernel, by decide +kernel, by decide +kernel⟩⟩
set_option maxRecDepth 100000 in
theorem tc_X5_stays : Cond.code yX5_stays cX5_stays 6 (some .boolean) ∈ TBL := TBL_of 1054 rfl rfl
theorem mv_X5_stays : MV yX5_stays cX5_stays 6 (some .boolean) 3 := ⟨tc_X5_stays, TBL_of 1053 (by decide +kernel) rfl, TBL_of 46 (by decide +kernel) rfl, ti_X5, ⟨by decide +kernel, by decide +kernel, by decide +kernel⟩⟩
set_option maxRecDepth 100000 in
theorem tc_X5_fits : Cond.code yX5_fits cX5_fits 10 (some .int) ∈ TBL := TBL_of 1058 rfl rfl
theorem mv_X5_fits : MV yX5_fits cX5_fits 10 (some .int) 4 := ⟨tc_X5_fits, TBL_of 1056 (by decide +kernel) rfl, TBL_of 1057 (by decide +kernel) rfl, ti_X5, ⟨by decide +kernel, by decide +kernel, by decide +kernel⟩⟩
set_option maxRecDepth 100000 in
theorem tc_X5_wants : Cond.code yX5_wants cX5_wants 2 (some .int) ∈ TBL := TBL_of 1062 rfl rfl
theorem mv_X5_wants : MV yX5_wants cX5_wants 2 (some .int) 1 := ⟨tc_X5_wants, TBL_of 1061 (by decide +kernel) rfl, TBL_of 47 (by decide +kernel) rfl, ti_X5, ⟨by decide +kernel, by decide +kernel, by decide +kernel⟩⟩
set_option maxRecDepth 100000 in
theorem tc_X5_isSheet : Cond.code yX5_isSheet cX5_isSheet 1 (some .boolean) ∈ TBL := TBL_of 1065 rfl rfl
theorem ms_X5_isSheet : MS yX5_isSheet cX5_isSheet 1 (some .boolean) 1 := ⟨tc_X5_isSheet, TBL_of 1064 (by decide +kernel) rfl, ti_X5, ⟨by decide +kernel, by decide +kernel, by decide +kernel⟩⟩
set_option maxRecDepth 100000 in
theorem tc_X5_isTold : Cond.code yX5_isTold cX5_isTold 7 (some .boolean) ∈ TBL := TBL_of 1070 rfl rfl
theorem mv_X5_isTold : MV yX5_isTold cX5_isTold 7 (some .boolean) 3 := ⟨tc_X5_isTold, TBL_of 1069 (by decide +kernel) rfl, TBL_of 48 (by decide +kernel) rfl, ti_X5, ⟨by decide +kernel, by decide +kernel, by decide +kernel⟩⟩
set_option maxRecDepth 100000 in
theorem tc_X5_kinds : Cond.code yX5_kinds cX5_kinds 7 (some .int) ∈ TBL := TBL_of 1074 rfl rfl
theorem mv_X5_kinds : MV yX5_kinds cX5_kinds 7 (some .int) 2 := ⟨tc_X5_kinds, TBL_of 1072 (by decide +kernel) rfl, TBL_of 1073 (by decide +kernel) rfl, ti_X5, ⟨by decide +kernel, by decide +kernel, by decide +kernel⟩⟩
set_option maxRecDepth 100000 in
theorem tc_X5_isFedSo : Cond.code yX5_isFedSo cX5_isFedSo 6 (some .boolean) ∈ TBL := TBL_of 1078 rfl rfl
theorem mv_X5_isFedSo : MV yX5_isFedSo cX5_isFedSo 6 (some .boolean) 2 := ⟨tc_X5_isFedSo, TBL_of 1077 (by decide +kernel) rfl, TBL_of 49 (by decide +kernel) rfl, ti_X5, ⟨by decide +kernel, by decide +kernel, by decide +kernel⟩⟩
set_option maxRecDepth 100000 in
theorem tc_X5_lights : Cond.code yX5_lights cX5_lights 5 (some .int) ∈ TBL := TBL_of 1082 rfl rfl
theorem mv_X5_lights : MV yX5_lights cX5_lights 5 (some .int) 1 := ⟨tc_X5_lights, TBL_of 1080 (by decide +kernel) rfl, TBL_of 1081 (by decide +kernel) rfl, ti_X5, ⟨by decide +kernel, by decide +kernel, by decide +kernel⟩⟩
set_option maxRecDepth 100000 in
theorem tc_X5_draw : Cond.code yX5_draw cX5_draw 1 (some .int) ∈ TBL := TBL_of 1086 rfl rfl
theorem mv_X5_draw : MV yX5_draw cX5_draw 1 (some .int) 0 := ⟨tc_X5_draw, TBL_of 1085 (by decide +kernel) rfl, TBL_of 50 (by decide +kernel) rfl, ti_X5, ⟨by decide +kernel, by decide +kernel, by decide +kernel⟩⟩
set_option maxRecDepth 100000 in
theorem tc_X5_odds : Cond.code yX5_odds cX5_odds 14 (some .long) ∈ TBL := TBL_of 1091 rfl rfl
theorem mv_X5_odds : MV yX5_odds cX5_odds 14 (some .long) 2 := ⟨tc_X5_odds, TBL_of 1089 (by decide +kernel) rfl, TBL_of 1090 (by decide +kernel) rfl, ti_X5, ⟨by decide +kernel, by decide +kernel, by decide +kernel⟩⟩
set_option maxRecDepth 100000 in
theorem tc_X5_seed : Cond.code yX5_seed cX5_seed 2 (some .int) ∈ TBL := TBL_of 1096 rfl rfl
theorem mv_X5_seed : MV yX5_seed cX5_seed 2 (some .int) 1 := ⟨tc_X5_seed, TBL_of 1094 (by decide +kernel) rfl, TBL_of 1095 (by decide +kernel) rfl, ti_X5, ⟨by decide +kernel, by decide +kernel, by decide +kernel⟩⟩
set_option maxRecDepth 100000 in
theorem tc_X5_feed : Cond.code yX5_feed cX5_feed 4 (some .int) ∈ TBL := TBL_of 1100 rfl rfl
theorem mv_X5_feed : MV yX5_feed cX5_feed 4 (some .int) 2 := ⟨tc_X5_feed, TBL_of 1098 (by decide +kernel) rfl, TBL_of 1099 (by decide +kernel) rfl, ti_X5, ⟨by decide +kernel, by decide +kernel, by decide +kernel⟩⟩
set_option maxRecDepth 100000 in
theorem tc_X5_wipe : Cond.code yX5_wipe cX5_wipe 2 (some .int) ∈ TBL := TBL_of 1104 rfl rfl
theorem mv_X5_wipe : MV yX5_wipe cX5_wipe 2 (some .int) 0 := ⟨tc_X5_wipe, TBL_of 1102 (by decide +kernel) rfl, TBL_of 1103 (by decide +kernel) rfl, ti_X5, ⟨by decide +kernel, by decide +kernel, by decide +kernel⟩⟩
set_option maxRecDepth 100000 in
theorem tc_X5_text : Cond.code yX5_text cX5_text 3 (some .int) ∈ TBL := TBL_of 1108 rfl rfl
theorem mv_X5_text : MV yX5_text cX5_text 3 (some .int) 0 := ⟨tc_X5_text, TBL_of 1106 (by decide +kernel) rfl, TBL_of 1107 (by decide +kernel) rfl, ti_X5, ⟨by decide +kernel, by decide +kernel, by decide +kernel⟩⟩
set_option maxRecDepth 100000 in
theorem tc_X5_nextToken : Cond.code yX5_nextToken cX5_nextToken 2 none ∈ TBL := TBL_of 1112 rfl rfl
theorem mv_X5_nextToken : MV yX5_nextToken cX5_nextToken 2 none 0 := ⟨tc_X5_nextToken, TBL_of 1111 (by decide +kernel) rfl, TBL_of 51 (by decide +kernel) rfl, ti_X5, ⟨by decide +kernel, by decide +kernel, by decide +kernel⟩⟩
set_option maxRecDepth 100000 in
theorem tc_X5_byteAt : Cond.code yX5_byteAt cX5_byteAt 2 (some .int) ∈ TBL := TBL_of 1116 rfl rfl
theorem mv_X5_byteAt : MV yX5_byteAt cX5_byteAt 2 (some .int) 1 := ⟨tc_X5_byteAt, TBL_of 1115 (by decide +kernel) rfl, TBL_of 52 (by decide +kernel) rfl, ti_X5, ⟨by decide +kernel, by decide +kernel, by decide +kernel⟩⟩
set_option maxRecDepth 100000 in
theorem tc_X5_isLetter : Cond.code yX5_isLetter cX5_isLetter 1 (some .boolean) ∈ TBL := TBL_of 1119 rfl rfl
theorem ms_X5_isLetter : MS yX5_isLetter cX5_isLetter 1 (some .boolean) 1 := ⟨tc_X5_isLetter, TBL_of 1118 (by decide +kernel) rfl, ti_X5, ⟨by decide +kernel, by decide +kernel, by decide +kernel⟩⟩
set_option maxRecDepth 100000 in
theorem tc_X5_isDigit : Cond.code yX5_isDigit cX5_isDigit 1 (some .boolean) ∈ TBL := TBL_of 1122 rfl rfl
theorem ms_X5_isDigit : MS yX5_isDigit cX5_isDigit 1 (some .boolean) 1 := ⟨tc_X5_isDigit, TBL_of 1121 (by decide +kernel) rfl, ti_X5, ⟨by decide +kernel, by decide +kernel, by decide +kernel⟩⟩
set_option maxRecDepth 100000 in
theorem tc_X5_itemHere : Cond.code yX5_itemHere cX5_itemHere 2 (some .boolean) ∈ TBL := TBL_of 1126 rfl rfl
theorem mv_X5_itemHere : MV yX5_itemHere cX5_itemHere 2 (some .boolean) 0 := ⟨tc_X5_itemHere, TBL_of 1125 (by decide +kernel) rfl, TBL_of 53 (by decide +kernel) rfl, ti_X5, ⟨by decide +kernel, by decide +kernel, by decide +kernel⟩⟩
set_option maxRecDepth 100000 in
theorem tc_X5_kindHere : Cond.code yX5_kindHere cX5_kindHere 1 (some .int) ∈ TBL := TBL_of 1130 rfl rfl
theorem mv_X5_kindHere : MV yX5_kindHere cX5_kindHere 1 (some .int) 0 := ⟨tc_X5_kindHere, TBL_of 1129 (by decide +kernel) rfl, TBL_of 54 (by decide +kernel) rfl, ti_X5, ⟨by decide +kernel, by decide +kernel, by decide +kernel⟩⟩
set_option maxRecDepth 100000 in
theorem tc_X5_isFour : Cond.code yX5_isFour cX5_isFour 5 (some .boolean) ∈ TBL := TBL_of 1134 rfl rfl
theorem mv_X5_isFour : MV yX5_isFour cX5_isFour 5 (some .boolean) 4 := ⟨tc_X5_isFour, TBL_of 1133 (by decide +kernel) rfl, TBL_of 55 (by decide +kernel) rfl, ti_X5, ⟨by decide +kernel, by decide +kernel, by decide +kernel⟩⟩
set_option maxRecDepth 100000 in
theorem tc_X5_isWord : Cond.code yX5_isWord cX5_isWord 2 (some .boolean) ∈ TBL := TBL_of 1138 rfl rfl
theorem mv_X5_isWord : MV yX5_isWord cX5_isWord 2 (some .boolean) 1 := ⟨tc_X5_isWord, TBL_of 1137 (by decide +kernel) rfl, TBL_of 56 (by decide +kernel) rfl, ti_X5, ⟨by decide +kernel, by decide +kernel, by decide +kernel⟩⟩
set_option maxRecDepth 100000 in
theorem tc_X5_has3 : Cond.code yX5_has3 cX5_has3 5 (some .boolean) ∈ TBL := TBL_of 1142 rfl rfl
theorem mv_X5_has3 : MV yX5_has3 cX5_has3 5 (some .boolean) 4 := ⟨tc_X5_has3, TBL_of 1141 (by decide +kernel) rfl, TBL_of 57 (by decide +kernel) rfl, ti_X5, ⟨by decide +kernel, by decide +kernel, by decide +kernel⟩⟩
set_option maxRecDepth 100000 in
theorem tc_X5_isFive : Cond.code yX5_isFive cX5_isFive 6 (some .boolean) ∈ TBL := TBL_of 1146 rfl rfl
theorem mv_X5_isFive : MV yX5_isFive cX5_isFive 6 (some .boolean) 5 := ⟨tc_X5_isFive, TBL_of 1145 (by decide +kernel) rfl, TBL_of 58 (by decide +kernel) rfl, ti_X5, ⟨by decide +kernel, by decide +kernel, by decide +kernel⟩⟩
set_option maxRecDepth 100000 in
theorem tc_X5_isSix : Cond.code yX5_isSix cX5_isSix 7 (some .boolean) ∈ TBL := TBL_of 1150 rfl rfl
theorem mv_X5_isSix : MV yX5_isSix cX5_isSix 7 (some .boolean) 6 := ⟨tc_X5_isSix, TBL_of 1149 (by decide +kernel) rfl, TBL_of 59 (by decide +kernel) rfl, ti_X5, ⟨by decide +kernel, by decide +kernel, by decide +kernel⟩⟩
set_option maxRecDepth 100000 in
theorem tc_X5_mothHere : Cond.code yX5_mothHere cX5_mothHere 2 (some .boolean) ∈ TBL := TBL_of 1154 rfl rfl
theorem mv_X5_mothHere : MV yX5_mothHere cX5_mothHere 2 (some .boolean) 1 := ⟨tc_X5_mothHere, TBL_of 1153 (by decide +kernel) rfl, TBL_of 60 (by decide +kernel) rfl, ti_X5, ⟨by decide +kernel, by decide +kernel, by decide +kernel⟩⟩
set_option maxRecDepth 100000 in
theorem tc_X5_fails : Cond.code yX5_fails cX5_fails 1 (some .boolean) ∈ TBL := TBL_of 1158 rfl rfl
theorem mv_X5_fails : MV yX5_fails cX5_fails 1 (some .boolean) 0 := ⟨tc_X5_fails, TBL_of 1157 (by decide +kernel) rfl, TBL_of 61 (by decide +kernel) rfl, ti_X5, ⟨by decide +kernel, by decide +kernel, by decide +kernel⟩⟩
set_option maxRecDepth 100000 in
theorem tc_X5_isTwo : Cond.code yX5_isTwo cX5_isTwo 3 (some .boolean) ∈ TBL := TBL_of 1162 rfl rfl
theorem mv_X5_isTwo : MV yX5_isTwo cX5_isTwo 3 (some .boolean) 2 := ⟨tc_X5_isTwo, TBL_of 1161 (by decide +kernel) rfl, TBL_of 62 (by decide +kernel) rfl, ti_X5, ⟨by decide +kernel, by decide +kernel, by decide +kernel⟩⟩
set_option maxRecDepth 100000 in
theorem tc_X5_perhaps : Cond.code yX5_perhaps cX5_perhaps 5 (some .boolean) ∈ TBL := TBL_of 1166 rfl rfl
theorem mv_X5_perhaps : MV yX5_perhaps cX5_perhaps 5 (some .boolean) 4 := ⟨tc_X5_perhaps, TBL_of 1165 (by decide +kernel) rfl, TBL_of 63 (by decide +kernel) rfl, ti_X5, ⟨by decide +kernel, by decide +kernel, by decide +kernel⟩⟩
set_option maxRecDepth 100000 in
theorem tc_X5_isNumber : Cond.code yX5_isNumber cX5_isNumber 3 (some .boolean) ∈ TBL := TBL_of 1170 rfl rfl
theorem mv_X5_isNumber : MV yX5_isNumber cX5_isNumber 3 (some .boolean) 2 := ⟨tc_X5_isNumber, TBL_of 1169 (by decide +kernel) rfl, TBL_of 64 (by decide +kernel) rfl, ti_X5, ⟨by decide +kernel, by decide +kernel, by decide +kernel⟩⟩
set_option maxRecDepth 100000 in
theorem tc_X5_pageHere : Cond.code yX5_pageHere cX5_pageHere 3 (some .boolean) ∈ TBL := TBL_of 1174 rfl rfl
theorem mv_X5_pageHere : MV yX5_pageHere cX5_pageHere 3 (some .boolean) 0 := ⟨tc_X5_pageHere, TBL_of 1173 (by decide +kernel) rfl, TBL_of 65 (by decide +kernel) rfl, ti_X5, ⟨by decide +kernel, by decide +kernel, by decide +kernel⟩⟩
set_option maxRecDepth 100000 in
theorem tc_X5_empties : Cond.code yX5_empties cX5_empties 3 none ∈ TBL := TBL_of 1178 rfl rfl
theorem mv_X5_empties : MV yX5_empties cX5_empties 3 none 1 := ⟨tc_X5_empties, TBL_of 1177 (by decide +kernel) rfl, TBL_of 66 (by decide +kernel) rfl, ti_X5, ⟨by decide +kernel, by decide +kernel, by decide +kernel⟩⟩
set_option maxRecDepth 100000 in
theorem tc_X5_emptyHere : Cond.code yX5_emptyHere cX5_emptyHere 1 (some .boolean) ∈ TBL := TBL_of 1182 rfl rfl
theorem mv_X5_emptyHere : MV yX5_emptyHere cX5_emptyHere 1 (some .boolean) 0 := ⟨tc_X5_emptyHere, TBL_of 1181 (by decide +kernel) rfl, TBL_of 67 (by decide +kernel) rfl, ti_X5, ⟨by decide +kernel, by decide +kernel, by decide +kernel⟩⟩
set_option maxRecDepth 100000 in
theorem tc_X5_hold : Cond.code yX5_hold cX5_hold 3 (some .int) ∈ TBL := TBL_of 1186 rfl rfl
theorem mv_X5_hold : MV yX5_hold cX5_hold 3 (some .int) 2 := ⟨tc_X5_hold, TBL_of 1184 (by decide +kernel) rfl, TBL_of 1185 (by decide +kernel) rfl, ti_X5, ⟨by decide +kernel, by decide +kernel, by decide +kernel⟩⟩
set_option maxRecDepth 100000 in
theorem tc_X5_as : Cond.code yX5_as cX5_as 4 (some .int) ∈ TBL := TBL_of 1190 rfl rfl
theorem mv_X5_as : MV yX5_as cX5_as 4 (some .int) 2 := ⟨tc_X5_as, TBL_of 1188 (by decide +kernel) rfl, TBL_of 1189 (by decide +kernel) rfl, ti_X5, ⟨by decide +kernel, by decide +kernel, by decide +kernel⟩⟩
set_option maxRecDepth 100000 in
theorem tc_X5_isUnder : Cond.code yX5_isUnder cX5_isUnder 2 (some .boolean) ∈ TBL := TBL_of 1193 rfl rfl
theorem ms_X5_isUnder : MS yX5_isUnder cX5_isUnder 2 (some .boolean) 2 := ⟨tc_X5_isUnder, TBL_of 1192 (by decide +kernel) rfl, ti_X5, ⟨by decide +kernel, by decide +kernel, by decide +kernel⟩⟩
set_option maxRecDepth 100000 in
theorem tc_X5_sheet : Cond.code yX5_sheet cX5_sheet 5 (some .int) ∈ TBL := TBL_of 1198 rfl rfl
theorem mv_X5_sheet : MV yX5_sheet cX5_sheet 5 (some .int) 3 := ⟨tc_X5_sheet, TBL_of 1196 (by decide +kernel) rfl, TBL_of 1197 (by decide +kernel) rfl, ti_X5, ⟨by decide +kernel, by decide +kernel, by decide +kernel⟩⟩
set_option maxRecDepth 100000 in
theorem tc_X5_write : Cond.code yX5_write cX5_write 4 (some .int) ∈ TBL := TBL_of 1203 rfl rfl
theorem mv_X5_write : MV yX5_write cX5_write 4 (some .int) 3 := ⟨tc_X5_write, TBL_of 1201 (by decide +kernel) rfl, TBL_of 1202 (by decide +kernel) rfl, ti_X5, ⟨by decide +kernel, by decide +kernel, by decide +kernel⟩⟩
set_option maxRecDepth 100000 in
theorem tc_X5_copy : Cond.code yX5_copy cX5_copy 10 (some .int) ∈ TBL := TBL_of 1207 rfl rfl
theorem mv_X5_copy : MV yX5_copy cX5_copy 10 (some .int) 5 := ⟨tc_X5_copy, TBL_of 1205 (by decide +kernel) rfl, TBL_of 1206 (by decide +kernel) rfl, ti_X5, ⟨by decide +kernel, by decide +kernel, by decide +kernel⟩⟩
set_option maxRecDepth 100000 in
theorem tc_X5_load : Cond.code yX5_load cX5_load 3 (some .int) ∈ TBL := TBL_of 1211 rfl rfl
theorem mv_X5_load : MV yX5_load cX5_load 3 (some .int) 1 := ⟨tc_X5_load, TBL_of 1209 (by decide +kernel) rfl, TBL_of 1210 (by decide +kernel) rfl, ti_X5, ⟨by decide +kernel, by decide +kernel, by decide +kernel⟩⟩
set_option maxRecDepth 100000 in
theorem tc_X5_judge : Cond.code yX5_judge cX5_judge 3 (some .int) ∈ TBL := TBL_of 1215 rfl rfl
theorem mv_X5_judge : MV yX5_judge cX5_judge 3 (some .int) 1 := ⟨tc_X5_judge, TBL_of 1213 (by decide +kernel) rfl, TBL_of 1214 (by decide +kernel) rfl, ti_X5, ⟨by decide +kernel, by decide +kernel, by decide +kernel⟩⟩
set_option maxRecDepth 100000 in
theorem tc_X5_image : Cond.code yX5_image cX5_image 1 (some .int) ∈ TBL := TBL_of 1219 rfl rfl
theorem mv_X5_image : MV yX5_image cX5_image 1 (some .int) 0 := ⟨tc_X5_image, TBL_of 1217 (by decide +kernel) rfl, TBL_of 1218 (by decide +kernel) rfl, ti_X5, ⟨by decide +kernel, by decide +kernel, by decide +kernel⟩⟩
set_option maxRecDepth 100000 in
theorem tc_X5_undo : Cond.code yX5_undo cX5_undo 1 (some .int) ∈ TBL := TBL_of 1223 rfl rfl
theorem mv_X5_undo : MV yX5_undo cX5_undo 1 (some .int) 0 := ⟨tc_X5_undo, TBL_of 1221 (by decide +kernel) rfl, TBL_of 1222 (by decide +kernel) rfl, ti_X5, ⟨by decide +kernel, by decide +kernel, by decide +kernel⟩⟩
set_option maxRecDepth 100000 in
theorem tc_X5_tear : Cond.code yX5_tear cX5_tear 2 (some .int) ∈ TBL := TBL_of 1227 rfl rfl
theorem mv_X5_tear : MV yX5_tear cX5_tear 2 (some .int) 0 := ⟨tc_X5_tear, TBL_of 1225 (by decide +kernel) rfl, TBL_of 1226 (by decide +kernel) rfl, ti_X5, ⟨by decide +kernel, by decide +kernel, by decide +kernel⟩⟩
set_option maxRecDepth 100000 in
theorem tc_X5_count : Cond.code yX5_count cX5_count 4 (some .int) ∈ TBL := TBL_of 1231 rfl rfl
theorem mv_X5_count : MV yX5_count cX5_count 4 (some .int) 1 := ⟨tc_X5_count, TBL_of 1229 (by decide +kernel) rfl, TBL_of 1230 (by decide +kernel) rfl, ti_X5, ⟨by decide +kernel, by decide +kernel, by decide +kernel⟩⟩
set_option maxRecDepth 100000 in
theorem tc_X5_status : Cond.code yX5_status cX5_status 2 (some .int) ∈ TBL := TBL_of 1235 rfl rfl
theorem mv_X5_status : MV yX5_status cX5_status 2 (some .int) 1 := ⟨tc_X5_status, TBL_of 1233 (by decide +kernel) rfl, TBL_of 1234 (by decide +kernel) rfl, ti_X5, ⟨by decide +kernel, by decide +kernel, by decide +kernel⟩⟩
theorem lk_L_9 : Cond.methodLink RL 9 yX4_init ∈ TBL := TBL_of 84 (by decide +kernel) rfl
theorem lk_X4_11 : Cond.methodLink RX4 11 yX0_init ∈ TBL := TBL_of 92 (by decide +kernel) rfl
theorem fl_X0_9 : Cond.fieldLink RX0 9 RX0 "words" "[I" ∈ TBL := TBL_of 96 (by decide +kernel) rfl
theorem fl_X0_15 : Cond.fieldLink RX0 15 RX0 "traits" "[I" ∈ TBL := TBL_of 97 (by decide +kernel) rfl
theorem fl_X0_18 : Cond.fieldLink RX0 18 RX0 "spots" "[I" ∈ TBL := TBL_of 98 (by decide +kernel) rfl
theorem fl_X4_227 : Cond.fieldLink RX4 227 RX0 "spots" "[I" ∈ TBL := TBL_of 99 (by decide +kernel) rfl
theorem fl_X0_21 : Cond.fieldLink RX0 21 RX0 "moths" "I" ∈ TBL := TBL_of 100 (by decide +kernel) rfl
theorem fl_X4_164 : Cond.fieldLink RX4 164 RX0 "moths" "I" ∈ TBL := TBL_of 101 (by decide +kernel) rfl
theorem fl_X0_25 : Cond.fieldLink RX0 25 RX0 "night" "I" ∈ TBL := TBL_of 102 (by decide +kernel) rfl
theorem fl_X4_126 : Cond.fieldLink RX4 126 RX0 "night" "I" ∈ TBL := TBL_of 103 (by decide +kernel) rfl
theorem fl_X0_28 : Cond.fieldLink RX0 28 RX0 "z" "I" ∈ TBL := TBL_of 104 (by decide +kernel) rfl
theorem fl_X4_207 : Cond.fieldLink RX4 207 RX0 "z" "I" ∈ TBL := TBL_of 105 (by decide +kernel) rfl
theorem fl_X3_9 : Cond.fieldLink RX3 9 RX3 "bytes" "[B" ∈ TBL := TBL_of 126 (by decide +kernel) rfl
theorem fl_X3_15 : Cond.fieldLink RX3 15 RX3 "size" "I" ∈ TBL := TBL_of 127 (by decide +kernel) rfl
theorem fl_X4_210 : Cond.fieldLink RX4 210 RX3 "size" "I" ∈ TBL := TBL_of 128 (by decide +kernel) rfl
theorem fl_X3_19 : Cond.fieldLink RX3 19 RX3 "token" "I" ∈ TBL := TBL_of 129 (by decide +kernel) rfl
theorem fl_X3_22 : Cond.fieldLink RX3 22 RX3 "begin" "I" ∈ TBL := TBL_of 130 (by decide +kernel) rfl
theorem fl_X3_25 : Cond.fieldLink RX3 25 RX3 "end" "I" ∈ TBL := TBL_of 131 (by decide +kernel) rfl
theorem fl_X3_28 : Cond.fieldLink RX3 28 RX3 "value" "I" ∈ TBL := TBL_of 132 (by decide +kernel) rfl
theorem fl_X2_9 : Cond.fieldLink RX2 9 RX2 "numbers" "[I" ∈ TBL := TBL_of 154 (by decide +kernel) rfl
theorem fl_X4_249 : Cond.fieldLink RX4 249 RX2 "numbers" "[I" ∈ TBL := TBL_of 155 (by decide +kernel) rfl
theorem fl_X2_15 : Cond.fieldLink RX2 15 RX2 "bits" "I" ∈ TBL := TBL_of 156 (by decide +kernel) rfl
theorem fl_X4_243 : Cond.fieldLink RX4 243 RX2 "bits" "I" ∈ TBL := TBL_of 157 (by decide +kernel) rfl
theorem fl_X2_19 : Cond.fieldLink RX2 19 RX2 "size" "I" ∈ TBL := TBL_of 158 (by decide +kernel) rfl
theorem fl_X4_239 : Cond.fieldLink RX4 239 RX2 "size" "I" ∈ TBL := TBL_of 159 (by decide +kernel) rfl
theorem fl_X4_12 : Cond.fieldLink RX4 12 RX4 "live" "LMothTongue$Drawer;" ∈ TBL := TBL_of 167 (by decide +kernel) rfl
theorem fl_X4_16 : Cond.fieldLink RX4 16 RX4 "kept" "LMothTongue$Drawer;" ∈ TBL := TBL_of 168 (by decide +kernel) rfl
theorem fl_X4_19 : Cond.fieldLink RX4 19 RX4 "trial" "LMothTongue$Drawer;" ∈ TBL := TBL_of 169 (by decide +kernel) rfl
theorem fl_X4_22 : Cond.fieldLink RX4 22 RX4 "morrow" "LMothTongue$Drawer;" ∈ TBL := TBL_of 170 (by decide +kernel) rfl
theorem fl_X4_28 : Cond.fieldLink RX4 28 RX4 "tape" "LMothTongue$Tape;" ∈ TBL := TBL_of 171 (by decide +kernel) rfl
theorem fl_X4_34 : Cond.fieldLink RX4 34 RX4 "sheets" "[LMothTongue$Sheet;" ∈ TBL := TBL_of 172 (by decide +kernel) rfl
theorem fl_X4_38 : Cond.fieldLink RX4 38 RX4 "findings" "[I" ∈ TBL := TBL_of 173 (by decide +kernel) rfl
theorem fl_X4_42 : Cond.fieldLink RX4 42 RX4 "isKept" "Z" ∈ TBL := TBL_of 174 (by decide +kernel) rfl
theorem lk_L_13 : Cond.methodLink RL 13 yX4_word ∈ TBL := TBL_of 192 (by decide +kernel) rfl
theorem lk_X4_47 : Cond.methodLink RX4 47 yX4_isPage ∈ TBL := TBL_of 196 (by decide +kernel) rfl
theorem lk_X4_99 : Cond.methodLink RX4 99 yX4_within ∈ TBL := TBL_of 199 (by decide +kernel) rfl
theorem lk_X4_51 : Cond.methodLink RX4 51 yX4_isPlace ∈ TBL := TBL_of 202 (by decide +kernel) rfl
theorem lk_X4_54 : Cond.methodLink RX4 54 yX4_isWord ∈ TBL := TBL_of 205 (by decide +kernel) rfl
theorem cs_X4_57 : Cond.constant RX4 57 (-1000001) ∈ TBL := TBL_of 208 (by decide +kernel) rfl
theorem lk_X4_58 : Cond.methodLink RX4 58 yX4_finding ∈ TBL := TBL_of 209 (by decide +kernel) rfl
theorem lk_X4_62 : Cond.methodLink RX4 62 yX0_wordAt ∈ TBL := TBL_of 213 (by decide +kernel) rfl
theorem lk_X4_66 : Cond.methodLink RX4 66 yX0_setWord ∈ TBL := TBL_of 217 (by decide +kernel) rfl
theorem lk_L_18 : Cond.methodLink RL 18 yX4_reads ∈ TBL := TBL_of 221 (by decide +kernel) rfl
theorem lk_L_23 : Cond.methodLink RL 23 yX4_page ∈ TBL := TBL_of 225 (by decide +kernel) rfl
theorem lk_X4_70 : Cond.methodLink RX4 70 yX0_saidBy ∈ TBL := TBL_of 229 (by decide +kernel) rfl
theorem lk_X0_41 : Cond.methodLink RX0 41 yX0_wordAt ∈ TBL := TBL_of 233 (by decide +kernel) rfl
theorem lk_X4_73 : Cond.methodLink RX4 73 yX0_holesOf ∈ TBL := TBL_of 234 (by decide +kernel) rfl
theorem lk_X0_45 : Cond.methodLink RX0 45 yX0_placesWithWords ∈ TBL := TBL_of 238 (by decide +kernel) rfl
theorem lk_X0_49 : Cond.methodLink RX0 49 yJ6_bitCount_0f7a4 ∈ TBL := TBL_of 242 (by decide +kernel) rfl
theorem cs_J6_265 : Cond.constant RJ6 265 (1431655765) ∈ TBL := TBL_of 245 (by decide +kernel) rfl
theorem cs_J6_266 : Cond.constant RJ6 266 (858993459) ∈ TBL := TBL_of 246 (by decide +kernel) rfl
theorem cs_J6_267 : Cond.constant RJ6 267 (252645135) ∈ TBL := TBL_of 247 (by decide +kernel) rfl
theorem lk_X4_76 : Cond.methodLink RX4 76 yX0_mothsOn ∈ TBL := TBL_of 248 (by decide +kernel) rfl
theorem lk_X0_74 : Cond.methodLink RX0 74 yX0_trait ∈ TBL := TBL_of 252 (by decide +kernel) rfl
theorem lk_X4_79 : Cond.methodLink RX4 79 yX0_placesWithWords ∈ TBL := TBL_of 256 (by decide +kernel) rfl
theorem lk_L_27 : Cond.methodLink RL 27 yX4_copied ∈ TBL := TBL_of 257 (by decide +kernel) rfl
theorem lk_X4_82 : Cond.methodLink RX4 82 yX0_copyPage ∈ TBL := TBL_of 261 (by decide +kernel) rfl
theorem lk_X0_54 : Cond.methodLink RX0 54 yX0_unlikePlaces ∈ TBL := TBL_of 265 (by decide +kernel) rfl
theorem lk_X0_31 : Cond.methodLink RX0 31 arraycopyName ∈ TBL := TBL_of 269 (by decide +kernel) rfl
theorem lk_L_31 : Cond.methodLink RL 31 yX4_moth ∈ TBL := TBL_of 272 (by decide +kernel) rfl
theorem lk_X4_85 : Cond.methodLink RX4 85 yX4_isKind ∈ TBL := TBL_of 276 (by decide +kernel) rfl
theorem lk_X4_88 : Cond.methodLink RX4 88 yX0_isFull ∈ TBL := TBL_of 279 (by decide +kernel) rfl
theorem cs_X4_92 : Cond.constant RX4 92 (-1000002) ∈ TBL := TBL_of 283 (by decide +kernel) rfl
theorem lk_X4_93 : Cond.methodLink RX4 93 yX0_addMoth ∈ TBL := TBL_of 284 (by decide +kernel) rfl
theorem lk_X0_71 : Cond.methodLink RX0 71 yX0_setTrait ∈ TBL := TBL_of 288 (by decide +kernel) rfl
theorem lk_L_35 : Cond.methodLink RL 35 yX4_of ∈ TBL := TBL_of 292 (by decide +kernel) rfl
theorem lk_X4_96 : Cond.methodLink RX4 96 yX4_isMoth ∈ TBL := TBL_of 296 (by decide +kernel) rfl
theorem lk_X4_103 : Cond.methodLink RX4 103 yX0_bittenPlace ∈ TBL := TBL_of 300 (by decide +kernel) rfl
theorem lk_X0_80 : Cond.methodLink RX0 80 yX1_bittenPlace ∈ TBL := TBL_of 304 (by decide +kernel) rfl
theorem lk_X1_15 : Cond.methodLink RX1 15 yX1_firstWord ∈ TBL := TBL_of 307 (by decide +kernel) rfl
theorem lk_X1_19 : Cond.methodLink RX1 19 yX1_lastWord ∈ TBL := TBL_of 310 (by decide +kernel) rfl
theorem lk_X1_22 : Cond.methodLink RX1 22 yX1_firstOfParity ∈ TBL := TBL_of 313 (by decide +kernel) rfl
theorem lk_X1_26 : Cond.methodLink RX1 26 yX1_firstLike ∈ TBL := TBL_of 316 (by decide +kernel) rfl
theorem lk_X4_106 : Cond.methodLink RX4 106 yX0_trait ∈ TBL := TBL_of 319 (by decide +kernel) rfl
theorem lk_L_39 : Cond.methodLink RL 39 yX4_change ∈ TBL := TBL_of 320 (by decide +kernel) rfl
theorem fl_X4_109 : Cond.fieldLink RX4 109 RX4 "LEAST_TRAIT" "[I" ∈ TBL := TBL_of 324 (by decide +kernel) rfl
theorem fl_X4_112 : Cond.fieldLink RX4 112 RX4 "MOST_TRAIT" "[I" ∈ TBL := TBL_of 326 (by decide +kernel) rfl
theorem lk_X4_115 : Cond.methodLink RX4 115 yX0_setTrait ∈ TBL := TBL_of 328 (by decide +kernel) rfl
theorem lk_L_43 : Cond.methodLink RL 43 yX4_leaves ∈ TBL := TBL_of 329 (by decide +kernel) rfl
theorem lk_X4_118 : Cond.methodLink RX4 118 yX1_leftOf ∈ TBL := TBL_of 333 (by decide +kernel) rfl
theorem lk_X1_29 : Cond.methodLink RX1 29 yJ9_max_7cf53 ∈ TBL := TBL_of 336 (by decide +kernel) rfl
theorem lk_X1_35 : Cond.methodLink RX1 35 yX1_learnedLeft ∈ TBL := TBL_of 339 (by decide +kernel) rfl
theorem lk_X1_39 : Cond.methodLink RX1 39 yJ9_min_7cf53 ∈ TBL := TBL_of 342 (by decide +kernel) rfl
theorem lk_X4_123 : Cond.methodLink RX4 123 yX1_gainBy ∈ TBL := TBL_of 345 (by decide +kernel) rfl
theorem lk_L_47 : Cond.methodLink RL 47 yX4_go ∈ TBL := TBL_of 348 (by decide +kernel) rfl
theorem cs_X4_130 : Cond.constant RX4 130 (99999) ∈ TBL := TBL_of 352 (by decide +kernel) rfl
theorem cs_X4_131 : Cond.constant RX4 131 (-1000005) ∈ TBL := TBL_of 353 (by decide +kernel) rfl
theorem lk_X4_132 : Cond.methodLink RX4 132 yX0_passNights ∈ TBL := TBL_of 354 (by decide +kernel) rfl
theorem lk_X0_96 : Cond.methodLink RX0 96 yX0_bite ∈ TBL := TBL_of 358 (by decide +kernel) rfl
theorem lk_X0_77 : Cond.methodLink RX0 77 yX0_bittenPlace ∈ TBL := TBL_of 362 (by decide +kernel) rfl
theorem lk_X0_85 : Cond.methodLink RX0 85 yX1_leftOf ∈ TBL := TBL_of 363 (by decide +kernel) rfl
theorem lk_X0_37 : Cond.methodLink RX0 37 yX0_setWord ∈ TBL := TBL_of 364 (by decide +kernel) rfl
theorem lk_X0_88 : Cond.methodLink RX0 88 yX1_gainBy ∈ TBL := TBL_of 365 (by decide +kernel) rfl
theorem lk_X0_91 : Cond.methodLink RX0 91 yJ9_min_7cf53 ∈ TBL := TBL_of 366 (by decide +kernel) rfl
theorem cs_X0_100 : Cond.constant RX0 100 (99999) ∈ TBL := TBL_of 367 (by decide +kernel) rfl
theorem lk_X4_136 : Cond.methodLink RX4 136 yX0_allHoles ∈ TBL := TBL_of 368 (by decide +kernel) rfl
theorem lk_X0_61 : Cond.methodLink RX0 61 yX0_holesOf ∈ TBL := TBL_of 372 (by decide +kernel) rfl
theorem lk_L_52 : Cond.methodLink RL 52 yX4_now ∈ TBL := TBL_of 373 (by decide +kernel) rfl
theorem lk_X4_140 : Cond.methodLink RX4 140 yX0_allSaid ∈ TBL := TBL_of 377 (by decide +kernel) rfl
theorem lk_X0_64 : Cond.methodLink RX0 64 yX0_saidBy ∈ TBL := TBL_of 381 (by decide +kernel) rfl
theorem lk_X4_143 : Cond.methodLink RX4 143 yX0_allFed ∈ TBL := TBL_of 382 (by decide +kernel) rfl
theorem lk_X4_146 : Cond.methodLink RX4 146 yX0_idleMoths ∈ TBL := TBL_of 386 (by decide +kernel) rfl
theorem lk_X4_149 : Cond.methodLink RX4 149 yX0_barePages ∈ TBL := TBL_of 390 (by decide +kernel) rfl
theorem lk_X0_67 : Cond.methodLink RX0 67 yX0_isBare ∈ TBL := TBL_of 394 (by decide +kernel) rfl
theorem lk_L_56 : Cond.methodLink RL 56 yX4_ahead ∈ TBL := TBL_of 398 (by decide +kernel) rfl
theorem lk_X4_152 : Cond.methodLink RX4 152 yX4_lookAhead ∈ TBL := TBL_of 402 (by decide +kernel) rfl
theorem lk_X4_168 : Cond.methodLink RX4 168 yX0_become ∈ TBL := TBL_of 406 (by decide +kernel) rfl
theorem lk_L_60 : Cond.methodLink RL 60 yX4_says ∈ TBL := TBL_of 410 (by decide +kernel) rfl
theorem lk_L_64 : Cond.methodLink RL 64 yX4_fed ∈ TBL := TBL_of 414 (by decide +kernel) rfl
theorem lk_L_68 : Cond.methodLink RL 68 yX4_bare ∈ TBL := TBL_of 418 (by decide +kernel) rfl
theorem lk_X4_156 : Cond.methodLink RX4 156 yX4_fewestNights ∈ TBL := TBL_of 422 (by decide +kernel) rfl
theorem lk_X4_266 : Cond.methodLink RX4 266 yX4_hasCome ∈ TBL := TBL_of 426 (by decide +kernel) rfl
theorem lk_X4_269 : Cond.methodLink RX4 269 yX0_isBare ∈ TBL := TBL_of 430 (by decide +kernel) rfl
theorem lk_X4_272 : Cond.methodLink RX4 272 yX0_hasPagesOf ∈ TBL := TBL_of 431 (by decide +kernel) rfl
theorem lk_X0_57 : Cond.methodLink RX0 57 yX0_hasPageOf ∈ TBL := TBL_of 435 (by decide +kernel) rfl
theorem lk_X4_276 : Cond.methodLink RX4 276 yX0_unlikePlaces ∈ TBL := TBL_of 439 (by decide +kernel) rfl
theorem cs_X4_167 : Cond.constant RX4 167 (-1000004) ∈ TBL := TBL_of 440 (by decide +kernel) rfl
theorem lk_L_72 : Cond.methodLink RL 72 yX4_when ∈ TBL := TBL_of 441 (by decide +kernel) rfl
theorem lk_L_76 : Cond.methodLink RL 76 yX4_settles ∈ TBL := TBL_of 445 (by decide +kernel) rfl
theorem lk_L_81 : Cond.methodLink RL 81 yX4_alike ∈ TBL := TBL_of 449 (by decide +kernel) rfl
theorem lk_L_85 : Cond.methodLink RL 85 yX4_put ∈ TBL := TBL_of 453 (by decide +kernel) rfl
theorem lk_X4_160 : Cond.methodLink RX4 160 yX4_bestTrait ∈ TBL := TBL_of 457 (by decide +kernel) rfl
theorem lk_L_89 : Cond.methodLink RL 89 yX4_tasteFor ∈ TBL := TBL_of 461 (by decide +kernel) rfl
theorem lk_L_93 : Cond.methodLink RL 93 yX4_kindFor ∈ TBL := TBL_of 465 (by decide +kernel) rfl
theorem lk_L_97 : Cond.methodLink RL 97 yX4_swapFor ∈ TBL := TBL_of 469 (by decide +kernel) rfl
theorem lk_X4_172 : Cond.methodLink RX4 172 yX0_swapPages ∈ TBL := TBL_of 473 (by decide +kernel) rfl
theorem lk_L_101 : Cond.methodLink RL 101 yX4_out ∈ TBL := TBL_of 477 (by decide +kernel) rfl
theorem lk_X4_175 : Cond.methodLink RX4 175 yJ6_bitCount_0f7a4 ∈ TBL := TBL_of 481 (by decide +kernel) rfl
theorem lk_X4_180 : Cond.methodLink RX4 180 yX4_staysWithout ∈ TBL := TBL_of 482 (by decide +kernel) rfl
theorem lk_X4_279 : Cond.methodLink RX4 279 yX0_hasPageOf ∈ TBL := TBL_of 486 (by decide +kernel) rfl
theorem lk_L_105 : Cond.methodLink RL 105 yX4_fits ∈ TBL := TBL_of 487 (by decide +kernel) rfl
theorem lk_X4_183 : Cond.methodLink RX4 183 yX4_isSheet ∈ TBL := TBL_of 491 (by decide +kernel) rfl
theorem lk_X4_186 : Cond.methodLink RX4 186 yX2_isMissing ∈ TBL := TBL_of 494 (by decide +kernel) rfl
theorem cs_X4_189 : Cond.constant RX4 189 (-1000006) ∈ TBL := TBL_of 498 (by decide +kernel) rfl
theorem lk_X4_190 : Cond.methodLink RX4 190 yX4_isPageAsTold ∈ TBL := TBL_of 499 (by decide +kernel) rfl
theorem lk_X4_258 : Cond.methodLink RX4 258 yJ9_min_7cf53 ∈ TBL := TBL_of 503 (by decide +kernel) rfl
theorem lk_L_110 : Cond.methodLink RL 110 yX4_kinds ∈ TBL := TBL_of 504 (by decide +kernel) rfl
theorem lk_X4_194 : Cond.methodLink RX4 194 yX4_isFedAsTold ∈ TBL := TBL_of 508 (by decide +kernel) rfl
theorem lk_L_114 : Cond.methodLink RL 114 yX4_lights ∈ TBL := TBL_of 512 (by decide +kernel) rfl
theorem lk_X4_197 : Cond.methodLink RX4 197 yX0_leaveLightOn ∈ TBL := TBL_of 516 (by decide +kernel) rfl
theorem lk_X0_102 : Cond.methodLink RX0 102 yX0_draw ∈ TBL := TBL_of 520 (by decide +kernel) rfl
theorem cs_X0_101 : Cond.constant RX0 101 (1103515245) ∈ TBL := TBL_of 524 (by decide +kernel) rfl
theorem lk_L_118 : Cond.methodLink RL 118 yX4_odds ∈ TBL := TBL_of 525 (by decide +kernel) rfl
theorem lk_X4_200 : Cond.methodLink RX4 200 yX4_commonDivisor ∈ TBL := TBL_of 529 (by decide +kernel) rfl
theorem lk_X4_203 : Cond.methodLink RX4 203 yX4_power ∈ TBL := TBL_of 532 (by decide +kernel) rfl
theorem lk_L_123 : Cond.methodLink RL 123 yX4_seed ∈ TBL := TBL_of 535 (by decide +kernel) rfl
theorem lk_L_127 : Cond.methodLink RL 127 yX4_feed ∈ TBL := TBL_of 539 (by decide +kernel) rfl
theorem lk_X4_213 : Cond.methodLink RX4 213 yX3_append ∈ TBL := TBL_of 543 (by decide +kernel) rfl
theorem lk_L_131 : Cond.methodLink RL 131 yX4_wipe ∈ TBL := TBL_of 547 (by decide +kernel) rfl
theorem lk_X4_217 : Cond.methodLink RX4 217 yX3_empty ∈ TBL := TBL_of 551 (by decide +kernel) rfl
theorem lk_L_135 : Cond.methodLink RL 135 yX4_text ∈ TBL := TBL_of 555 (by decide +kernel) rfl
theorem lk_X4_220 : Cond.methodLink RX4 220 yX3_readInto ∈ TBL := TBL_of 559 (by decide +kernel) rfl
theorem lk_X3_31 : Cond.methodLink RX3 31 yX3_step ∈ TBL := TBL_of 563 (by decide +kernel) rfl
theorem lk_X3_34 : Cond.methodLink RX3 34 yX3_readItem ∈ TBL := TBL_of 567 (by decide +kernel) rfl
theorem lk_X3_40 : Cond.methodLink RX3 40 yX3_isName ∈ TBL := TBL_of 572 (by decide +kernel) rfl
theorem lk_X3_106 : Cond.methodLink RX3 106 yJ0_length_8abf5 ∈ TBL := TBL_of 576 (by decide +kernel) rfl
theorem lk_J0_335 : Cond.methodLink RJ0 335 yJ0_coder_7d493 ∈ TBL := TBL_of 580 (by decide +kernel) rfl
theorem fl_J0_38 : Cond.fieldLink RJ0 38 RJ0 "COMPACT_STRINGS" "Z" ∈ TBL := TBL_of 584 (by decide +kernel) rfl
theorem lk_X3_112 : Cond.methodLink RX3 112 yJ0_charAt_5068e ∈ TBL := TBL_of 586 (by decide +kernel) rfl
theorem lk_J0_492 : Cond.methodLink RJ0 492 yJ0_isLatin1_aae02 ∈ TBL := TBL_of 590 (by decide +kernel) rfl
theorem lk_J0_495 : Cond.methodLink RJ0 495 yJ1_charAt_3b067 ∈ TBL := TBL_of 594 (by decide +kernel) rfl
theorem lk_J1_9 : Cond.methodLink RJ1 9 yJ0_checkIndex_df160 ∈ TBL := TBL_of 597 (by decide +kernel) rfl
theorem fl_J0_1053 : Cond.fieldLink RJ0 1053 RJ3 "SIOOBE_FORMATTER" "Ljava/util/function/BiFunction;" ∈ TBL := TBL_of 600 (by decide +kernel) rfl
theorem lk_J0_1059 : Cond.methodLink RJ0 1059 yJ3_checkIndex_8e157 ∈ TBL := TBL_of 602 (by decide +kernel) rfl
theorem lk_J0_498 : Cond.methodLink RJ0 498 yJ2_charAt_3b067 ∈ TBL := TBL_of 605 (by decide +kernel) rfl
theorem lk_J2_67 : Cond.methodLink RJ2 67 yJ2_checkIndex_2214a ∈ TBL := TBL_of 608 (by decide +kernel) rfl
theorem lk_J2_48 : Cond.methodLink RJ2 48 yJ2_length_9d52b ∈ TBL := TBL_of 611 (by decide +kernel) rfl
theorem lk_J2_414 : Cond.methodLink RJ2 414 yJ0_checkIndex_df160 ∈ TBL := TBL_of 614 (by decide +kernel) rfl
theorem lk_J2_71 : Cond.methodLink RJ2 71 yJ2_getChar_3b067 ∈ TBL := TBL_of 615 (by decide +kernel) rfl
theorem fl_J2_44 : Cond.fieldLink RJ2 44 RJ2 "$assertionsDisabled" "Z" ∈ TBL := TBL_of 618 (by decide +kernel) rfl
theorem fl_J2_59 : Cond.fieldLink RJ2 59 RJ2 "HI_BYTE_SHIFT" "I" ∈ TBL := TBL_of 620 (by decide +kernel) rfl
theorem fl_J2_63 : Cond.fieldLink RJ2 63 RJ2 "LO_BYTE_SHIFT" "I" ∈ TBL := TBL_of 622 (by decide +kernel) rfl
theorem lk_X3_44 : Cond.methodLink RX3 44 yX3_readPage ∈ TBL := TBL_of 624 (by decide +kernel) rfl
theorem lk_X3_49 : Cond.methodLink RX3 49 yX3_takeBarePage ∈ TBL := TBL_of 628 (by decide +kernel) rfl
theorem lk_X3_88 : Cond.methodLink RX3 88 yX3_takeNumber ∈ TBL := TBL_of 632 (by decide +kernel) rfl
theorem lk_X3_98 : Cond.methodLink RX3 98 yX0_setHoles ∈ TBL := TBL_of 637 (by decide +kernel) rfl
theorem lk_X3_95 : Cond.methodLink RX3 95 yX0_setWord ∈ TBL := TBL_of 641 (by decide +kernel) rfl
theorem lk_X3_53 : Cond.methodLink RX3 53 yX3_kindName ∈ TBL := TBL_of 643 (by decide +kernel) rfl
theorem lk_X3_57 : Cond.methodLink RX3 57 yX3_readMoth ∈ TBL := TBL_of 653 (by decide +kernel) rfl
theorem lk_X3_61 : Cond.methodLink RX3 61 yX0_isFull ∈ TBL := TBL_of 657 (by decide +kernel) rfl
theorem lk_X3_67 : Cond.methodLink RX3 67 yX0_addMoth ∈ TBL := TBL_of 658 (by decide +kernel) rfl
theorem lk_X3_77 : Cond.methodLink RX3 77 yX3_readTrait ∈ TBL := TBL_of 661 (by decide +kernel) rfl
theorem lk_X3_91 : Cond.methodLink RX3 91 yX0_setTrait ∈ TBL := TBL_of 666 (by decide +kernel) rfl
theorem lk_L_139 : Cond.methodLink RL 139 yX4_hold ∈ TBL := TBL_of 669 (by decide +kernel) rfl
theorem lk_X4_224 : Cond.methodLink RX4 224 yX4_isSpot ∈ TBL := TBL_of 673 (by decide +kernel) rfl
theorem lk_L_143 : Cond.methodLink RL 143 yX4_as ∈ TBL := TBL_of 676 (by decide +kernel) rfl
theorem lk_X4_230 : Cond.methodLink RX4 230 yX1_isOneOf ∈ TBL := TBL_of 680 (by decide +kernel) rfl
theorem fl_X1_9 : Cond.fieldLink RX1 9 RX1 "UPPER" "[I" ∈ TBL := TBL_of 683 (by decide +kernel) rfl
theorem cs_X4_234 : Cond.constant RX4 234 (-1000003) ∈ TBL := TBL_of 685 (by decide +kernel) rfl
theorem lk_L_147 : Cond.methodLink RL 147 yX4_sheet ∈ TBL := TBL_of 686 (by decide +kernel) rfl
theorem cs_X4_235 : Cond.constant RX4 235 (-1000007) ∈ TBL := TBL_of 690 (by decide +kernel) rfl
theorem lk_X4_236 : Cond.methodLink RX4 236 yX2_make ∈ TBL := TBL_of 691 (by decide +kernel) rfl
theorem lk_L_151 : Cond.methodLink RL 151 yX4_write ∈ TBL := TBL_of 695 (by decide +kernel) rfl
theorem lk_X4_240 : Cond.methodLink RX4 240 yX2_set ∈ TBL := TBL_of 699 (by decide +kernel) rfl
theorem lk_L_155 : Cond.methodLink RL 155 yX4_copy ∈ TBL := TBL_of 703 (by decide +kernel) rfl
theorem lk_X4_246 : Cond.methodLink RX4 246 yX2_hasRun ∈ TBL := TBL_of 707 (by decide +kernel) rfl
theorem lk_X4_252 : Cond.methodLink RX4 252 arraycopyName ∈ TBL := TBL_of 711 (by decide +kernel) rfl
theorem lk_L_160 : Cond.methodLink RL 160 yX4_load ∈ TBL := TBL_of 712 (by decide +kernel) rfl
theorem lk_L_164 : Cond.methodLink RL 164 yX4_judge ∈ TBL := TBL_of 716 (by decide +kernel) rfl
theorem lk_L_168 : Cond.methodLink RL 168 yX4_image ∈ TBL := TBL_of 720 (by decide +kernel) rfl
theorem lk_L_172 : Cond.methodLink RL 172 yX4_undo ∈ TBL := TBL_of 724 (by decide +kernel) rfl
theorem lk_L_176 : Cond.methodLink RL 176 yX4_tear ∈ TBL := TBL_of 728 (by decide +kernel) rfl
theorem lk_L_180 : Cond.methodLink RL 180 yX4_count ∈ TBL := TBL_of 732 (by decide +kernel) rfl
theorem lk_X4_263 : Cond.methodLink RX4 263 yX0_heldSpots ∈ TBL := TBL_of 736 (by decide +kernel) rfl
theorem lk_L_184 : Cond.methodLink RL 184 yX4_status ∈ TBL := TBL_of 740 (by decide +kernel) rfl
theorem lk_L_12 : Cond.methodLink RL 12 yX5_init ∈ TBL := TBL_of 746 (by decide +kernel) rfl
theorem fl_X5_7 : Cond.fieldLink RX5 7 RX5 "s" "[I" ∈ TBL := TBL_of 750 (by decide +kernel) rfl
theorem fl_X5_13 : Cond.fieldLink RX5 13 RX5 "kept" "[I" ∈ TBL := TBL_of 751 (by decide +kernel) rfl
theorem fl_X5_16 : Cond.fieldLink RX5 16 RX5 "before" "[I" ∈ TBL := TBL_of 752 (by decide +kernel) rfl
theorem fl_X5_19 : Cond.fieldLink RX5 19 RX5 "aside" "[I" ∈ TBL := TBL_of 753 (by decide +kernel) rfl
theorem fl_X5_301 : Cond.fieldLink RX5 301 RX5 "isKept" "Z" ∈ TBL := TBL_of 754 (by decide +kernel) rfl
theorem fl_X5_22 : Cond.fieldLink RX5 22 RX5 "findings" "[I" ∈ TBL := TBL_of 755 (by decide +kernel) rfl
theorem fl_X5_25 : Cond.fieldLink RX5 25 RX5 "tape" "[I" ∈ TBL := TBL_of 756 (by decide +kernel) rfl
theorem fl_X5_212 : Cond.fieldLink RX5 212 RX5 "taped" "I" ∈ TBL := TBL_of 757 (by decide +kernel) rfl
theorem fl_X5_28 : Cond.fieldLink RX5 28 RX5 "bitsOf" "[I" ∈ TBL := TBL_of 758 (by decide +kernel) rfl
theorem fl_X5_31 : Cond.fieldLink RX5 31 RX5 "sizes" "[I" ∈ TBL := TBL_of 759 (by decide +kernel) rfl
theorem fl_X5_34 : Cond.fieldLink RX5 34 RX5 "numbers" "[I" ∈ TBL := TBL_of 760 (by decide +kernel) rfl
theorem fl_X5_37 : Cond.fieldLink RX5 37 RX5 "words" "[I" ∈ TBL := TBL_of 761 (by decide +kernel) rfl
theorem fl_X5_231 : Cond.fieldLink RX5 231 RX5 "token" "I" ∈ TBL := TBL_of 762 (by decide +kernel) rfl
theorem fl_X5_219 : Cond.fieldLink RX5 219 RX5 "from" "I" ∈ TBL := TBL_of 763 (by decide +kernel) rfl
theorem fl_X5_216 : Cond.fieldLink RX5 216 RX5 "to" "I" ∈ TBL := TBL_of 764 (by decide +kernel) rfl
theorem fl_X5_234 : Cond.fieldLink RX5 234 RX5 "value" "I" ∈ TBL := TBL_of 765 (by decide +kernel) rfl
theorem fl_X5_237 : Cond.fieldLink RX5 237 RX5 "faultAt" "I" ∈ TBL := TBL_of 766 (by decide +kernel) rfl
theorem lk_L_17 : Cond.methodLink RL 17 yX5_word ∈ TBL := TBL_of 802 (by decide +kernel) rfl
theorem lk_X5_50 : Cond.methodLink RX5 50 yX5_isPlace ∈ TBL := TBL_of 806 (by decide +kernel) rfl
theorem lk_X5_41 : Cond.methodLink RX5 41 yX5_isPage ∈ TBL := TBL_of 809 (by decide +kernel) rfl
theorem cl_X5_54 : Cond.constantLong RX5 54 (9) ∈ TBL := TBL_of 812 (by decide +kernel) rfl
theorem lk_X5_56 : Cond.methodLink RX5 56 yX5_isIn ∈ TBL := TBL_of 813 (by decide +kernel) rfl
theorem lk_X5_60 : Cond.methodLink RX5 60 yX5_becomes ∈ TBL := TBL_of 816 (by decide +kernel) rfl
theorem cs_X5_40 : Cond.constant RX5 40 (-1000001) ∈ TBL := TBL_of 820 (by decide +kernel) rfl
theorem lk_X5_46 : Cond.methodLink RX5 46 yX5_finds ∈ TBL := TBL_of 821 (by decide +kernel) rfl
theorem lk_L_22 : Cond.methodLink RL 22 yX5_reads ∈ TBL := TBL_of 825 (by decide +kernel) rfl
theorem lk_X5_64 : Cond.methodLink RX5 64 yX5_wordAt ∈ TBL := TBL_of 829 (by decide +kernel) rfl
theorem lk_L_26 : Cond.methodLink RL 26 yX5_page ∈ TBL := TBL_of 833 (by decide +kernel) rfl
theorem cl_X5_70 : Cond.constantLong RX5 70 (3) ∈ TBL := TBL_of 837 (by decide +kernel) rfl
theorem lk_X5_72 : Cond.methodLink RX5 72 yX5_saysNow ∈ TBL := TBL_of 838 (by decide +kernel) rfl
theorem lk_X5_75 : Cond.methodLink RX5 75 yX5_whole ∈ TBL := TBL_of 842 (by decide +kernel) rfl
theorem lk_X5_78 : Cond.methodLink RX5 78 yX5_many ∈ TBL := TBL_of 846 (by decide +kernel) rfl
theorem lk_X5_81 : Cond.methodLink RX5 81 yX5_there ∈ TBL := TBL_of 849 (by decide +kernel) rfl
theorem lk_X5_67 : Cond.methodLink RX5 67 yX5_its ∈ TBL := TBL_of 853 (by decide +kernel) rfl
theorem lk_L_30 : Cond.methodLink RL 30 yX5_copied ∈ TBL := TBL_of 857 (by decide +kernel) rfl
theorem lk_L_34 : Cond.methodLink RL 34 yX5_moth ∈ TBL := TBL_of 861 (by decide +kernel) rfl
theorem cl_X5_87 : Cond.constantLong RX5 87 (6) ∈ TBL := TBL_of 865 (by decide +kernel) rfl
theorem cs_X5_89 : Cond.constant RX5 89 (-1000002) ∈ TBL := TBL_of 866 (by decide +kernel) rfl
theorem lk_X5_90 : Cond.methodLink RX5 90 yX5_comes ∈ TBL := TBL_of 867 (by decide +kernel) rfl
theorem lk_X5_84 : Cond.methodLink RX5 84 yX5_at ∈ TBL := TBL_of 871 (by decide +kernel) rfl
theorem lk_L_38 : Cond.methodLink RL 38 yX5_of ∈ TBL := TBL_of 874 (by decide +kernel) rfl
theorem lk_X5_112 : Cond.methodLink RX5 112 yX5_isMoth ∈ TBL := TBL_of 878 (by decide +kernel) rfl
theorem cl_X5_115 : Cond.constantLong RX5 115 (4) ∈ TBL := TBL_of 882 (by decide +kernel) rfl
theorem lk_X5_117 : Cond.methodLink RX5 117 yX5_bites ∈ TBL := TBL_of 883 (by decide +kernel) rfl
theorem lk_X5_97 : Cond.methodLink RX5 97 yX5_firstWhole ∈ TBL := TBL_of 887 (by decide +kernel) rfl
theorem lk_X5_94 : Cond.methodLink RX5 94 yX5_firstLike ∈ TBL := TBL_of 891 (by decide +kernel) rfl
theorem lk_X5_100 : Cond.methodLink RX5 100 yX5_scholarBites ∈ TBL := TBL_of 895 (by decide +kernel) rfl
theorem lk_X5_103 : Cond.methodLink RX5 103 yX5_firstOf ∈ TBL := TBL_of 899 (by decide +kernel) rfl
theorem lk_X5_106 : Cond.methodLink RX5 106 yX5_lastWhole ∈ TBL := TBL_of 903 (by decide +kernel) rfl
theorem lk_L_42 : Cond.methodLink RL 42 yX5_change ∈ TBL := TBL_of 907 (by decide +kernel) rfl
theorem lk_X5_122 : Cond.methodLink RX5 122 yX5_isFit ∈ TBL := TBL_of 911 (by decide +kernel) rfl
theorem cl_X5_120 : Cond.constantLong RX5 120 (9999) ∈ TBL := TBL_of 914 (by decide +kernel) rfl
theorem lk_L_46 : Cond.methodLink RL 46 yX5_leaves ∈ TBL := TBL_of 915 (by decide +kernel) rfl
theorem lk_X5_125 : Cond.methodLink RX5 125 yX5_leavesBy ∈ TBL := TBL_of 919 (by decide +kernel) rfl
theorem lk_X5_109 : Cond.methodLink RX5 109 yX5_least ∈ TBL := TBL_of 922 (by decide +kernel) rfl
theorem lk_X5_128 : Cond.methodLink RX5 128 yX5_gainsBy ∈ TBL := TBL_of 925 (by decide +kernel) rfl
theorem lk_L_51 : Cond.methodLink RL 51 yX5_go ∈ TBL := TBL_of 928 (by decide +kernel) rfl
theorem cl_X5_135 : Cond.constantLong RX5 135 (60) ∈ TBL := TBL_of 932 (by decide +kernel) rfl
theorem cs_X5_137 : Cond.constant RX5 137 (99999) ∈ TBL := TBL_of 933 (by decide +kernel) rfl
theorem cs_X5_138 : Cond.constant RX5 138 (-1000005) ∈ TBL := TBL_of 934 (by decide +kernel) rfl
theorem lk_X5_139 : Cond.methodLink RX5 139 yX5_goes ∈ TBL := TBL_of 935 (by decide +kernel) rfl
theorem lk_X5_131 : Cond.methodLink RX5 131 yX5_nightBut ∈ TBL := TBL_of 939 (by decide +kernel) rfl
theorem lk_X5_142 : Cond.methodLink RX5 142 yX5_holes ∈ TBL := TBL_of 943 (by decide +kernel) rfl
theorem lk_L_55 : Cond.methodLink RL 55 yX5_now ∈ TBL := TBL_of 947 (by decide +kernel) rfl
theorem lk_X5_146 : Cond.methodLink RX5 146 yX5_saysAll ∈ TBL := TBL_of 951 (by decide +kernel) rfl
theorem lk_X5_149 : Cond.methodLink RX5 149 yX5_fedAll ∈ TBL := TBL_of 955 (by decide +kernel) rfl
theorem lk_X5_152 : Cond.methodLink RX5 152 yX5_hungry ∈ TBL := TBL_of 959 (by decide +kernel) rfl
theorem lk_X5_155 : Cond.methodLink RX5 155 yX5_barePages ∈ TBL := TBL_of 963 (by decide +kernel) rfl
theorem lk_L_59 : Cond.methodLink RL 59 yX5_ahead ∈ TBL := TBL_of 967 (by decide +kernel) rfl
theorem cl_X5_158 : Cond.constantLong RX5 158 (100) ∈ TBL := TBL_of 971 (by decide +kernel) rfl
theorem lk_X5_160 : Cond.methodLink RX5 160 yX5_copyRow ∈ TBL := TBL_of 972 (by decide +kernel) rfl
theorem lk_L_63 : Cond.methodLink RL 63 yX5_says ∈ TBL := TBL_of 975 (by decide +kernel) rfl
theorem lk_X5_164 : Cond.methodLink RX5 164 yX5_saysIn ∈ TBL := TBL_of 979 (by decide +kernel) rfl
theorem lk_L_67 : Cond.methodLink RL 67 yX5_fed ∈ TBL := TBL_of 983 (by decide +kernel) rfl
theorem lk_L_71 : Cond.methodLink RL 71 yX5_bare ∈ TBL := TBL_of 987 (by decide +kernel) rfl
theorem cs_X5_45 : Cond.constant RX5 45 (-1000004) ∈ TBL := TBL_of 991 (by decide +kernel) rfl
theorem lk_L_75 : Cond.methodLink RL 75 yX5_when ∈ TBL := TBL_of 992 (by decide +kernel) rfl
theorem cl_X5_167 : Cond.constantLong RX5 167 (324) ∈ TBL := TBL_of 996 (by decide +kernel) rfl
theorem lk_L_80 : Cond.methodLink RL 80 yX5_settles ∈ TBL := TBL_of 997 (by decide +kernel) rfl
theorem lk_X5_169 : Cond.methodLink RX5 169 yX5_leavesAll ∈ TBL := TBL_of 1001 (by decide +kernel) rfl
theorem lk_L_84 : Cond.methodLink RL 84 yX5_alike ∈ TBL := TBL_of 1005 (by decide +kernel) rfl
theorem lk_X5_173 : Cond.methodLink RX5 173 yX5_areAlike ∈ TBL := TBL_of 1009 (by decide +kernel) rfl
theorem lk_L_88 : Cond.methodLink RL 88 yX5_put ∈ TBL := TBL_of 1013 (by decide +kernel) rfl
theorem lk_X5_178 : Cond.methodLink RX5 178 yX5_isAsked ∈ TBL := TBL_of 1017 (by decide +kernel) rfl
theorem cl_X5_176 : Cond.constantLong RX5 176 (40) ∈ TBL := TBL_of 1021 (by decide +kernel) rfl
theorem lk_X5_182 : Cond.methodLink RX5 182 yX5_mostBy ∈ TBL := TBL_of 1022 (by decide +kernel) rfl
theorem lk_L_92 : Cond.methodLink RL 92 yX5_tasteFor ∈ TBL := TBL_of 1026 (by decide +kernel) rfl
theorem lk_L_96 : Cond.methodLink RL 96 yX5_kindFor ∈ TBL := TBL_of 1030 (by decide +kernel) rfl
theorem lk_L_100 : Cond.methodLink RL 100 yX5_swapFor ∈ TBL := TBL_of 1034 (by decide +kernel) rfl
theorem lk_X5_186 : Cond.methodLink RX5 186 yX5_swaps ∈ TBL := TBL_of 1038 (by decide +kernel) rfl
theorem lk_X5_189 : Cond.methodLink RX5 189 yX5_orNone ∈ TBL := TBL_of 1042 (by decide +kernel) rfl
theorem lk_L_104 : Cond.methodLink RL 104 yX5_out ∈ TBL := TBL_of 1046 (by decide +kernel) rfl
theorem cl_X5_192 : Cond.constantLong RX5 192 (20) ∈ TBL := TBL_of 1050 (by decide +kernel) rfl
theorem lk_X5_194 : Cond.methodLink RX5 194 yX5_stays ∈ TBL := TBL_of 1051 (by decide +kernel) rfl
theorem lk_L_109 : Cond.methodLink RL 109 yX5_fits ∈ TBL := TBL_of 1055 (by decide +kernel) rfl
theorem lk_X5_197 : Cond.methodLink RX5 197 yX5_wants ∈ TBL := TBL_of 1059 (by decide +kernel) rfl
theorem lk_X5_297 : Cond.methodLink RX5 297 yX5_isSheet ∈ TBL := TBL_of 1063 (by decide +kernel) rfl
theorem cs_X5_292 : Cond.constant RX5 292 (-1000006) ∈ TBL := TBL_of 1066 (by decide +kernel) rfl
theorem lk_X5_200 : Cond.methodLink RX5 200 yX5_isTold ∈ TBL := TBL_of 1067 (by decide +kernel) rfl
theorem lk_L_113 : Cond.methodLink RL 113 yX5_kinds ∈ TBL := TBL_of 1071 (by decide +kernel) rfl
theorem lk_X5_203 : Cond.methodLink RX5 203 yX5_isFedSo ∈ TBL := TBL_of 1075 (by decide +kernel) rfl
theorem lk_L_117 : Cond.methodLink RL 117 yX5_lights ∈ TBL := TBL_of 1079 (by decide +kernel) rfl
theorem lk_X5_207 : Cond.methodLink RX5 207 yX5_draw ∈ TBL := TBL_of 1083 (by decide +kernel) rfl
theorem cs_X5_206 : Cond.constant RX5 206 (1103515245) ∈ TBL := TBL_of 1087 (by decide +kernel) rfl
theorem lk_L_122 : Cond.methodLink RL 122 yX5_odds ∈ TBL := TBL_of 1088 (by decide +kernel) rfl
theorem cl_X5_210 : Cond.constantLong RX5 210 (23) ∈ TBL := TBL_of 1092 (by decide +kernel) rfl
theorem lk_L_126 : Cond.methodLink RL 126 yX5_seed ∈ TBL := TBL_of 1093 (by decide +kernel) rfl
theorem lk_L_130 : Cond.methodLink RL 130 yX5_feed ∈ TBL := TBL_of 1097 (by decide +kernel) rfl
theorem lk_L_134 : Cond.methodLink RL 134 yX5_wipe ∈ TBL := TBL_of 1101 (by decide +kernel) rfl
theorem lk_L_138 : Cond.methodLink RL 138 yX5_text ∈ TBL := TBL_of 1105 (by decide +kernel) rfl
theorem lk_X5_261 : Cond.methodLink RX5 261 yX5_nextToken ∈ TBL := TBL_of 1109 (by decide +kernel) rfl
theorem lk_X5_222 : Cond.methodLink RX5 222 yX5_byteAt ∈ TBL := TBL_of 1113 (by decide +kernel) rfl
theorem lk_X5_225 : Cond.methodLink RX5 225 yX5_isLetter ∈ TBL := TBL_of 1117 (by decide +kernel) rfl
theorem lk_X5_228 : Cond.methodLink RX5 228 yX5_isDigit ∈ TBL := TBL_of 1120 (by decide +kernel) rfl
theorem lk_X5_289 : Cond.methodLink RX5 289 yX5_itemHere ∈ TBL := TBL_of 1123 (by decide +kernel) rfl
theorem lk_X5_277 : Cond.methodLink RX5 277 yX5_kindHere ∈ TBL := TBL_of 1127 (by decide +kernel) rfl
theorem lk_X5_250 : Cond.methodLink RX5 250 yX5_isFour ∈ TBL := TBL_of 1131 (by decide +kernel) rfl
theorem lk_X5_240 : Cond.methodLink RX5 240 yX5_isWord ∈ TBL := TBL_of 1135 (by decide +kernel) rfl
theorem lk_X5_243 : Cond.methodLink RX5 243 yX5_has3 ∈ TBL := TBL_of 1139 (by decide +kernel) rfl
theorem lk_X5_253 : Cond.methodLink RX5 253 yX5_isFive ∈ TBL := TBL_of 1143 (by decide +kernel) rfl
theorem lk_X5_257 : Cond.methodLink RX5 257 yX5_isSix ∈ TBL := TBL_of 1147 (by decide +kernel) rfl
theorem lk_X5_280 : Cond.methodLink RX5 280 yX5_mothHere ∈ TBL := TBL_of 1151 (by decide +kernel) rfl
theorem lk_X5_247 : Cond.methodLink RX5 247 yX5_fails ∈ TBL := TBL_of 1155 (by decide +kernel) rfl
theorem lk_X5_267 : Cond.methodLink RX5 267 yX5_isTwo ∈ TBL := TBL_of 1159 (by decide +kernel) rfl
theorem lk_X5_270 : Cond.methodLink RX5 270 yX5_perhaps ∈ TBL := TBL_of 1163 (by decide +kernel) rfl
theorem lk_X5_264 : Cond.methodLink RX5 264 yX5_isNumber ∈ TBL := TBL_of 1167 (by decide +kernel) rfl
theorem lk_X5_283 : Cond.methodLink RX5 283 yX5_pageHere ∈ TBL := TBL_of 1171 (by decide +kernel) rfl
theorem lk_X5_274 : Cond.methodLink RX5 274 yX5_empties ∈ TBL := TBL_of 1175 (by decide +kernel) rfl
theorem lk_X5_286 : Cond.methodLink RX5 286 yX5_emptyHere ∈ TBL := TBL_of 1179 (by decide +kernel) rfl
theorem lk_L_142 : Cond.methodLink RL 142 yX5_hold ∈ TBL := TBL_of 1183 (by decide +kernel) rfl
theorem lk_L_146 : Cond.methodLink RL 146 yX5_as ∈ TBL := TBL_of 1187 (by decide +kernel) rfl
theorem lk_X5_293 : Cond.methodLink RX5 293 yX5_isUnder ∈ TBL := TBL_of 1191 (by decide +kernel) rfl
theorem cs_X5_296 : Cond.constant RX5 296 (-1000003) ∈ TBL := TBL_of 1194 (by decide +kernel) rfl
theorem lk_L_150 : Cond.methodLink RL 150 yX5_sheet ∈ TBL := TBL_of 1195 (by decide +kernel) rfl
theorem cs_X5_300 : Cond.constant RX5 300 (-1000007) ∈ TBL := TBL_of 1199 (by decide +kernel) rfl
theorem lk_L_154 : Cond.methodLink RL 154 yX5_write ∈ TBL := TBL_of 1200 (by decide +kernel) rfl
theorem lk_L_159 : Cond.methodLink RL 159 yX5_copy ∈ TBL := TBL_of 1204 (by decide +kernel) rfl
theorem lk_L_163 : Cond.methodLink RL 163 yX5_load ∈ TBL := TBL_of 1208 (by decide +kernel) rfl
theorem lk_L_167 : Cond.methodLink RL 167 yX5_judge ∈ TBL := TBL_of 1212 (by decide +kernel) rfl
theorem lk_L_171 : Cond.methodLink RL 171 yX5_image ∈ TBL := TBL_of 1216 (by decide +kernel) rfl
theorem lk_L_175 : Cond.methodLink RL 175 yX5_undo ∈ TBL := TBL_of 1220 (by decide +kernel) rfl
theorem lk_L_179 : Cond.methodLink RL 179 yX5_tear ∈ TBL := TBL_of 1224 (by decide +kernel) rfl
theorem lk_L_183 : Cond.methodLink RL 183 yX5_count ∈ TBL := TBL_of 1228 (by decide +kernel) rfl
theorem lk_L_187 : Cond.methodLink RL 187 yX5_status ∈ TBL := TBL_of 1232 (by decide +kernel) rfl
theorem cl_X5_305 : Cond.constantLong RX5 305 (-1) ∈ TBL := TBL_of 1236 (by decide +kernel) rfl
theorem fl_J0_9 : Cond.fieldLink RJ0 9 RJ0 "value" "[B" ∈ TBL := TBL_of 1237 (by decide +kernel) rfl
theorem fl_J0_15 : Cond.fieldLink RJ0 15 RJ0 "coder" "B" ∈ TBL := TBL_of 1238 (by decide +kernel) rfl
theorem in_X0 : ∀ w ∈ u_ws RX0 TX0 6, w ∈ TBL := by
  intro w hw
  obtain ⟨k, hk, rfl⟩ := List.mem_map.mp hw
  have hk := List.mem_range.mp hk
  match k, hk with
  | 0, _ => exact TBL_of 106 (by decide +kernel) (by decide +kernel)
  | 1, _ => exact TBL_of 108 (by decide +kernel) (by decide +kernel)
  | 2, _ => exact TBL_of 110 (by decide +kernel) (by decide +kernel)
  | 3, _ => exact TBL_of 112 (by decide +kernel) (by decide +kernel)
  | 4, _ => exact TBL_of 114 (by decide +kernel) (by decide +kernel)
  | 5, _ => exact TBL_of 116 (by decide +kernel) (by decide +kernel)
  | k + 6, h => exact absurd h (by omega)
theorem in_X2 : ∀ w ∈ u_ws RX2 TX2 3, w ∈ TBL := by
  intro w hw
  obtain ⟨k, hk, rfl⟩ := List.mem_map.mp hw
  have hk := List.mem_range.mp hk
  match k, hk with
  | 0, _ => exact TBL_of 160 (by decide +kernel) (by decide +kernel)
  | 1, _ => exact TBL_of 162 (by decide +kernel) (by decide +kernel)
  | 2, _ => exact TBL_of 164 (by decide +kernel) (by decide +kernel)
  | k + 3, h => exact absurd h (by omega)
theorem in_X3 : ∀ w ∈ u_ws RX3 TX3 6, w ∈ TBL := by
  intro w hw
  obtain ⟨k, hk, rfl⟩ := List.mem_map.mp hw
  have hk := List.mem_range.mp hk
  match k, hk with
  | 0, _ => exact TBL_of 133 (by decide +kernel) (by decide +kernel)
  | 1, _ => exact TBL_of 135 (by decide +kernel) (by decide +kernel)
  | 2, _ => exact TBL_of 137 (by decide +kernel) (by decide +kernel)
  | 3, _ => exact TBL_of 139 (by decide +kernel) (by decide +kernel)
  | 4, _ => exact TBL_of 141 (by decide +kernel) (by decide +kernel)
  | 5, _ => exact TBL_of 143 (by decide +kernel) (by decide +kernel)
  | k + 6, h => exact absurd h (by omega)
theorem in_X4 : ∀ w ∈ u_ws RX4 TX4 8, w ∈ TBL := by
  intro w hw
  obtain ⟨k, hk, rfl⟩ := List.mem_map.mp hw
  have hk := List.mem_range.mp hk
  match k, hk with
  | 0, _ => exact TBL_of 175 (by decide +kernel) (by decide +kernel)
  | 1, _ => exact TBL_of 177 (by decide +kernel) (by decide +kernel)
  | 2, _ => exact TBL_of 179 (by decide +kernel) (by decide +kernel)
  | 3, _ => exact TBL_of 181 (by decide +kernel) (by decide +kernel)
  | 4, _ => exact TBL_of 183 (by decide +kernel) (by decide +kernel)
  | 5, _ => exact TBL_of 185 (by decide +kernel) (by decide +kernel)
  | 6, _ => exact TBL_of 187 (by decide +kernel) (by decide +kernel)
  | 7, _ => exact TBL_of 189 (by decide +kernel) (by decide +kernel)
  | k + 8, h => exact absurd h (by omega)
theorem in_X5 : ∀ w ∈ u_ws RX5 TX5 17, w ∈ TBL := by
  intro w hw
  obtain ⟨k, hk, rfl⟩ := List.mem_map.mp hw
  have hk := List.mem_range.mp hk
  match k, hk with
  | 0, _ => exact TBL_of 767 (by decide +kernel) (by decide +kernel)
  | 1, _ => exact TBL_of 769 (by decide +kernel) (by decide +kernel)
  | 2, _ => exact TBL_of 771 (by decide +kernel) (by decide +kernel)
  | 3, _ => exact TBL_of 773 (by decide +kernel) (by decide +kernel)
  | 4, _ => exact TBL_of 775 (by decide +kernel) (by decide +kernel)
  | 5, _ => exact TBL_of 777 (by decide +kernel) (by decide +kernel)
  | 6, _ => exact TBL_of 779 (by decide +kernel) (by decide +kernel)
  | 7, _ => exact TBL_of 781 (by decide +kernel) (by decide +kernel)
  | 8, _ => exact TBL_of 783 (by decide +kernel) (by decide +kernel)
  | 9, _ => exact TBL_of 785 (by decide +kernel) (by decide +kernel)
  | 10, _ => exact TBL_of 787 (by decide +kernel) (by decide +kernel)
  | 11, _ => exact TBL_of 789 (by decide +kernel) (by decide +kernel)
  | 12, _ => exact TBL_of 791 (by decide +kernel) (by decide +kernel)
  | 13, _ => exact TBL_of 793 (by decide +kernel) (by decide +kernel)
  | 14, _ => exact TBL_of 795 (by decide +kernel) (by decide +kernel)
  | 15, _ => exact TBL_of 797 (by decide +kernel) (by decide +kernel)
  | 16, _ => exact TBL_of 799 (by decide +kernel) (by decide +kernel)
  | k + 17, h => exact absurd h (by omega)
theorem tw_ac : Cond.native arraycopyName ∈ TBL ∧ Cond.static arraycopyName ∈ TBL ∧ Cond.initialized "java/lang/System" ∈ TBL := ⟨TBL_of 271 (by decide +kernel) rfl, TBL_of 270 (by decide +kernel) rfl, TBL_of 75 (by decide +kernel) rfl⟩
