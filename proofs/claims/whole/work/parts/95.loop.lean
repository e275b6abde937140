theorem lw_le {Ls i : Nat} (hL : Ls ≤ 3072) (hi : i ≤ 4000) (h : ¬ nI Ls - 6 < nI i) : i + 6 ≤ Ls := by
  rw [Int32.lt_iff_toInt_lt, show (6 : Int32) = nI 6 from rfl, pk_sub_toInt (by omega) (by decide), nI_toInt (by omega)] at h
  omega
theorem i6 (i : Nat) : nI i + Int32.ofInt 6 = nI (i + 6) := by rw [show Int32.ofInt 6 = nI 6 from by decide]; exact nI_add i 6
set_option maxRecDepth 20000 in
theorem law_sw {X : XT} {G : GT} {b Ls : Nat} {xs : Nat → Int32} (C : CX X G RL cL_law 4 13 486) (S : CS X G b Ls xs) {n i : Nat} {g : Mem} (hi : i + 6 ≤ Ls) (hL : Ls ≤ 3072) (hn : n ≤ 511) (hR : REL n g) (k : ∀ g', REL (n + 1) g' → J X G 4 g' 1533 [some (.ref b), some (.ref (xo G)), some (.ref (mo G)), some (.int (nI i))] [])
    {j : Nat} (hj : j < 64) : J X G 4 g 33 [some (.ref b), some (.ref (xo G)), some (.ref (mo G)), some (.int (nI i))] [.int (nI j)] := by
  match j, hj with
  | 0, _ => exact j_tsIn 33 216 (off := 183) C dL_law_33 (by decide) (by decide) rfl (by decide) (lw_word C S hi hL hn hR k)
  | 1, _ => exact j_tsIn 33 259 (off := 226) C dL_law_33 (by decide) (by decide) rfl (by decide) (lw_reads C S hi hL hn hR k)
  | 2, _ => exact j_tsIn 33 292 (off := 259) C dL_law_33 (by decide) (by decide) rfl (by decide) (lw_page C S hi hL hn hR k)
  | 3, _ => exact j_tsIn 33 325 (off := 292) C dL_law_33 (by decide) (by decide) rfl (by decide) (lw_copied C S hi hL hn hR k)
  | 4, _ => exact j_tsIn 33 358 (off := 325) C dL_law_33 (by decide) (by decide) rfl (by decide) (lw_moth C S hi hL hn hR k)
  | 5, _ => exact j_tsIn 33 391 (off := 358) C dL_law_33 (by decide) (by decide) rfl (by decide) (lw_of C S hi hL hn hR k)
  | 6, _ => exact j_tsIn 33 424 (off := 391) C dL_law_33 (by decide) (by decide) rfl (by decide) (lw_change C S hi hL hn hR k)
  | 7, _ => exact j_tsIn 33 467 (off := 434) C dL_law_33 (by decide) (by decide) rfl (by decide) (lw_leaves C S hi hL hn hR k)
  | 8, _ => exact j_tsIn 33 510 (off := 477) C dL_law_33 (by decide) (by decide) rfl (by decide) (lw_go C S hi hL hn hR k)
  | 9, _ => exact j_tsIn 33 533 (off := 500) C dL_law_33 (by decide) (by decide) rfl (by decide) (lw_now C S hi hL hn hR k)
  | 10, _ => exact j_tsIn 33 556 (off := 523) C dL_law_33 (by decide) (by decide) rfl (by decide) (lw_ahead C S hi hL hn hR k)
  | 11, _ => exact j_tsIn 33 599 (off := 566) C dL_law_33 (by decide) (by decide) rfl (by decide) (lw_says C S hi hL hn hR k)
  | 12, _ => exact j_tsIn 33 632 (off := 599) C dL_law_33 (by decide) (by decide) rfl (by decide) (lw_fed C S hi hL hn hR k)
  | 13, _ => exact j_tsIn 33 665 (off := 632) C dL_law_33 (by decide) (by decide) rfl (by decide) (lw_bare C S hi hL hn hR k)
  | 14, _ => exact j_tsIn 33 688 (off := 655) C dL_law_33 (by decide) (by decide) rfl (by decide) (lw_when C S hi hL hn hR k)
  | 15, _ => exact j_tsIn 33 721 (off := 688) C dL_law_33 (by decide) (by decide) rfl (by decide) (lw_settles C S hi hL hn hR k)
  | 16, _ => exact j_tsIn 33 734 (off := 701) C dL_law_33 (by decide) (by decide) rfl (by decide) (lw_alike C S hi hL hn hR k)
  | 17, _ => exact j_tsIn 33 767 (off := 734) C dL_law_33 (by decide) (by decide) rfl (by decide) (lw_put C S hi hL hn hR k)
  | 18, _ => exact j_tsIn 33 810 (off := 777) C dL_law_33 (by decide) (by decide) rfl (by decide) (lw_tasteFor C S hi hL hn hR k)
  | 19, _ => exact j_tsIn 33 853 (off := 820) C dL_law_33 (by decide) (by decide) rfl (by decide) (lw_kindFor C S hi hL hn hR k)
  | 20, _ => exact j_tsIn 33 896 (off := 863) C dL_law_33 (by decide) (by decide) rfl (by decide) (lw_swapFor C S hi hL hn hR k)
  | 21, _ => exact j_tsIn 33 929 (off := 896) C dL_law_33 (by decide) (by decide) rfl (by decide) (lw_out C S hi hL hn hR k)
  | 22, _ => exact j_tsIn 33 962 (off := 929) C dL_law_33 (by decide) (by decide) rfl (by decide) (lw_fits C S hi hL hn hR k)
  | 23, _ => exact j_tsIn 33 1015 (off := 982) C dL_law_33 (by decide) (by decide) rfl (by decide) (lw_kinds C S hi hL hn hR k)
  | 24, _ => exact j_tsIn 33 1048 (off := 1015) C dL_law_33 (by decide) (by decide) rfl (by decide) (lw_lights C S hi hL hn hR k)
  | 25, _ => exact j_tsIn 33 1071 (off := 1038) C dL_law_33 (by decide) (by decide) rfl (by decide) (lw_odds C S hi hL hn hR k)
  | 26, _ => exact j_tsIn 33 1105 (off := 1072) C dL_law_33 (by decide) (by decide) rfl (by decide) (lw_seed C S hi hL hn hR k)
  | 27, _ => exact j_tsIn 33 1128 (off := 1095) C dL_law_33 (by decide) (by decide) rfl (by decide) (lw_feed C S hi hL hn hR k)
  | 28, _ => exact j_tsIn 33 1161 (off := 1128) C dL_law_33 (by decide) (by decide) rfl (by decide) (lw_wipe C S hi hL hn hR k)
  | 29, _ => exact j_tsIn 33 1174 (off := 1141) C dL_law_33 (by decide) (by decide) rfl (by decide) (lw_text C S hi hL hn hR k)
  | 30, _ => exact j_tsIn 33 1187 (off := 1154) C dL_law_33 (by decide) (by decide) rfl (by decide) (lw_hold C S hi hL hn hR k)
  | 31, _ => exact j_tsIn 33 1220 (off := 1187) C dL_law_33 (by decide) (by decide) rfl (by decide) (lw_as C S hi hL hn hR k)
  | 32, _ => exact j_tsIn 33 1253 (off := 1220) C dL_law_33 (by decide) (by decide) rfl (by decide) (lw_sheet C S hi hL hn hR k)
  | 33, _ => exact j_tsIn 33 1296 (off := 1263) C dL_law_33 (by decide) (by decide) rfl (by decide) (lw_write C S hi hL hn hR k)
  | 34, _ => exact j_tsIn 33 1339 (off := 1306) C dL_law_33 (by decide) (by decide) rfl (by decide) (lw_copy C S hi hL hn hR k)
  | 35, _ => exact j_tsIn 33 1402 (off := 1369) C dL_law_33 (by decide) (by decide) rfl (by decide) (lw_load C S hi hL hn hR k)
  | 36, _ => exact j_tsIn 33 1425 (off := 1392) C dL_law_33 (by decide) (by decide) rfl (by decide) (lw_judge C S hi hL hn hR k)
  | 37, _ => exact j_tsIn 33 1448 (off := 1415) C dL_law_33 (by decide) (by decide) rfl (by decide) (lw_image C S hi hL hn hR k)
  | 38, _ => exact j_tsIn 33 1461 (off := 1428) C dL_law_33 (by decide) (by decide) rfl (by decide) (lw_undo C S hi hL hn hR k)
  | 39, _ => exact j_tsIn 33 1474 (off := 1441) C dL_law_33 (by decide) (by decide) rfl (by decide) (lw_tear C S hi hL hn hR k)
  | 40, _ => exact j_tsIn 33 1487 (off := 1454) C dL_law_33 (by decide) (by decide) rfl (by decide) (lw_count C S hi hL hn hR k)
  | 41, _ => exact j_tsIn 33 1510 (off := 1477) C dL_law_33 (by decide) (by decide) rfl (by decide) (lw_status C S hi hL hn hR k)
  | j + 42, hj =>
    refine j_tsOut 33 1533 C dL_law_33 (Or.inr ?_) (by decide) (k g hR.s)
    rw [nI_toInt (by omega)]; omega
theorem law_loop {X : XT} {G : GT} {b Ls : Nat} {xs : Nat → Int32} (C : CX X G RL cL_law 4 13 486) (S : CS X G b Ls xs) (hL : Ls ≤ 3072) (hend : ∀ (g : Mem) (i : Nat), J X G 4 g 1539 [some (.ref b), some (.ref (xo G)), some (.ref (mo G)), some (.int (nI i))] []) :
    ∀ (m n i : Nat) (g : Mem), i = 6 * n → Ls ≤ i + 6 * m → i ≤ 4000 → REL n g → J X G 4 g 18 [some (.ref b), some (.ref (xo G)), some (.ref (mo G)), some (.int (nI i))] [] := by
  intro m
  induction m with
  | zero =>
    intro n i g hin hm hi4 hR
    refine j_il3 18 C dL_law_18 ?_
    refine j_al0 19 C dL_law_19 ?_
    refine j_scl 20 S C dL_law_20 ?_
    refine j_bipush 21 C dL_law_21 bp_6 ?_
    refine j_isub 23 C dL_law_23 ?_
    refine j_icgt 24 1539 C dL_law_24 (by decide) (fun _ => hend g i) (fun c => ?_)
    have := lw_le hL hi4 c
    omega
  | succ m ih =>
    intro n i g hin hm hi4 hR
    refine j_il3 18 C dL_law_18 ?_
    refine j_al0 19 C dL_law_19 ?_
    refine j_scl 20 S C dL_law_20 ?_
    refine j_bipush 21 C dL_law_21 bp_6 ?_
    refine j_isub 23 C dL_law_23 ?_
    refine j_icgt 24 1539 C dL_law_24 (by decide) (fun _ => hend g i) (fun c => ?_)
    have hi := lw_le hL hi4 c
    refine j_al0 27 C dL_law_27 ?_
    refine j_il3 28 C dL_law_28 ?_
    refine jl_scr 29 S (by omega) (by omega) C dL_law_29 ?_
    refine j_bipush 30 C dL_law_30 bp_63 ?_
    refine j_iand 32 C dL_law_32 ?_
    obtain ⟨j, hj, ej⟩ := pk_andE (xs i) (m := 63) 6 (by decide)
    rw [ej]
    refine law_sw C S hi hL (by omega) hR (fun g' hR' => ?_) hj
    refine j_inc3 1533 C dL_law_1533 rfl (i6 i) (Nat.le_of_ble_eq_true rfl) ?_
    refine j_goto 1536 18 C dL_law_1536 (by decide) ?_
    exact ih (n + 1) (i + 6) g' (by omega) (by omega) (by omega) hR'
