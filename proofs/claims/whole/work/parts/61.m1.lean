theorem bp_51 : (Int8.ofInt (51)).toInt32 = 51 := by decide
theorem bp_93 : (Int8.ofInt (93)).toInt32 = 93 := by decide
set_option maxRecDepth 20000 in
theorem c_X5_isIn {G : GT} {g : Mem} {x lo hi : Int32} {a b : Int64} (ha : a = lo.toInt64) (hb : b = hi.toInt64) : Cti G yX5_isIn cX5_isIn 6 .boolean 0 0 [.long x.toInt64, .long a, .long b] g (fun r g' => r = bi (inr x lo hi) ∧ g = g') := by
  refine ent_z (by decide) (Nat.le_of_ble_eq_true rfl) [some (.long x.toInt64), none, some (.long a), none, some (.long b), none] rfl ?_
  intro X C hR
  have C : CX X G RX5 cX5_isIn 6 0 0 := C
  refine j_ll0 0 C dX5_isIn_0 ?_
  refine j_ll2 1 C dX5_isIn_1 ?_
  refine j_lcmp 2 C dX5_isIn_2 ?_
  refine j_iflt 3 17 C dX5_isIn_3 (by decide) (fun c3 => ?_) (fun c3 => ?_)
  · refine j_iconst 17 C dX5_isIn_17 ic_0 ?_
    exact hR dX5_isIn_18 (by first | exact Or.inl rfl | exact Or.inr rfl) ⟨by first | exact isin_t ha hb c3 c10 | exact isin_f1 ha c3 | exact isin_f2 hb c10, rfl⟩
  · refine j_ll0 6 C dX5_isIn_6 ?_
    refine j_ll4 7 C dX5_isIn_7 ?_
    refine j_lcmp 9 C dX5_isIn_9 ?_
    refine j_ifgt 10 17 C dX5_isIn_10 (by decide) (fun c10 => ?_) (fun c10 => ?_)
    · refine j_iconst 17 C dX5_isIn_17 ic_0 ?_
      exact hR dX5_isIn_18 (by first | exact Or.inl rfl | exact Or.inr rfl) ⟨by first | exact isin_t ha hb c3 c10 | exact isin_f1 ha c3 | exact isin_f2 hb c10, rfl⟩
    · refine j_iconst 13 C dX5_isIn_13 ic_1 ?_
      refine j_goto 14 18 C dX5_isIn_14 (by decide) ?_
      exact hR dX5_isIn_18 (by first | exact Or.inl rfl | exact Or.inr rfl) ⟨by first | exact isin_t ha hb c3 c10 | exact isin_f1 ha c3 | exact isin_f2 hb c10, rfl⟩
theorem fm_ix : ∀ f, f < 7 → -1000001 - nLOW f + 1 = nI (f + 1) := by decide +kernel
set_option maxRecDepth 20000 in
theorem c_X5_finds {G : GT} {g : Mem} {f : Nat} (hf : f < 7) {x : Int32} (hx : x = nLOW f) : Cti G yX5_finds cX5_finds 2 .int 0 0 [.ref (mo G), .int x] g (fun r g' => r = x ∧ g' = FM g f) := by
  refine ent_i (by decide) (Nat.le_of_ble_eq_true rfl) [some (.ref (mo G)), some (.int x)] rfl ?_
  intro X C hR
  have C : CX X G RX5 cX5_finds 2 0 0 := C
  refine j_al0 0 C dX5_finds_0 ?_
  refine jg_X5_22 1 C dX5_finds_1 ?_
  refine j_iconst 4 C dX5_finds_4 ic_0 ?_
  refine j_top (nI 0) rfl ?_
  refine j_dup2 5 C dX5_finds_5 rfl rfl ?_
  refine jl_A4 6 (by omega) C dX5_finds_6 ?_
  refine j_iconst 7 C dX5_finds_7 ic_1 ?_
  refine j_iadd 8 C dX5_finds_8 ?_
  refine js_A4 9 (by omega) C dX5_finds_9 ?_
  refine j_al0 10 C dX5_finds_10 ?_
  refine jg_X5_22 11 C dX5_finds_11 ?_
  refine j_ldc 14 C dX5_finds_14 cs_X5_40 ?_
  refine j_il1 16 C dX5_finds_16 ?_
  refine j_isub 17 C dX5_finds_17 ?_
  refine j_iconst 18 C dX5_finds_18 ic_1 ?_
  refine j_iadd 19 C dX5_finds_19 ?_
  refine j_top (nI (f + 1)) (by rw [hx]; exact fm_ix f hf) ?_
  refine j_dup2 20 C dX5_finds_20 rfl rfl ?_
  refine jl_A4 21 (by omega) C dX5_finds_21 ?_
  refine j_iconst 22 C dX5_finds_22 ic_1 ?_
  refine j_iadd 23 C dX5_finds_23 ?_
  refine js_A4 24 (by omega) C dX5_finds_24 ?_
  refine j_il1 25 C dX5_finds_25 ?_
  exact hR dX5_finds_26 ⟨rfl, by unfold FM; rw [ub_ub, ub_s, upd_n (by omega)]⟩
set_option maxRecDepth 20000 in
theorem c_X5_becomes {G : GT} {g : Mem} {i : Nat} (hi : i < 93) {v : Int32} : Cti G yX5_becomes cX5_becomes 4 .int 0 0 [.ref (mo G), .int (nI i), .int v] g (fun r g' => r = g 12 i ∧ g' = ub g 12 (upd (g 12) i v)) := by
  refine ent_i (by decide) (Nat.le_of_ble_eq_true rfl) [some (.ref (mo G)), some (.int (nI i)), some (.int v), none] rfl ?_
  intro X C hR
  have C : CX X G RX5 cX5_becomes 4 0 0 := C
  refine j_al0 0 C dX5_becomes_0 ?_
  refine jg_X5_7 1 C dX5_becomes_1 ?_
  refine j_il1 4 C dX5_becomes_4 ?_
  refine jl_A0 5 (by omega) C dX5_becomes_5 ?_
  refine j_is3 6 C dX5_becomes_6 rfl (Nat.le_of_ble_eq_true rfl) ?_
  refine j_al0 7 C dX5_becomes_7 ?_
  refine jg_X5_7 8 C dX5_becomes_8 ?_
  refine j_il1 11 C dX5_becomes_11 ?_
  refine j_il2 12 C dX5_becomes_12 ?_
  refine js_A0 13 (by omega) C dX5_becomes_13 ?_
  refine j_il3 14 C dX5_becomes_14 ?_
  exact hR dX5_becomes_15 ⟨rfl, rfl⟩
set_option maxRecDepth 20000 in
theorem c_X5_copyRow {G : GT} {g : Mem} {i j : Nat} (hi : i < 4) (hj : j < 4) (hne : i ≠ j) : Ctv G yX5_copyRow cX5_copyRow 3 0 0 [.ref (ar G i), .ref (ar G j)] g (fun g' => g' = ub g (12 + j) (g (12 + i))) := by
  refine ent_v (by decide) (Nat.le_of_ble_eq_true rfl) [some (.ref (ar G i)), some (.ref (ar G j)), none] rfl ?_
  intro X C hR
  have C : CX X G RX5 cX5_copyRow 3 0 0 := C
  have li := aLen93 hi
  have lj := aLen93 hj
  have loop : ∀ n k, k + n = 93 → ∀ S : Row, (∀ q, q < k → S q = g (12 + i) q) → J X G 3 (ub g (12 + j) S) 2 [some (.ref (ar G i)), some (.ref (ar G j)), some (.int (nI k))] [] := by
    intro n
    induction n with
    | zero =>
      intro k hk S hS
      obtain rfl : k = 93 := by omega
      refine j_il2 2 C dX5_copyRow_2 ?_
      refine j_bipush 3 C dX5_copyRow_3 bp_93 ?_
      refine j_icge 5 20 C dX5_copyRow_5 (by decide) (fun c5 => ?_) (fun c5 => ?_)
      · refine J.congr (g' := ub g (12 + j) (g (12 + i))) (fun k hk i9 i1 i2 => ?_) ?_
        · by_cases hb : cb k = 12 + j
          · have h93 : i9 < 93 := Nat.lt_of_lt_of_le i2 (cbr2 k hk (by omega) (by omega))
            rw [hb, ub_s, ub_s]
            exact hS i9 h93
          · rw [ub_n hb, ub_n hb]
        · exact hR dX5_copyRow_20 rfl
      · exact absurd (nI_le (Nat.le_refl _) (by decide)) c5
    | succ n ih =>
      intro k hk S hS
      refine j_il2 2 C dX5_copyRow_2 ?_
      refine j_bipush 3 C dX5_copyRow_3 bp_93 ?_
      refine j_icge 5 20 C dX5_copyRow_5 (by decide) (fun c5 => ?_) (fun c5 => ?_)
      · exact absurd c5 (nI_ge (a := k) (b := 93) (by omega) (by decide))
      · refine j_al1 8 C dX5_copyRow_8 ?_
        refine j_il2 9 C dX5_copyRow_9 ?_
        refine j_al0 10 C dX5_copyRow_10 ?_
        refine j_il2 11 C dX5_copyRow_11 ?_
        refine jl_A 12 (show i < 10 by omega) (by rw [li]; omega) C dX5_copyRow_12 ?_
        rw [ub_n (show 12 + i ≠ 12 + j by omega)]
        refine js_A 13 (show j < 10 by omega) (by rw [lj]; omega) C dX5_copyRow_13 ?_
        rw [ub_ub, ub_s]
        refine j_inc2 14 C dX5_copyRow_14 rfl (nI_inc _) (Nat.le_of_ble_eq_true rfl) ?_
        refine j_goto 17 2 C dX5_copyRow_17 (by decide) ?_
        refine ih (k + 1) (by omega) _ (fun q hq => ?_)
        by_cases e : q = k
        · subst e; exact upd_s
        · rw [upd_n e]; exact hS q (by omega)
  refine j_iconst 0 C dX5_copyRow_0 ic_0 ?_
  refine j_is2 1 C dX5_copyRow_1 rfl (Nat.le_of_ble_eq_true rfl) ?_
  have h9 := loop 93 0 rfl (g (12 + j)) (fun q hq => absurd hq (Nat.not_lt_zero q))
  rw [ub_id] at h9
  exact h9
set_option maxRecDepth 20000 in
theorem c_X5_isPage {G : GT} {g : Mem} {x : Int32} : Cti G yX5_isPage cX5_isPage 1 .boolean 0 0 [.int x] g (fun r g' => r = bi (inr x 0 5) ∧ g = g') := by
  refine ent_z (by decide) (Nat.le_of_ble_eq_true rfl) [some (.int x)] rfl ?_
  intro X C hR
  have C : CX X G RX5 cX5_isPage 1 0 0 := C
  refine j_il0 0 C dX5_isPage_0 ?_
  refine j_iflt 1 14 C dX5_isPage_1 (by decide) (fun c1 => ?_) (fun c1 => ?_)
  · refine j_iconst 14 C dX5_isPage_14 ic_0 ?_
    exact hR dX5_isPage_15 (by first | exact Or.inl rfl | exact Or.inr rfl) ⟨by first | exact pg_t (n := 5) (by decide) c1 c7 | exact pg_f1 c1 | exact pg_f2 (n := 5) (by decide) c7, rfl⟩
  · refine j_il0 4 C dX5_isPage_4 ?_
    refine j_bipush 5 C dX5_isPage_5 bp_6 ?_
    refine j_icge 7 14 C dX5_isPage_7 (by decide) (fun c7 => ?_) (fun c7 => ?_)
    · refine j_iconst 14 C dX5_isPage_14 ic_0 ?_
      exact hR dX5_isPage_15 (by first | exact Or.inl rfl | exact Or.inr rfl) ⟨by first | exact pg_t (n := 5) (by decide) c1 c7 | exact pg_f1 c1 | exact pg_f2 (n := 5) (by decide) c7, rfl⟩
    · refine j_iconst 10 C dX5_isPage_10 ic_1 ?_
      refine j_goto 11 15 C dX5_isPage_11 (by decide) ?_
      exact hR dX5_isPage_15 (by first | exact Or.inl rfl | exact Or.inr rfl) ⟨by first | exact pg_t (n := 5) (by decide) c1 c7 | exact pg_f1 c1 | exact pg_f2 (n := 5) (by decide) c7, rfl⟩
set_option maxRecDepth 20000 in
theorem c_X5_isPlace {G : GT} {g : Mem} {x y : Int32} : Cti G yX5_isPlace cX5_isPlace 2 .boolean 1 20 [.int x, .int y] g (fun r g' => r = bi (inr x 0 5 && inr y 0 7) ∧ g = g') := by
  refine ent_z (by decide) (Nat.le_of_ble_eq_true rfl) [some (.int x), some (.int y)] rfl ?_
  intro X C hR
  have C : CX X G RX5 cX5_isPlace 2 1 20 := C
  refine j_il0 0 C dX5_isPlace_0 ?_
  refine j_si 1 C dX5_isPlace_1 ms_X5_isPage lk_X5_41 (c_X5_isPage) rfl rfl ⟨(Nat.le_of_ble_eq_true rfl), (Nat.le_of_ble_eq_true rfl)⟩ (Nat.le_of_ble_eq_true rfl) (fun r1 g1 hp1 => ?_)
  obtain ⟨rfl, rfl⟩ := hp1
  refine j_ifeq 4 21 C dX5_isPlace_4 (by decide) (fun c4 => ?_) (fun c4 => ?_)
  · have v4 := bi_0 c4
    refine j_iconst 21 C dX5_isPlace_21 ic_0 ?_
    exact hR dX5_isPlace_22 (by first | exact Or.inl rfl | exact Or.inr rfl) ⟨by first | (rw [v4, Bool.true_and]; first | exact pg_t (n := 7) (by decide) c8 c14 | exact pg_f1 c8 | exact pg_f2 (n := 7) (by decide) c14) | (rw [v4]; rfl), rfl⟩
  · have v4 := bi_n c4
    refine j_il1 7 C dX5_isPlace_7 ?_
    refine j_iflt 8 21 C dX5_isPlace_8 (by decide) (fun c8 => ?_) (fun c8 => ?_)
    · refine j_iconst 21 C dX5_isPlace_21 ic_0 ?_
      exact hR dX5_isPlace_22 (by first | exact Or.inl rfl | exact Or.inr rfl) ⟨by first | (rw [v4, Bool.true_and]; first | exact pg_t (n := 7) (by decide) c8 c14 | exact pg_f1 c8 | exact pg_f2 (n := 7) (by decide) c14) | (rw [v4]; rfl), rfl⟩
    · refine j_il1 11 C dX5_isPlace_11 ?_
      refine j_bipush 12 C dX5_isPlace_12 bp_8 ?_
      refine j_icge 14 21 C dX5_isPlace_14 (by decide) (fun c14 => ?_) (fun c14 => ?_)
      · refine j_iconst 21 C dX5_isPlace_21 ic_0 ?_
        exact hR dX5_isPlace_22 (by first | exact Or.inl rfl | exact Or.inr rfl) ⟨by first | (rw [v4, Bool.true_and]; first | exact pg_t (n := 7) (by decide) c8 c14 | exact pg_f1 c8 | exact pg_f2 (n := 7) (by decide) c14) | (rw [v4]; rfl), rfl⟩
      · refine j_iconst 17 C dX5_isPlace_17 ic_1 ?_
        refine j_goto 18 22 C dX5_isPlace_18 (by decide) ?_
        exact hR dX5_isPlace_22 (by first | exact Or.inl rfl | exact Or.inr rfl) ⟨by first | (rw [v4, Bool.true_and]; first | exact pg_t (n := 7) (by decide) c8 c14 | exact pg_f1 c8 | exact pg_f2 (n := 7) (by decide) c14) | (rw [v4]; rfl), rfl⟩
set_option maxRecDepth 20000 in
theorem c_X5_isMoth {G : GT} {g : Mem} (hN : IN (g 12)) {x : Int32} : Cti G yX5_isMoth cX5_isMoth 2 .boolean 0 0 [.ref (mo G), .int x] g (fun r g' => r = bi (isM (g 12) x) ∧ g = g') := by
  refine ent_z (by decide) (Nat.le_of_ble_eq_true rfl) [some (.ref (mo G)), some (.int x)] rfl ?_
  intro X C hR
  have C : CX X G RX5 cX5_isMoth 2 0 0 := C
  refine j_il1 0 C dX5_isMoth_0 ?_
  refine j_iflt 1 18 C dX5_isMoth_1 (by decide) (fun c1 => ?_) (fun c1 => ?_)
  · refine j_iconst 18 C dX5_isMoth_18 ic_0 ?_
    exact hR dX5_isMoth_19 (by first | exact Or.inl rfl | exact Or.inr rfl) ⟨by obtain ⟨M, hM8, hM0⟩ := hN; rw [isM_iff hM0 hM8]; symm; first | exact if_pos (decide_eq_true ⟨Int32.not_lt.mp c1, Int32.not_le.mp c11⟩) | exact if_neg (fun q => absurd c1 (Int32.not_lt.mpr (of_decide_eq_true q).1)) | exact if_neg (fun q => absurd c11 (Int32.not_le.mpr (of_decide_eq_true q).2)), rfl⟩
  · refine j_il1 4 C dX5_isMoth_4 ?_
    refine j_al0 5 C dX5_isMoth_5 ?_
    refine jg_X5_7 6 C dX5_isMoth_6 ?_
    refine j_iconst 9 C dX5_isMoth_9 ic_0 ?_
    refine j_top (nI (0)) rfl ?_
    refine jl_A0 10 (by omega) C dX5_isMoth_10 ?_
    refine j_icge 11 18 C dX5_isMoth_11 (by decide) (fun c11 => ?_) (fun c11 => ?_)
    · refine j_iconst 18 C dX5_isMoth_18 ic_0 ?_
      exact hR dX5_isMoth_19 (by first | exact Or.inl rfl | exact Or.inr rfl) ⟨by obtain ⟨M, hM8, hM0⟩ := hN; rw [isM_iff hM0 hM8]; symm; first | exact if_pos (decide_eq_true ⟨Int32.not_lt.mp c1, Int32.not_le.mp c11⟩) | exact if_neg (fun q => absurd c1 (Int32.not_lt.mpr (of_decide_eq_true q).1)) | exact if_neg (fun q => absurd c11 (Int32.not_le.mpr (of_decide_eq_true q).2)), rfl⟩
    · refine j_iconst 14 C dX5_isMoth_14 ic_1 ?_
      refine j_goto 15 19 C dX5_isMoth_15 (by decide) ?_
      exact hR dX5_isMoth_19 (by first | exact Or.inl rfl | exact Or.inr rfl) ⟨by obtain ⟨M, hM8, hM0⟩ := hN; rw [isM_iff hM0 hM8]; symm; first | exact if_pos (decide_eq_true ⟨Int32.not_lt.mp c1, Int32.not_le.mp c11⟩) | exact if_neg (fun q => absurd c1 (Int32.not_lt.mpr (of_decide_eq_true q).1)) | exact if_neg (fun q => absurd c11 (Int32.not_le.mpr (of_decide_eq_true q).2)), rfl⟩
set_option maxRecDepth 20000 in
theorem c_X5_at {G : GT} {g : Mem} {M W : Nat} : Cti G yX5_at cX5_at 2 .int 0 0 [.int (nI M), .int (nI W)] g (fun r g' => r = nI (51 + (4 * M + W)) ∧ g = g') := by
  refine ent_i (by decide) (Nat.le_of_ble_eq_true rfl) [some (.int (nI M)), some (.int (nI W))] rfl ?_
  intro X C hR
  have C : CX X G RX5 cX5_at 2 0 0 := C
  refine j_bipush 0 C dX5_at_0 bp_51 ?_
  refine j_iconst 2 C dX5_at_2 ic_4 ?_
  refine j_il0 3 C dX5_at_3 ?_
  refine j_imul 4 C dX5_at_4 ?_
  refine j_iadd 5 C dX5_at_5 ?_
  refine j_il1 6 C dX5_at_6 ?_
  refine j_iadd 7 C dX5_at_7 ?_
  exact hR dX5_at_8 ⟨ix_at M W, rfl⟩
set_option maxRecDepth 20000 in
theorem c_X5_its {G : GT} {g : Mem} {M W : Nat} (hM : M < 8) (hW : W < 4) : Cti G yX5_its cX5_its 3 .int 0 0 [.ref (mo G), .int (nI M), .int (nI W)] g (fun r g' => r = tr (g 12) M W ∧ g = g') := by
  refine ent_i (by decide) (Nat.le_of_ble_eq_true rfl) [some (.ref (mo G)), some (.int (nI M)), some (.int (nI W))] rfl ?_
  intro X C hR
  have C : CX X G RX5 cX5_its 3 0 0 := C
  refine j_al0 0 C dX5_its_0 ?_
  refine jg_X5_7 1 C dX5_its_1 ?_
  refine j_bipush 4 C dX5_its_4 bp_51 ?_
  refine j_iconst 6 C dX5_its_6 ic_4 ?_
  refine j_il1 7 C dX5_its_7 ?_
  refine j_imul 8 C dX5_its_8 ?_
  refine j_iadd 9 C dX5_its_9 ?_
  refine j_il2 10 C dX5_its_10 ?_
  refine j_iadd 11 C dX5_its_11 ?_
  refine j_top (nI (51 + (4 * M + W))) (ix_at M W) ?_
  refine jl_A0 12 (by omega) C dX5_its_12 ?_
  exact hR dX5_its_13 ⟨rfl, rfl⟩
set_option maxRecDepth 20000 in
theorem c_X5_wordAt {G : GT} {g : Mem} {P K : Nat} (hP : P < 6) (hK : K < 8) : Cti G yX5_wordAt cX5_wordAt 3 .int 0 0 [.ref (mo G), .int (nI P), .int (nI K)] g (fun r g' => r = wd (g 12) P K ∧ g = g') := by
  refine ent_i (by decide) (Nat.le_of_ble_eq_true rfl) [some (.ref (mo G)), some (.int (nI P)), some (.int (nI K))] rfl ?_
  intro X C hR
  have C : CX X G RX5 cX5_wordAt 3 0 0 := C
  refine j_al0 0 C dX5_wordAt_0 ?_
  refine jg_X5_7 1 C dX5_wordAt_1 ?_
  refine j_iconst 4 C dX5_wordAt_4 ic_3 ?_
  refine j_bipush 5 C dX5_wordAt_5 bp_8 ?_
  refine j_il1 7 C dX5_wordAt_7 ?_
  refine j_imul 8 C dX5_wordAt_8 ?_
  refine j_iadd 9 C dX5_wordAt_9 ?_
  refine j_il2 10 C dX5_wordAt_10 ?_
  refine j_iadd 11 C dX5_wordAt_11 ?_
  refine j_top (nI (3 + (8 * P + K))) (ix_wa P K) ?_
  refine jl_A0 12 (by omega) C dX5_wordAt_12 ?_
  exact hR dX5_wordAt_13 ⟨rfl, rfl⟩
set_option maxRecDepth 20000 in
theorem c_X5_least {G : GT} {g : Mem} {x y : Int32} : Cti G yX5_least cX5_least 2 .int 0 0 [.int x, .int y] g (fun r g' => r = (if x < y then x else y) ∧ g = g') := by
  refine ent_i (by decide) (Nat.le_of_ble_eq_true rfl) [some (.int x), some (.int y)] rfl ?_
  intro X C hR
  have C : CX X G RX5 cX5_least 2 0 0 := C
  refine j_il0 0 C dX5_least_0 ?_
  refine j_il1 1 C dX5_least_1 ?_
  refine j_icge 2 9 C dX5_least_2 (by decide) (fun c2 => ?_) (fun c2 => ?_)
  · refine j_il1 9 C dX5_least_9 ?_
    exact hR dX5_least_10 ⟨by first | rw [if_pos (Int32.not_le.mp c2)] | rw [if_neg (Int32.not_lt.mpr c2)], rfl⟩
  · refine j_il0 5 C dX5_least_5 ?_
    refine j_goto 6 10 C dX5_least_6 (by decide) ?_
    exact hR dX5_least_10 ⟨by first | rw [if_pos (Int32.not_le.mp c2)] | rw [if_neg (Int32.not_lt.mpr c2)], rfl⟩
set_option maxRecDepth 20000 in
theorem c_X5_many {G : GT} {g : Mem} {N : Nat} (hN : N < 256) : Cti G yX5_many cX5_many 3 .int 0 0 [.int (nI N)] g (fun r g' => r = nI (pcn N) ∧ g = g') := by
  refine ent_i (by decide) (Nat.le_of_ble_eq_true rfl) [some (.int (nI N)), none, none] rfl ?_
  intro X C hR
  have C : CX X G RX5 cX5_many 3 0 0 := C
  have loop : ∀ f q a, q < f → a + pcn q = pcn N → q < 256 → J X G 3 g 4 [some (.int (nI N)), some (.int (nI a)), some (.int (nI q))] [] := by
    intro f
    induction f with
    | zero => intro q a h; omega
    | succ f ih =>
      intro q a h he h8
      by_cases z : q = 0
      · subst z
        have he : a = pcn N := by rw [pcn_0] at he; omega
        subst he
        refine j_il2 4 C dX5_many_4 ?_
        refine j_ifeq 5 20 C dX5_many_5 (by decide) (fun c5 => ?_) (fun c5 => ?_)
        · refine j_il1 20 C dX5_many_20 ?_
          exact hR dX5_many_21 ⟨rfl, rfl⟩
        · exact absurd rfl c5
      · obtain ⟨h1, h2, h3⟩ := pcn_k q h8 z
        refine j_il2 4 C dX5_many_4 ?_
        refine j_ifeq 5 20 C dX5_many_5 (by decide) (fun c5 => ?_) (fun c5 => ?_)
        · exact absurd c5 (fun e => z ((nI_eq (b := 0) (by omega) (by decide)).mp e))
        · refine j_inc1 8 C dX5_many_8 rfl (nI_inc _) (Nat.le_of_ble_eq_true rfl) ?_
          refine j_il2 11 C dX5_many_11 ?_
          refine j_il2 12 C dX5_many_12 ?_
          refine j_iconst 13 C dX5_many_13 ic_1 ?_
          refine j_isub 14 C dX5_many_14 ?_
          refine j_iand 15 C dX5_many_15 ?_
          refine j_top _ h1 ?_
          refine j_is2 16 C dX5_many_16 rfl (Nat.le_of_ble_eq_true rfl) ?_
          refine j_goto 17 4 C dX5_many_17 (by decide) ?_
          exact ih (q &&& (q - 1)) (a + 1) (by omega) (by omega) (by omega)
  refine j_iconst 0 C dX5_many_0 ic_0 ?_
  refine j_is1 1 C dX5_many_1 rfl (Nat.le_of_ble_eq_true rfl) ?_
  refine j_il0 2 C dX5_many_2 ?_
  refine j_is2 3 C dX5_many_3 rfl (Nat.le_of_ble_eq_true rfl) ?_
  exact loop (N + 1) N 0 (Nat.lt_succ_self N) (Nat.zero_add _) hN
set_option maxRecDepth 20000 in
theorem c_X5_saysNow {G : GT} {g : Mem} {P : Nat} (hP : P < 6) : Cti G yX5_saysNow cX5_saysNow 4 .int 1 22 [.ref (mo G), .int (nI P)] g (fun r g' => r = ss (g 12) P 8 ∧ g = g') := by
  refine ent_i (by decide) (Nat.le_of_ble_eq_true rfl) [some (.ref (mo G)), some (.int (nI P)), none, none] rfl ?_
  intro X C hR
  have C : CX X G RX5 cX5_saysNow 4 1 22 := C
  refine j_iconst 0 C dX5_saysNow_0 ic_0 ?_
  refine j_is2 1 C dX5_saysNow_1 rfl (Nat.le_of_ble_eq_true rfl) ?_
  refine j_iconst 2 C dX5_saysNow_2 ic_0 ?_
  refine j_is3 3 C dX5_saysNow_3 rfl (Nat.le_of_ble_eq_true rfl) ?_
  have loop : ∀ n k, k + n = 8 → J X G 4 g 4 [some (.ref (mo G)), some (.int (nI P)), some (.int (ss (g 12) P k)), some (.int (nI k))] [] := by
    intro n
    induction n with
    | zero =>
      intro k hk
      obtain rfl : k = 8 := by omega
      refine j_il3 4 C dX5_saysNow_4 ?_
      refine j_bipush 5 C dX5_saysNow_5 bp_8 ?_
      refine j_icge 7 29 C dX5_saysNow_7 (by decide) (fun c7 => ?_) (fun c7 => ?_)
      · refine j_il2 29 C dX5_saysNow_29 ?_
        exact hR dX5_saysNow_30 ⟨rfl, rfl⟩
      · exact absurd (nI_le (Nat.le_refl _) (by decide)) c7
    | succ n ih =>
      intro k hk
      refine j_il3 4 C dX5_saysNow_4 ?_
      refine j_bipush 5 C dX5_saysNow_5 bp_8 ?_
      refine j_icge 7 29 C dX5_saysNow_7 (by decide) (fun c7 => ?_) (fun c7 => ?_)
      · exact absurd c7 (nI_ge (a := k) (b := 8) (by omega) (by decide))
      · refine j_il2 10 C dX5_saysNow_10 ?_
        refine j_il3 11 C dX5_saysNow_11 ?_
        refine j_iconst 12 C dX5_saysNow_12 ic_1 ?_
        refine j_iadd 13 C dX5_saysNow_13 ?_
        refine j_top (nI (k + 1)) (nI_succ k).symm ?_
        refine j_al0 14 C dX5_saysNow_14 ?_
        refine j_il1 15 C dX5_saysNow_15 ?_
        refine j_il3 16 C dX5_saysNow_16 ?_
        refine j_vi 17 C dX5_saysNow_17 mv_X5_wordAt lk_X5_64 (c_X5_wordAt (by omega) (by omega)) rc_m rfl rfl ⟨(Nat.le_of_ble_eq_true rfl), (Nat.le_of_ble_eq_true rfl)⟩ (Nat.le_of_ble_eq_true rfl) (fun r17 g17 hp17 => ?_)
        obtain ⟨rfl, rfl⟩ := hp17
        refine j_imul 20 C dX5_saysNow_20 ?_
        refine j_iadd 21 C dX5_saysNow_21 ?_
        refine j_top (ss (g 12) P (k + 1)) (by rw [Int32.mul_comm]; rfl) ?_
        refine j_is2 22 C dX5_saysNow_22 rfl (Nat.le_of_ble_eq_true rfl) ?_
        refine j_inc3 23 C dX5_saysNow_23 rfl (nI_inc _) (Nat.le_of_ble_eq_true rfl) ?_
        refine j_goto 26 4 C dX5_saysNow_26 (by decide) ?_
        exact ih (k + 1) (by omega)
  exact loop 8 0 rfl
set_option maxRecDepth 20000 in
theorem c_X5_whole {G : GT} {g : Mem} {P : Nat} (hP : P < 6) (hW : IW (g 12)) : Cti G yX5_whole cX5_whole 4 .int 1 22 [.ref (mo G), .int (nI P)] g (fun r g' => r = bs (pW (g 12) P) 8 ∧ g = g') := by
  refine ent_i (by decide) (Nat.le_of_ble_eq_true rfl) [some (.ref (mo G)), some (.int (nI P)), none, none] rfl ?_
  intro X C hR
  have C : CX X G RX5 cX5_whole 4 1 22 := C
  refine j_iconst 0 C dX5_whole_0 ic_0 ?_
  refine j_is2 1 C dX5_whole_1 rfl (Nat.le_of_ble_eq_true rfl) ?_
  refine j_iconst 2 C dX5_whole_2 ic_0 ?_
  refine j_is3 3 C dX5_whole_3 rfl (Nat.le_of_ble_eq_true rfl) ?_
  have loop : ∀ n k, k + n = 8 → J X G 4 g 4 [some (.ref (mo G)), some (.int (nI P)), some (.int (bs (pW (g 12) P) k)), some (.int (nI k))] [] := by
    intro n
    induction n with
    | zero =>
      intro k hk
      obtain rfl : k = 8 := by omega
      refine j_il3 4 C dX5_whole_4 ?_
      refine j_bipush 5 C dX5_whole_5 bp_8 ?_
      refine j_icge 7 35 C dX5_whole_7 (by decide) (fun c7 => ?_) (fun c7 => ?_)
      · refine j_il2 35 C dX5_whole_35 ?_
        exact hR dX5_whole_36 ⟨rfl, rfl⟩
      · exact absurd (nI_le (Nat.le_refl _) (by decide)) c7
    | succ n ih =>
      intro k hk
      refine j_il3 4 C dX5_whole_4 ?_
      refine j_bipush 5 C dX5_whole_5 bp_8 ?_
      refine j_icge 7 35 C dX5_whole_7 (by decide) (fun c7 => ?_) (fun c7 => ?_)
      · exact absurd c7 (nI_ge (a := k) (b := 8) (by omega) (by decide))
      · refine j_il2 10 C dX5_whole_10 ?_
        refine j_al0 11 C dX5_whole_11 ?_
        refine j_il1 12 C dX5_whole_12 ?_
        refine j_il3 13 C dX5_whole_13 ?_
        refine j_vi 14 C dX5_whole_14 mv_X5_wordAt lk_X5_64 (c_X5_wordAt (by omega) (by omega)) rc_m rfl rfl ⟨(Nat.le_of_ble_eq_true rfl), (Nat.le_of_ble_eq_true rfl)⟩ (Nat.le_of_ble_eq_true rfl) (fun r14 g14 hp14 => ?_)
        obtain ⟨rfl, rfl⟩ := hp14
        refine j_ifle 17 26 C dX5_whole_17 (by decide) (fun c17 => ?_) (fun c17 => ?_)
        · have e : bs (pW (g 12) P) (k + 1) = bs (pW (g 12) P) k ||| 0 := by rw [or_0]; exact if_neg (fun q => absurd ((wd_le hW hP (by omega)).mp c17) (of_decide_eq_true (p := ¬ wd (g 12) P k = 0) q))
          refine j_iconst 26 C dX5_whole_26 ic_0 ?_
          refine j_ior 27 C dX5_whole_27 ?_
          rw [← e]
          refine j_is2 28 C dX5_whole_28 rfl (Nat.le_of_ble_eq_true rfl) ?_
          refine j_inc3 29 C dX5_whole_29 rfl (nI_inc _) (Nat.le_of_ble_eq_true rfl) ?_
          refine j_goto 32 4 C dX5_whole_32 (by decide) ?_
          exact ih (k + 1) (by omega)
        · have e : bs (pW (g 12) P) (k + 1) = bs (pW (g 12) P) k ||| (1 <<< (nI k &&& 31)) := if_pos (show pW (g 12) P k = true from decide_eq_true (fun z => c17 ((wd_le hW hP (by omega)).mpr z)))
          refine j_iconst 20 C dX5_whole_20 ic_1 ?_
          refine j_il3 21 C dX5_whole_21 ?_
          refine j_ishl 22 C dX5_whole_22 ?_
          refine j_goto 23 27 C dX5_whole_23 (by decide) ?_
          refine j_ior 27 C dX5_whole_27 ?_
          rw [← e]
          refine j_is2 28 C dX5_whole_28 rfl (Nat.le_of_ble_eq_true rfl) ?_
          refine j_inc3 29 C dX5_whole_29 rfl (nI_inc _) (Nat.le_of_ble_eq_true rfl) ?_
          refine j_goto 32 4 C dX5_whole_32 (by decide) ?_
          exact ih (k + 1) (by omega)
  exact loop 8 0 rfl
set_option maxRecDepth 20000 in
theorem c_X5_there {G : GT} {g : Mem} {M : Nat} (hM8 : M ≤ 8) (hM0 : g 12 0 = nI M) {P : Nat} : Cti G yX5_there cX5_there 4 .int 1 22 [.ref (mo G), .int (nI P)] g (fun r g' => r = bs (fun m => decide (tr (g 12) m 1 = nI P)) M ∧ g = g') := by
  refine ent_i (by decide) (Nat.le_of_ble_eq_true rfl) [some (.ref (mo G)), some (.int (nI P)), none, none] rfl ?_
  intro X C hR
  have C : CX X G RX5 cX5_there 4 1 22 := C
  refine j_iconst 0 C dX5_there_0 ic_0 ?_
  refine j_is2 1 C dX5_there_1 rfl (Nat.le_of_ble_eq_true rfl) ?_
  refine j_iconst 2 C dX5_there_2 ic_0 ?_
  refine j_is3 3 C dX5_there_3 rfl (Nat.le_of_ble_eq_true rfl) ?_
  have loop : ∀ n k, k + n = M → J X G 4 g 4 [some (.ref (mo G)), some (.int (nI P)), some (.int (bs (fun m => decide (tr (g 12) m 1 = nI P)) k)), some (.int (nI k))] [] := by
    intro n
    induction n with
    | zero =>
      intro k hk
      obtain rfl : M = k := by omega
      refine j_il3 4 C dX5_there_4 ?_
      refine j_al0 5 C dX5_there_5 ?_
      refine jg_X5_7 6 C dX5_there_6 ?_
      refine j_iconst 9 C dX5_there_9 ic_0 ?_
      refine j_top (nI (0)) rfl ?_
      refine jl_A0 10 (by omega) C dX5_there_10 ?_
      refine j_top (nI M) hM0 ?_
      refine j_icge 11 40 C dX5_there_11 (by decide) (fun c11 => ?_) (fun c11 => ?_)
      · refine j_il2 40 C dX5_there_40 ?_
        exact hR dX5_there_41 ⟨rfl, rfl⟩
      · exact absurd (nI_le (Nat.le_refl _) (by omega)) c11
    | succ n ih =>
      intro k hk
      refine j_il3 4 C dX5_there_4 ?_
      refine j_al0 5 C dX5_there_5 ?_
      refine jg_X5_7 6 C dX5_there_6 ?_
      refine j_iconst 9 C dX5_there_9 ic_0 ?_
      refine j_top (nI (0)) rfl ?_
      refine jl_A0 10 (by omega) C dX5_there_10 ?_
      refine j_top (nI M) hM0 ?_
      refine j_icge 11 40 C dX5_there_11 (by decide) (fun c11 => ?_) (fun c11 => ?_)
      · exact absurd c11 (nI_ge (a := k) (b := M) (by omega) (by omega))
      · refine j_il2 14 C dX5_there_14 ?_
        refine j_al0 15 C dX5_there_15 ?_
        refine j_il3 16 C dX5_there_16 ?_
        refine j_iconst 17 C dX5_there_17 ic_1 ?_
        refine j_vi 18 C dX5_there_18 mv_X5_its lk_X5_67 (c_X5_its (W := 1) (by omega) (by decide)) rc_m rfl rfl ⟨(Nat.le_of_ble_eq_true rfl), (Nat.le_of_ble_eq_true rfl)⟩ (Nat.le_of_ble_eq_true rfl) (fun r18 g18 hp18 => ?_)
        obtain ⟨rfl, rfl⟩ := hp18
        refine j_il1 21 C dX5_there_21 ?_
        refine j_icne 22 31 C dX5_there_22 (by decide) (fun c22 => ?_) (fun c22 => ?_)
        · have e : bs (fun m => decide (tr (g 12) m 1 = nI P)) (k + 1) = bs (fun m => decide (tr (g 12) m 1 = nI P)) k ||| 0 := by rw [or_0]; exact if_neg (fun q => c22 (of_decide_eq_true q))
          refine j_iconst 31 C dX5_there_31 ic_0 ?_
          refine j_ior 32 C dX5_there_32 ?_
          rw [← e]
          refine j_is2 33 C dX5_there_33 rfl (Nat.le_of_ble_eq_true rfl) ?_
          refine j_inc3 34 C dX5_there_34 rfl (nI_inc _) (Nat.le_of_ble_eq_true rfl) ?_
          refine j_goto 37 4 C dX5_there_37 (by decide) ?_
          exact ih (k + 1) (by omega)
        · have e : bs (fun m => decide (tr (g 12) m 1 = nI P)) (k + 1) = bs (fun m => decide (tr (g 12) m 1 = nI P)) k ||| (1 <<< (nI k &&& 31)) := if_pos (decide_eq_true c22)
          refine j_iconst 25 C dX5_there_25 ic_1 ?_
          refine j_il3 26 C dX5_there_26 ?_
          refine j_ishl 27 C dX5_there_27 ?_
          refine j_goto 28 32 C dX5_there_28 (by decide) ?_
          refine j_ior 32 C dX5_there_32 ?_
          rw [← e]
          refine j_is2 33 C dX5_there_33 rfl (Nat.le_of_ble_eq_true rfl) ?_
          refine j_inc3 34 C dX5_there_34 rfl (nI_inc _) (Nat.le_of_ble_eq_true rfl) ?_
          refine j_goto 37 4 C dX5_there_37 (by decide) ?_
          exact ih (k + 1) (by omega)
  exact loop M 0 (Nat.zero_add M)
set_option maxRecDepth 20000 in
theorem c_X5_firstOf {G : GT} {g : Mem} {P : Nat} (hP : P < 6) {t : Int32} : Cti G yX5_firstOf cX5_firstOf 5 .int 1 22 [.ref (mo G), .int (nI P), .int t] g (fun r g' => r = ff (pL (g 12) P t) 0 8 ∧ g = g') := by
  refine ent_i (by decide) (Nat.le_of_ble_eq_true rfl) [some (.ref (mo G)), some (.int (nI P)), some (.int t), none, none] rfl ?_
  intro X C hR
  have C : CX X G RX5 cX5_firstOf 5 1 22 := C
  refine j_iconst 0 C dX5_firstOf_0 ic_m1 ?_
  refine j_is3 1 C dX5_firstOf_1 rfl (Nat.le_of_ble_eq_true rfl) ?_
  refine j_bipush 2 C dX5_firstOf_2 bp_7 ?_
  refine j_is4 4 C dX5_firstOf_4 rfl (Nat.le_of_ble_eq_true rfl) ?_
  have loop : ∀ k, k ≤ 8 → J X G 5 g 6 [some (.ref (mo G)), some (.int (nI P)), some (.int (t)), some (.int (ff (pL (g 12) P t) k (8 - k))), some (.int (nI k - 1))] [] := by
    intro k
    induction k with
    | zero =>
      intro _
      refine j_il4 6 C dX5_firstOf_6 ?_
      refine j_iflt 8 35 C dX5_firstOf_8 (by decide) (fun c8 => ?_) (fun c8 => ?_)
      · refine j_il3 35 C dX5_firstOf_35 ?_
        exact hR dX5_firstOf_36 ⟨rfl, rfl⟩
      · exact absurd (by decide) c8
    | succ k ih =>
      intro hk
      rw [nI_pred]
      refine j_il4 6 C dX5_firstOf_6 ?_
      refine j_iflt 8 35 C dX5_firstOf_8 (by decide) (fun c8 => ?_) (fun c8 => ?_)
      · exact absurd c8 (nI_pos (by omega))
      · refine j_al0 11 C dX5_firstOf_11 ?_
        refine j_il1 12 C dX5_firstOf_12 ?_
        refine j_il4 13 C dX5_firstOf_13 ?_
        refine j_vi 15 C dX5_firstOf_15 mv_X5_wordAt lk_X5_64 (c_X5_wordAt (by omega) (by omega)) rc_m rfl rfl ⟨(Nat.le_of_ble_eq_true rfl), (Nat.le_of_ble_eq_true rfl)⟩ (Nat.le_of_ble_eq_true rfl) (fun r15 g15 hp15 => ?_)
        obtain ⟨rfl, rfl⟩ := hp15
        refine j_il2 18 C dX5_firstOf_18 ?_
        refine j_icne 19 27 C dX5_firstOf_19 (by decide) (fun c19 => ?_) (fun c19 => ?_)
        · have e9 : ff (pL (g 12) P t) k (8 - k) = ff (pL (g 12) P t) (k + 1) (8 - (k + 1)) := by rw [show 8 - k = (8 - (k + 1)) + 1 by omega]; exact if_neg (fun q => c19 (of_decide_eq_true q))
          refine j_il3 27 C dX5_firstOf_27 ?_
          refine j_top _ e9.symm ?_
          refine j_is3 28 C dX5_firstOf_28 rfl (Nat.le_of_ble_eq_true rfl) ?_
          refine j_inc4 29 C dX5_firstOf_29 rfl (x_m1 _) (Nat.le_of_ble_eq_true rfl) ?_
          refine j_goto 32 6 C dX5_firstOf_32 (by decide) ?_
          exact ih (by omega)
        · have e9 : ff (pL (g 12) P t) k (8 - k) = nI k := by rw [show 8 - k = (8 - (k + 1)) + 1 by omega]; exact if_pos (decide_eq_true c19)
          refine j_il4 22 C dX5_firstOf_22 ?_
          refine j_goto 24 28 C dX5_firstOf_24 (by decide) ?_
          refine j_top _ e9.symm ?_
          refine j_is3 28 C dX5_firstOf_28 rfl (Nat.le_of_ble_eq_true rfl) ?_
          refine j_inc4 29 C dX5_firstOf_29 rfl (x_m1 _) (Nat.le_of_ble_eq_true rfl) ?_
          refine j_goto 32 6 C dX5_firstOf_32 (by decide) ?_
          exact ih (by omega)
  exact loop 8 (Nat.le_refl 8)
set_option maxRecDepth 20000 in
theorem c_X5_firstWhole {G : GT} {g : Mem} {P : Nat} (hP : P < 6) (hW : IW (g 12)) : Cti G yX5_firstWhole cX5_firstWhole 4 .int 1 22 [.ref (mo G), .int (nI P)] g (fun r g' => r = ff (pW (g 12) P) 0 8 ∧ g = g') := by
  refine ent_i (by decide) (Nat.le_of_ble_eq_true rfl) [some (.ref (mo G)), some (.int (nI P)), none, none] rfl ?_
  intro X C hR
  have C : CX X G RX5 cX5_firstWhole 4 1 22 := C
  refine j_iconst 0 C dX5_firstWhole_0 ic_m1 ?_
  refine j_is2 1 C dX5_firstWhole_1 rfl (Nat.le_of_ble_eq_true rfl) ?_
  refine j_bipush 2 C dX5_firstWhole_2 bp_7 ?_
  refine j_is3 4 C dX5_firstWhole_4 rfl (Nat.le_of_ble_eq_true rfl) ?_
  have loop : ∀ k, k ≤ 8 → J X G 4 g 5 [some (.ref (mo G)), some (.int (nI P)), some (.int (ff (pW (g 12) P) k (8 - k))), some (.int (nI k - 1))] [] := by
    intro k
    induction k with
    | zero =>
      intro _
      refine j_il3 5 C dX5_firstWhole_5 ?_
      refine j_iflt 6 30 C dX5_firstWhole_6 (by decide) (fun c6 => ?_) (fun c6 => ?_)
      · refine j_il2 30 C dX5_firstWhole_30 ?_
        exact hR dX5_firstWhole_31 ⟨rfl, rfl⟩
      · exact absurd (by decide) c6
    | succ k ih =>
      intro hk
      rw [nI_pred]
      refine j_il3 5 C dX5_firstWhole_5 ?_
      refine j_iflt 6 30 C dX5_firstWhole_6 (by decide) (fun c6 => ?_) (fun c6 => ?_)
      · exact absurd c6 (nI_pos (by omega))
      · refine j_al0 9 C dX5_firstWhole_9 ?_
        refine j_il1 10 C dX5_firstWhole_10 ?_
        refine j_il3 11 C dX5_firstWhole_11 ?_
        refine j_vi 12 C dX5_firstWhole_12 mv_X5_wordAt lk_X5_64 (c_X5_wordAt (by omega) (by omega)) rc_m rfl rfl ⟨(Nat.le_of_ble_eq_true rfl), (Nat.le_of_ble_eq_true rfl)⟩ (Nat.le_of_ble_eq_true rfl) (fun r12 g12 hp12 => ?_)
        obtain ⟨rfl, rfl⟩ := hp12
        refine j_ifle 15 22 C dX5_firstWhole_15 (by decide) (fun c15 => ?_) (fun c15 => ?_)
        · have e9 : ff (pW (g 12) P) k (8 - k) = ff (pW (g 12) P) (k + 1) (8 - (k + 1)) := by rw [show 8 - k = (8 - (k + 1)) + 1 by omega]; exact if_neg (fun q => absurd ((wd_le hW hP (by omega)).mp c15) (of_decide_eq_true (p := ¬ wd (g 12) P k = 0) q))
          refine j_il2 22 C dX5_firstWhole_22 ?_
          refine j_top _ e9.symm ?_
          refine j_is2 23 C dX5_firstWhole_23 rfl (Nat.le_of_ble_eq_true rfl) ?_
          refine j_inc3 24 C dX5_firstWhole_24 rfl (x_m1 _) (Nat.le_of_ble_eq_true rfl) ?_
          refine j_goto 27 5 C dX5_firstWhole_27 (by decide) ?_
          exact ih (by omega)
        · have e9 : ff (pW (g 12) P) k (8 - k) = nI k := by rw [show 8 - k = (8 - (k + 1)) + 1 by omega]; exact if_pos (show pW (g 12) P k = true from decide_eq_true (fun z => c15 ((wd_le hW hP (by omega)).mpr z)))
          refine j_il3 18 C dX5_firstWhole_18 ?_
          refine j_goto 19 23 C dX5_firstWhole_19 (by decide) ?_
          refine j_top _ e9.symm ?_
          refine j_is2 23 C dX5_firstWhole_23 rfl (Nat.le_of_ble_eq_true rfl) ?_
          refine j_inc3 24 C dX5_firstWhole_24 rfl (x_m1 _) (Nat.le_of_ble_eq_true rfl) ?_
          refine j_goto 27 5 C dX5_firstWhole_27 (by decide) ?_
          exact ih (by omega)
  exact loop 8 (Nat.le_refl 8)
set_option maxRecDepth 20000 in
theorem c_X5_firstLike {G : GT} {g : Mem} {P : Nat} (hP : P < 6) (hW : IW (g 12)) {t : Int32} : Cti G yX5_firstLike cX5_firstLike 6 .int 1 22 [.ref (mo G), .int (nI P), .int t] g (fun r g' => r = ff (pP (g 12) P t) 0 8 ∧ g = g') := by
  refine ent_i (by decide) (Nat.le_of_ble_eq_true rfl) [some (.ref (mo G)), some (.int (nI P)), some (.int t), none, none, none] rfl ?_
  intro X C hR
  have C : CX X G RX5 cX5_firstLike 6 1 22 := C
  refine j_iconst 0 C dX5_firstLike_0 ic_m1 ?_
  refine j_is3 1 C dX5_firstLike_1 rfl (Nat.le_of_ble_eq_true rfl) ?_
  refine j_bipush 2 C dX5_firstLike_2 bp_7 ?_
  refine j_is4 4 C dX5_firstLike_4 rfl (Nat.le_of_ble_eq_true rfl) ?_
  have loop : ∀ k, k ≤ 8 → ∀ o : Option Value, J X G 6 g 6 [some (.ref (mo G)), some (.int (nI P)), some (.int (t)), some (.int (ff (pP (g 12) P t) k (8 - k))), some (.int (nI k - 1)), o] [] := by
    intro k
    induction k with
    | zero =>
      intro _ o
      refine j_il4 6 C dX5_firstLike_6 ?_
      refine j_iflt 8 48 C dX5_firstLike_8 (by decide) (fun c8 => ?_) (fun c8 => ?_)
      · refine j_il3 48 C dX5_firstLike_48 ?_
        exact hR dX5_firstLike_49 ⟨rfl, rfl⟩
      · exact absurd (by decide) c8
    | succ k ih =>
      intro hk o
      rw [nI_pred]
      refine j_il4 6 C dX5_firstLike_6 ?_
      refine j_iflt 8 48 C dX5_firstLike_8 (by decide) (fun c8 => ?_) (fun c8 => ?_)
      · exact absurd c8 (nI_pos (by omega))
      · refine j_al0 11 C dX5_firstLike_11 ?_
        refine j_il1 12 C dX5_firstLike_12 ?_
        refine j_il4 13 C dX5_firstLike_13 ?_
        refine j_vi 15 C dX5_firstLike_15 mv_X5_wordAt lk_X5_64 (c_X5_wordAt (by omega) (by omega)) rc_m rfl rfl ⟨(Nat.le_of_ble_eq_true rfl), (Nat.le_of_ble_eq_true rfl)⟩ (Nat.le_of_ble_eq_true rfl) (fun r15 g15 hp15 => ?_)
        obtain ⟨rfl, rfl⟩ := hp15
        refine j_is5 18 C dX5_firstLike_18 rfl (Nat.le_of_ble_eq_true rfl) ?_
        refine j_il5 20 C dX5_firstLike_20 ?_
        refine j_ifle 22 40 C dX5_firstLike_22 (by decide) (fun c22 => ?_) (fun c22 => ?_)
        · have e9 : ff (pP (g 12) P t) k (8 - k) = ff (pP (g 12) P t) (k + 1) (8 - (k + 1)) := by rw [show 8 - k = (8 - (k + 1)) + 1 by omega]; exact if_neg (fun q => absurd (of_decide_eq_true q) (fun z => z.1 ((wd_le hW hP (by omega)).mp c22)))
          refine j_il3 40 C dX5_firstLike_40 ?_
          refine j_top _ e9.symm ?_
          refine j_is3 41 C dX5_firstLike_41 rfl (Nat.le_of_ble_eq_true rfl) ?_
          refine j_inc4 42 C dX5_firstLike_42 rfl (x_m1 _) (Nat.le_of_ble_eq_true rfl) ?_
          refine j_goto 45 6 C dX5_firstLike_45 (by decide) ?_
          exact ih (by omega) _
        · refine j_il5 25 C dX5_firstLike_25 ?_
          refine j_iconst 27 C dX5_firstLike_27 ic_2 ?_
          refine j_irem 28 C dX5_firstLike_28 (by decide) ?_
          refine j_il2 29 C dX5_firstLike_29 ?_
          refine j_iconst 30 C dX5_firstLike_30 ic_2 ?_
          refine j_irem 31 C dX5_firstLike_31 (by decide) ?_
          refine j_icne 32 40 C dX5_firstLike_32 (by decide) (fun c32 => ?_) (fun c32 => ?_)
          · have e9 : ff (pP (g 12) P t) k (8 - k) = ff (pP (g 12) P t) (k + 1) (8 - (k + 1)) := by rw [show 8 - k = (8 - (k + 1)) + 1 by omega]; exact if_neg (fun q => absurd (of_decide_eq_true q) (fun z => c32 z.2))
            refine j_il3 40 C dX5_firstLike_40 ?_
            refine j_top _ e9.symm ?_
            refine j_is3 41 C dX5_firstLike_41 rfl (Nat.le_of_ble_eq_true rfl) ?_
            refine j_inc4 42 C dX5_firstLike_42 rfl (x_m1 _) (Nat.le_of_ble_eq_true rfl) ?_
            refine j_goto 45 6 C dX5_firstLike_45 (by decide) ?_
            exact ih (by omega) _
          · have e9 : ff (pP (g 12) P t) k (8 - k) = nI k := by rw [show 8 - k = (8 - (k + 1)) + 1 by omega]; exact if_pos (show pP (g 12) P t k = true from decide_eq_true ⟨fun z => c22 ((wd_le hW hP (by omega)).mpr z), c32⟩)
            refine j_il4 35 C dX5_firstLike_35 ?_
            refine j_goto 37 41 C dX5_firstLike_37 (by decide) ?_
            refine j_top _ e9.symm ?_
            refine j_is3 41 C dX5_firstLike_41 rfl (Nat.le_of_ble_eq_true rfl) ?_
            refine j_inc4 42 C dX5_firstLike_42 rfl (x_m1 _) (Nat.le_of_ble_eq_true rfl) ?_
            refine j_goto 45 6 C dX5_firstLike_45 (by decide) ?_
            exact ih (by omega) _
  exact loop 8 (Nat.le_refl 8) none
set_option maxRecDepth 20000 in
theorem c_X5_lastWhole {G : GT} {g : Mem} {P : Nat} (hP : P < 6) (hW : IW (g 12)) : Cti G yX5_lastWhole cX5_lastWhole 4 .int 1 22 [.ref (mo G), .int (nI P)] g (fun r g' => r = lf (pW (g 12) P) 8 ∧ g = g') := by
  refine ent_i (by decide) (Nat.le_of_ble_eq_true rfl) [some (.ref (mo G)), some (.int (nI P)), none, none] rfl ?_
  intro X C hR
  have C : CX X G RX5 cX5_lastWhole 4 1 22 := C
  refine j_iconst 0 C dX5_lastWhole_0 ic_m1 ?_
  refine j_is2 1 C dX5_lastWhole_1 rfl (Nat.le_of_ble_eq_true rfl) ?_
  refine j_iconst 2 C dX5_lastWhole_2 ic_0 ?_
  refine j_is3 3 C dX5_lastWhole_3 rfl (Nat.le_of_ble_eq_true rfl) ?_
  have loop : ∀ n k, k + n = 8 → J X G 4 g 4 [some (.ref (mo G)), some (.int (nI P)), some (.int (lf (pW (g 12) P) k)), some (.int (nI k))] [] := by
    intro n
    induction n with
    | zero =>
      intro k hk
      obtain rfl : k = 8 := by omega
      refine j_il3 4 C dX5_lastWhole_4 ?_
      refine j_bipush 5 C dX5_lastWhole_5 bp_8 ?_
      refine j_icge 7 31 C dX5_lastWhole_7 (by decide) (fun c7 => ?_) (fun c7 => ?_)
      · refine j_il2 31 C dX5_lastWhole_31 ?_
        exact hR dX5_lastWhole_32 ⟨rfl, rfl⟩
      · exact absurd (nI_le (Nat.le_refl _) (by decide)) c7
    | succ n ih =>
      intro k hk
      refine j_il3 4 C dX5_lastWhole_4 ?_
      refine j_bipush 5 C dX5_lastWhole_5 bp_8 ?_
      refine j_icge 7 31 C dX5_lastWhole_7 (by decide) (fun c7 => ?_) (fun c7 => ?_)
      · exact absurd c7 (nI_ge (a := k) (b := 8) (by omega) (by decide))
      · refine j_al0 10 C dX5_lastWhole_10 ?_
        refine j_il1 11 C dX5_lastWhole_11 ?_
        refine j_il3 12 C dX5_lastWhole_12 ?_
        refine j_vi 13 C dX5_lastWhole_13 mv_X5_wordAt lk_X5_64 (c_X5_wordAt (by omega) (by omega)) rc_m rfl rfl ⟨(Nat.le_of_ble_eq_true rfl), (Nat.le_of_ble_eq_true rfl)⟩ (Nat.le_of_ble_eq_true rfl) (fun r13 g13 hp13 => ?_)
        obtain ⟨rfl, rfl⟩ := hp13
        refine j_ifle 16 23 C dX5_lastWhole_16 (by decide) (fun c16 => ?_) (fun c16 => ?_)
        · have e : lf (pW (g 12) P) (k + 1) = lf (pW (g 12) P) k := if_neg (fun q => absurd ((wd_le hW hP (by omega)).mp c16) (of_decide_eq_true (p := ¬ wd (g 12) P k = 0) q))
          refine j_il2 23 C dX5_lastWhole_23 ?_
          rw [← e]
          refine j_is2 24 C dX5_lastWhole_24 rfl (Nat.le_of_ble_eq_true rfl) ?_
          refine j_inc3 25 C dX5_lastWhole_25 rfl (nI_inc _) (Nat.le_of_ble_eq_true rfl) ?_
          refine j_goto 28 4 C dX5_lastWhole_28 (by decide) ?_
          exact ih (k + 1) (by omega)
        · have e : lf (pW (g 12) P) (k + 1) = nI k := if_pos (show pW (g 12) P k = true from decide_eq_true (fun z => c16 ((wd_le hW hP (by omega)).mpr z)))
          refine j_il3 19 C dX5_lastWhole_19 ?_
          refine j_goto 20 24 C dX5_lastWhole_20 (by decide) ?_
          refine j_top _ e.symm ?_
          refine j_is2 24 C dX5_lastWhole_24 rfl (Nat.le_of_ble_eq_true rfl) ?_
          refine j_inc3 25 C dX5_lastWhole_25 rfl (nI_inc _) (Nat.le_of_ble_eq_true rfl) ?_
          refine j_goto 28 4 C dX5_lastWhole_28 (by decide) ?_
          exact ih (k + 1) (by omega)
  exact loop 8 0 rfl
