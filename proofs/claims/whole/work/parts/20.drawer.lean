theorem bp_8 : (Int8.ofInt (8)).toInt32 = 8 := by decide
theorem ic_0 : Int32.ofInt (0) = 0 := by decide
theorem ic_1 : Int32.ofInt (1) = 1 := by decide
theorem ic_4 : Int32.ofInt (4) = 4 := by decide
set_option maxRecDepth 20000 in
theorem c_X0_wordAt {G : GT} {g : Mem} {d P K : Nat} (h4 : d < 4) (hP : P < 6) (hK : K < 8) : Cti G yX0_wordAt cX0_wordAt 3 .int 0 0 [.ref (dr G d), .int (nI P), .int (nI K)] g (fun r g' => r = wd (g d) P K ∧ g = g') := by
  refine ent_i (by decide) (Nat.le_of_ble_eq_true rfl) [some (.ref (dr G d)), some (.int (nI P)), some (.int (nI K))] rfl ?_
  intro X C hR
  have C : CX X G RX0 cX0_wordAt 3 0 0 := C
  refine j_al0 0 C dX0_wordAt_0 ?_
  refine jg_X0_9 1 h4 C dX0_wordAt_1 ?_
  refine j_il1 4 C dX0_wordAt_4 ?_
  refine j_bipush 5 C dX0_wordAt_5 bp_8 ?_
  refine j_imul 7 C dX0_wordAt_7 ?_
  refine j_il2 8 C dX0_wordAt_8 ?_
  refine j_iadd 9 C dX0_wordAt_9 ?_
  refine j_top (nI (8 * P + K)) (ix_w P K) ?_
  refine jl_wd 10 h4 (by omega) C dX0_wordAt_10 ?_
  exact hR dX0_wordAt_11 ⟨rfl, rfl⟩
set_option maxRecDepth 20000 in
theorem c_X0_setWord {G : GT} {g : Mem} {d P K : Nat} (h4 : d < 4) (hP : P < 6) (hK : K < 8) {v : Int32} : Ctv G yX0_setWord cX0_setWord 4 0 0 [.ref (dr G d), .int (nI P), .int (nI K), .int v] g (fun g' => g' = ub g d (upd (g d) (3 + (8 * P + K)) v)) := by
  refine ent_v (by decide) (Nat.le_of_ble_eq_true rfl) [some (.ref (dr G d)), some (.int (nI P)), some (.int (nI K)), some (.int v)] rfl ?_
  intro X C hR
  have C : CX X G RX0 cX0_setWord 4 0 0 := C
  refine j_al0 0 C dX0_setWord_0 ?_
  refine jg_X0_9 1 h4 C dX0_setWord_1 ?_
  refine j_il1 4 C dX0_setWord_4 ?_
  refine j_bipush 5 C dX0_setWord_5 bp_8 ?_
  refine j_imul 7 C dX0_setWord_7 ?_
  refine j_il2 8 C dX0_setWord_8 ?_
  refine j_iadd 9 C dX0_setWord_9 ?_
  refine j_il3 10 C dX0_setWord_10 ?_
  refine j_top2 (nI (8 * P + K)) (ix_w P K) ?_
  refine js_wd 11 h4 (by omega) C dX0_setWord_11 ?_
  exact hR dX0_setWord_12 rfl
set_option maxRecDepth 20000 in
theorem c_X0_trait {G : GT} {g : Mem} {d M W : Nat} (h4 : d < 4) (hM : M < 8) (hW : W < 4) : Cti G yX0_trait cX0_trait 3 .int 0 0 [.ref (dr G d), .int (nI M), .int (nI W)] g (fun r g' => r = tr (g d) M W ∧ g = g') := by
  refine ent_i (by decide) (Nat.le_of_ble_eq_true rfl) [some (.ref (dr G d)), some (.int (nI M)), some (.int (nI W))] rfl ?_
  intro X C hR
  have C : CX X G RX0 cX0_trait 3 0 0 := C
  refine j_al0 0 C dX0_trait_0 ?_
  refine jg_X0_15 1 h4 C dX0_trait_1 ?_
  refine j_il1 4 C dX0_trait_4 ?_
  refine j_iconst 5 C dX0_trait_5 ic_4 ?_
  refine j_imul 6 C dX0_trait_6 ?_
  refine j_il2 7 C dX0_trait_7 ?_
  refine j_iadd 8 C dX0_trait_8 ?_
  refine j_top (nI (4 * M + W)) (ix_t M W) ?_
  refine jl_tr 9 h4 (by omega) C dX0_trait_9 ?_
  exact hR dX0_trait_10 ⟨rfl, rfl⟩
set_option maxRecDepth 20000 in
theorem c_X0_setTrait {G : GT} {g : Mem} {d M W : Nat} (h4 : d < 4) (hM : M < 8) (hW : W < 4) {v : Int32} : Ctv G yX0_setTrait cX0_setTrait 4 0 0 [.ref (dr G d), .int (nI M), .int (nI W), .int v] g (fun g' => g' = ub g d (upd (g d) (51 + (4 * M + W)) v)) := by
  refine ent_v (by decide) (Nat.le_of_ble_eq_true rfl) [some (.ref (dr G d)), some (.int (nI M)), some (.int (nI W)), some (.int v)] rfl ?_
  intro X C hR
  have C : CX X G RX0 cX0_setTrait 4 0 0 := C
  refine j_al0 0 C dX0_setTrait_0 ?_
  refine jg_X0_15 1 h4 C dX0_setTrait_1 ?_
  refine j_il1 4 C dX0_setTrait_4 ?_
  refine j_iconst 5 C dX0_setTrait_5 ic_4 ?_
  refine j_imul 6 C dX0_setTrait_6 ?_
  refine j_il2 7 C dX0_setTrait_7 ?_
  refine j_iadd 8 C dX0_setTrait_8 ?_
  refine j_il3 9 C dX0_setTrait_9 ?_
  refine j_top2 (nI (4 * M + W)) (ix_t M W) ?_
  refine js_tr 10 h4 (by omega) C dX0_setTrait_10 ?_
  exact hR dX0_setTrait_11 rfl
set_option maxRecDepth 20000 in
theorem c_X0_saidBy {G : GT} {g : Mem} {d P : Nat} (h4 : d < 4) (hP : P < 6) : Cti G yX0_saidBy cX0_saidBy 4 .int 1 22 [.ref (dr G d), .int (nI P)] g (fun r g' => r = ss (g d) P 8 ∧ g = g') := by
  refine ent_i (by decide) (Nat.le_of_ble_eq_true rfl) [some (.ref (dr G d)), some (.int (nI P)), none, none] rfl ?_
  intro X C hR
  have C : CX X G RX0 cX0_saidBy 4 1 22 := C
  refine j_iconst 0 C dX0_saidBy_0 ic_0 ?_
  refine j_is2 1 C dX0_saidBy_1 rfl (Nat.le_of_ble_eq_true rfl) ?_
  refine j_iconst 2 C dX0_saidBy_2 ic_0 ?_
  refine j_is3 3 C dX0_saidBy_3 rfl (Nat.le_of_ble_eq_true rfl) ?_
  have loop : ∀ n k, k + n = 8 → J X G 4 g 4 [some (.ref (dr G d)), some (.int (nI P)), some (.int (ss (g d) P k)), some (.int (nI k))] [] := by
    intro n
    induction n with
    | zero =>
      intro k hk
      obtain rfl : k = 8 := by omega
      refine j_il3 4 C dX0_saidBy_4 ?_
      refine j_bipush 5 C dX0_saidBy_5 bp_8 ?_
      refine j_icge 7 29 C dX0_saidBy_7 (by decide) (fun c7 => ?_) (fun c7 => ?_)
      · refine j_il2 29 C dX0_saidBy_29 ?_
        exact hR dX0_saidBy_30 ⟨rfl, rfl⟩
      · exact absurd (nI_le (Nat.le_refl _) (by decide)) c7
    | succ n ih =>
      intro k hk
      refine j_il3 4 C dX0_saidBy_4 ?_
      refine j_bipush 5 C dX0_saidBy_5 bp_8 ?_
      refine j_icge 7 29 C dX0_saidBy_7 (by decide) (fun c7 => ?_) (fun c7 => ?_)
      · exact absurd c7 (nI_ge (a := k) (b := 8) (by omega) (by decide))
      · refine j_il2 10 C dX0_saidBy_10 ?_
        refine j_al0 11 C dX0_saidBy_11 ?_
        refine j_il1 12 C dX0_saidBy_12 ?_
        refine j_il3 13 C dX0_saidBy_13 ?_
        refine j_vi 14 C dX0_saidBy_14 mv_X0_wordAt lk_X0_41 (c_X0_wordAt h4 (by omega) (by omega)) (rc_d h4) rfl rfl ⟨(Nat.le_of_ble_eq_true rfl), (Nat.le_of_ble_eq_true rfl)⟩ (Nat.le_of_ble_eq_true rfl) (fun r14 g14 hp14 => ?_)
        obtain ⟨rfl, rfl⟩ := hp14
        refine j_il3 17 C dX0_saidBy_17 ?_
        refine j_iconst 18 C dX0_saidBy_18 ic_1 ?_
        refine j_iadd 19 C dX0_saidBy_19 ?_
        refine j_top (nI (k + 1)) (nI_succ k).symm ?_
        refine j_imul 20 C dX0_saidBy_20 ?_
        refine j_iadd 21 C dX0_saidBy_21 ?_
        refine j_is2 22 C dX0_saidBy_22 rfl (Nat.le_of_ble_eq_true rfl) ?_
        refine j_inc3 23 C dX0_saidBy_23 rfl (nI_inc _) (Nat.le_of_ble_eq_true rfl) ?_
        refine j_goto 26 4 C dX0_saidBy_26 (by decide) ?_
        exact ih (k + 1) (by omega)
  exact loop 8 0 rfl
set_option maxRecDepth 20000 in
theorem c_X0_placesWithWords {G : GT} {g : Mem} {d P : Nat} (h4 : d < 4) (hP : P < 6) : Cti G yX0_placesWithWords cX0_placesWithWords 4 .int 1 22 [.ref (dr G d), .int (nI P)] g (fun r g' => r = bs (pW (g d) P) 8 ∧ g = g') := by
  refine ent_i (by decide) (Nat.le_of_ble_eq_true rfl) [some (.ref (dr G d)), some (.int (nI P)), none, none] rfl ?_
  intro X C hR
  have C : CX X G RX0 cX0_placesWithWords 4 1 22 := C
  refine j_iconst 0 C dX0_placesWithWords_0 ic_0 ?_
  refine j_is2 1 C dX0_placesWithWords_1 rfl (Nat.le_of_ble_eq_true rfl) ?_
  refine j_iconst 2 C dX0_placesWithWords_2 ic_0 ?_
  refine j_is3 3 C dX0_placesWithWords_3 rfl (Nat.le_of_ble_eq_true rfl) ?_
  have loop : ∀ n k, k + n = 8 → J X G 4 g 4 [some (.ref (dr G d)), some (.int (nI P)), some (.int (bs (pW (g d) P) k)), some (.int (nI k))] [] := by
    intro n
    induction n with
    | zero =>
      intro k hk
      obtain rfl : k = 8 := by omega
      refine j_il3 4 C dX0_placesWithWords_4 ?_
      refine j_bipush 5 C dX0_placesWithWords_5 bp_8 ?_
      refine j_icge 7 31 C dX0_placesWithWords_7 (by decide) (fun c7 => ?_) (fun c7 => ?_)
      · refine j_il2 31 C dX0_placesWithWords_31 ?_
        exact hR dX0_placesWithWords_32 ⟨rfl, rfl⟩
      · exact absurd (nI_le (Nat.le_refl _) (by decide)) c7
    | succ n ih =>
      intro k hk
      refine j_il3 4 C dX0_placesWithWords_4 ?_
      refine j_bipush 5 C dX0_placesWithWords_5 bp_8 ?_
      refine j_icge 7 31 C dX0_placesWithWords_7 (by decide) (fun c7 => ?_) (fun c7 => ?_)
      · exact absurd c7 (nI_ge (a := k) (b := 8) (by omega) (by decide))
      · refine j_al0 10 C dX0_placesWithWords_10 ?_
        refine j_il1 11 C dX0_placesWithWords_11 ?_
        refine j_il3 12 C dX0_placesWithWords_12 ?_
        refine j_vi 13 C dX0_placesWithWords_13 mv_X0_wordAt lk_X0_41 (c_X0_wordAt h4 (by omega) (by omega)) (rc_d h4) rfl rfl ⟨(Nat.le_of_ble_eq_true rfl), (Nat.le_of_ble_eq_true rfl)⟩ (Nat.le_of_ble_eq_true rfl) (fun r13 g13 hp13 => ?_)
        obtain ⟨rfl, rfl⟩ := hp13
        refine j_ifeq 16 25 C dX0_placesWithWords_16 (by decide) (fun c16 => ?_) (fun c16 => ?_)
        · have e : bs (pW (g d) P) (k + 1) = bs (pW (g d) P) k := if_neg (by simp [pW, c16])
          refine j_inc3 25 C dX0_placesWithWords_25 rfl (nI_inc _) (Nat.le_of_ble_eq_true rfl) ?_
          refine j_goto 28 4 C dX0_placesWithWords_28 (by decide) ?_
          rw [← e]
          exact ih (k + 1) (by omega)
        · have e : bs (pW (g d) P) (k + 1) = bs (pW (g d) P) k ||| (1 <<< (nI k &&& 31)) := if_pos (by simp [pW, c16])
          refine j_il2 19 C dX0_placesWithWords_19 ?_
          refine j_iconst 20 C dX0_placesWithWords_20 ic_1 ?_
          refine j_il3 21 C dX0_placesWithWords_21 ?_
          refine j_ishl 22 C dX0_placesWithWords_22 ?_
          refine j_ior 23 C dX0_placesWithWords_23 ?_
          refine j_is2 24 C dX0_placesWithWords_24 rfl (Nat.le_of_ble_eq_true rfl) ?_
          refine j_inc3 25 C dX0_placesWithWords_25 rfl (nI_inc _) (Nat.le_of_ble_eq_true rfl) ?_
          refine j_goto 28 4 C dX0_placesWithWords_28 (by decide) ?_
          rw [← e]
          exact ih (k + 1) (by omega)
  exact loop 8 0 rfl
