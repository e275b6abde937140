theorem bp_6 : (Int8.ofInt (6)).toInt32 = 6 := by decide
theorem bp_8 : (Int8.ofInt (8)).toInt32 = 8 := by decide
theorem bp_16 : (Int8.ofInt (16)).toInt32 = 16 := by decide
theorem bp_63 : (Int8.ofInt (63)).toInt32 = 63 := by decide
theorem ic_0 : Int32.ofInt (0) = 0 := by decide
theorem ic_1 : Int32.ofInt (1) = 1 := by decide
theorem ic_2 : Int32.ofInt (2) = 2 := by decide
theorem ic_4 : Int32.ofInt (4) = 4 := by decide
set_option maxRecDepth 20000 in
theorem c_X0_wordAt {G : GT} {g : Mem} {d P K : Nat} (h4 : d < 4) (hP : P < 6) (hK : K < 8) : Cti G yX0_wordAt cX0_wordAt 3 .int 0 0 [.ref (dr G d), .int (nI P), .int (nI K)] g (fun r g' => r = wd (g d) P K ∧ g = g') := by
  refine ent_i (by decide) (Nat.le_of_ble_eq_true rfl) [some (.ref (dr G d)), some (.int (nI P)), some (.int (nI K))] rfl ?_
  intro X C hR
  have C : CX X G RX0 cX0_wordAt 3 0 0 := C
  refine j_al0 0 C dX0_wordAt_0 ?_
  refine jg_X0_9 1 h4 C dX0_wordAt_1 ?_
  refine j_il1 4 C dX0_wordAt_4 ?_
  refine j_bipush 5 C dX0_wordAt_5 bp_8 ?_
  refine j_imul 7 C dX0_wordAt_7 ?_
  refine j_il2 8 C dX0_wordAt_8 ?_
  refine j_iadd 9 C dX0_wordAt_9 ?_
  refine j_top (nI (8 * P + K)) (ix_w P K) ?_
  refine jl_wd 10 h4 (by omega) C dX0_wordAt_10 ?_
  exact hR dX0_wordAt_11 ⟨rfl, rfl⟩
set_option maxRecDepth 20000 in
theorem c_X0_setWord {G : GT} {g : Mem} {d P K : Nat} (h4 : d < 4) (hP : P < 6) (hK : K < 8) {v : Int32} : Ctv G yX0_setWord cX0_setWord 4 0 0 [.ref (dr G d), .int (nI P), .int (nI K), .int v] g (fun g' => g' = ub g d (upd (g d) (3 + (8 * P + K)) v)) := by
  refine ent_v (by decide) (Nat.le_of_ble_eq_true rfl) [some (.ref (dr G d)), some (.int (nI P)), some (.int (nI K)), some (.int v)] rfl ?_
  intro X C hR
  have C : CX X G RX0 cX0_setWord 4 0 0 := C
  refine j_al0 0 C dX0_setWord_0 ?_
  refine jg_X0_9 1 h4 C dX0_setWord_1 ?_
  refine j_il1 4 C dX0_setWord_4 ?_
  refine j_bipush 5 C dX0_setWord_5 bp_8 ?_
  refine j_imul 7 C dX0_setWord_7 ?_
  refine j_il2 8 C dX0_setWord_8 ?_
  refine j_iadd 9 C dX0_setWord_9 ?_
  refine j_il3 10 C dX0_setWord_10 ?_
  refine j_top2 (nI (8 * P + K)) (ix_w P K) ?_
  refine js_wd 11 h4 (by omega) C dX0_setWord_11 ?_
  exact hR dX0_setWord_12 rfl
set_option maxRecDepth 20000 in
theorem c_X0_trait {G : GT} {g : Mem} {d M W : Nat} (h4 : d < 4) (hM : M < 8) (hW : W < 4) : Cti G yX0_trait cX0_trait 3 .int 0 0 [.ref (dr G d), .int (nI M), .int (nI W)] g (fun r g' => r = tr (g d) M W ∧ g = g') := by
  refine ent_i (by decide) (Nat.le_of_ble_eq_true rfl) [some (.ref (dr G d)), some (.int (nI M)), some (.int (nI W))] rfl ?_
  intro X C hR
  have C : CX X G RX0 cX0_trait 3 0 0 := C
  refine j_al0 0 C dX0_trait_0 ?_
  refine jg_X0_15 1 h4 C dX0_trait_1 ?_
  refine j_il1 4 C dX0_trait_4 ?_
  refine j_iconst 5 C dX0_trait_5 ic_4 ?_
  refine j_imul 6 C dX0_trait_6 ?_
  refine j_il2 7 C dX0_trait_7 ?_
  refine j_iadd 8 C dX0_trait_8 ?_
  refine j_top (nI (4 * M + W)) (ix_t M W) ?_
  refine jl_tr 9 h4 (by omega) C dX0_trait_9 ?_
  exact hR dX0_trait_10 ⟨rfl, rfl⟩
set_option maxRecDepth 20000 in
theorem c_X0_setTrait {G : GT} {g : Mem} {d M W : Nat} (h4 : d < 4) (hM : M < 8) (hW : W < 4) {v : Int32} : Ctv G yX0_setTrait cX0_setTrait 4 0 0 [.ref (dr G d), .int (nI M), .int (nI W), .int v] g (fun g' => g' = ub g d (upd (g d) (51 + (4 * M + W)) v)) := by
  refine ent_v (by decide) (Nat.le_of_ble_eq_true rfl) [some (.ref (dr G d)), some (.int (nI M)), some (.int (nI W)), some (.int v)] rfl ?_
  intro X C hR
  have C : CX X G RX0 cX0_setTrait 4 0 0 := C
  refine j_al0 0 C dX0_setTrait_0 ?_
  refine jg_X0_15 1 h4 C dX0_setTrait_1 ?_
  refine j_il1 4 C dX0_setTrait_4 ?_
  refine j_iconst 5 C dX0_setTrait_5 ic_4 ?_
  refine j_imul 6 C dX0_setTrait_6 ?_
  refine j_il2 7 C dX0_setTrait_7 ?_
  refine j_iadd 8 C dX0_setTrait_8 ?_
  refine j_il3 9 C dX0_setTrait_9 ?_
  refine j_top2 (nI (4 * M + W)) (ix_t M W) ?_
  refine js_tr 10 h4 (by omega) C dX0_setTrait_10 ?_
  exact hR dX0_setTrait_11 rfl
set_option maxRecDepth 20000 in
theorem c_X0_saidBy {G : GT} {g : Mem} {d P : Nat} (h4 : d < 4) (hP : P < 6) : Cti G yX0_saidBy cX0_saidBy 4 .int 1 22 [.ref (dr G d), .int (nI P)] g (fun r g' => r = ss (g d) P 8 ∧ g = g') := by
  refine ent_i (by decide) (Nat.le_of_ble_eq_true rfl) [some (.ref (dr G d)), some (.int (nI P)), none, none] rfl ?_
  intro X C hR
  have C : CX X G RX0 cX0_saidBy 4 1 22 := C
  refine j_iconst 0 C dX0_saidBy_0 ic_0 ?_
  refine j_is2 1 C dX0_saidBy_1 rfl (Nat.le_of_ble_eq_true rfl) ?_
  refine j_iconst 2 C dX0_saidBy_2 ic_0 ?_
  refine j_is3 3 C dX0_saidBy_3 rfl (Nat.le_of_ble_eq_true rfl) ?_
  have loop : ∀ n k, k + n = 8 → J X G 4 g 4 [some (.ref (dr G d)), some (.int (nI P)), some (.int (ss (g d) P k)), some (.int (nI k))] [] := by
    intro n
    induction n with
    | zero =>
      intro k hk
      obtain rfl : k = 8 := by omega
      refine j_il3 4 C dX0_saidBy_4 ?_
      refine j_bipush 5 C dX0_saidBy_5 bp_8 ?_
      refine j_icge 7 29 C dX0_saidBy_7 (by decide) (fun c7 => ?_) (fun c7 => ?_)
      · refine j_il2 29 C dX0_saidBy_29 ?_
        exact hR dX0_saidBy_30 ⟨rfl, rfl⟩
      · exact absurd (nI_le (Nat.le_refl _) (by decide)) c7
    | succ n ih =>
      intro k hk
      refine j_il3 4 C dX0_saidBy_4 ?_
      refine j_bipush 5 C dX0_saidBy_5 bp_8 ?_
      refine j_icge 7 29 C dX0_saidBy_7 (by decide) (fun c7 => ?_) (fun c7 => ?_)
      · exact absurd c7 (nI_ge (a := k) (b := 8) (by omega) (by decide))
      · refine j_il2 10 C dX0_saidBy_10 ?_
        refine j_al0 11 C dX0_saidBy_11 ?_
        refine j_il1 12 C dX0_saidBy_12 ?_
        refine j_il3 13 C dX0_saidBy_13 ?_
        refine j_vi 14 C dX0_saidBy_14 mv_X0_wordAt lk_X0_41 (c_X0_wordAt h4 (by omega) (by omega)) (rc_d h4) rfl rfl ⟨(Nat.le_of_ble_eq_true rfl), (Nat.le_of_ble_eq_true rfl)⟩ (Nat.le_of_ble_eq_true rfl) (fun r14 g14 hp14 => ?_)
        obtain ⟨rfl, rfl⟩ := hp14
        refine j_il3 17 C dX0_saidBy_17 ?_
        refine j_iconst 18 C dX0_saidBy_18 ic_1 ?_
        refine j_iadd 19 C dX0_saidBy_19 ?_
        refine j_top (nI (k + 1)) (nI_succ k).symm ?_
        refine j_imul 20 C dX0_saidBy_20 ?_
        refine j_iadd 21 C dX0_saidBy_21 ?_
        refine j_is2 22 C dX0_saidBy_22 rfl (Nat.le_of_ble_eq_true rfl) ?_
        refine j_inc3 23 C dX0_saidBy_23 rfl (nI_inc _) (Nat.le_of_ble_eq_true rfl) ?_
        refine j_goto 26 4 C dX0_saidBy_26 (by decide) ?_
        exact ih (k + 1) (by omega)
  exact loop 8 0 rfl
set_option maxRecDepth 20000 in
theorem c_X0_placesWithWords {G : GT} {g : Mem} {d P : Nat} (h4 : d < 4) (hP : P < 6) : Cti G yX0_placesWithWords cX0_placesWithWords 4 .int 1 22 [.ref (dr G d), .int (nI P)] g (fun r g' => r = bs (pW (g d) P) 8 ∧ g = g') := by
  refine ent_i (by decide) (Nat.le_of_ble_eq_true rfl) [some (.ref (dr G d)), some (.int (nI P)), none, none] rfl ?_
  intro X C hR
  have C : CX X G RX0 cX0_placesWithWords 4 1 22 := C
  refine j_iconst 0 C dX0_placesWithWords_0 ic_0 ?_
  refine j_is2 1 C dX0_placesWithWords_1 rfl (Nat.le_of_ble_eq_true rfl) ?_
  refine j_iconst 2 C dX0_placesWithWords_2 ic_0 ?_
  refine j_is3 3 C dX0_placesWithWords_3 rfl (Nat.le_of_ble_eq_true rfl) ?_
  have loop : ∀ n k, k + n = 8 → J X G 4 g 4 [some (.ref (dr G d)), some (.int (nI P)), some (.int (bs (pW (g d) P) k)), some (.int (nI k))] [] := by
    intro n
    induction n with
    | zero =>
      intro k hk
      obtain rfl : k = 8 := by omega
      refine j_il3 4 C dX0_placesWithWords_4 ?_
      refine j_bipush 5 C dX0_placesWithWords_5 bp_8 ?_
      refine j_icge 7 31 C dX0_placesWithWords_7 (by decide) (fun c7 => ?_) (fun c7 => ?_)
      · refine j_il2 31 C dX0_placesWithWords_31 ?_
        exact hR dX0_placesWithWords_32 ⟨rfl, rfl⟩
      · exact absurd (nI_le (Nat.le_refl _) (by decide)) c7
    | succ n ih =>
      intro k hk
      refine j_il3 4 C dX0_placesWithWords_4 ?_
      refine j_bipush 5 C dX0_placesWithWords_5 bp_8 ?_
      refine j_icge 7 31 C dX0_placesWithWords_7 (by decide) (fun c7 => ?_) (fun c7 => ?_)
      · exact absurd c7 (nI_ge (a := k) (b := 8) (by omega) (by decide))
      · refine j_al0 10 C dX0_placesWithWords_10 ?_
        refine j_il1 11 C dX0_placesWithWords_11 ?_
        refine j_il3 12 C dX0_placesWithWords_12 ?_
        refine j_vi 13 C dX0_placesWithWords_13 mv_X0_wordAt lk_X0_41 (c_X0_wordAt h4 (by omega) (by omega)) (rc_d h4) rfl rfl ⟨(Nat.le_of_ble_eq_true rfl), (Nat.le_of_ble_eq_true rfl)⟩ (Nat.le_of_ble_eq_true rfl) (fun r13 g13 hp13 => ?_)
        obtain ⟨rfl, rfl⟩ := hp13
        refine j_ifeq 16 25 C dX0_placesWithWords_16 (by decide) (fun c16 => ?_) (fun c16 => ?_)
        · have e : bs (pW (g d) P) (k + 1) = bs (pW (g d) P) k := if_neg (by simp [pW, c16])
          refine j_inc3 25 C dX0_placesWithWords_25 rfl (nI_inc _) (Nat.le_of_ble_eq_true rfl) ?_
          refine j_goto 28 4 C dX0_placesWithWords_28 (by decide) ?_
          rw [← e]
          exact ih (k + 1) (by omega)
        · have e : bs (pW (g d) P) (k + 1) = bs (pW (g d) P) k ||| (1 <<< (nI k &&& 31)) := if_pos (by simp [pW, c16])
          refine j_il2 19 C dX0_placesWithWords_19 ?_
          refine j_iconst 20 C dX0_placesWithWords_20 ic_1 ?_
          refine j_il3 21 C dX0_placesWithWords_21 ?_
          refine j_ishl 22 C dX0_placesWithWords_22 ?_
          refine j_ior 23 C dX0_placesWithWords_23 ?_
          refine j_is2 24 C dX0_placesWithWords_24 rfl (Nat.le_of_ble_eq_true rfl) ?_
          refine j_inc3 25 C dX0_placesWithWords_25 rfl (nI_inc _) (Nat.le_of_ble_eq_true rfl) ?_
          refine j_goto 28 4 C dX0_placesWithWords_28 (by decide) ?_
          rw [← e]
          exact ih (k + 1) (by omega)
  exact loop 8 0 rfl
set_option maxRecDepth 20000 in
theorem c_X0_setHoles {G : GT} {g : Mem} {d P : Nat} (h4 : d < 4) (hP : P < 6) : Ctv G yX0_setHoles cX0_setHoles 3 1 23 [.ref (dr G d), .int (nI P)] g (fun g' => g' = ub g d (hol (g d) P 8)) := by
  refine ent_v (by decide) (Nat.le_of_ble_eq_true rfl) [some (.ref (dr G d)), some (.int (nI P)), none] rfl ?_
  intro X C hR
  have C : CX X G RX0 cX0_setHoles 3 1 23 := C
  refine j_iconst 0 C dX0_setHoles_0 ic_0 ?_
  refine j_is2 1 C dX0_setHoles_1 rfl (Nat.le_of_ble_eq_true rfl) ?_
  have loop : ∀ n k, k + n = 8 → J X G 3 (ub g d (hol (g d) P k)) 2 [some (.ref (dr G d)), some (.int (nI P)), some (.int (nI k))] [] := by
    intro n
    induction n with
    | zero =>
      intro k hk
      obtain rfl : k = 8 := by omega
      refine j_il2 2 C dX0_setHoles_2 ?_
      refine j_bipush 3 C dX0_setHoles_3 bp_8 ?_
      refine j_icge 5 21 C dX0_setHoles_5 (by decide) (fun c5 => ?_) (fun c5 => ?_)
      · exact hR dX0_setHoles_21 rfl
      · exact absurd (nI_le (Nat.le_refl _) (by decide)) c5
    | succ n ih =>
      intro k hk
      refine j_il2 2 C dX0_setHoles_2 ?_
      refine j_bipush 3 C dX0_setHoles_3 bp_8 ?_
      refine j_icge 5 21 C dX0_setHoles_5 (by decide) (fun c5 => ?_) (fun c5 => ?_)
      · exact absurd c5 (nI_ge (a := k) (b := 8) (by omega) (by decide))
      · refine j_al0 8 C dX0_setHoles_8 ?_
        refine j_il1 9 C dX0_setHoles_9 ?_
        refine j_il2 10 C dX0_setHoles_10 ?_
        refine j_iconst 11 C dX0_setHoles_11 ic_0 ?_
        refine j_vv 12 C dX0_setHoles_12 mv_X0_setWord lk_X0_37 (c_X0_setWord h4 (by omega) (by omega)) (rc_d h4) rfl rfl ⟨(Nat.le_of_ble_eq_true rfl), (Nat.le_of_ble_eq_true rfl)⟩ (Nat.le_of_ble_eq_true rfl) (fun g12 hp12 => ?_)
        obtain rfl := hp12
        rw [ub_ub, ub_s]
        refine j_inc2 15 C dX0_setHoles_15 rfl (nI_inc _) (Nat.le_of_ble_eq_true rfl) ?_
        refine j_goto 18 2 C dX0_setHoles_18 (by decide) ?_
        exact ih (k + 1) (by omega)
  have h9 := loop 8 0 rfl
  rw [show ub g d (hol (g d) P 0) = g from ub_id] at h9
  exact h9
set_option maxRecDepth 20000 in
theorem c_J6_bitCount_0f7a4 {G : GT} {g : Mem} {x : Int32} : Cti G yJ6_bitCount_0f7a4 cJ6_bitCount_0f7a4 1 .int 0 0 [.int x] g (fun r g' => r = bcnt x ∧ g = g') := by
  refine ent_i (by decide) (Nat.le_of_ble_eq_true rfl) [some (.int x)] rfl ?_
  intro X C hR
  have C : CX X G RJ6 cJ6_bitCount_0f7a4 1 0 0 := C
  refine j_il0 0 C dJ6_bitCount_0f7a4_0 ?_
  refine j_il0 1 C dJ6_bitCount_0f7a4_1 ?_
  refine j_iconst 2 C dJ6_bitCount_0f7a4_2 ic_1 ?_
  refine j_iushr 3 C dJ6_bitCount_0f7a4_3 rfl ?_
  refine j_ldcw 4 C dJ6_bitCount_0f7a4_4 cs_J6_265 ?_
  refine j_iand 7 C dJ6_bitCount_0f7a4_7 ?_
  refine j_isub 8 C dJ6_bitCount_0f7a4_8 ?_
  refine j_is0 9 C dJ6_bitCount_0f7a4_9 (Nat.le_of_ble_eq_true rfl) ?_
  refine j_il0 10 C dJ6_bitCount_0f7a4_10 ?_
  refine j_ldcw 11 C dJ6_bitCount_0f7a4_11 cs_J6_266 ?_
  refine j_iand 14 C dJ6_bitCount_0f7a4_14 ?_
  refine j_il0 15 C dJ6_bitCount_0f7a4_15 ?_
  refine j_iconst 16 C dJ6_bitCount_0f7a4_16 ic_2 ?_
  refine j_iushr 17 C dJ6_bitCount_0f7a4_17 rfl ?_
  refine j_ldcw 18 C dJ6_bitCount_0f7a4_18 cs_J6_266 ?_
  refine j_iand 21 C dJ6_bitCount_0f7a4_21 ?_
  refine j_iadd 22 C dJ6_bitCount_0f7a4_22 ?_
  refine j_is0 23 C dJ6_bitCount_0f7a4_23 (Nat.le_of_ble_eq_true rfl) ?_
  refine j_il0 24 C dJ6_bitCount_0f7a4_24 ?_
  refine j_il0 25 C dJ6_bitCount_0f7a4_25 ?_
  refine j_iconst 26 C dJ6_bitCount_0f7a4_26 ic_4 ?_
  refine j_iushr 27 C dJ6_bitCount_0f7a4_27 rfl ?_
  refine j_iadd 28 C dJ6_bitCount_0f7a4_28 ?_
  refine j_ldcw 29 C dJ6_bitCount_0f7a4_29 cs_J6_267 ?_
  refine j_iand 32 C dJ6_bitCount_0f7a4_32 ?_
  refine j_is0 33 C dJ6_bitCount_0f7a4_33 (Nat.le_of_ble_eq_true rfl) ?_
  refine j_il0 34 C dJ6_bitCount_0f7a4_34 ?_
  refine j_il0 35 C dJ6_bitCount_0f7a4_35 ?_
  refine j_bipush 36 C dJ6_bitCount_0f7a4_36 bp_8 ?_
  refine j_iushr 38 C dJ6_bitCount_0f7a4_38 rfl ?_
  refine j_iadd 39 C dJ6_bitCount_0f7a4_39 ?_
  refine j_is0 40 C dJ6_bitCount_0f7a4_40 (Nat.le_of_ble_eq_true rfl) ?_
  refine j_il0 41 C dJ6_bitCount_0f7a4_41 ?_
  refine j_il0 42 C dJ6_bitCount_0f7a4_42 ?_
  refine j_bipush 43 C dJ6_bitCount_0f7a4_43 bp_16 ?_
  refine j_iushr 45 C dJ6_bitCount_0f7a4_45 rfl ?_
  refine j_iadd 46 C dJ6_bitCount_0f7a4_46 ?_
  refine j_is0 47 C dJ6_bitCount_0f7a4_47 (Nat.le_of_ble_eq_true rfl) ?_
  refine j_il0 48 C dJ6_bitCount_0f7a4_48 ?_
  refine j_bipush 49 C dJ6_bitCount_0f7a4_49 bp_63 ?_
  refine j_iand 51 C dJ6_bitCount_0f7a4_51 ?_
  exact hR dJ6_bitCount_0f7a4_52 ⟨rfl, rfl⟩
set_option maxRecDepth 20000 in
theorem c_X0_holesOf {G : GT} {g : Mem} {d P : Nat} (h4 : d < 4) (hP : P < 6) : Cti G yX0_holesOf cX0_holesOf 2 .int 2 45 [.ref (dr G d), .int (nI P)] g (fun r g' => r = nI (hp (g d) P) ∧ g = g') := by
  refine ent_i (by decide) (Nat.le_of_ble_eq_true rfl) [some (.ref (dr G d)), some (.int (nI P))] rfl ?_
  intro X C hR
  have C : CX X G RX0 cX0_holesOf 2 2 45 := C
  refine j_bipush 0 C dX0_holesOf_0 bp_8 ?_
  refine j_al0 2 C dX0_holesOf_2 ?_
  refine j_il1 3 C dX0_holesOf_3 ?_
  refine j_vi 4 C dX0_holesOf_4 mv_X0_placesWithWords lk_X0_45 (c_X0_placesWithWords h4 hP) (rc_d h4) rfl rfl ⟨(Nat.le_of_ble_eq_true rfl), (Nat.le_of_ble_eq_true rfl)⟩ (Nat.le_of_ble_eq_true rfl) (fun r4 g4 hp4 => ?_)
  obtain ⟨rfl, rfl⟩ := hp4
  refine j_si 7 C dX0_holesOf_7 ms_J6_bitCount_0f7a4 lk_X0_49 (c_J6_bitCount_0f7a4) rfl rfl ⟨(Nat.le_of_ble_eq_true rfl), (Nat.le_of_ble_eq_true rfl)⟩ (Nat.le_of_ble_eq_true rfl) (fun r7 g7 hp7 => ?_)
  obtain ⟨rfl, rfl⟩ := hp7
  refine j_isub 10 C dX0_holesOf_10 ?_
  exact hR dX0_holesOf_11 ⟨by rw [bcnt_bs _ (Nat.le_refl 8)]; exact hp_eq _ _, rfl⟩
set_option maxRecDepth 20000 in
theorem c_X0_isBare {G : GT} {g : Mem} {d P : Nat} (h4 : d < 4) (hP : P < 6) : Cti G yX0_isBare cX0_isBare 2 .boolean 2 45 [.ref (dr G d), .int (nI P)] g (fun r g' => r = bi (bare (g d) P) ∧ g = g') := by
  refine ent_z (by decide) (Nat.le_of_ble_eq_true rfl) [some (.ref (dr G d)), some (.int (nI P))] rfl ?_
  intro X C hR
  have C : CX X G RX0 cX0_isBare 2 2 45 := C
  refine j_al0 0 C dX0_isBare_0 ?_
  refine j_il1 1 C dX0_isBare_1 ?_
  refine j_vi 2 C dX0_isBare_2 mv_X0_placesWithWords lk_X0_45 (c_X0_placesWithWords h4 hP) (rc_d h4) rfl rfl ⟨(Nat.le_of_ble_eq_true rfl), (Nat.le_of_ble_eq_true rfl)⟩ (Nat.le_of_ble_eq_true rfl) (fun r2 g2 hp2 => ?_)
  obtain ⟨rfl, rfl⟩ := hp2
  refine j_ifne 5 12 C dX0_isBare_5 (by decide) (fun c5 => ?_) (fun c5 => ?_)
  · refine j_iconst 12 C dX0_isBare_12 ic_0 ?_
    exact hR dX0_isBare_13 (by first | exact Or.inl rfl | exact Or.inr rfl) ⟨by simp [bare, bi, c5], rfl⟩
  · refine j_iconst 8 C dX0_isBare_8 ic_1 ?_
    refine j_goto 9 13 C dX0_isBare_9 (by decide) ?_
    exact hR dX0_isBare_13 (by first | exact Or.inl rfl | exact Or.inr rfl) ⟨by simp [bare, bi, c5], rfl⟩
set_option maxRecDepth 20000 in
theorem c_X0_unlikePlaces {G : GT} {g : Mem} {d A B : Nat} (h4 : d < 4) (hA : A < 6) (hB : B < 6) : Cti G yX0_unlikePlaces cX0_unlikePlaces 5 .int 1 22 [.ref (dr G d), .int (nI A), .int (nI B)] g (fun r g' => r = nI (ct (pU (g d) A B) 8) ∧ g = g') := by
  refine ent_i (by decide) (Nat.le_of_ble_eq_true rfl) [some (.ref (dr G d)), some (.int (nI A)), some (.int (nI B)), none, none] rfl ?_
  intro X C hR
  have C : CX X G RX0 cX0_unlikePlaces 5 1 22 := C
  refine j_iconst 0 C dX0_unlikePlaces_0 ic_0 ?_
  refine j_is3 1 C dX0_unlikePlaces_1 rfl (Nat.le_of_ble_eq_true rfl) ?_
  refine j_iconst 2 C dX0_unlikePlaces_2 ic_0 ?_
  refine j_is4 3 C dX0_unlikePlaces_3 rfl (Nat.le_of_ble_eq_true rfl) ?_
  have loop : ∀ n k, k + n = 8 → J X G 5 g 5 [some (.ref (dr G d)), some (.int (nI A)), some (.int (nI B)), some (.int (nI (ct (pU (g d) A B) k))), some (.int (nI k))] [] := by
    intro n
    induction n with
    | zero =>
      intro k hk
      obtain rfl : k = 8 := by omega
      refine j_il4 5 C dX0_unlikePlaces_5 ?_
      refine j_bipush 7 C dX0_unlikePlaces_7 bp_8 ?_
      refine j_icge 9 38 C dX0_unlikePlaces_9 (by decide) (fun c9 => ?_) (fun c9 => ?_)
      · refine j_il3 38 C dX0_unlikePlaces_38 ?_
        exact hR dX0_unlikePlaces_39 ⟨rfl, rfl⟩
      · exact absurd (nI_le (Nat.le_refl _) (by decide)) c9
    | succ n ih =>
      intro k hk
      refine j_il4 5 C dX0_unlikePlaces_5 ?_
      refine j_bipush 7 C dX0_unlikePlaces_7 bp_8 ?_
      refine j_icge 9 38 C dX0_unlikePlaces_9 (by decide) (fun c9 => ?_) (fun c9 => ?_)
      · exact absurd c9 (nI_ge (a := k) (b := 8) (by omega) (by decide))
      · refine j_al0 12 C dX0_unlikePlaces_12 ?_
        refine j_il1 13 C dX0_unlikePlaces_13 ?_
        refine j_il4 14 C dX0_unlikePlaces_14 ?_
        refine j_vi 16 C dX0_unlikePlaces_16 mv_X0_wordAt lk_X0_41 (c_X0_wordAt h4 (by omega) (by omega)) (rc_d h4) rfl rfl ⟨(Nat.le_of_ble_eq_true rfl), (Nat.le_of_ble_eq_true rfl)⟩ (Nat.le_of_ble_eq_true rfl) (fun r16 g16 hp16 => ?_)
        obtain ⟨rfl, rfl⟩ := hp16
        refine j_al0 19 C dX0_unlikePlaces_19 ?_
        refine j_il2 20 C dX0_unlikePlaces_20 ?_
        refine j_il4 21 C dX0_unlikePlaces_21 ?_
        refine j_vi 23 C dX0_unlikePlaces_23 mv_X0_wordAt lk_X0_41 (c_X0_wordAt h4 (by omega) (by omega)) (rc_d h4) rfl rfl ⟨(Nat.le_of_ble_eq_true rfl), (Nat.le_of_ble_eq_true rfl)⟩ (Nat.le_of_ble_eq_true rfl) (fun r23 g23 hp23 => ?_)
        obtain ⟨rfl, rfl⟩ := hp23
        refine j_iceq 26 32 C dX0_unlikePlaces_26 (by decide) (fun c26 => ?_) (fun c26 => ?_)
        · have e : ct (pU (g d) A B) (k + 1) = ct (pU (g d) A B) k := if_neg (by simp [pU, c26])
          refine j_inc4 32 C dX0_unlikePlaces_32 rfl (nI_inc _) (Nat.le_of_ble_eq_true rfl) ?_
          refine j_goto 35 5 C dX0_unlikePlaces_35 (by decide) ?_
          rw [← e]
          exact ih (k + 1) (by omega)
        · have e : ct (pU (g d) A B) (k + 1) = ct (pU (g d) A B) k + 1 := if_pos (by simp [pU, c26])
          refine j_inc3 29 C dX0_unlikePlaces_29 rfl (nI_inc _) (Nat.le_of_ble_eq_true rfl) ?_
          refine j_inc4 32 C dX0_unlikePlaces_32 rfl (nI_inc _) (Nat.le_of_ble_eq_true rfl) ?_
          refine j_goto 35 5 C dX0_unlikePlaces_35 (by decide) ?_
          rw [← e]
          exact ih (k + 1) (by omega)
  exact loop 8 0 rfl
set_option maxRecDepth 20000 in
theorem c_X0_copyPage {G : GT} {g : Mem} {d A B : Nat} (h4 : d < 4) (hA : A < 6) (hB : B < 6) : Cti G yX0_copyPage cX0_copyPage 4 .int 2 46 [.ref (dr G d), .int (nI A), .int (nI B)] g (fun r g' => r = nI (ct (pU (g d) A B) 8) ∧ g' = ub g d (cpg (g d) A B)) := by
  refine ent_i (by decide) (Nat.le_of_ble_eq_true rfl) [some (.ref (dr G d)), some (.int (nI A)), some (.int (nI B)), none] rfl ?_
  intro X C hR
  have C : CX X G RX0 cX0_copyPage 4 2 46 := C
  refine j_al0 0 C dX0_copyPage_0 ?_
  refine j_il1 1 C dX0_copyPage_1 ?_
  refine j_il2 2 C dX0_copyPage_2 ?_
  refine j_vi 3 C dX0_copyPage_3 mv_X0_unlikePlaces lk_X0_54 (c_X0_unlikePlaces h4 hA hB) (rc_d h4) rfl rfl ⟨(Nat.le_of_ble_eq_true rfl), (Nat.le_of_ble_eq_true rfl)⟩ (Nat.le_of_ble_eq_true rfl) (fun r3 g3 hp3 => ?_)
  obtain ⟨rfl, rfl⟩ := hp3
  refine j_is3 6 C dX0_copyPage_6 rfl (Nat.le_of_ble_eq_true rfl) ?_
  refine j_al0 7 C dX0_copyPage_7 ?_
  refine jg_X0_9 8 h4 C dX0_copyPage_8 ?_
  refine j_il1 11 C dX0_copyPage_11 ?_
  refine j_bipush 12 C dX0_copyPage_12 bp_8 ?_
  refine j_imul 14 C dX0_copyPage_14 ?_
  refine j_top (nI (8 * A)) (ix_b A) ?_
  refine j_al0 15 C dX0_copyPage_15 ?_
  refine jg_X0_9 16 h4 C dX0_copyPage_16 ?_
  refine j_il2 19 C dX0_copyPage_19 ?_
  refine j_bipush 20 C dX0_copyPage_20 bp_8 ?_
  refine j_imul 22 C dX0_copyPage_22 ?_
  refine j_top (nI (8 * B)) (ix_b B) ?_
  refine j_bipush 23 C dX0_copyPage_23 bp_8 ?_
  refine j_acpy 25 (2 + 4 * d) (2 + 4 * d) (n := 8) C dX0_copyPage_25 lk_X0_31 (at_Wd h4) (at_Wd h4) (by omega) (by omega) (by decide) (by decide) ⟨(Nat.le_of_ble_eq_true rfl), (Nat.le_of_ble_eq_true rfl)⟩ (g' := ub g d (cpg (g d) A B)) (fun H hP => ?_) ?_
  · refine WW_row (2 + 4 * d) (cpg (g d) A B) (by omega) (tb_Wd h4).1 (fun i hi => ?_) hP (at_Wd h4) (fun ha => at_arr ha (fun i hi => ?_))
    · rw [(tb_Wd h4).2.1, (tb_Wd h4).2.2] at hi
      exact if_neg (by omega)
    · rw [ub_s]
      show va_cpy _ _ _ _ _ i = if 3 + 8 * B ≤ 3 + i ∧ 3 + i < 3 + 8 * B + 8 then _ else _
      by_cases q : 8 * B ≤ i ∧ i < 8 * B + 8
      · rw [pk_cpy_in q.1 q.2, if_pos (by omega)]
        congr 2
        omega
      · rw [pk_cpy_out (by omega), if_neg (by omega)]
  · refine j_il3 28 C dX0_copyPage_28 ?_
    exact hR dX0_copyPage_29 ⟨rfl, rfl⟩
set_option maxRecDepth 20000 in
theorem c_X0_hasPageOf {G : GT} {g : Mem} {d e P : Nat} (h4 : d < 4) (he : e < 4) (hP : P < 6) : Cti G yX0_hasPageOf cX0_hasPageOf 4 .boolean 1 22 [.ref (dr G d), .ref (dr G e), .int (nI P)] g (fun r g' => r = bi (al (pE (g d) (g e) P) 8) ∧ g = g') := by
  refine ent_z (by decide) (Nat.le_of_ble_eq_true rfl) [some (.ref (dr G d)), some (.ref (dr G e)), some (.int (nI P)), none] rfl ?_
  intro X C hR
  have C : CX X G RX0 cX0_hasPageOf 4 1 22 := C
  refine j_iconst 0 C dX0_hasPageOf_0 ic_0 ?_
  refine j_is3 1 C dX0_hasPageOf_1 rfl (Nat.le_of_ble_eq_true rfl) ?_
  have loop : ∀ n k, k + n = 8 → al (pE (g d) (g e) P) k = true → J X G 4 g 2 [some (.ref (dr G d)), some (.ref (dr G e)), some (.int (nI P)), some (.int (nI k))] [] := by
    intro n
    induction n with
    | zero =>
      intro k hk hal
      obtain rfl : k = 8 := by omega
      refine j_il3 2 C dX0_hasPageOf_2 ?_
      refine j_bipush 3 C dX0_hasPageOf_3 bp_8 ?_
      refine j_icge 5 31 C dX0_hasPageOf_5 (by decide) (fun c5 => ?_) (fun c5 => ?_)
      · refine j_iconst 31 C dX0_hasPageOf_31 ic_1 ?_
        exact hR dX0_hasPageOf_32 (by first | exact Or.inl rfl | exact Or.inr rfl) ⟨by rw [hal]; rfl, rfl⟩
      · exact absurd (nI_le (Nat.le_refl _) (by decide)) c5
    | succ n ih =>
      intro k hk hal
      refine j_il3 2 C dX0_hasPageOf_2 ?_
      refine j_bipush 3 C dX0_hasPageOf_3 bp_8 ?_
      refine j_icge 5 31 C dX0_hasPageOf_5 (by decide) (fun c5 => ?_) (fun c5 => ?_)
      · exact absurd c5 (nI_ge (a := k) (b := 8) (by omega) (by decide))
      · refine j_al0 8 C dX0_hasPageOf_8 ?_
        refine j_il2 9 C dX0_hasPageOf_9 ?_
        refine j_il3 10 C dX0_hasPageOf_10 ?_
        refine j_vi 11 C dX0_hasPageOf_11 mv_X0_wordAt lk_X0_41 (c_X0_wordAt h4 (by omega) (by omega)) (rc_d h4) rfl rfl ⟨(Nat.le_of_ble_eq_true rfl), (Nat.le_of_ble_eq_true rfl)⟩ (Nat.le_of_ble_eq_true rfl) (fun r11 g11 hp11 => ?_)
        obtain ⟨rfl, rfl⟩ := hp11
        refine j_al1 14 C dX0_hasPageOf_14 ?_
        refine j_il2 15 C dX0_hasPageOf_15 ?_
        refine j_il3 16 C dX0_hasPageOf_16 ?_
        refine j_vi 17 C dX0_hasPageOf_17 mv_X0_wordAt lk_X0_41 (c_X0_wordAt he (by omega) (by omega)) (rc_d he) rfl rfl ⟨(Nat.le_of_ble_eq_true rfl), (Nat.le_of_ble_eq_true rfl)⟩ (Nat.le_of_ble_eq_true rfl) (fun r17 g17 hp17 => ?_)
        obtain ⟨rfl, rfl⟩ := hp17
        refine j_iceq 20 25 C dX0_hasPageOf_20 (by decide) (fun c20 => ?_) (fun c20 => ?_)
        · have e9 : al (pE (g d) (g e) P) (k + 1) = true := by unfold al; rw [hal]; simp [pE, c20]
          refine j_inc3 25 C dX0_hasPageOf_25 rfl (nI_inc _) (Nat.le_of_ble_eq_true rfl) ?_
          refine j_goto 28 2 C dX0_hasPageOf_28 (by decide) ?_
          exact ih (k + 1) (by omega) e9
        · refine j_iconst 23 C dX0_hasPageOf_23 ic_0 ?_
          exact hR dX0_hasPageOf_24 (by first | exact Or.inl rfl | exact Or.inr rfl) ⟨by rw [al_f (k := k) (by omega) (by simp [pE, c20])]; rfl, rfl⟩
  exact loop 8 0 rfl rfl
set_option maxRecDepth 20000 in
theorem c_X0_hasPagesOf {G : GT} {g : Mem} {d e : Nat} (h4 : d < 4) (he : e < 4) : Cti G yX0_hasPagesOf cX0_hasPagesOf 3 .boolean 2 45 [.ref (dr G d), .ref (dr G e)] g (fun r g' => r = bi (al (fun p => al (pE (g d) (g e) p) 8) 6) ∧ g = g') := by
  refine ent_z (by decide) (Nat.le_of_ble_eq_true rfl) [some (.ref (dr G d)), some (.ref (dr G e)), none] rfl ?_
  intro X C hR
  have C : CX X G RX0 cX0_hasPagesOf 3 2 45 := C
  refine j_iconst 0 C dX0_hasPagesOf_0 ic_0 ?_
  refine j_is2 1 C dX0_hasPagesOf_1 rfl (Nat.le_of_ble_eq_true rfl) ?_
  have loop : ∀ n k, k + n = 6 → al (fun p => al (pE (g d) (g e) p) 8) k = true → J X G 3 g 2 [some (.ref (dr G d)), some (.ref (dr G e)), some (.int (nI k))] [] := by
    intro n
    induction n with
    | zero =>
      intro k hk hal
      obtain rfl : k = 6 := by omega
      refine j_il2 2 C dX0_hasPagesOf_2 ?_
      refine j_bipush 3 C dX0_hasPagesOf_3 bp_6 ?_
      refine j_icge 5 25 C dX0_hasPagesOf_5 (by decide) (fun c5 => ?_) (fun c5 => ?_)
      · refine j_iconst 25 C dX0_hasPagesOf_25 ic_1 ?_
        exact hR dX0_hasPagesOf_26 (by first | exact Or.inl rfl | exact Or.inr rfl) ⟨by rw [hal]; rfl, rfl⟩
      · exact absurd (nI_le (Nat.le_refl _) (by decide)) c5
    | succ n ih =>
      intro k hk hal
      refine j_il2 2 C dX0_hasPagesOf_2 ?_
      refine j_bipush 3 C dX0_hasPagesOf_3 bp_6 ?_
      refine j_icge 5 25 C dX0_hasPagesOf_5 (by decide) (fun c5 => ?_) (fun c5 => ?_)
      · exact absurd c5 (nI_ge (a := k) (b := 6) (by omega) (by decide))
      · refine j_al0 8 C dX0_hasPagesOf_8 ?_
        refine j_al1 9 C dX0_hasPagesOf_9 ?_
        refine j_il2 10 C dX0_hasPagesOf_10 ?_
        refine j_vi 11 C dX0_hasPagesOf_11 mv_X0_hasPageOf lk_X0_57 (c_X0_hasPageOf h4 he (by omega)) (rc_d h4) rfl rfl ⟨(Nat.le_of_ble_eq_true rfl), (Nat.le_of_ble_eq_true rfl)⟩ (Nat.le_of_ble_eq_true rfl) (fun r11 g11 hp11 => ?_)
        obtain ⟨rfl, rfl⟩ := hp11
        refine j_ifne 14 19 C dX0_hasPagesOf_14 (by decide) (fun c14 => ?_) (fun c14 => ?_)
        · have e9 : al (fun p => al (pE (g d) (g e) p) 8) (k + 1) = true := by unfold al; rw [hal, bi_n c14]; rfl
          refine j_inc2 19 C dX0_hasPagesOf_19 rfl (nI_inc _) (Nat.le_of_ble_eq_true rfl) ?_
          refine j_goto 22 2 C dX0_hasPagesOf_22 (by decide) ?_
          exact ih (k + 1) (by omega) e9
        · refine j_iconst 17 C dX0_hasPagesOf_17 ic_0 ?_
          exact hR dX0_hasPagesOf_18 (by first | exact Or.inl rfl | exact Or.inr rfl) ⟨by rw [al_f (k := k) (by omega) (bi_0 c14)]; rfl, rfl⟩
  exact loop 6 0 rfl rfl
set_option maxRecDepth 20000 in
theorem c_X0_allHoles {G : GT} {g : Mem} {d : Nat} (h4 : d < 4) : Cti G yX0_allHoles cX0_allHoles 3 .int 3 66 [.ref (dr G d)] g (fun r g' => r = nI (sumN (hp (g d)) 6) ∧ g = g') := by
  refine ent_i (by decide) (Nat.le_of_ble_eq_true rfl) [some (.ref (dr G d)), none, none] rfl ?_
  intro X C hR
  have C : CX X G RX0 cX0_allHoles 3 3 66 := C
  refine j_iconst 0 C dX0_allHoles_0 ic_0 ?_
  refine j_is1 1 C dX0_allHoles_1 rfl (Nat.le_of_ble_eq_true rfl) ?_
  refine j_iconst 2 C dX0_allHoles_2 ic_0 ?_
  refine j_is2 3 C dX0_allHoles_3 rfl (Nat.le_of_ble_eq_true rfl) ?_
  have loop : ∀ n k, k + n = 6 → J X G 3 g 4 [some (.ref (dr G d)), some (.int (nI (sumN (hp (g d)) k))), some (.int (nI k))] [] := by
    intro n
    induction n with
    | zero =>
      intro k hk
      obtain rfl : k = 6 := by omega
      refine j_il2 4 C dX0_allHoles_4 ?_
      refine j_bipush 5 C dX0_allHoles_5 bp_6 ?_
      refine j_icge 7 24 C dX0_allHoles_7 (by decide) (fun c7 => ?_) (fun c7 => ?_)
      · refine j_il1 24 C dX0_allHoles_24 ?_
        exact hR dX0_allHoles_25 ⟨rfl, rfl⟩
      · exact absurd (nI_le (Nat.le_refl _) (by decide)) c7
    | succ n ih =>
      intro k hk
      refine j_il2 4 C dX0_allHoles_4 ?_
      refine j_bipush 5 C dX0_allHoles_5 bp_6 ?_
      refine j_icge 7 24 C dX0_allHoles_7 (by decide) (fun c7 => ?_) (fun c7 => ?_)
      · exact absurd c7 (nI_ge (a := k) (b := 6) (by omega) (by decide))
      · refine j_il1 10 C dX0_allHoles_10 ?_
        refine j_al0 11 C dX0_allHoles_11 ?_
        refine j_il2 12 C dX0_allHoles_12 ?_
        refine j_vi 13 C dX0_allHoles_13 mv_X0_holesOf lk_X0_61 (c_X0_holesOf h4 (by omega)) (rc_d h4) rfl rfl ⟨(Nat.le_of_ble_eq_true rfl), (Nat.le_of_ble_eq_true rfl)⟩ (Nat.le_of_ble_eq_true rfl) (fun r13 g13 hp13 => ?_)
        obtain ⟨rfl, rfl⟩ := hp13
        refine j_iadd 16 C dX0_allHoles_16 ?_
        refine j_top _ (nI_add _ _) ?_
        refine j_is1 17 C dX0_allHoles_17 rfl (Nat.le_of_ble_eq_true rfl) ?_
        refine j_inc2 18 C dX0_allHoles_18 rfl (nI_inc _) (Nat.le_of_ble_eq_true rfl) ?_
        refine j_goto 21 4 C dX0_allHoles_21 (by decide) ?_
        exact ih (k + 1) (by omega)
  exact loop 6 0 rfl
set_option maxRecDepth 20000 in
theorem c_X0_allSaid {G : GT} {g : Mem} {d : Nat} (h4 : d < 4) : Cti G yX0_allSaid cX0_allSaid 3 .int 2 45 [.ref (dr G d)] g (fun r g' => r = sI (fun p => ss (g d) p 8) 6 ∧ g = g') := by
  refine ent_i (by decide) (Nat.le_of_ble_eq_true rfl) [some (.ref (dr G d)), none, none] rfl ?_
  intro X C hR
  have C : CX X G RX0 cX0_allSaid 3 2 45 := C
  refine j_iconst 0 C dX0_allSaid_0 ic_0 ?_
  refine j_is1 1 C dX0_allSaid_1 rfl (Nat.le_of_ble_eq_true rfl) ?_
  refine j_iconst 2 C dX0_allSaid_2 ic_0 ?_
  refine j_is2 3 C dX0_allSaid_3 rfl (Nat.le_of_ble_eq_true rfl) ?_
  have loop : ∀ n k, k + n = 6 → J X G 3 g 4 [some (.ref (dr G d)), some (.int (sI (fun p => ss (g d) p 8) k)), some (.int (nI k))] [] := by
    intro n
    induction n with
    | zero =>
      intro k hk
      obtain rfl : k = 6 := by omega
      refine j_il2 4 C dX0_allSaid_4 ?_
      refine j_bipush 5 C dX0_allSaid_5 bp_6 ?_
      refine j_icge 7 24 C dX0_allSaid_7 (by decide) (fun c7 => ?_) (fun c7 => ?_)
      · refine j_il1 24 C dX0_allSaid_24 ?_
        exact hR dX0_allSaid_25 ⟨rfl, rfl⟩
      · exact absurd (nI_le (Nat.le_refl _) (by decide)) c7
    | succ n ih =>
      intro k hk
      refine j_il2 4 C dX0_allSaid_4 ?_
      refine j_bipush 5 C dX0_allSaid_5 bp_6 ?_
      refine j_icge 7 24 C dX0_allSaid_7 (by decide) (fun c7 => ?_) (fun c7 => ?_)
      · exact absurd c7 (nI_ge (a := k) (b := 6) (by omega) (by decide))
      · refine j_il1 10 C dX0_allSaid_10 ?_
        refine j_al0 11 C dX0_allSaid_11 ?_
        refine j_il2 12 C dX0_allSaid_12 ?_
        refine j_vi 13 C dX0_allSaid_13 mv_X0_saidBy lk_X0_64 (c_X0_saidBy h4 (by omega)) (rc_d h4) rfl rfl ⟨(Nat.le_of_ble_eq_true rfl), (Nat.le_of_ble_eq_true rfl)⟩ (Nat.le_of_ble_eq_true rfl) (fun r13 g13 hp13 => ?_)
        obtain ⟨rfl, rfl⟩ := hp13
        refine j_iadd 16 C dX0_allSaid_16 ?_
        refine j_is1 17 C dX0_allSaid_17 rfl (Nat.le_of_ble_eq_true rfl) ?_
        refine j_inc2 18 C dX0_allSaid_18 rfl (nI_inc _) (Nat.le_of_ble_eq_true rfl) ?_
        refine j_goto 21 4 C dX0_allSaid_21 (by decide) ?_
        exact ih (k + 1) (by omega)
  exact loop 6 0 rfl
set_option maxRecDepth 20000 in
theorem c_X0_barePages {G : GT} {g : Mem} {d : Nat} (h4 : d < 4) : Cti G yX0_barePages cX0_barePages 3 .int 3 66 [.ref (dr G d)] g (fun r g' => r = bs (bare (g d)) 6 ∧ g = g') := by
  refine ent_i (by decide) (Nat.le_of_ble_eq_true rfl) [some (.ref (dr G d)), none, none] rfl ?_
  intro X C hR
  have C : CX X G RX0 cX0_barePages 3 3 66 := C
  refine j_iconst 0 C dX0_barePages_0 ic_0 ?_
  refine j_is1 1 C dX0_barePages_1 rfl (Nat.le_of_ble_eq_true rfl) ?_
  refine j_iconst 2 C dX0_barePages_2 ic_0 ?_
  refine j_is2 3 C dX0_barePages_3 rfl (Nat.le_of_ble_eq_true rfl) ?_
  have loop : ∀ n k, k + n = 6 → J X G 3 g 4 [some (.ref (dr G d)), some (.int (bs (bare (g d)) k)), some (.int (nI k))] [] := by
    intro n
    induction n with
    | zero =>
      intro k hk
      obtain rfl : k = 6 := by omega
      refine j_il2 4 C dX0_barePages_4 ?_
      refine j_bipush 5 C dX0_barePages_5 bp_6 ?_
      refine j_icge 7 30 C dX0_barePages_7 (by decide) (fun c7 => ?_) (fun c7 => ?_)
      · refine j_il1 30 C dX0_barePages_30 ?_
        exact hR dX0_barePages_31 ⟨rfl, rfl⟩
      · exact absurd (nI_le (Nat.le_refl _) (by decide)) c7
    | succ n ih =>
      intro k hk
      refine j_il2 4 C dX0_barePages_4 ?_
      refine j_bipush 5 C dX0_barePages_5 bp_6 ?_
      refine j_icge 7 30 C dX0_barePages_7 (by decide) (fun c7 => ?_) (fun c7 => ?_)
      · exact absurd c7 (nI_ge (a := k) (b := 6) (by omega) (by decide))
      · refine j_al0 10 C dX0_barePages_10 ?_
        refine j_il2 11 C dX0_barePages_11 ?_
        refine j_vi 12 C dX0_barePages_12 mv_X0_isBare lk_X0_67 (c_X0_isBare h4 (by omega)) (rc_d h4) rfl rfl ⟨(Nat.le_of_ble_eq_true rfl), (Nat.le_of_ble_eq_true rfl)⟩ (Nat.le_of_ble_eq_true rfl) (fun r12 g12 hp12 => ?_)
        obtain ⟨rfl, rfl⟩ := hp12
        refine j_ifeq 15 24 C dX0_barePages_15 (by decide) (fun c15 => ?_) (fun c15 => ?_)
        · have e : bs (bare (g d)) (k + 1) = bs (bare (g d)) k := if_neg (by rw [bi_0 c15]; decide)
          refine j_inc2 24 C dX0_barePages_24 rfl (nI_inc _) (Nat.le_of_ble_eq_true rfl) ?_
          refine j_goto 27 4 C dX0_barePages_27 (by decide) ?_
          rw [← e]
          exact ih (k + 1) (by omega)
        · have e : bs (bare (g d)) (k + 1) = bs (bare (g d)) k ||| (1 <<< (nI k &&& 31)) := if_pos (bi_n c15)
          refine j_il1 18 C dX0_barePages_18 ?_
          refine j_iconst 19 C dX0_barePages_19 ic_1 ?_
          refine j_il2 20 C dX0_barePages_20 ?_
          refine j_ishl 21 C dX0_barePages_21 ?_
          refine j_ior 22 C dX0_barePages_22 ?_
          refine j_is1 23 C dX0_barePages_23 rfl (Nat.le_of_ble_eq_true rfl) ?_
          refine j_inc2 24 C dX0_barePages_24 rfl (nI_inc _) (Nat.le_of_ble_eq_true rfl) ?_
          refine j_goto 27 4 C dX0_barePages_27 (by decide) ?_
          rw [← e]
          exact ih (k + 1) (by omega)
  exact loop 6 0 rfl
set_option maxRecDepth 20000 in
theorem c_X0_isFull {G : GT} {g : Mem} {d : Nat} (h4 : d < 4) : Cti G yX0_isFull cX0_isFull 1 .boolean 0 0 [.ref (dr G d)] g (fun r g' => r = bi (decide (8 ≤ g d 0)) ∧ g = g') := by
  refine ent_z (by decide) (Nat.le_of_ble_eq_true rfl) [some (.ref (dr G d))] rfl ?_
  intro X C hR
  have C : CX X G RX0 cX0_isFull 1 0 0 := C
  refine j_al0 0 C dX0_isFull_0 ?_
  refine jg_X0_21 1 h4 C dX0_isFull_1 ?_
  refine j_bipush 4 C dX0_isFull_4 bp_8 ?_
  refine j_iclt 6 13 C dX0_isFull_6 (by decide) (fun c6 => ?_) (fun c6 => ?_)
  · refine j_iconst 13 C dX0_isFull_13 ic_0 ?_
    exact hR dX0_isFull_14 (by first | exact Or.inl rfl | exact Or.inr rfl) ⟨by simp only [bi]; first | (rw [if_pos (decide_eq_true (Int32.not_lt.mp c6))]) | (rw [if_neg (by simpa using c6)]), rfl⟩
  · refine j_iconst 9 C dX0_isFull_9 ic_1 ?_
    refine j_goto 10 14 C dX0_isFull_10 (by decide) ?_
    exact hR dX0_isFull_14 (by first | exact Or.inl rfl | exact Or.inr rfl) ⟨by simp only [bi]; first | (rw [if_pos (decide_eq_true (Int32.not_lt.mp c6))]) | (rw [if_neg (by simpa using c6)]), rfl⟩
