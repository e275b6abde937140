theorem bp_7 : (Int8.ofInt (7)).toInt32 = 7 := by decide
theorem bp_9 : (Int8.ofInt (9)).toInt32 = 9 := by decide
theorem bp_10 : (Int8.ofInt (10)).toInt32 = 10 := by decide
theorem ic_m1 : Int32.ofInt (-1) = (-1) := by decide
theorem x_m1 (x : Int32) : x + Int32.ofInt (-1) = x - 1 := by rw [Int32.sub_eq_add_neg]; rfl
set_option maxRecDepth 20000 in
theorem c_X1_firstLike {G : GT} {g : Mem} {d P : Nat} (h4 : d < 4) (hP : P < 6) {t : Int32} : Cti G yX1_firstLike cX1_firstLike 4 .int 0 0 [.int t, .ref (wa G d), .int (nI (8 * P))] g (fun r g' => r = ff (pL (g d) P t) 0 8 ∧ g = g') := by
  refine ent_i (by decide) (Nat.le_of_ble_eq_true rfl) [some (.int t), some (.ref (wa G d)), some (.int (nI (8 * P))), none] rfl ?_
  intro X C hR
  have C : CX X G RX1 cX1_firstLike 4 0 0 := C
  refine j_iconst 0 C dX1_firstLike_0 ic_0 ?_
  refine j_is3 1 C dX1_firstLike_1 rfl (Nat.le_of_ble_eq_true rfl) ?_
  have loop : ∀ n k, k + n = 8 → ff (pL (g d) P t) 0 8 = ff (pL (g d) P t) k (8 - k) → J X G 4 g 2 [some (.int (t)), some (.ref (wa G d)), some (.int (nI (8 * P))), some (.int (nI k))] [] := by
    intro n
    induction n with
    | zero =>
      intro k hk hf
      obtain rfl : k = 8 := by omega
      refine j_il3 2 C dX1_firstLike_2 ?_
      refine j_bipush 3 C dX1_firstLike_3 bp_8 ?_
      refine j_icge 5 25 C dX1_firstLike_5 (by decide) (fun c5 => ?_) (fun c5 => ?_)
      · refine j_iconst 25 C dX1_firstLike_25 ic_m1 ?_
        exact hR dX1_firstLike_26 ⟨hf.symm, rfl⟩
      · exact absurd (nI_le (Nat.le_refl _) (by decide)) c5
    | succ n ih =>
      intro k hk hf
      refine j_il3 2 C dX1_firstLike_2 ?_
      refine j_bipush 3 C dX1_firstLike_3 bp_8 ?_
      refine j_icge 5 25 C dX1_firstLike_5 (by decide) (fun c5 => ?_) (fun c5 => ?_)
      · exact absurd c5 (nI_ge (a := k) (b := 8) (by omega) (by decide))
      · refine j_al1 8 C dX1_firstLike_8 ?_
        refine j_il2 9 C dX1_firstLike_9 ?_
        refine j_il3 10 C dX1_firstLike_10 ?_
        refine j_iadd 11 C dX1_firstLike_11 ?_
        refine j_top (nI (8 * P + k)) (by rw [nI_add]) ?_
        refine jl_wd 12 h4 (by omega) C dX1_firstLike_12 ?_
        refine j_il0 13 C dX1_firstLike_13 ?_
        refine j_icne 14 19 C dX1_firstLike_14 (by decide) (fun c14 => ?_) (fun c14 => ?_)
        · have e9 : ff (pL (g d) P t) k (8 - k) = ff (pL (g d) P t) (k + 1) (8 - (k + 1)) := by rw [show 8 - k = (8 - (k + 1)) + 1 by omega]; exact if_neg (fun q => c14 (of_decide_eq_true q))
          refine j_inc3 19 C dX1_firstLike_19 rfl (nI_inc _) (Nat.le_of_ble_eq_true rfl) ?_
          refine j_goto 22 2 C dX1_firstLike_22 (by decide) ?_
          exact ih (k + 1) (by omega) (hf.trans e9)
        · have e9 : ff (pL (g d) P t) k (8 - k) = nI k := by rw [show 8 - k = (8 - (k + 1)) + 1 by omega]; exact if_pos (decide_eq_true c14)
          refine j_il3 17 C dX1_firstLike_17 ?_
          exact hR dX1_firstLike_18 ⟨(hf.trans e9).symm, rfl⟩
  exact loop 8 0 rfl rfl
set_option maxRecDepth 20000 in
theorem c_X1_firstWord {G : GT} {g : Mem} {d P : Nat} (h4 : d < 4) (hP : P < 6) : Cti G yX1_firstWord cX1_firstWord 3 .int 0 0 [.ref (wa G d), .int (nI (8 * P))] g (fun r g' => r = ff (pW (g d) P) 0 8 ∧ g = g') := by
  refine ent_i (by decide) (Nat.le_of_ble_eq_true rfl) [some (.ref (wa G d)), some (.int (nI (8 * P))), none] rfl ?_
  intro X C hR
  have C : CX X G RX1 cX1_firstWord 3 0 0 := C
  refine j_iconst 0 C dX1_firstWord_0 ic_0 ?_
  refine j_is2 1 C dX1_firstWord_1 rfl (Nat.le_of_ble_eq_true rfl) ?_
  have loop : ∀ n k, k + n = 8 → ff (pW (g d) P) 0 8 = ff (pW (g d) P) k (8 - k) → J X G 3 g 2 [some (.ref (wa G d)), some (.int (nI (8 * P))), some (.int (nI k))] [] := by
    intro n
    induction n with
    | zero =>
      intro k hk hf
      obtain rfl : k = 8 := by omega
      refine j_il2 2 C dX1_firstWord_2 ?_
      refine j_bipush 3 C dX1_firstWord_3 bp_8 ?_
      refine j_icge 5 24 C dX1_firstWord_5 (by decide) (fun c5 => ?_) (fun c5 => ?_)
      · refine j_iconst 24 C dX1_firstWord_24 ic_m1 ?_
        exact hR dX1_firstWord_25 ⟨hf.symm, rfl⟩
      · exact absurd (nI_le (Nat.le_refl _) (by decide)) c5
    | succ n ih =>
      intro k hk hf
      refine j_il2 2 C dX1_firstWord_2 ?_
      refine j_bipush 3 C dX1_firstWord_3 bp_8 ?_
      refine j_icge 5 24 C dX1_firstWord_5 (by decide) (fun c5 => ?_) (fun c5 => ?_)
      · exact absurd c5 (nI_ge (a := k) (b := 8) (by omega) (by decide))
      · refine j_al0 8 C dX1_firstWord_8 ?_
        refine j_il1 9 C dX1_firstWord_9 ?_
        refine j_il2 10 C dX1_firstWord_10 ?_
        refine j_iadd 11 C dX1_firstWord_11 ?_
        refine j_top (nI (8 * P + k)) (by rw [nI_add]) ?_
        refine jl_wd 12 h4 (by omega) C dX1_firstWord_12 ?_
        refine j_ifeq 13 18 C dX1_firstWord_13 (by decide) (fun c13 => ?_) (fun c13 => ?_)
        · have e9 : ff (pW (g d) P) k (8 - k) = ff (pW (g d) P) (k + 1) (8 - (k + 1)) := by rw [show 8 - k = (8 - (k + 1)) + 1 by omega]; exact if_neg (fun q => absurd c13 (of_decide_eq_true (p := ¬ wd (g d) P k = 0) q))
          refine j_inc2 18 C dX1_firstWord_18 rfl (nI_inc _) (Nat.le_of_ble_eq_true rfl) ?_
          refine j_goto 21 2 C dX1_firstWord_21 (by decide) ?_
          exact ih (k + 1) (by omega) (hf.trans e9)
        · have e9 : ff (pW (g d) P) k (8 - k) = nI k := by rw [show 8 - k = (8 - (k + 1)) + 1 by omega]; exact if_pos (decide_eq_true c13)
          refine j_il2 16 C dX1_firstWord_16 ?_
          exact hR dX1_firstWord_17 ⟨(hf.trans e9).symm, rfl⟩
  exact loop 8 0 rfl rfl
set_option maxRecDepth 20000 in
theorem c_X1_lastWord {G : GT} {g : Mem} {d P : Nat} (h4 : d < 4) (hP : P < 6) : Cti G yX1_lastWord cX1_lastWord 3 .int 0 0 [.ref (wa G d), .int (nI (8 * P))] g (fun r g' => r = lf (pW (g d) P) 8 ∧ g = g') := by
  refine ent_i (by decide) (Nat.le_of_ble_eq_true rfl) [some (.ref (wa G d)), some (.int (nI (8 * P))), none] rfl ?_
  intro X C hR
  have C : CX X G RX1 cX1_lastWord 3 0 0 := C
  refine j_bipush 0 C dX1_lastWord_0 bp_7 ?_
  refine j_is2 2 C dX1_lastWord_2 rfl (Nat.le_of_ble_eq_true rfl) ?_
  have loop : ∀ k, k ≤ 8 → lf (pW (g d) P) 8 = lf (pW (g d) P) k → J X G 3 g 3 [some (.ref (wa G d)), some (.int (nI (8 * P))), some (.int (nI k - 1))] [] := by
    intro k
    induction k with
    | zero =>
      intro _ hf
      refine j_il2 3 C dX1_lastWord_3 ?_
      refine j_iflt 4 23 C dX1_lastWord_4 (by decide) (fun c4 => ?_) (fun c4 => ?_)
      · refine j_iconst 23 C dX1_lastWord_23 ic_m1 ?_
        exact hR dX1_lastWord_24 ⟨hf.symm, rfl⟩
      · exact absurd (by decide) c4
    | succ k ih =>
      intro hk hf
      rw [nI_pred]
      refine j_il2 3 C dX1_lastWord_3 ?_
      refine j_iflt 4 23 C dX1_lastWord_4 (by decide) (fun c4 => ?_) (fun c4 => ?_)
      · exact absurd c4 (nI_pos (by omega))
      · refine j_al0 7 C dX1_lastWord_7 ?_
        refine j_il1 8 C dX1_lastWord_8 ?_
        refine j_il2 9 C dX1_lastWord_9 ?_
        refine j_iadd 10 C dX1_lastWord_10 ?_
        refine j_top (nI (8 * P + k)) (by rw [nI_add]) ?_
        refine jl_wd 11 h4 (by omega) C dX1_lastWord_11 ?_
        refine j_ifeq 12 17 C dX1_lastWord_12 (by decide) (fun c12 => ?_) (fun c12 => ?_)
        · have e9 : lf (pW (g d) P) (k + 1) = lf (pW (g d) P) k := if_neg (fun q => absurd c12 (of_decide_eq_true (p := ¬ wd (g d) P k = 0) q))
          refine j_inc2 17 C dX1_lastWord_17 rfl (x_m1 _) (Nat.le_of_ble_eq_true rfl) ?_
          refine j_goto 20 3 C dX1_lastWord_20 (by decide) ?_
          exact ih (by omega) (hf.trans e9)
        · have e9 : lf (pW (g d) P) (k + 1) = nI k := if_pos (decide_eq_true c12)
          refine j_il2 15 C dX1_lastWord_15 ?_
          exact hR dX1_lastWord_16 ⟨(hf.trans e9).symm, rfl⟩
  exact loop 8 (Nat.le_refl 8) rfl
set_option maxRecDepth 20000 in
theorem c_X1_firstOfParity {G : GT} {g : Mem} {d P : Nat} (h4 : d < 4) (hP : P < 6) {t : Int32} : Cti G yX1_firstOfParity cX1_firstOfParity 5 .int 0 0 [.int t, .ref (wa G d), .int (nI (8 * P))] g (fun r g' => r = ff (pP (g d) P t) 0 8 ∧ g = g') := by
  refine ent_i (by decide) (Nat.le_of_ble_eq_true rfl) [some (.int t), some (.ref (wa G d)), some (.int (nI (8 * P))), none, none] rfl ?_
  intro X C hR
  have C : CX X G RX1 cX1_firstOfParity 5 0 0 := C
  refine j_iconst 0 C dX1_firstOfParity_0 ic_0 ?_
  refine j_is3 1 C dX1_firstOfParity_1 rfl (Nat.le_of_ble_eq_true rfl) ?_
  have loop : ∀ n k, k + n = 8 → ∀ o : Option Value, ff (pP (g d) P t) 0 8 = ff (pP (g d) P t) k (8 - k) → J X G 5 g 2 [some (.int (t)), some (.ref (wa G d)), some (.int (nI (8 * P))), some (.int (nI k)), o] [] := by
    intro n
    induction n with
    | zero =>
      intro k hk o hf
      obtain rfl : k = 8 := by omega
      refine j_il3 2 C dX1_firstOfParity_2 ?_
      refine j_bipush 3 C dX1_firstOfParity_3 bp_8 ?_
      refine j_icge 5 38 C dX1_firstOfParity_5 (by decide) (fun c5 => ?_) (fun c5 => ?_)
      · refine j_iconst 38 C dX1_firstOfParity_38 ic_m1 ?_
        exact hR dX1_firstOfParity_39 ⟨hf.symm, rfl⟩
      · exact absurd (nI_le (Nat.le_refl _) (by decide)) c5
    | succ n ih =>
      intro k hk o hf
      refine j_il3 2 C dX1_firstOfParity_2 ?_
      refine j_bipush 3 C dX1_firstOfParity_3 bp_8 ?_
      refine j_icge 5 38 C dX1_firstOfParity_5 (by decide) (fun c5 => ?_) (fun c5 => ?_)
      · exact absurd c5 (nI_ge (a := k) (b := 8) (by omega) (by decide))
      · refine j_al1 8 C dX1_firstOfParity_8 ?_
        refine j_il2 9 C dX1_firstOfParity_9 ?_
        refine j_il3 10 C dX1_firstOfParity_10 ?_
        refine j_iadd 11 C dX1_firstOfParity_11 ?_
        refine j_top (nI (8 * P + k)) (by rw [nI_add]) ?_
        refine jl_wd 12 h4 (by omega) C dX1_firstOfParity_12 ?_
        refine j_is4 13 C dX1_firstOfParity_13 rfl (Nat.le_of_ble_eq_true rfl) ?_
        refine j_il4 15 C dX1_firstOfParity_15 ?_
        refine j_ifeq 17 32 C dX1_firstOfParity_17 (by decide) (fun c17 => ?_) (fun c17 => ?_)
        · have e9 : ff (pP (g d) P t) k (8 - k) = ff (pP (g d) P t) (k + 1) (8 - (k + 1)) := by rw [show 8 - k = (8 - (k + 1)) + 1 by omega]; exact if_neg (by intro q; have q := of_decide_eq_true q; exact q.1 c17)
          refine j_inc3 32 C dX1_firstOfParity_32 rfl (nI_inc _) (Nat.le_of_ble_eq_true rfl) ?_
          refine j_goto 35 2 C dX1_firstOfParity_35 (by decide) ?_
          exact ih (k + 1) (by omega) _ (hf.trans e9)
        · refine j_il4 20 C dX1_firstOfParity_20 ?_
          refine j_iconst 22 C dX1_firstOfParity_22 ic_2 ?_
          refine j_irem 23 C dX1_firstOfParity_23 (by decide) ?_
          refine j_il0 24 C dX1_firstOfParity_24 ?_
          refine j_iconst 25 C dX1_firstOfParity_25 ic_2 ?_
          refine j_irem 26 C dX1_firstOfParity_26 (by decide) ?_
          refine j_icne 27 32 C dX1_firstOfParity_27 (by decide) (fun c27 => ?_) (fun c27 => ?_)
          · have e9 : ff (pP (g d) P t) k (8 - k) = ff (pP (g d) P t) (k + 1) (8 - (k + 1)) := by rw [show 8 - k = (8 - (k + 1)) + 1 by omega]; exact if_neg (by intro q; have q := of_decide_eq_true q; exact c27 q.2)
            refine j_inc3 32 C dX1_firstOfParity_32 rfl (nI_inc _) (Nat.le_of_ble_eq_true rfl) ?_
            refine j_goto 35 2 C dX1_firstOfParity_35 (by decide) ?_
            exact ih (k + 1) (by omega) _ (hf.trans e9)
          · have e9 : ff (pP (g d) P t) k (8 - k) = nI k := by rw [show 8 - k = (8 - (k + 1)) + 1 by omega]; exact if_pos (decide_eq_true ⟨c17, c27⟩)
            refine j_il3 30 C dX1_firstOfParity_30 ?_
            exact hR dX1_firstOfParity_31 ⟨(hf.trans e9).symm, rfl⟩
  exact loop 8 0 rfl _ rfl
set_option maxRecDepth 20000 in
theorem c_X1_learnedLeft {G : GT} {g : Mem} {x : Int32} : Cti G yX1_learnedLeft cX1_learnedLeft 1 .int 1 24 [.int x] g (fun r g' => r = lrn x ∧ g = g') := by
  refine ent_i (by decide) (Nat.le_of_ble_eq_true rfl) [some (.int x)] rfl ?_
  intro X C hR
  have C : CX X G RX1 cX1_learnedLeft 1 1 24 := C
  refine j_bipush 0 C dX1_learnedLeft_0 bp_10 ?_
  refine j_il0 2 C dX1_learnedLeft_2 ?_
  refine j_isub 3 C dX1_learnedLeft_3 ?_
  refine j_iconst 4 C dX1_learnedLeft_4 ic_1 ?_
  refine j_iadd 5 C dX1_learnedLeft_5 ?_
  refine j_bipush 6 C dX1_learnedLeft_6 bp_9 ?_
  refine j_mmin 8 C dX1_learnedLeft_8 lk_X1_39 tw_min ⟨(Nat.le_of_ble_eq_true rfl), (Nat.le_of_ble_eq_true rfl)⟩ ?_
  exact hR dX1_learnedLeft_11 ⟨rfl, rfl⟩
set_option maxRecDepth 20000 in
theorem c_X1_leftOf {G : GT} {g : Mem} {K : Nat} (hK : K < 7) {x : Int32} : Cti G yX1_leftOf cX1_leftOf 2 .int 2 44 [.int (nI K), .int x] g (fun r g' => r = lv K x ∧ g = g') := by
  refine ent_i (by decide) (Nat.le_of_ble_eq_true rfl) [some (.int (nI K)), some (.int x)] rfl ?_
  intro X C hR
  have C : CX X G RX1 cX1_leftOf 2 2 44 := C
  match K, hK with
  | 0, _ =>
    refine j_il0 0 C dX1_leftOf_0 ?_
    refine j_tsOut 1 69 C dX1_leftOf_1 (by decide) (by decide) ?_
    refine j_iconst 69 C dX1_leftOf_69 ic_0 ?_
    exact hR dX1_leftOf_70 ⟨rfl, rfl⟩
  | 1, _ =>
    refine j_il0 0 C dX1_leftOf_0 ?_
    refine j_tsIn 1 40 (off := 39) C dX1_leftOf_1 (by decide) (by decide) (by decide) (by decide) ?_
    refine j_il1 40 C dX1_leftOf_40 ?_
    refine j_iconst 41 C dX1_leftOf_41 ic_1 ?_
    refine j_isub 42 C dX1_leftOf_42 ?_
    exact hR dX1_leftOf_43 ⟨rfl, rfl⟩
  | 2, _ =>
    refine j_il0 0 C dX1_leftOf_0 ?_
    refine j_tsIn 1 52 (off := 51) C dX1_leftOf_1 (by decide) (by decide) (by decide) (by decide) ?_
    refine j_bipush 52 C dX1_leftOf_52 bp_10 ?_
    refine j_il1 54 C dX1_leftOf_54 ?_
    refine j_isub 55 C dX1_leftOf_55 ?_
    exact hR dX1_leftOf_56 ⟨rfl, rfl⟩
  | 3, _ =>
    refine j_il0 0 C dX1_leftOf_0 ?_
    refine j_tsIn 1 57 (off := 56) C dX1_leftOf_1 (by decide) (by decide) (by decide) (by decide) ?_
    refine j_il1 57 C dX1_leftOf_57 ?_
    refine j_si 58 C dX1_leftOf_58 ms_X1_learnedLeft lk_X1_35 (c_X1_learnedLeft) rfl rfl ⟨(Nat.le_of_ble_eq_true rfl), (Nat.le_of_ble_eq_true rfl)⟩ (Nat.le_of_ble_eq_true rfl) (fun r58 g58 hp58 => ?_)
    obtain ⟨rfl, rfl⟩ := hp58
    exact hR dX1_leftOf_61 ⟨rfl, rfl⟩
  | 4, _ =>
    refine j_il0 0 C dX1_leftOf_0 ?_
    refine j_tsIn 1 62 (off := 61) C dX1_leftOf_1 (by decide) (by decide) (by decide) (by decide) ?_
    refine j_il1 62 C dX1_leftOf_62 ?_
    refine j_si 63 C dX1_leftOf_63 ms_X1_learnedLeft lk_X1_35 (c_X1_learnedLeft) rfl rfl ⟨(Nat.le_of_ble_eq_true rfl), (Nat.le_of_ble_eq_true rfl)⟩ (Nat.le_of_ble_eq_true rfl) (fun r63 g63 hp63 => ?_)
    obtain ⟨rfl, rfl⟩ := hp63
    refine j_iconst 66 C dX1_leftOf_66 ic_2 ?_
    refine j_idiv 67 C dX1_leftOf_67 (by decide) ?_
    exact hR dX1_leftOf_68 ⟨rfl, rfl⟩
  | 5, _ =>
    refine j_il0 0 C dX1_leftOf_0 ?_
    refine j_tsIn 1 69 (off := 68) C dX1_leftOf_1 (by decide) (by decide) (by decide) (by decide) ?_
    refine j_iconst 69 C dX1_leftOf_69 ic_0 ?_
    exact hR dX1_leftOf_70 ⟨rfl, rfl⟩
  | 6, _ =>
    refine j_il0 0 C dX1_leftOf_0 ?_
    refine j_tsIn 1 44 (off := 43) C dX1_leftOf_1 (by decide) (by decide) (by decide) (by decide) ?_
    refine j_il1 44 C dX1_leftOf_44 ?_
    refine j_iconst 45 C dX1_leftOf_45 ic_2 ?_
    refine j_isub 46 C dX1_leftOf_46 ?_
    refine j_iconst 47 C dX1_leftOf_47 ic_0 ?_
    refine j_mmax 48 C dX1_leftOf_48 lk_X1_29 tw_max ⟨(Nat.le_of_ble_eq_true rfl), (Nat.le_of_ble_eq_true rfl)⟩ ?_
    exact hR dX1_leftOf_51 ⟨rfl, rfl⟩
set_option maxRecDepth 20000 in
theorem c_X1_gainBy {G : GT} {g : Mem} {K : Nat} (hK : K < 7) {x : Int32} : Cti G yX1_gainBy cX1_gainBy 2 .int 0 0 [.int (nI K), .int x] g (fun r g' => r = gn K x ∧ g = g') := by
  refine ent_i (by decide) (Nat.le_of_ble_eq_true rfl) [some (.int (nI K)), some (.int x)] rfl ?_
  intro X C hR
  have C : CX X G RX1 cX1_gainBy 2 0 0 := C
  match K, hK with
  | 0, _ =>
    refine j_il0 0 C dX1_gainBy_0 ?_
    refine j_tsOut 1 58 C dX1_gainBy_1 (by decide) (by decide) ?_
    refine j_il1 58 C dX1_gainBy_58 ?_
    exact hR dX1_gainBy_59 ⟨rfl, rfl⟩
  | 1, _ =>
    refine j_il0 0 C dX1_gainBy_0 ?_
    refine j_tsIn 1 40 (off := 39) C dX1_gainBy_1 (by decide) (by decide) (by decide) (by decide) ?_
    refine j_iconst 40 C dX1_gainBy_40 ic_1 ?_
    exact hR dX1_gainBy_41 ⟨rfl, rfl⟩
  | 2, _ =>
    refine j_il0 0 C dX1_gainBy_0 ?_
    refine j_tsIn 1 44 (off := 43) C dX1_gainBy_1 (by decide) (by decide) (by decide) (by decide) ?_
    refine j_il1 44 C dX1_gainBy_44 ?_
    refine j_iconst 45 C dX1_gainBy_45 ic_2 ?_
    refine j_idiv 46 C dX1_gainBy_46 (by decide) ?_
    exact hR dX1_gainBy_47 ⟨rfl, rfl⟩
  | 3, _ =>
    refine j_il0 0 C dX1_gainBy_0 ?_
    refine j_tsIn 1 48 (off := 47) C dX1_gainBy_1 (by decide) (by decide) (by decide) (by decide) ?_
    refine j_il1 48 C dX1_gainBy_48 ?_
    refine j_iconst 49 C dX1_gainBy_49 ic_2 ?_
    refine j_idiv 50 C dX1_gainBy_50 (by decide) ?_
    refine j_iconst 51 C dX1_gainBy_51 ic_1 ?_
    refine j_iadd 52 C dX1_gainBy_52 ?_
    exact hR dX1_gainBy_53 ⟨rfl, rfl⟩
  | 4, _ =>
    refine j_il0 0 C dX1_gainBy_0 ?_
    refine j_tsIn 1 48 (off := 47) C dX1_gainBy_1 (by decide) (by decide) (by decide) (by decide) ?_
    refine j_il1 48 C dX1_gainBy_48 ?_
    refine j_iconst 49 C dX1_gainBy_49 ic_2 ?_
    refine j_idiv 50 C dX1_gainBy_50 (by decide) ?_
    refine j_iconst 51 C dX1_gainBy_51 ic_1 ?_
    refine j_iadd 52 C dX1_gainBy_52 ?_
    exact hR dX1_gainBy_53 ⟨rfl, rfl⟩
  | 5, _ =>
    refine j_il0 0 C dX1_gainBy_0 ?_
    refine j_tsIn 1 54 (off := 53) C dX1_gainBy_1 (by decide) (by decide) (by decide) (by decide) ?_
    refine j_il1 54 C dX1_gainBy_54 ?_
    refine j_iconst 55 C dX1_gainBy_55 ic_1 ?_
    refine j_iadd 56 C dX1_gainBy_56 ?_
    exact hR dX1_gainBy_57 ⟨rfl, rfl⟩
  | 6, _ =>
    refine j_il0 0 C dX1_gainBy_0 ?_
    refine j_tsIn 1 42 (off := 41) C dX1_gainBy_1 (by decide) (by decide) (by decide) (by decide) ?_
    refine j_iconst 42 C dX1_gainBy_42 ic_2 ?_
    exact hR dX1_gainBy_43 ⟨rfl, rfl⟩
set_option maxRecDepth 20000 in
theorem c_X1_bittenPlace {G : GT} {g : Mem} {d P : Nat} (h4 : d < 4) (hP : P < 6) {K F : Nat} (hK : K < 7) (hF : F < 2 ^ 31) {t : Int32} : Cti G yX1_bittenPlace cX1_bittenPlace 6 .int 1 24 [.int (nI K), .int t, .int (nI F), .ref (wa G d), .int (nI (8 * P))] g (fun r g' => r = bt (g d) P K t F ∧ g = g') := by
  refine ent_i (by decide) (Nat.le_of_ble_eq_true rfl) [some (.int (nI K)), some (.int t), some (.int (nI F)), some (.ref (wa G d)), some (.int (nI (8 * P))), none] rfl ?_
  intro X C hR
  have C : CX X G RX1 cX1_bittenPlace 6 1 24 := C
  match K, hK with
  | 0, _ =>
    refine j_il0 0 C dX1_bittenPlace_0 ?_
    refine j_tsOut 1 129 C dX1_bittenPlace_1 (by decide) (by decide) ?_
    refine j_il1 129 C dX1_bittenPlace_129 ?_
    refine j_al3 130 C dX1_bittenPlace_130 ?_
    refine j_il4 131 C dX1_bittenPlace_131 ?_
    refine j_si 133 C dX1_bittenPlace_133 ms_X1_firstLike lk_X1_26 (c_X1_firstLike h4 hP) rfl rfl ⟨(Nat.le_of_ble_eq_true rfl), (Nat.le_of_ble_eq_true rfl)⟩ (Nat.le_of_ble_eq_true rfl) (fun r133 g133 hp133 => ?_)
    obtain ⟨rfl, rfl⟩ := hp133
    exact hR dX1_bittenPlace_136 ⟨rfl, rfl⟩
  | 1, _ =>
    refine j_il0 0 C dX1_bittenPlace_0 ?_
    refine j_tsIn 1 40 (off := 39) C dX1_bittenPlace_1 (by decide) (by decide) (by decide) (by decide) ?_
    refine j_al3 40 C dX1_bittenPlace_40 ?_
    refine j_il4 41 C dX1_bittenPlace_41 ?_
    refine j_si 43 C dX1_bittenPlace_43 ms_X1_firstWord lk_X1_15 (c_X1_firstWord h4 hP) rfl rfl ⟨(Nat.le_of_ble_eq_true rfl), (Nat.le_of_ble_eq_true rfl)⟩ (Nat.le_of_ble_eq_true rfl) (fun r43 g43 hp43 => ?_)
    obtain ⟨rfl, rfl⟩ := hp43
    exact hR dX1_bittenPlace_46 ⟨rfl, rfl⟩
  | 2, _ =>
    refine j_il0 0 C dX1_bittenPlace_0 ?_
    refine j_tsIn 1 54 (off := 53) C dX1_bittenPlace_1 (by decide) (by decide) (by decide) (by decide) ?_
    refine j_il1 54 C dX1_bittenPlace_54 ?_
    refine j_al3 55 C dX1_bittenPlace_55 ?_
    refine j_il4 56 C dX1_bittenPlace_56 ?_
    refine j_si 58 C dX1_bittenPlace_58 ms_X1_firstOfParity lk_X1_22 (c_X1_firstOfParity h4 hP) rfl rfl ⟨(Nat.le_of_ble_eq_true rfl), (Nat.le_of_ble_eq_true rfl)⟩ (Nat.le_of_ble_eq_true rfl) (fun r58 g58 hp58 => ?_)
    obtain ⟨rfl, rfl⟩ := hp58
    exact hR dX1_bittenPlace_61 ⟨rfl, rfl⟩
  | 3, _ =>
    refine j_il0 0 C dX1_bittenPlace_0 ?_
    refine j_tsIn 1 62 (off := 61) C dX1_bittenPlace_1 (by decide) (by decide) (by decide) (by decide) ?_
    refine j_il1 62 C dX1_bittenPlace_62 ?_
    refine j_al3 63 C dX1_bittenPlace_63 ?_
    refine j_il4 64 C dX1_bittenPlace_64 ?_
    refine j_si 66 C dX1_bittenPlace_66 ms_X1_firstOfParity lk_X1_22 (c_X1_firstOfParity h4 hP) rfl rfl ⟨(Nat.le_of_ble_eq_true rfl), (Nat.le_of_ble_eq_true rfl)⟩ (Nat.le_of_ble_eq_true rfl) (fun r66 g66 hp66 => ?_)
    obtain ⟨rfl, rfl⟩ := hp66
    have hs := ff8_or (p := pP (g d) P t)
    generalize hk0 : ff (pP (g d) P t) 0 8 = k0 at hs ⊢
    rcases hs with rfl | ⟨j, hj, rfl⟩
    · have hsb : sb (g d) P t = -1 := by unfold sb; rw [if_pos hk0]
      refine j_is5 69 C dX1_bittenPlace_69 rfl (Nat.le_of_ble_eq_true rfl) ?_
      refine j_il5 71 C dX1_bittenPlace_71 ?_
      refine j_iconst 73 C dX1_bittenPlace_73 ic_m1 ?_
      refine j_iceq 74 91 C dX1_bittenPlace_74 (by decide) (fun c74 => ?_) (fun c74 => ?_)
      · refine j_il0 91 C dX1_bittenPlace_91 ?_
        refine j_iconst 92 C dX1_bittenPlace_92 ic_4 ?_
        refine j_icne 93 106 C dX1_bittenPlace_93 (by decide) (fun c93 => ?_) (fun c93 => ?_)
        · refine j_iconst 106 C dX1_bittenPlace_106 ic_m1 ?_
          exact hR dX1_bittenPlace_107 ⟨by simp [bt, hsb], rfl⟩
        · exact absurd c93 (by decide)
      · exact absurd rfl c74
    · have hne : ¬ ff (pP (g d) P t) 0 8 = -1 := by rw [hk0]; exact nI_nm1 (by omega)
      have hcl : cl (ff (pP (g d) P t) 0 8) = j := by rw [hk0]; exact cl_nI (by omega)
      refine j_is5 69 C dX1_bittenPlace_69 rfl (Nat.le_of_ble_eq_true rfl) ?_
      refine j_il5 71 C dX1_bittenPlace_71 ?_
      refine j_iconst 73 C dX1_bittenPlace_73 ic_m1 ?_
      refine j_iceq 74 91 C dX1_bittenPlace_74 (by decide) (fun c74 => ?_) (fun c74 => ?_)
      · exact absurd c74 (nI_nm1 (by omega))
      · refine j_al3 77 C dX1_bittenPlace_77 ?_
        refine j_il4 78 C dX1_bittenPlace_78 ?_
        refine j_il5 80 C dX1_bittenPlace_80 ?_
        refine j_iadd 82 C dX1_bittenPlace_82 ?_
        refine j_top (nI (8 * P + j)) (by rw [nI_add]) ?_
        refine jl_wd 83 h4 (by omega) C dX1_bittenPlace_83 ?_
        refine j_il1 84 C dX1_bittenPlace_84 ?_
        refine j_iclt 85 91 C dX1_bittenPlace_85 (by decide) (fun c85 => ?_) (fun c85 => ?_)
        · have c85 : wd (g d) P j < t := c85
          have hsb : sb (g d) P t = -1 := by unfold sb; rw [if_neg hne, hcl, if_neg (Int32.not_le.mpr c85)]
          refine j_il0 91 C dX1_bittenPlace_91 ?_
          refine j_iconst 92 C dX1_bittenPlace_92 ic_4 ?_
          refine j_icne 93 106 C dX1_bittenPlace_93 (by decide) (fun c93 => ?_) (fun c93 => ?_)
          · refine j_iconst 106 C dX1_bittenPlace_106 ic_m1 ?_
            exact hR dX1_bittenPlace_107 ⟨by simp [bt, hsb], rfl⟩
          · exact absurd c93 (by decide)
        · have c85 : ¬ wd (g d) P j < t := c85
          have hsb : sb (g d) P t = nI j := by unfold sb; rw [if_neg hne, hcl, if_pos (Int32.not_lt.mp c85), hk0]
          refine j_il5 88 C dX1_bittenPlace_88 ?_
          exact hR dX1_bittenPlace_90 ⟨by simp [bt, hsb, nI_nm1 (show j < 2 ^ 31 by omega)], rfl⟩
  | 4, _ =>
    refine j_il0 0 C dX1_bittenPlace_0 ?_
    refine j_tsIn 1 62 (off := 61) C dX1_bittenPlace_1 (by decide) (by decide) (by decide) (by decide) ?_
    refine j_il1 62 C dX1_bittenPlace_62 ?_
    refine j_al3 63 C dX1_bittenPlace_63 ?_
    refine j_il4 64 C dX1_bittenPlace_64 ?_
    refine j_si 66 C dX1_bittenPlace_66 ms_X1_firstOfParity lk_X1_22 (c_X1_firstOfParity h4 hP) rfl rfl ⟨(Nat.le_of_ble_eq_true rfl), (Nat.le_of_ble_eq_true rfl)⟩ (Nat.le_of_ble_eq_true rfl) (fun r66 g66 hp66 => ?_)
    obtain ⟨rfl, rfl⟩ := hp66
    have hs := ff8_or (p := pP (g d) P t)
    generalize hk0 : ff (pP (g d) P t) 0 8 = k0 at hs ⊢
    rcases hs with rfl | ⟨j, hj, rfl⟩
    · have hsb : sb (g d) P t = -1 := by unfold sb; rw [if_pos hk0]
      refine j_is5 69 C dX1_bittenPlace_69 rfl (Nat.le_of_ble_eq_true rfl) ?_
      refine j_il5 71 C dX1_bittenPlace_71 ?_
      refine j_iconst 73 C dX1_bittenPlace_73 ic_m1 ?_
      refine j_iceq 74 91 C dX1_bittenPlace_74 (by decide) (fun c74 => ?_) (fun c74 => ?_)
      · refine j_il0 91 C dX1_bittenPlace_91 ?_
        refine j_iconst 92 C dX1_bittenPlace_92 ic_4 ?_
        refine j_icne 93 106 C dX1_bittenPlace_93 (by decide) (fun c93 => ?_) (fun c93 => ?_)
        · exact absurd (by decide) c93
        · refine j_il1 96 C dX1_bittenPlace_96 ?_
          refine j_al3 97 C dX1_bittenPlace_97 ?_
          refine j_il4 98 C dX1_bittenPlace_98 ?_
          refine j_si 100 C dX1_bittenPlace_100 ms_X1_firstLike lk_X1_26 (c_X1_firstLike h4 hP) rfl rfl ⟨(Nat.le_of_ble_eq_true rfl), (Nat.le_of_ble_eq_true rfl)⟩ (Nat.le_of_ble_eq_true rfl) (fun r100 g100 hp100 => ?_)
          obtain ⟨rfl, rfl⟩ := hp100
          refine j_goto 103 107 C dX1_bittenPlace_103 (by decide) ?_
          exact hR dX1_bittenPlace_107 ⟨by simp [bt, hsb], rfl⟩
      · exact absurd rfl c74
    · have hne : ¬ ff (pP (g d) P t) 0 8 = -1 := by rw [hk0]; exact nI_nm1 (by omega)
      have hcl : cl (ff (pP (g d) P t) 0 8) = j := by rw [hk0]; exact cl_nI (by omega)
      refine j_is5 69 C dX1_bittenPlace_69 rfl (Nat.le_of_ble_eq_true rfl) ?_
      refine j_il5 71 C dX1_bittenPlace_71 ?_
      refine j_iconst 73 C dX1_bittenPlace_73 ic_m1 ?_
      refine j_iceq 74 91 C dX1_bittenPlace_74 (by decide) (fun c74 => ?_) (fun c74 => ?_)
      · exact absurd c74 (nI_nm1 (by omega))
      · refine j_al3 77 C dX1_bittenPlace_77 ?_
        refine j_il4 78 C dX1_bittenPlace_78 ?_
        refine j_il5 80 C dX1_bittenPlace_80 ?_
        refine j_iadd 82 C dX1_bittenPlace_82 ?_
        refine j_top (nI (8 * P + j)) (by rw [nI_add]) ?_
        refine jl_wd 83 h4 (by omega) C dX1_bittenPlace_83 ?_
        refine j_il1 84 C dX1_bittenPlace_84 ?_
        refine j_iclt 85 91 C dX1_bittenPlace_85 (by decide) (fun c85 => ?_) (fun c85 => ?_)
        · have c85 : wd (g d) P j < t := c85
          have hsb : sb (g d) P t = -1 := by unfold sb; rw [if_neg hne, hcl, if_neg (Int32.not_le.mpr c85)]
          refine j_il0 91 C dX1_bittenPlace_91 ?_
          refine j_iconst 92 C dX1_bittenPlace_92 ic_4 ?_
          refine j_icne 93 106 C dX1_bittenPlace_93 (by decide) (fun c93 => ?_) (fun c93 => ?_)
          · exact absurd (by decide) c93
          · refine j_il1 96 C dX1_bittenPlace_96 ?_
            refine j_al3 97 C dX1_bittenPlace_97 ?_
            refine j_il4 98 C dX1_bittenPlace_98 ?_
            refine j_si 100 C dX1_bittenPlace_100 ms_X1_firstLike lk_X1_26 (c_X1_firstLike h4 hP) rfl rfl ⟨(Nat.le_of_ble_eq_true rfl), (Nat.le_of_ble_eq_true rfl)⟩ (Nat.le_of_ble_eq_true rfl) (fun r100 g100 hp100 => ?_)
            obtain ⟨rfl, rfl⟩ := hp100
            refine j_goto 103 107 C dX1_bittenPlace_103 (by decide) ?_
            exact hR dX1_bittenPlace_107 ⟨by simp [bt, hsb], rfl⟩
        · have c85 : ¬ wd (g d) P j < t := c85
          have hsb : sb (g d) P t = nI j := by unfold sb; rw [if_neg hne, hcl, if_pos (Int32.not_lt.mp c85), hk0]
          refine j_il5 88 C dX1_bittenPlace_88 ?_
          exact hR dX1_bittenPlace_90 ⟨by simp [bt, hsb, nI_nm1 (show j < 2 ^ 31 by omega)], rfl⟩
  | 5, _ =>
    refine j_il0 0 C dX1_bittenPlace_0 ?_
    refine j_tsIn 1 108 (off := 107) C dX1_bittenPlace_1 (by decide) (by decide) (by decide) (by decide) ?_
    refine j_al3 108 C dX1_bittenPlace_108 ?_
    refine j_il4 109 C dX1_bittenPlace_109 ?_
    refine j_il2 111 C dX1_bittenPlace_111 ?_
    refine j_bipush 112 C dX1_bittenPlace_112 bp_8 ?_
    refine j_irem 114 C dX1_bittenPlace_114 (by decide) ?_
    refine j_top (nI (F % 8)) (pk_rem hF (by decide) (by decide)) ?_
    refine j_iadd 115 C dX1_bittenPlace_115 ?_
    refine j_top (nI (8 * P + F % 8)) (by rw [nI_add]) ?_
    refine jl_wd 116 h4 (by omega) C dX1_bittenPlace_116 ?_
    refine j_ifne 117 124 C dX1_bittenPlace_117 (by decide) (fun c117 => ?_) (fun c117 => ?_)
    · have c117 : ¬ wd (g d) P (F % 8) = 0 := c117
      refine j_il2 124 C dX1_bittenPlace_124 ?_
      refine j_bipush 125 C dX1_bittenPlace_125 bp_8 ?_
      refine j_irem 127 C dX1_bittenPlace_127 (by decide) ?_
      refine j_top (nI (F % 8)) (pk_rem hF (by decide) (by decide)) ?_
      exact hR dX1_bittenPlace_128 ⟨by first | exact (if_pos c117).symm | exact (if_neg c117).symm, rfl⟩
    · have c117 : wd (g d) P (F % 8) = 0 := c117
      refine j_iconst 120 C dX1_bittenPlace_120 ic_m1 ?_
      refine j_goto 121 128 C dX1_bittenPlace_121 (by decide) ?_
      exact hR dX1_bittenPlace_128 ⟨by first | exact (if_pos c117).symm | exact (if_neg c117).symm, rfl⟩
  | 6, _ =>
    refine j_il0 0 C dX1_bittenPlace_0 ?_
    refine j_tsIn 1 47 (off := 46) C dX1_bittenPlace_1 (by decide) (by decide) (by decide) (by decide) ?_
    refine j_al3 47 C dX1_bittenPlace_47 ?_
    refine j_il4 48 C dX1_bittenPlace_48 ?_
    refine j_si 50 C dX1_bittenPlace_50 ms_X1_lastWord lk_X1_19 (c_X1_lastWord h4 hP) rfl rfl ⟨(Nat.le_of_ble_eq_true rfl), (Nat.le_of_ble_eq_true rfl)⟩ (Nat.le_of_ble_eq_true rfl) (fun r50 g50 hp50 => ?_)
    obtain ⟨rfl, rfl⟩ := hp50
    exact hR dX1_bittenPlace_53 ⟨rfl, rfl⟩
