theorem ic_3 : Int32.ofInt (3) = 3 := by decide
theorem sq_9999 : (Int16.ofInt (9999)).toInt32 = 9999 := by decide
theorem sq_12345 : (Int16.ofInt (12345)).toInt32 = 12345 := by decide
theorem upd_upd {f : Row} {k : Nat} {x y : Int32} : upd (upd f k x) k y = upd f k y := by
  funext j
  by_cases h : j = k
  · subst h; rw [upd_s, upd_s]
  · rw [upd_n h, upd_n h, upd_n h]
theorem bS_or {S : Row} {m : Nat} : bS S m = -1 ∨ ∃ j, j < 8 ∧ bS S m = nI j := bt_or
def cpr (S T : Row) (lo hi : Nat) : Row := fun i => if lo ≤ i ∧ i < hi then T i else S i
theorem cbr : ∀ k, k < 40 → cb k < 4 → chi k ≤ 93 := by decide +kernel
def anc (K : Nat) : List Nat := [[0], [1, 0], [2, 0], [3, 2, 0], [4, 3, 2, 0], [5, 0], [6, 1, 0]].getD K []
def isk (K U : Nat) : Bool := (anc K).contains U
theorem bite_at {S : Row} {M K P j : Nat} (eK : tr S M 0 = nI K) (hK : K < 7) (eP : tr S M 1 = nI P) (hP : P < 6) (hk : bS S M = nI j) (hj : j < 8) : bite S M = biteP S M P K j := by
  have e1 : cl (tr S M 0) = K := by rw [eK]; exact cl_nI (by omega)
  have e2 : cl (tr S M 1) = P := by rw [eP]; exact cl_nI (by omega)
  have e3 : cl (bS S M) = j := by rw [hk]; exact cl_nI (by omega)
  unfold bite
  rw [if_neg (by rw [hk]; exact nI_nm1 (by omega)), e1, e2, e3]
theorem cl0 {S : Row} {M : Nat} (h : S 0 = nI M) (hM : M ≤ 8) : cl (S 0) = M := by rw [h]; exact cl_nI (by omega)
set_option maxRecDepth 20000 in
theorem c_X0_addMoth {G : GT} {g : Mem} {d M : Nat} (h4 : d < 4) (hM : M < 8) (hM0 : g d 0 = nI M) {x y : Int32} : Cti G yX0_addMoth cX0_addMoth 4 .int 1 23 [.ref (dr G d), .int x, .int y] g (fun r g' => r = nI M ∧ g' = ub g d (addm (g d) M x y)) := by
  refine ent_i (by decide) (Nat.le_of_ble_eq_true rfl) [some (.ref (dr G d)), some (.int x), some (.int y), none] rfl ?_
  intro X C hR
  have C : CX X G RX0 cX0_addMoth 4 1 23 := C
  refine j_al0 0 C dX0_addMoth_0 ?_
  refine jg_X0_21 1 h4 C dX0_addMoth_1 ?_
  refine j_top (nI M) hM0 ?_
  refine j_is3 4 C dX0_addMoth_4 rfl (Nat.le_of_ble_eq_true rfl) ?_
  refine j_al0 5 C dX0_addMoth_5 ?_
  refine j_il3 6 C dX0_addMoth_6 ?_
  refine j_iconst 7 C dX0_addMoth_7 ic_0 ?_
  refine j_il1 8 C dX0_addMoth_8 ?_
  refine j_vv 9 C dX0_addMoth_9 mv_X0_setTrait lk_X0_71 (c_X0_setTrait (W := 0) h4 hM (by decide)) (rc_d h4) rfl rfl ⟨(Nat.le_of_ble_eq_true rfl), (Nat.le_of_ble_eq_true rfl)⟩ (Nat.le_of_ble_eq_true rfl) (fun g9 hp9 => ?_)
  obtain rfl := hp9
  refine j_al0 12 C dX0_addMoth_12 ?_
  refine j_il3 13 C dX0_addMoth_13 ?_
  refine j_iconst 14 C dX0_addMoth_14 ic_1 ?_
  refine j_il2 15 C dX0_addMoth_15 ?_
  refine j_vv 16 C dX0_addMoth_16 mv_X0_setTrait lk_X0_71 (c_X0_setTrait (W := 1) h4 hM (by decide)) (rc_d h4) rfl rfl ⟨(Nat.le_of_ble_eq_true rfl), (Nat.le_of_ble_eq_true rfl)⟩ (Nat.le_of_ble_eq_true rfl) (fun g16 hp16 => ?_)
  obtain rfl := hp16
  rw [ub_ub, ub_s]
  refine j_al0 19 C dX0_addMoth_19 ?_
  refine j_il3 20 C dX0_addMoth_20 ?_
  refine j_iconst 21 C dX0_addMoth_21 ic_2 ?_
  refine j_iconst 22 C dX0_addMoth_22 ic_1 ?_
  refine j_vv 23 C dX0_addMoth_23 mv_X0_setTrait lk_X0_71 (c_X0_setTrait (W := 2) h4 hM (by decide)) (rc_d h4) rfl rfl ⟨(Nat.le_of_ble_eq_true rfl), (Nat.le_of_ble_eq_true rfl)⟩ (Nat.le_of_ble_eq_true rfl) (fun g23 hp23 => ?_)
  obtain rfl := hp23
  rw [ub_ub, ub_s]
  refine j_al0 26 C dX0_addMoth_26 ?_
  refine j_il3 27 C dX0_addMoth_27 ?_
  refine j_iconst 28 C dX0_addMoth_28 ic_3 ?_
  refine j_iconst 29 C dX0_addMoth_29 ic_0 ?_
  refine j_vv 30 C dX0_addMoth_30 mv_X0_setTrait lk_X0_71 (c_X0_setTrait (W := 3) h4 hM (by decide)) (rc_d h4) rfl rfl ⟨(Nat.le_of_ble_eq_true rfl), (Nat.le_of_ble_eq_true rfl)⟩ (Nat.le_of_ble_eq_true rfl) (fun g30 hp30 => ?_)
  obtain rfl := hp30
  rw [ub_ub, ub_s]
  refine j_al0 33 C dX0_addMoth_33 ?_
  refine j_dup 34 C dX0_addMoth_34 rfl ?_
  refine jg_X0_21 35 h4 C dX0_addMoth_35 ?_
  refine j_top (nI M) (by rw [ub_s, upd_n (by omega), upd_n (by omega), upd_n (by omega), upd_n (by omega)]; exact hM0) ?_
  refine j_iconst 38 C dX0_addMoth_38 ic_1 ?_
  refine j_iadd 39 C dX0_addMoth_39 ?_
  refine j_top (nI (M + 1)) (nI_succ M).symm ?_
  refine jp_X0_21 40 h4 C dX0_addMoth_40 ?_
  rw [ub_ub, ub_s]
  refine j_il3 43 C dX0_addMoth_43 ?_
  exact hR dX0_addMoth_44 ⟨rfl, rfl⟩
set_option maxRecDepth 20000 in
theorem c_X0_swapPages {G : GT} {g : Mem} {d A B : Nat} (h4 : d < 4) (hA : A < 8) (hB : B < 8) : Ctv G yX0_swapPages cX0_swapPages 4 1 23 [.ref (dr G d), .int (nI A), .int (nI B)] g (fun g' => g' = ub g d (swp (g d) A B)) := by
  refine ent_v (by decide) (Nat.le_of_ble_eq_true rfl) [some (.ref (dr G d)), some (.int (nI A)), some (.int (nI B)), none] rfl ?_
  intro X C hR
  have C : CX X G RX0 cX0_swapPages 4 1 23 := C
  refine j_al0 0 C dX0_swapPages_0 ?_
  refine j_il1 1 C dX0_swapPages_1 ?_
  refine j_iconst 2 C dX0_swapPages_2 ic_1 ?_
  refine j_vi 3 C dX0_swapPages_3 mv_X0_trait lk_X0_74 (c_X0_trait (W := 1) h4 hA (by decide)) (rc_d h4) rfl rfl ⟨(Nat.le_of_ble_eq_true rfl), (Nat.le_of_ble_eq_true rfl)⟩ (Nat.le_of_ble_eq_true rfl) (fun r3 g3 hp3 => ?_)
  obtain ⟨rfl, rfl⟩ := hp3
  refine j_is3 6 C dX0_swapPages_6 rfl (Nat.le_of_ble_eq_true rfl) ?_
  refine j_al0 7 C dX0_swapPages_7 ?_
  refine j_il1 8 C dX0_swapPages_8 ?_
  refine j_iconst 9 C dX0_swapPages_9 ic_1 ?_
  refine j_al0 10 C dX0_swapPages_10 ?_
  refine j_il2 11 C dX0_swapPages_11 ?_
  refine j_iconst 12 C dX0_swapPages_12 ic_1 ?_
  refine j_vi 13 C dX0_swapPages_13 mv_X0_trait lk_X0_74 (c_X0_trait (W := 1) h4 hB (by decide)) (rc_d h4) rfl rfl ⟨(Nat.le_of_ble_eq_true rfl), (Nat.le_of_ble_eq_true rfl)⟩ (Nat.le_of_ble_eq_true rfl) (fun r13 g13 hp13 => ?_)
  obtain ⟨rfl, rfl⟩ := hp13
  refine j_vv 16 C dX0_swapPages_16 mv_X0_setTrait lk_X0_71 (c_X0_setTrait (W := 1) h4 hA (by decide)) (rc_d h4) rfl rfl ⟨(Nat.le_of_ble_eq_true rfl), (Nat.le_of_ble_eq_true rfl)⟩ (Nat.le_of_ble_eq_true rfl) (fun g16 hp16 => ?_)
  obtain rfl := hp16
  refine j_al0 19 C dX0_swapPages_19 ?_
  refine j_il2 20 C dX0_swapPages_20 ?_
  refine j_iconst 21 C dX0_swapPages_21 ic_1 ?_
  refine j_il3 22 C dX0_swapPages_22 ?_
  refine j_vv 23 C dX0_swapPages_23 mv_X0_setTrait lk_X0_71 (c_X0_setTrait (W := 1) h4 hB (by decide)) (rc_d h4) rfl rfl ⟨(Nat.le_of_ble_eq_true rfl), (Nat.le_of_ble_eq_true rfl)⟩ (Nat.le_of_ble_eq_true rfl) (fun g23 hp23 => ?_)
  obtain rfl := hp23
  rw [ub_ub, ub_s]
  exact hR dX0_swapPages_26 rfl
set_option maxRecDepth 20000 in
theorem c_X0_mothsOn {G : GT} {g : Mem} {d M : Nat} (h4 : d < 4) (hM : M ≤ 8) (hM0 : g d 0 = nI M) {x : Int32} : Cti G yX0_mothsOn cX0_mothsOn 4 .int 1 22 [.ref (dr G d), .int x] g (fun r g' => r = bs (fun m => decide (tr (g d) m 1 = x)) M ∧ g = g') := by
  refine ent_i (by decide) (Nat.le_of_ble_eq_true rfl) [some (.ref (dr G d)), some (.int x), none, none] rfl ?_
  intro X C hR
  have C : CX X G RX0 cX0_mothsOn 4 1 22 := C
  refine j_iconst 0 C dX0_mothsOn_0 ic_0 ?_
  refine j_is2 1 C dX0_mothsOn_1 rfl (Nat.le_of_ble_eq_true rfl) ?_
  refine j_iconst 2 C dX0_mothsOn_2 ic_0 ?_
  refine j_is3 3 C dX0_mothsOn_3 rfl (Nat.le_of_ble_eq_true rfl) ?_
  have loop : ∀ n k, k + n = M → J X G 4 g 4 [some (.ref (dr G d)), some (.int (x)), some (.int (bs (fun m => decide (tr (g d) m 1 = x)) k)), some (.int (nI k))] [] := by
    intro n
    induction n with
    | zero =>
      intro k hk
      obtain rfl : M = k := by omega
      refine j_il3 4 C dX0_mothsOn_4 ?_
      refine j_al0 5 C dX0_mothsOn_5 ?_
      refine jg_X0_21 6 h4 C dX0_mothsOn_6 ?_
      refine j_top (nI M) hM0 ?_
      refine j_icge 9 34 C dX0_mothsOn_9 (by decide) (fun c9 => ?_) (fun c9 => ?_)
      · refine j_il2 34 C dX0_mothsOn_34 ?_
        exact hR dX0_mothsOn_35 ⟨rfl, rfl⟩
      · exact absurd (nI_le (Nat.le_refl _) (by omega)) c9
    | succ n ih =>
      intro k hk
      refine j_il3 4 C dX0_mothsOn_4 ?_
      refine j_al0 5 C dX0_mothsOn_5 ?_
      refine jg_X0_21 6 h4 C dX0_mothsOn_6 ?_
      refine j_top (nI M) hM0 ?_
      refine j_icge 9 34 C dX0_mothsOn_9 (by decide) (fun c9 => ?_) (fun c9 => ?_)
      · exact absurd c9 (nI_ge (a := k) (b := M) (by omega) (by omega))
      · refine j_al0 12 C dX0_mothsOn_12 ?_
        refine j_il3 13 C dX0_mothsOn_13 ?_
        refine j_iconst 14 C dX0_mothsOn_14 ic_1 ?_
        refine j_vi 15 C dX0_mothsOn_15 mv_X0_trait lk_X0_74 (c_X0_trait (W := 1) h4 (by omega) (by decide)) (rc_d h4) rfl rfl ⟨(Nat.le_of_ble_eq_true rfl), (Nat.le_of_ble_eq_true rfl)⟩ (Nat.le_of_ble_eq_true rfl) (fun r15 g15 hp15 => ?_)
        obtain ⟨rfl, rfl⟩ := hp15
        refine j_il1 18 C dX0_mothsOn_18 ?_
        refine j_icne 19 28 C dX0_mothsOn_19 (by decide) (fun c19 => ?_) (fun c19 => ?_)
        · have e : bs (fun m => decide (tr (g d) m 1 = x)) (k + 1) = bs (fun m => decide (tr (g d) m 1 = x)) k := if_neg (fun q => c19 (of_decide_eq_true q))
          refine j_inc3 28 C dX0_mothsOn_28 rfl (nI_inc _) (Nat.le_of_ble_eq_true rfl) ?_
          refine j_goto 31 4 C dX0_mothsOn_31 (by decide) ?_
          rw [← e]
          exact ih (k + 1) (by omega)
        · have e : bs (fun m => decide (tr (g d) m 1 = x)) (k + 1) = bs (fun m => decide (tr (g d) m 1 = x)) k ||| (1 <<< (nI k &&& 31)) := if_pos (decide_eq_true c19)
          refine j_il2 22 C dX0_mothsOn_22 ?_
          refine j_iconst 23 C dX0_mothsOn_23 ic_1 ?_
          refine j_il3 24 C dX0_mothsOn_24 ?_
          refine j_ishl 25 C dX0_mothsOn_25 ?_
          refine j_ior 26 C dX0_mothsOn_26 ?_
          refine j_is2 27 C dX0_mothsOn_27 rfl (Nat.le_of_ble_eq_true rfl) ?_
          refine j_inc3 28 C dX0_mothsOn_28 rfl (nI_inc _) (Nat.le_of_ble_eq_true rfl) ?_
          refine j_goto 31 4 C dX0_mothsOn_31 (by decide) ?_
          rw [← e]
          exact ih (k + 1) (by omega)
  exact loop M 0 (Nat.zero_add M)
set_option maxRecDepth 20000 in
theorem c_X0_allFed {G : GT} {g : Mem} {d M : Nat} (h4 : d < 4) (hM : M ≤ 8) (hM0 : g d 0 = nI M) : Cti G yX0_allFed cX0_allFed 3 .int 1 22 [.ref (dr G d)] g (fun r g' => r = sI (fun m => tr (g d) m 3) M ∧ g = g') := by
  refine ent_i (by decide) (Nat.le_of_ble_eq_true rfl) [some (.ref (dr G d)), none, none] rfl ?_
  intro X C hR
  have C : CX X G RX0 cX0_allFed 3 1 22 := C
  refine j_iconst 0 C dX0_allFed_0 ic_0 ?_
  refine j_is1 1 C dX0_allFed_1 rfl (Nat.le_of_ble_eq_true rfl) ?_
  refine j_iconst 2 C dX0_allFed_2 ic_0 ?_
  refine j_is2 3 C dX0_allFed_3 rfl (Nat.le_of_ble_eq_true rfl) ?_
  have loop : ∀ n k, k + n = M → J X G 3 g 4 [some (.ref (dr G d)), some (.int (sI (fun m => tr (g d) m 3) k)), some (.int (nI k))] [] := by
    intro n
    induction n with
    | zero =>
      intro k hk
      obtain rfl : M = k := by omega
      refine j_il2 4 C dX0_allFed_4 ?_
      refine j_al0 5 C dX0_allFed_5 ?_
      refine jg_X0_21 6 h4 C dX0_allFed_6 ?_
      refine j_top (nI M) hM0 ?_
      refine j_icge 9 27 C dX0_allFed_9 (by decide) (fun c9 => ?_) (fun c9 => ?_)
      · refine j_il1 27 C dX0_allFed_27 ?_
        exact hR dX0_allFed_28 ⟨rfl, rfl⟩
      · exact absurd (nI_le (Nat.le_refl _) (by omega)) c9
    | succ n ih =>
      intro k hk
      refine j_il2 4 C dX0_allFed_4 ?_
      refine j_al0 5 C dX0_allFed_5 ?_
      refine jg_X0_21 6 h4 C dX0_allFed_6 ?_
      refine j_top (nI M) hM0 ?_
      refine j_icge 9 27 C dX0_allFed_9 (by decide) (fun c9 => ?_) (fun c9 => ?_)
      · exact absurd c9 (nI_ge (a := k) (b := M) (by omega) (by omega))
      · refine j_il1 12 C dX0_allFed_12 ?_
        refine j_al0 13 C dX0_allFed_13 ?_
        refine j_il2 14 C dX0_allFed_14 ?_
        refine j_iconst 15 C dX0_allFed_15 ic_3 ?_
        refine j_vi 16 C dX0_allFed_16 mv_X0_trait lk_X0_74 (c_X0_trait (W := 3) h4 (by omega) (by decide)) (rc_d h4) rfl rfl ⟨(Nat.le_of_ble_eq_true rfl), (Nat.le_of_ble_eq_true rfl)⟩ (Nat.le_of_ble_eq_true rfl) (fun r16 g16 hp16 => ?_)
        obtain ⟨rfl, rfl⟩ := hp16
        refine j_iadd 19 C dX0_allFed_19 ?_
        refine j_is1 20 C dX0_allFed_20 rfl (Nat.le_of_ble_eq_true rfl) ?_
        refine j_inc2 21 C dX0_allFed_21 rfl (nI_inc _) (Nat.le_of_ble_eq_true rfl) ?_
        refine j_goto 24 4 C dX0_allFed_24 (by decide) ?_
        exact ih (k + 1) (by omega)
  exact loop M 0 (Nat.zero_add M)
set_option maxRecDepth 20000 in
theorem c_X0_heldSpots {G : GT} {g : Mem} {d : Nat} (h4 : d < 4) : Cti G yX0_heldSpots cX0_heldSpots 3 .int 0 0 [.ref (dr G d)] g (fun r g' => r = nI (ct (fun i => decide (¬ g d (83 + i) = -1)) 10) ∧ g = g') := by
  refine ent_i (by decide) (Nat.le_of_ble_eq_true rfl) [some (.ref (dr G d)), none, none] rfl ?_
  intro X C hR
  have C : CX X G RX0 cX0_heldSpots 3 0 0 := C
  refine j_iconst 0 C dX0_heldSpots_0 ic_0 ?_
  refine j_is1 1 C dX0_heldSpots_1 rfl (Nat.le_of_ble_eq_true rfl) ?_
  refine j_iconst 2 C dX0_heldSpots_2 ic_0 ?_
  refine j_is2 3 C dX0_heldSpots_3 rfl (Nat.le_of_ble_eq_true rfl) ?_
  have loop : ∀ n k, k + n = 10 → J X G 3 g 4 [some (.ref (dr G d)), some (.int (nI (ct (fun i => decide (¬ g d (83 + i) = -1)) k))), some (.int (nI k))] [] := by
    intro n
    induction n with
    | zero =>
      intro k hk
      obtain rfl : k = 10 := by omega
      refine j_il2 4 C dX0_heldSpots_4 ?_
      refine j_bipush 5 C dX0_heldSpots_5 bp_10 ?_
      refine j_icge 7 29 C dX0_heldSpots_7 (by decide) (fun c7 => ?_) (fun c7 => ?_)
      · refine j_il1 29 C dX0_heldSpots_29 ?_
        exact hR dX0_heldSpots_30 ⟨rfl, rfl⟩
      · exact absurd (nI_le (Nat.le_refl _) (by decide)) c7
    | succ n ih =>
      intro k hk
      refine j_il2 4 C dX0_heldSpots_4 ?_
      refine j_bipush 5 C dX0_heldSpots_5 bp_10 ?_
      refine j_icge 7 29 C dX0_heldSpots_7 (by decide) (fun c7 => ?_) (fun c7 => ?_)
      · exact absurd c7 (nI_ge (a := k) (b := 10) (by omega) (by decide))
      · refine j_al0 10 C dX0_heldSpots_10 ?_
        refine jg_X0_18 11 h4 C dX0_heldSpots_11 ?_
        refine j_il2 14 C dX0_heldSpots_14 ?_
        refine jl_sp 15 h4 (by omega) C dX0_heldSpots_15 ?_
        refine j_iconst 16 C dX0_heldSpots_16 ic_m1 ?_
        refine j_iceq 17 23 C dX0_heldSpots_17 (by decide) (fun c17 => ?_) (fun c17 => ?_)
        · have e : ct (fun i => decide (¬ g d (83 + i) = -1)) (k + 1) = ct (fun i => decide (¬ g d (83 + i) = -1)) k := if_neg (fun q => absurd c17 (of_decide_eq_true (p := ¬ g d (83 + k) = -1) q))
          refine j_inc2 23 C dX0_heldSpots_23 rfl (nI_inc _) (Nat.le_of_ble_eq_true rfl) ?_
          refine j_goto 26 4 C dX0_heldSpots_26 (by decide) ?_
          rw [← e]
          exact ih (k + 1) (by omega)
        · have e : ct (fun i => decide (¬ g d (83 + i) = -1)) (k + 1) = ct (fun i => decide (¬ g d (83 + i) = -1)) k + 1 := if_pos (decide_eq_true c17)
          refine j_inc1 20 C dX0_heldSpots_20 rfl (nI_inc _) (Nat.le_of_ble_eq_true rfl) ?_
          refine j_inc2 23 C dX0_heldSpots_23 rfl (nI_inc _) (Nat.le_of_ble_eq_true rfl) ?_
          refine j_goto 26 4 C dX0_heldSpots_26 (by decide) ?_
          rw [← e]
          exact ih (k + 1) (by omega)
  exact loop 10 0 rfl
set_option maxRecDepth 20000 in
theorem c_X0_bittenPlace {G : GT} {g : Mem} {d M : Nat} (h4 : d < 4) (hM : M < 8) (hS : SI (g d)) : Cti G yX0_bittenPlace cX0_bittenPlace 2 .int 2 49 [.ref (dr G d), .int (nI M)] g (fun r g' => r = bS (g d) M ∧ g = g') := by
  refine ent_i (by decide) (Nat.le_of_ble_eq_true rfl) [some (.ref (dr G d)), some (.int (nI M))] rfl ?_
  intro X C hR
  have C : CX X G RX0 cX0_bittenPlace 2 2 49 := C
  obtain ⟨⟨K, hK, eK⟩, ⟨P, hP, eP⟩, -, F, hF, eF⟩ := hS.2.2.1 M hM
  refine j_al0 0 C dX0_bittenPlace_0 ?_
  refine j_il1 1 C dX0_bittenPlace_1 ?_
  refine j_iconst 2 C dX0_bittenPlace_2 ic_0 ?_
  refine j_vi 3 C dX0_bittenPlace_3 mv_X0_trait lk_X0_74 (c_X0_trait (W := 0) h4 hM (by decide)) (rc_d h4) rfl rfl ⟨(Nat.le_of_ble_eq_true rfl), (Nat.le_of_ble_eq_true rfl)⟩ (Nat.le_of_ble_eq_true rfl) (fun r3 g3 hp3 => ?_)
  obtain ⟨hr3, rfl⟩ := hp3
  rw [eK] at hr3
  subst hr3
  refine j_al0 6 C dX0_bittenPlace_6 ?_
  refine j_il1 7 C dX0_bittenPlace_7 ?_
  refine j_iconst 8 C dX0_bittenPlace_8 ic_2 ?_
  refine j_vi 9 C dX0_bittenPlace_9 mv_X0_trait lk_X0_74 (c_X0_trait (W := 2) h4 hM (by decide)) (rc_d h4) rfl rfl ⟨(Nat.le_of_ble_eq_true rfl), (Nat.le_of_ble_eq_true rfl)⟩ (Nat.le_of_ble_eq_true rfl) (fun r9 g9 hp9 => ?_)
  obtain ⟨rfl, rfl⟩ := hp9
  refine j_al0 12 C dX0_bittenPlace_12 ?_
  refine j_il1 13 C dX0_bittenPlace_13 ?_
  refine j_iconst 14 C dX0_bittenPlace_14 ic_3 ?_
  refine j_vi 15 C dX0_bittenPlace_15 mv_X0_trait lk_X0_74 (c_X0_trait (W := 3) h4 hM (by decide)) (rc_d h4) rfl rfl ⟨(Nat.le_of_ble_eq_true rfl), (Nat.le_of_ble_eq_true rfl)⟩ (Nat.le_of_ble_eq_true rfl) (fun r15 g15 hp15 => ?_)
  obtain ⟨hr15, rfl⟩ := hp15
  rw [eF] at hr15
  subst hr15
  refine j_al0 18 C dX0_bittenPlace_18 ?_
  refine jg_X0_9 19 h4 C dX0_bittenPlace_19 ?_
  refine j_al0 22 C dX0_bittenPlace_22 ?_
  refine j_il1 23 C dX0_bittenPlace_23 ?_
  refine j_iconst 24 C dX0_bittenPlace_24 ic_1 ?_
  refine j_vi 25 C dX0_bittenPlace_25 mv_X0_trait lk_X0_74 (c_X0_trait (W := 1) h4 hM (by decide)) (rc_d h4) rfl rfl ⟨(Nat.le_of_ble_eq_true rfl), (Nat.le_of_ble_eq_true rfl)⟩ (Nat.le_of_ble_eq_true rfl) (fun r25 g25 hp25 => ?_)
  obtain ⟨hr25, rfl⟩ := hp25
  rw [eP] at hr25
  subst hr25
  refine j_bipush 28 C dX0_bittenPlace_28 bp_8 ?_
  refine j_imul 30 C dX0_bittenPlace_30 ?_
  refine j_top (nI (8 * P)) (ix_b P) ?_
  refine j_si 31 C dX0_bittenPlace_31 ms_X1_bittenPlace lk_X0_80 (c_X1_bittenPlace h4 hP hK (by omega)) rfl rfl ⟨(Nat.le_of_ble_eq_true rfl), (Nat.le_of_ble_eq_true rfl)⟩ (Nat.le_of_ble_eq_true rfl) (fun r31 g31 hp31 => ?_)
  obtain ⟨rfl, rfl⟩ := hp31
  exact hR dX0_bittenPlace_34 ⟨by unfold bS; rw [eK, eP, eF, cl_nI (by omega), cl_nI (by omega), cl_nI (by omega)], rfl⟩
set_option maxRecDepth 20000 in
theorem c_X0_idleMoths {G : GT} {g : Mem} {d M : Nat} (h4 : d < 4) (hM : M ≤ 8) (hM0 : g d 0 = nI M) (hS : SI (g d)) : Cti G yX0_idleMoths cX0_idleMoths 3 .int 3 70 [.ref (dr G d)] g (fun r g' => r = bs (fun m => decide (bS (g d) m = -1)) M ∧ g = g') := by
  refine ent_i (by decide) (Nat.le_of_ble_eq_true rfl) [some (.ref (dr G d)), none, none] rfl ?_
  intro X C hR
  have C : CX X G RX0 cX0_idleMoths 3 3 70 := C
  refine j_iconst 0 C dX0_idleMoths_0 ic_0 ?_
  refine j_is1 1 C dX0_idleMoths_1 rfl (Nat.le_of_ble_eq_true rfl) ?_
  refine j_iconst 2 C dX0_idleMoths_2 ic_0 ?_
  refine j_is2 3 C dX0_idleMoths_3 rfl (Nat.le_of_ble_eq_true rfl) ?_
  have loop : ∀ n k, k + n = M → J X G 3 g 4 [some (.ref (dr G d)), some (.int (bs (fun m => decide (bS (g d) m = -1)) k)), some (.int (nI k))] [] := by
    intro n
    induction n with
    | zero =>
      intro k hk
      obtain rfl : M = k := by omega
      refine j_il2 4 C dX0_idleMoths_4 ?_
      refine j_al0 5 C dX0_idleMoths_5 ?_
      refine jg_X0_21 6 h4 C dX0_idleMoths_6 ?_
      refine j_top (nI M) hM0 ?_
      refine j_icge 9 33 C dX0_idleMoths_9 (by decide) (fun c9 => ?_) (fun c9 => ?_)
      · refine j_il1 33 C dX0_idleMoths_33 ?_
        exact hR dX0_idleMoths_34 ⟨rfl, rfl⟩
      · exact absurd (nI_le (Nat.le_refl _) (by omega)) c9
    | succ n ih =>
      intro k hk
      refine j_il2 4 C dX0_idleMoths_4 ?_
      refine j_al0 5 C dX0_idleMoths_5 ?_
      refine jg_X0_21 6 h4 C dX0_idleMoths_6 ?_
      refine j_top (nI M) hM0 ?_
      refine j_icge 9 33 C dX0_idleMoths_9 (by decide) (fun c9 => ?_) (fun c9 => ?_)
      · exact absurd c9 (nI_ge (a := k) (b := M) (by omega) (by omega))
      · refine j_al0 12 C dX0_idleMoths_12 ?_
        refine j_il2 13 C dX0_idleMoths_13 ?_
        refine j_vi 14 C dX0_idleMoths_14 mv_X0_bittenPlace lk_X0_77 (c_X0_bittenPlace h4 (by omega) hS) (rc_d h4) rfl rfl ⟨(Nat.le_of_ble_eq_true rfl), (Nat.le_of_ble_eq_true rfl)⟩ (Nat.le_of_ble_eq_true rfl) (fun r14 g14 hp14 => ?_)
        obtain ⟨rfl, rfl⟩ := hp14
        refine j_iconst 17 C dX0_idleMoths_17 ic_m1 ?_
        refine j_icne 18 27 C dX0_idleMoths_18 (by decide) (fun c18 => ?_) (fun c18 => ?_)
        · have e : bs (fun m => decide (bS (g d) m = -1)) (k + 1) = bs (fun m => decide (bS (g d) m = -1)) k := if_neg (fun q => c18 (of_decide_eq_true q))
          refine j_inc2 27 C dX0_idleMoths_27 rfl (nI_inc _) (Nat.le_of_ble_eq_true rfl) ?_
          refine j_goto 30 4 C dX0_idleMoths_30 (by decide) ?_
          rw [← e]
          exact ih (k + 1) (by omega)
        · have e : bs (fun m => decide (bS (g d) m = -1)) (k + 1) = bs (fun m => decide (bS (g d) m = -1)) k ||| (1 <<< (nI k &&& 31)) := if_pos (decide_eq_true c18)
          refine j_il1 21 C dX0_idleMoths_21 ?_
          refine j_iconst 22 C dX0_idleMoths_22 ic_1 ?_
          refine j_il2 23 C dX0_idleMoths_23 ?_
          refine j_ishl 24 C dX0_idleMoths_24 ?_
          refine j_ior 25 C dX0_idleMoths_25 ?_
          refine j_is1 26 C dX0_idleMoths_26 rfl (Nat.le_of_ble_eq_true rfl) ?_
          refine j_inc2 27 C dX0_idleMoths_27 rfl (nI_inc _) (Nat.le_of_ble_eq_true rfl) ?_
          refine j_goto 30 4 C dX0_idleMoths_30 (by decide) ?_
          rw [← e]
          exact ih (k + 1) (by omega)
  exact loop M 0 (Nat.zero_add M)
set_option maxRecDepth 20000 in
theorem c_X0_bite {G : GT} {g : Mem} {d M : Nat} (h4 : d < 4) (hM : M < 8) (hS : SI (g d)) : Ctv G yX0_bite cX0_bite 7 3 70 [.ref (dr G d), .int (nI M)] g (fun g' => g' = ub g d (bite (g d) M)) := by
  refine ent_v (by decide) (Nat.le_of_ble_eq_true rfl) [some (.ref (dr G d)), some (.int (nI M)), none, none, none, none, none] rfl ?_
  intro X C hR
  have C : CX X G RX0 cX0_bite 7 3 70 := C
  obtain ⟨⟨K, hK, eK⟩, ⟨P, hP, eP⟩, -, F, hF, eF⟩ := hS.2.2.1 M hM
  refine j_al0 0 C dX0_bite_0 ?_
  refine j_il1 1 C dX0_bite_1 ?_
  refine j_vi 2 C dX0_bite_2 mv_X0_bittenPlace lk_X0_77 (c_X0_bittenPlace h4 hM hS) (rc_d h4) rfl rfl ⟨(Nat.le_of_ble_eq_true rfl), (Nat.le_of_ble_eq_true rfl)⟩ (Nat.le_of_ble_eq_true rfl) (fun r2 g2 hp2 => ?_)
  obtain ⟨rfl, rfl⟩ := hp2
  have hb := bS_or (S := g d) (m := M)
  generalize hk0 : bS (g d) M = k0 at hb ⊢
  rcases hb with rfl | ⟨j, hj, rfl⟩
  · refine j_is2 5 C dX0_bite_5 rfl (Nat.le_of_ble_eq_true rfl) ?_
    refine j_il2 6 C dX0_bite_6 ?_
    refine j_iconst 7 C dX0_bite_7 ic_m1 ?_
    refine j_icne 8 12 C dX0_bite_8 (by decide) (fun c8 => ?_) (fun c8 => ?_)
    · exact absurd rfl c8
    · exact hR dX0_bite_11 (by unfold bite; rw [if_pos hk0, ub_id])
  · refine j_is2 5 C dX0_bite_5 rfl (Nat.le_of_ble_eq_true rfl) ?_
    refine j_il2 6 C dX0_bite_6 ?_
    refine j_iconst 7 C dX0_bite_7 ic_m1 ?_
    refine j_icne 8 12 C dX0_bite_8 (by decide) (fun c8 => ?_) (fun c8 => ?_)
    · refine j_al0 12 C dX0_bite_12 ?_
      refine j_il1 13 C dX0_bite_13 ?_
      refine j_iconst 14 C dX0_bite_14 ic_0 ?_
      refine j_vi 15 C dX0_bite_15 mv_X0_trait lk_X0_74 (c_X0_trait (W := 0) h4 hM (by decide)) (rc_d h4) rfl rfl ⟨(Nat.le_of_ble_eq_true rfl), (Nat.le_of_ble_eq_true rfl)⟩ (Nat.le_of_ble_eq_true rfl) (fun r15 g15 hp15 => ?_)
      obtain ⟨hr15, rfl⟩ := hp15
      rw [eK] at hr15
      subst hr15
      refine j_is3 18 C dX0_bite_18 rfl (Nat.le_of_ble_eq_true rfl) ?_
      refine j_al0 19 C dX0_bite_19 ?_
      refine j_il1 20 C dX0_bite_20 ?_
      refine j_iconst 21 C dX0_bite_21 ic_1 ?_
      refine j_vi 22 C dX0_bite_22 mv_X0_trait lk_X0_74 (c_X0_trait (W := 1) h4 hM (by decide)) (rc_d h4) rfl rfl ⟨(Nat.le_of_ble_eq_true rfl), (Nat.le_of_ble_eq_true rfl)⟩ (Nat.le_of_ble_eq_true rfl) (fun r22 g22 hp22 => ?_)
      obtain ⟨hr22, rfl⟩ := hp22
      rw [eP] at hr22
      subst hr22
      refine j_is4 25 C dX0_bite_25 rfl (Nat.le_of_ble_eq_true rfl) ?_
      refine j_al0 27 C dX0_bite_27 ?_
      refine j_il4 28 C dX0_bite_28 ?_
      refine j_il2 30 C dX0_bite_30 ?_
      refine j_vi 31 C dX0_bite_31 mv_X0_wordAt lk_X0_41 (c_X0_wordAt h4 hP hj) (rc_d h4) rfl rfl ⟨(Nat.le_of_ble_eq_true rfl), (Nat.le_of_ble_eq_true rfl)⟩ (Nat.le_of_ble_eq_true rfl) (fun r31 g31 hp31 => ?_)
      obtain ⟨rfl, rfl⟩ := hp31
      refine j_is5 34 C dX0_bite_34 rfl (Nat.le_of_ble_eq_true rfl) ?_
      refine j_al0 36 C dX0_bite_36 ?_
      refine j_il4 37 C dX0_bite_37 ?_
      refine j_il2 39 C dX0_bite_39 ?_
      refine j_il3 40 C dX0_bite_40 ?_
      refine j_il5 41 C dX0_bite_41 ?_
      refine j_si 43 C dX0_bite_43 ms_X1_leftOf lk_X0_85 (c_X1_leftOf hK) rfl rfl ⟨(Nat.le_of_ble_eq_true rfl), (Nat.le_of_ble_eq_true rfl)⟩ (Nat.le_of_ble_eq_true rfl) (fun r43 g43 hp43 => ?_)
      obtain ⟨rfl, rfl⟩ := hp43
      refine j_vv 46 C dX0_bite_46 mv_X0_setWord lk_X0_37 (c_X0_setWord h4 hP hj) (rc_d h4) rfl rfl ⟨(Nat.le_of_ble_eq_true rfl), (Nat.le_of_ble_eq_true rfl)⟩ (Nat.le_of_ble_eq_true rfl) (fun g46 hp46 => ?_)
      obtain rfl := hp46
      refine j_al0 49 C dX0_bite_49 ?_
      refine j_il1 50 C dX0_bite_50 ?_
      refine j_iconst 51 C dX0_bite_51 ic_3 ?_
      refine j_vi 52 C dX0_bite_52 mv_X0_trait lk_X0_74 (c_X0_trait (W := 3) h4 hM (by decide)) (rc_d h4) rfl rfl ⟨(Nat.le_of_ble_eq_true rfl), (Nat.le_of_ble_eq_true rfl)⟩ (Nat.le_of_ble_eq_true rfl) (fun r52 g52 hp52 => ?_)
      obtain ⟨hr52, rfl⟩ := hp52
      have hr52 : r52 = tr (g d) M 3 := by rw [hr52, ub_s]; unfold tr; exact upd_n (by omega)
      subst hr52
      refine j_il3 55 C dX0_bite_55 ?_
      refine j_il5 56 C dX0_bite_56 ?_
      refine j_si 58 C dX0_bite_58 ms_X1_gainBy lk_X0_88 (c_X1_gainBy hK) rfl rfl ⟨(Nat.le_of_ble_eq_true rfl), (Nat.le_of_ble_eq_true rfl)⟩ (Nat.le_of_ble_eq_true rfl) (fun r58 g58 hp58 => ?_)
      obtain ⟨rfl, rfl⟩ := hp58
      refine j_iadd 61 C dX0_bite_61 ?_
      refine j_is6 62 C dX0_bite_62 rfl (Nat.le_of_ble_eq_true rfl) ?_
      refine j_al0 64 C dX0_bite_64 ?_
      refine j_il1 65 C dX0_bite_65 ?_
      refine j_iconst 66 C dX0_bite_66 ic_3 ?_
      refine j_il6 67 C dX0_bite_67 ?_
      refine j_sipush 69 C dX0_bite_69 sq_9999 ?_
      refine j_mmin 72 C dX0_bite_72 lk_X0_91 tw_min ⟨(Nat.le_of_ble_eq_true rfl), (Nat.le_of_ble_eq_true rfl)⟩ ?_
      refine j_vv 75 C dX0_bite_75 mv_X0_setTrait lk_X0_71 (c_X0_setTrait (W := 3) h4 hM (by decide)) (rc_d h4) rfl rfl ⟨(Nat.le_of_ble_eq_true rfl), (Nat.le_of_ble_eq_true rfl)⟩ (Nat.le_of_ble_eq_true rfl) (fun g75 hp75 => ?_)
      obtain rfl := hp75
      rw [ub_ub, ub_s]
      exact hR dX0_bite_78 (by rw [bite_at eK hK eP hP hk0 hj]; rfl)
    · exact absurd c8 (nI_nm1 (by omega))
set_option maxRecDepth 20000 in
theorem c_X0_passNights {G : GT} {g : Mem} {d N O T : Nat} (h4 : d < 4) (hO : O < 256) (hS : SI (g d)) (hT : g d 1 = nI T) (hN : T + N ≤ 99999) : Ctv G yX0_passNights cX0_passNights 5 4 96 [.ref (dr G d), .int (nI N), .int (nI O)] g (fun g' => g' = ub g d (ngs (g d) O N)) := by
  refine ent_v (by decide) (Nat.le_of_ble_eq_true rfl) [some (.ref (dr G d)), some (.int (nI N)), some (.int (nI O)), none, none] rfl ?_
  intro X C hR
  have C : CX X G RX0 cX0_passNights 5 4 96 := C
  obtain ⟨hM, hM0⟩ := SI_cl0 hS
  generalize cl (g d 0) = M at hM hM0
  have inner : ∀ (k : Nat) (S : Row), SI S → S 0 = nI M → (J X G 5 (ub g d (nm S O M)) 40 [some (.ref (dr G d)), some (.int (nI N)), some (.int (nI O)), some (.int (nI k)), some (.int (nI M))] [] ) → ∀ n j, j + n = M → J X G 5 (ub g d (nm S O j)) 10 [some (.ref (dr G d)), some (.int (nI N)), some (.int (nI O)), some (.int (nI k)), some (.int (nI j))] [] := by
    intro k S hSS hS0 hx n
    induction n with
    | zero =>
      intro j hj
      obtain rfl : M = j := by omega
      refine j_il4 10 C dX0_passNights_10 ?_
      refine j_al0 12 C dX0_passNights_12 ?_
      refine jg_X0_21 13 h4 C dX0_passNights_13 ?_
      refine j_top (nI M) (by rw [ub_s, nm_lo (by omega)]; exact hS0) ?_
      refine j_icge 16 40 C dX0_passNights_16 (by decide) (fun c16 => ?_) (fun c16 => ?_)
      · exact hx
      · exact absurd (nI_le (Nat.le_refl _) (by omega)) c16
    | succ n ih =>
      intro j hj
      refine j_il4 10 C dX0_passNights_10 ?_
      refine j_al0 12 C dX0_passNights_12 ?_
      refine jg_X0_21 13 h4 C dX0_passNights_13 ?_
      refine j_top (nI M) (by rw [ub_s, nm_lo (by omega)]; exact hS0) ?_
      refine j_icge 16 40 C dX0_passNights_16 (by decide) (fun c16 => ?_) (fun c16 => ?_)
      · exact absurd c16 (nI_ge (a := j) (b := M) (by omega) (by omega))
      · refine j_il2 19 C dX0_passNights_19 ?_
        refine j_iconst 20 C dX0_passNights_20 ic_1 ?_
        refine j_il4 21 C dX0_passNights_21 ?_
        refine j_ishl 23 C dX0_passNights_23 ?_
        refine j_iand 24 C dX0_passNights_24 ?_
        refine j_ifne 25 34 C dX0_passNights_25 (by decide) (fun c25 => ?_) (fun c25 => ?_)
        · have e : nm S O (j + 1) = nm S O j := if_pos (by cases q : O.testBit j with | true => rfl | false => exact absurd ((no_bit O hO j (by omega)).mpr q) c25)
          refine j_inc4 34 C dX0_passNights_34 rfl (nI_inc _) (Nat.le_of_ble_eq_true rfl) ?_
          refine j_goto 37 10 C dX0_passNights_37 (by decide) ?_
          rw [← e]
          exact ih (j + 1) (by omega)
        · have e : nm S O (j + 1) = bite (nm S O j) j := if_neg (by rw [(no_bit O hO j (by omega)).mp c25]; decide)
          refine j_al0 28 C dX0_passNights_28 ?_
          refine j_il4 29 C dX0_passNights_29 ?_
          refine j_vv 31 C dX0_passNights_31 mv_X0_bite lk_X0_96 (c_X0_bite h4 (by omega) (by rw [ub_s]; exact nm_SI hSS (by omega))) (rc_d h4) rfl rfl ⟨(Nat.le_of_ble_eq_true rfl), (Nat.le_of_ble_eq_true rfl)⟩ (Nat.le_of_ble_eq_true rfl) (fun g31 hp31 => ?_)
          obtain rfl := hp31
          rw [ub_ub, ub_s]
          refine j_inc4 34 C dX0_passNights_34 rfl (nI_inc _) (Nat.le_of_ble_eq_true rfl) ?_
          refine j_goto 37 10 C dX0_passNights_37 (by decide) ?_
          rw [← e]
          exact ih (j + 1) (by omega)
  have loop : ∀ n k, k + n = N → ∀ o : Option Value, J X G 5 (ub g d (ngs (g d) O k)) 2 [some (.ref (dr G d)), some (.int (nI N)), some (.int (nI O)), some (.int (nI k)), o] [] := by
    intro n
    induction n with
    | zero =>
      intro k hk o
      obtain rfl : N = k := by omega
      refine j_il3 2 C dX0_passNights_2 ?_
      refine j_il1 3 C dX0_passNights_3 ?_
      refine j_icge 4 61 C dX0_passNights_4 (by decide) (fun c4 => ?_) (fun c4 => ?_)
      · exact hR dX0_passNights_61 rfl
      · exact absurd (nI_le (Nat.le_refl _) (by omega)) c4
    | succ n ih =>
      intro k hk o
      refine j_il3 2 C dX0_passNights_2 ?_
      refine j_il1 3 C dX0_passNights_3 ?_
      refine j_icge 4 61 C dX0_passNights_4 (by decide) (fun c4 => ?_) (fun c4 => ?_)
      · exact absurd c4 (nI_ge (a := k) (b := N) (by omega) (by omega))
      · have hSk : SI (ngs (g d) O k) := ngs_SI hS
        have h0k : ngs (g d) O k 0 = nI M := by rw [ngs_0]; exact hM0
        have h1k : ngs (g d) O k 1 = nI (T + k) := ngs_1 hT
        refine j_iconst 7 C dX0_passNights_7 ic_0 ?_
        refine j_is4 8 C dX0_passNights_8 rfl (Nat.le_of_ble_eq_true rfl) ?_
        refine inner k (ngs (g d) O k) hSk h0k ?_ M 0 (Nat.zero_add M)
        have e : upd (nm (ngs (g d) O k) O M) 1 (nI (T + k + 1)) = ngs (g d) O (k + 1) := by show _ = ng _ O; unfold ng; rw [cl0 h0k hM, nm_lo (by omega), h1k]; congr 1; exact nI_succ _
        refine j_al0 40 C dX0_passNights_40 ?_
        refine j_al0 41 C dX0_passNights_41 ?_
        refine jg_X0_25 42 h4 C dX0_passNights_42 ?_
        refine j_top (nI (T + k)) (by rw [ub_s, nm_lo (by omega)]; exact h1k) ?_
        refine j_iconst 45 C dX0_passNights_45 ic_1 ?_
        refine j_iadd 46 C dX0_passNights_46 ?_
        refine j_top (nI (T + k + 1)) (nI_succ _).symm ?_
        refine j_ldc 47 C dX0_passNights_47 cs_X0_100 ?_
        refine j_mmin 49 C dX0_passNights_49 lk_X0_91 tw_min ⟨(Nat.le_of_ble_eq_true rfl), (Nat.le_of_ble_eq_true rfl)⟩ ?_
        refine j_top (nI (T + k + 1)) (if_neg (nI_nlt (a := 99999) (b := T + k + 1) (by omega) (by omega))) ?_
        refine jp_X0_25 52 h4 C dX0_passNights_52 ?_
        rw [ub_ub, ub_s]
        rw [e]
        refine j_inc3 55 C dX0_passNights_55 rfl (nI_inc _) (Nat.le_of_ble_eq_true rfl) ?_
        refine j_goto 58 2 C dX0_passNights_58 (by decide) ?_
        exact ih (k + 1) (by omega) _
  refine j_iconst 0 C dX0_passNights_0 ic_0 ?_
  refine j_is3 1 C dX0_passNights_1 rfl (Nat.le_of_ble_eq_true rfl) ?_
  have h9 := loop N 0 (Nat.zero_add N) none
  rw [show ub g d (ngs (g d) O 0) = g from ub_id] at h9
  exact h9
set_option maxRecDepth 20000 in
theorem c_X0_draw {G : GT} {g : Mem} {d : Nat} (h4 : d < 4) : Cti G yX0_draw cX0_draw 1 .int 0 0 [.ref (dr G d)] g (fun r g' => r = nI (dn (dz (g d 2))) ∧ g' = ub g d (upd (g d) 2 (dz (g d 2)))) := by
  refine ent_i (by decide) (Nat.le_of_ble_eq_true rfl) [some (.ref (dr G d))] rfl ?_
  intro X C hR
  have C : CX X G RX0 cX0_draw 1 0 0 := C
  refine j_al0 0 C dX0_draw_0 ?_
  refine j_al0 1 C dX0_draw_1 ?_
  refine jg_X0_28 2 h4 C dX0_draw_2 ?_
  refine j_ldc 5 C dX0_draw_5 cs_X0_101 ?_
  refine j_imul 7 C dX0_draw_7 ?_
  refine j_sipush 8 C dX0_draw_8 sq_12345 ?_
  refine j_iadd 11 C dX0_draw_11 ?_
  refine jp_X0_28 12 h4 C dX0_draw_12 ?_
  refine j_al0 15 C dX0_draw_15 ?_
  refine jg_X0_28 16 h4 C dX0_draw_16 ?_
  refine j_top (dz (g d 2)) (by rw [ub_s, upd_s]; rfl) ?_
  refine j_bipush 19 C dX0_draw_19 bp_8 ?_
  refine j_iushr 21 C dX0_draw_21 rfl ?_
  exact hR dX0_draw_22 ⟨ush_8 _, rfl⟩
set_option maxRecDepth 20000 in
theorem c_X0_leaveLightOn {G : GT} {g : Mem} {d M : Nat} (h4 : d < 4) (hM : M ≤ 8) (hM0 : g d 0 = nI M) : Ctv G yX0_leaveLightOn cX0_leaveLightOn 3 1 23 [.ref (dr G d)] g (fun g' => g' = ub g d (lgt (g d))) := by
  refine ent_v (by decide) (Nat.le_of_ble_eq_true rfl) [some (.ref (dr G d)), none, none] rfl ?_
  intro X C hR
  have C : CX X G RX0 cX0_leaveLightOn 3 1 23 := C
  obtain ⟨z1, hz1⟩ : ∃ z, z = dz (g d 2) := ⟨_, rfl⟩
  obtain ⟨z2, hz2⟩ : ∃ z, z = dz z1 := ⟨_, rfl⟩
  have l1 := dn_lt z1
  have l2 := dn_lt z2
  have hl : lgt (g d) = if dn z1 % 8 < M then upd (upd (g d) 2 z2) (51 + (4 * (dn z1 % 8) + 1)) (nI (dn z2 % 6)) else upd (g d) 2 z2 := by subst hz2; subst hz1; unfold lgt; simp only [cl0 hM0 hM]
  refine j_al0 0 C dX0_leaveLightOn_0 ?_
  refine j_vi 1 C dX0_leaveLightOn_1 mv_X0_draw lk_X0_102 (c_X0_draw h4) (rc_d h4) rfl rfl ⟨(Nat.le_of_ble_eq_true rfl), (Nat.le_of_ble_eq_true rfl)⟩ (Nat.le_of_ble_eq_true rfl) (fun r1 g1 hp1 => ?_)
  obtain ⟨hr1, rfl⟩ := hp1
  rw [← hz1] at hr1 ⊢
  subst hr1
  refine j_bipush 4 C dX0_leaveLightOn_4 bp_8 ?_
  refine j_irem 6 C dX0_leaveLightOn_6 (by decide) ?_
  refine j_top (nI (dn z1 % 8)) (pk_rem (by omega) (by decide) (by decide)) ?_
  refine j_is1 7 C dX0_leaveLightOn_7 rfl (Nat.le_of_ble_eq_true rfl) ?_
  refine j_al0 8 C dX0_leaveLightOn_8 ?_
  refine j_vi 9 C dX0_leaveLightOn_9 mv_X0_draw lk_X0_102 (c_X0_draw h4) (rc_d h4) rfl rfl ⟨(Nat.le_of_ble_eq_true rfl), (Nat.le_of_ble_eq_true rfl)⟩ (Nat.le_of_ble_eq_true rfl) (fun r9 g9 hp9 => ?_)
  obtain ⟨hr9, rfl⟩ := hp9
  rw [ub_s, upd_s, ← hz2] at hr9
  rw [ub_ub, ub_s, upd_s, upd_upd, ← hz2]
  subst hr9
  refine j_bipush 12 C dX0_leaveLightOn_12 bp_6 ?_
  refine j_irem 14 C dX0_leaveLightOn_14 (by decide) ?_
  refine j_top (nI (dn z2 % 6)) (pk_rem (by omega) (by decide) (by decide)) ?_
  refine j_is2 15 C dX0_leaveLightOn_15 rfl (Nat.le_of_ble_eq_true rfl) ?_
  refine j_il1 16 C dX0_leaveLightOn_16 ?_
  refine j_al0 17 C dX0_leaveLightOn_17 ?_
  refine jg_X0_21 18 h4 C dX0_leaveLightOn_18 ?_
  refine j_top (nI M) (by rw [ub_s, upd_n (by omega)]; exact hM0) ?_
  refine j_icge 21 31 C dX0_leaveLightOn_21 (by decide) (fun c21 => ?_) (fun c21 => ?_)
  · have e : ¬ dn z1 % 8 < M := fun q => nI_ge q (by omega) c21
    exact hR dX0_leaveLightOn_31 (by rw [hl]; first | rw [if_pos e] | rw [if_neg e])
  · have e : dn z1 % 8 < M := Nat.not_le.mp (fun q => c21 (nI_le q (by omega)))
    refine j_al0 24 C dX0_leaveLightOn_24 ?_
    refine j_il1 25 C dX0_leaveLightOn_25 ?_
    refine j_iconst 26 C dX0_leaveLightOn_26 ic_1 ?_
    refine j_il2 27 C dX0_leaveLightOn_27 ?_
    refine j_vv 28 C dX0_leaveLightOn_28 mv_X0_setTrait lk_X0_71 (c_X0_setTrait (W := 1) h4 (by omega) (by decide)) (rc_d h4) rfl rfl ⟨(Nat.le_of_ble_eq_true rfl), (Nat.le_of_ble_eq_true rfl)⟩ (Nat.le_of_ble_eq_true rfl) (fun g28 hp28 => ?_)
    obtain rfl := hp28
    rw [ub_ub, ub_s]
    exact hR dX0_leaveLightOn_31 (by rw [hl]; first | rw [if_pos e] | rw [if_neg e])
set_option maxRecDepth 20000 in
theorem c_X0_become {G : GT} {g : Mem} {d e : Nat} (h4 : d < 4) (he : e < 4) (hne : e ≠ d) : Ctv G yX0_become cX0_become 2 1 30 [.ref (dr G d), .ref (dr G e)] g (fun g' => g' = ub g d (g e)) := by
  refine ent_v (by decide) (Nat.le_of_ble_eq_true rfl) [some (.ref (dr G d)), some (.ref (dr G e))] rfl ?_
  intro X C hR
  have C : CX X G RX0 cX0_become 2 1 30 := C
  refine j_al1 0 C dX0_become_0 ?_
  refine jg_X0_9 1 he C dX0_become_1 ?_
  refine j_iconst 4 C dX0_become_4 ic_0 ?_
  refine j_al0 5 C dX0_become_5 ?_
  refine jg_X0_9 6 h4 C dX0_become_6 ?_
  refine j_iconst 9 C dX0_become_9 ic_0 ?_
  refine j_al0 10 C dX0_become_10 ?_
  refine jg_X0_9 11 h4 C dX0_become_11 ?_
  refine j_alen 14 (2 + 4 * d) 1 C dX0_become_14 (at_Wd h4) rfl (v := nI 48) rfl ?_
  refine j_acpy 15 (2 + 4 * e) (2 + 4 * d) (sp := 0) (dp := 0) (n := 48) C dX0_become_15 lk_X0_31 (at_Wd he) (at_Wd h4) (by omega) (by omega) (by decide) (by decide) ⟨(Nat.le_of_ble_eq_true rfl), (Nat.le_of_ble_eq_true rfl)⟩ (g' := ub g d (cpr (g d) (g e) 3 51)) (fun H hP => ?_) ?_
  · refine WW_row (2 + 4 * d) (cpr (g d) (g e) 3 51) (by omega) (tb_Wd h4).1 (fun i hi => ?_) hP (at_Wd h4) (fun ha => at_arr ha (fun i hi => ?_))
    · rw [(tb_Wd h4).2.1, (tb_Wd h4).2.2] at hi
      exact if_neg (by omega)
    · rw [pk_cpy_in (Nat.zero_le _) (by omega)]
      rw [ub_s]
      show _ = if 3 ≤ 3 + i ∧ 3 + i < 51 then _ else _
      rw [if_pos (by omega), Nat.zero_add, Nat.sub_zero]
  · refine j_al1 18 C dX0_become_18 ?_
    refine jg_X0_15 19 he C dX0_become_19 ?_
    refine j_iconst 22 C dX0_become_22 ic_0 ?_
    refine j_al0 23 C dX0_become_23 ?_
    refine jg_X0_15 24 h4 C dX0_become_24 ?_
    refine j_iconst 27 C dX0_become_27 ic_0 ?_
    refine j_al0 28 C dX0_become_28 ?_
    refine jg_X0_15 29 h4 C dX0_become_29 ?_
    refine j_alen 32 (3 + 4 * d) 1 C dX0_become_32 (at_Tr h4) rfl (v := nI 32) rfl ?_
    refine j_acpy 33 (3 + 4 * e) (3 + 4 * d) (sp := 0) (dp := 0) (n := 32) C dX0_become_33 lk_X0_31 (at_Tr he) (at_Tr h4) (by omega) (by omega) (by decide) (by decide) ⟨(Nat.le_of_ble_eq_true rfl), (Nat.le_of_ble_eq_true rfl)⟩ (g' := ub g d (cpr (cpr (g d) (g e) 3 51) (g e) 51 83)) (fun H hP => ?_) ?_
    · rw [show ub g d (cpr (cpr (g d) (g e) 3 51) (g e) 51 83) = ub (ub g d (cpr (g d) (g e) 3 51)) d (cpr (cpr (g d) (g e) 3 51) (g e) 51 83) from ub_ub.symm]
      refine WW_row (3 + 4 * d) (cpr (cpr (g d) (g e) 3 51) (g e) 51 83) (by omega) (tb_Tr h4).1 (fun i hi => ?_) hP (at_Tr h4) (fun ha => at_arr ha (fun i hi => ?_))
      · rw [(tb_Tr h4).2.1, (tb_Tr h4).2.2] at hi
        rw [ub_s]
        exact if_neg (by omega)
      · rw [pk_cpy_in (Nat.zero_le _) (by omega)]
        rw [ub_n hne, ub_s]
        show _ = if 51 ≤ 51 + i ∧ 51 + i < 83 then _ else _
        rw [if_pos (by omega), Nat.zero_add, Nat.sub_zero]
    · refine j_al1 36 C dX0_become_36 ?_
      refine jg_X0_18 37 he C dX0_become_37 ?_
      refine j_iconst 40 C dX0_become_40 ic_0 ?_
      refine j_al0 41 C dX0_become_41 ?_
      refine jg_X0_18 42 h4 C dX0_become_42 ?_
      refine j_iconst 45 C dX0_become_45 ic_0 ?_
      refine j_al0 46 C dX0_become_46 ?_
      refine jg_X0_18 47 h4 C dX0_become_47 ?_
      refine j_alen 50 (4 + 4 * d) 1 C dX0_become_50 (at_Sp h4) rfl (v := nI 10) rfl ?_
      refine j_acpy 51 (4 + 4 * e) (4 + 4 * d) (sp := 0) (dp := 0) (n := 10) C dX0_become_51 lk_X0_31 (at_Sp he) (at_Sp h4) (by omega) (by omega) (by decide) (by decide) ⟨(Nat.le_of_ble_eq_true rfl), (Nat.le_of_ble_eq_true rfl)⟩ (g' := ub g d (cpr (cpr (cpr (g d) (g e) 3 51) (g e) 51 83) (g e) 83 93)) (fun H hP => ?_) ?_
      · rw [show ub g d (cpr (cpr (cpr (g d) (g e) 3 51) (g e) 51 83) (g e) 83 93) = ub (ub g d (cpr (cpr (g d) (g e) 3 51) (g e) 51 83)) d (cpr (cpr (cpr (g d) (g e) 3 51) (g e) 51 83) (g e) 83 93) from ub_ub.symm]
        refine WW_row (4 + 4 * d) (cpr (cpr (cpr (g d) (g e) 3 51) (g e) 51 83) (g e) 83 93) (by omega) (tb_Sp h4).1 (fun i hi => ?_) hP (at_Sp h4) (fun ha => at_arr ha (fun i hi => ?_))
        · rw [(tb_Sp h4).2.1, (tb_Sp h4).2.2] at hi
          rw [ub_s]
          exact if_neg (by omega)
        · rw [pk_cpy_in (Nat.zero_le _) (by omega)]
          rw [ub_n hne, ub_s]
          show _ = if 83 ≤ 83 + i ∧ 83 + i < 93 then _ else _
          rw [if_pos (by omega), Nat.zero_add, Nat.sub_zero]
      · refine j_al0 54 C dX0_become_54 ?_
        refine j_al1 55 C dX0_become_55 ?_
        refine jg_X0_21 56 he C dX0_become_56 ?_
        rw [ub_n hne]
        refine jp_X0_21 59 h4 C dX0_become_59 ?_
        rw [ub_ub, ub_s]
        refine j_al0 62 C dX0_become_62 ?_
        refine j_al1 63 C dX0_become_63 ?_
        refine jg_X0_25 64 he C dX0_become_64 ?_
        rw [ub_n hne]
        refine jp_X0_25 67 h4 C dX0_become_67 ?_
        rw [ub_ub, ub_s]
        refine j_al0 70 C dX0_become_70 ?_
        refine j_al1 71 C dX0_become_71 ?_
        refine jg_X0_28 72 he C dX0_become_72 ?_
        rw [ub_n hne]
        refine jp_X0_28 75 h4 C dX0_become_75 ?_
        rw [ub_ub, ub_s]
        refine J.congr (g' := ub g d (g e)) (fun k hk i i1 i2 => ?_) ?_
        · by_cases hb : cb k = d
          · have h93 : i < 93 := Nat.lt_of_lt_of_le i2 (cbr k hk (by omega))
            rw [hb, ub_s, ub_s]
            by_cases q2 : i = 2
            · subst q2; exact upd_s
            · rw [upd_n q2]
              by_cases q1 : i = 1
              · subst q1; exact upd_s
              · rw [upd_n q1]
                by_cases q0 : i = 0
                · subst q0; exact upd_s
                · rw [upd_n q0]
                  simp only [cpr]
                  by_cases r1 : i < 51
                  · rw [if_neg (by omega), if_neg (by omega), if_pos (by omega)]
                  · by_cases r2 : i < 83
                    · rw [if_neg (by omega), if_pos (by omega)]
                    · rw [if_pos (by omega)]
          · rw [ub_n hb, ub_n hb]
        · exact hR dX0_become_78 rfl
set_option maxRecDepth 20000 in
theorem c_X1_isOneOf {G : GT} {g : Mem} {K U : Nat} (hK : K < 7) (hU : U < 7) : Cti G yX1_isOneOf cX1_isOneOf 4 .boolean 0 0 [.int (nI K), .int (nI U)] g (fun r g' => r = bi (isk K U) ∧ g = g') := by
  refine ent_z (by decide) (Nat.le_of_ble_eq_true rfl) [some (.int (nI K)), some (.int (nI U)), none, none] rfl ?_
  intro X C hR
  have C : CX X G RX1 cX1_isOneOf 4 0 0 := C
  have lm : ∀ s, s ≤ 6 → isk K U = false → J X G 4 g 4 [some (.int (nI K)), some (.int (nI U)), some (.int (-1)), some (.int (nI s))] [] := by
    intro s hs hf
    refine j_il3 4 C dX1_isOneOf_4 ?_
    refine j_bipush 5 C dX1_isOneOf_5 bp_7 ?_
    refine j_icge 7 33 C dX1_isOneOf_7 (by decide) (fun c7 => ?_) (fun c7 => ?_)
    · exact absurd c7 (nI_ge (a := s) (b := 7) (by omega) (by decide))
    · refine j_il2 10 C dX1_isOneOf_10 ?_
      refine j_iflt 11 33 C dX1_isOneOf_11 (by decide) (fun c11 => ?_) (fun c11 => ?_)
      · refine j_iconst 33 C dX1_isOneOf_33 ic_0 ?_
        exact hR dX1_isOneOf_34 (by first | exact Or.inl rfl | exact Or.inr rfl) ⟨by rw [hf]; rfl, rfl⟩
      · exact absurd (by decide) c11
  have l0 : ∀ s, s + 0 ≤ 5 → isk K U = isk 0 U → J X G 4 g 4 [some (.int (nI K)), some (.int (nI U)), some (.int (nI 0)), some (.int (nI s))] [] := by
    intro s hs hf
    refine j_il3 4 C dX1_isOneOf_4 ?_
    refine j_bipush 5 C dX1_isOneOf_5 bp_7 ?_
    refine j_icge 7 33 C dX1_isOneOf_7 (by decide) (fun c7 => ?_) (fun c7 => ?_)
    · exact absurd c7 (nI_ge (a := s) (b := 7) (by omega) (by decide))
    · refine j_il2 10 C dX1_isOneOf_10 ?_
      refine j_iflt 11 33 C dX1_isOneOf_11 (by decide) (fun c11 => ?_) (fun c11 => ?_)
      · exact absurd c11 (by decide)
      · refine j_il2 14 C dX1_isOneOf_14 ?_
        refine j_il1 15 C dX1_isOneOf_15 ?_
        refine j_icne 16 21 C dX1_isOneOf_16 (by decide) (fun c16 => ?_) (fun c16 => ?_)
        · have hn : ¬ 0 = U := fun q => c16 (by rw [q])
          refine jgs_X1_9 21 C dX1_isOneOf_21 ?_
          refine j_il2 24 C dX1_isOneOf_24 ?_
          refine j_top (nI (0)) rfl ?_
          refine jl_st2 25 (by decide) C dX1_isOneOf_25 ?_
          refine j_top (-1) (by decide) ?_
          refine j_is2 26 C dX1_isOneOf_26 rfl (Nat.le_of_ble_eq_true rfl) ?_
          refine j_inc3 27 C dX1_isOneOf_27 rfl (nI_inc _) (Nat.le_of_ble_eq_true rfl) ?_
          refine j_goto 30 4 C dX1_isOneOf_30 (by decide) ?_
          exact lm (s + 1) (by omega) (by rw [hf]; simp [isk, anc]; omega)
        · have hy : 0 = U := (nI_eq (by decide) (by omega)).mp c16
          refine j_iconst 19 C dX1_isOneOf_19 ic_1 ?_
          exact hR dX1_isOneOf_20 (by first | exact Or.inl rfl | exact Or.inr rfl) ⟨by rw [hf, ← hy]; rfl, rfl⟩
  have l1 : ∀ s, s + 1 ≤ 5 → isk K U = isk 1 U → J X G 4 g 4 [some (.int (nI K)), some (.int (nI U)), some (.int (nI 1)), some (.int (nI s))] [] := by
    intro s hs hf
    refine j_il3 4 C dX1_isOneOf_4 ?_
    refine j_bipush 5 C dX1_isOneOf_5 bp_7 ?_
    refine j_icge 7 33 C dX1_isOneOf_7 (by decide) (fun c7 => ?_) (fun c7 => ?_)
    · exact absurd c7 (nI_ge (a := s) (b := 7) (by omega) (by decide))
    · refine j_il2 10 C dX1_isOneOf_10 ?_
      refine j_iflt 11 33 C dX1_isOneOf_11 (by decide) (fun c11 => ?_) (fun c11 => ?_)
      · exact absurd c11 (by decide)
      · refine j_il2 14 C dX1_isOneOf_14 ?_
        refine j_il1 15 C dX1_isOneOf_15 ?_
        refine j_icne 16 21 C dX1_isOneOf_16 (by decide) (fun c16 => ?_) (fun c16 => ?_)
        · have hn : ¬ 1 = U := fun q => c16 (by rw [q])
          refine jgs_X1_9 21 C dX1_isOneOf_21 ?_
          refine j_il2 24 C dX1_isOneOf_24 ?_
          refine j_top (nI (1)) rfl ?_
          refine jl_st2 25 (by decide) C dX1_isOneOf_25 ?_
          refine j_top (nI 0) (by decide) ?_
          refine j_is2 26 C dX1_isOneOf_26 rfl (Nat.le_of_ble_eq_true rfl) ?_
          refine j_inc3 27 C dX1_isOneOf_27 rfl (nI_inc _) (Nat.le_of_ble_eq_true rfl) ?_
          refine j_goto 30 4 C dX1_isOneOf_30 (by decide) ?_
          exact l0 (s + 1) (by omega) (by rw [hf]; simp [isk, anc]; omega)
        · have hy : 1 = U := (nI_eq (by decide) (by omega)).mp c16
          refine j_iconst 19 C dX1_isOneOf_19 ic_1 ?_
          exact hR dX1_isOneOf_20 (by first | exact Or.inl rfl | exact Or.inr rfl) ⟨by rw [hf, ← hy]; rfl, rfl⟩
  have l2 : ∀ s, s + 1 ≤ 5 → isk K U = isk 2 U → J X G 4 g 4 [some (.int (nI K)), some (.int (nI U)), some (.int (nI 2)), some (.int (nI s))] [] := by
    intro s hs hf
    refine j_il3 4 C dX1_isOneOf_4 ?_
    refine j_bipush 5 C dX1_isOneOf_5 bp_7 ?_
    refine j_icge 7 33 C dX1_isOneOf_7 (by decide) (fun c7 => ?_) (fun c7 => ?_)
    · exact absurd c7 (nI_ge (a := s) (b := 7) (by omega) (by decide))
    · refine j_il2 10 C dX1_isOneOf_10 ?_
      refine j_iflt 11 33 C dX1_isOneOf_11 (by decide) (fun c11 => ?_) (fun c11 => ?_)
      · exact absurd c11 (by decide)
      · refine j_il2 14 C dX1_isOneOf_14 ?_
        refine j_il1 15 C dX1_isOneOf_15 ?_
        refine j_icne 16 21 C dX1_isOneOf_16 (by decide) (fun c16 => ?_) (fun c16 => ?_)
        · have hn : ¬ 2 = U := fun q => c16 (by rw [q])
          refine jgs_X1_9 21 C dX1_isOneOf_21 ?_
          refine j_il2 24 C dX1_isOneOf_24 ?_
          refine j_top (nI (2)) rfl ?_
          refine jl_st2 25 (by decide) C dX1_isOneOf_25 ?_
          refine j_top (nI 0) (by decide) ?_
          refine j_is2 26 C dX1_isOneOf_26 rfl (Nat.le_of_ble_eq_true rfl) ?_
          refine j_inc3 27 C dX1_isOneOf_27 rfl (nI_inc _) (Nat.le_of_ble_eq_true rfl) ?_
          refine j_goto 30 4 C dX1_isOneOf_30 (by decide) ?_
          exact l0 (s + 1) (by omega) (by rw [hf]; simp [isk, anc]; omega)
        · have hy : 2 = U := (nI_eq (by decide) (by omega)).mp c16
          refine j_iconst 19 C dX1_isOneOf_19 ic_1 ?_
          exact hR dX1_isOneOf_20 (by first | exact Or.inl rfl | exact Or.inr rfl) ⟨by rw [hf, ← hy]; rfl, rfl⟩
  have l5 : ∀ s, s + 1 ≤ 5 → isk K U = isk 5 U → J X G 4 g 4 [some (.int (nI K)), some (.int (nI U)), some (.int (nI 5)), some (.int (nI s))] [] := by
    intro s hs hf
    refine j_il3 4 C dX1_isOneOf_4 ?_
    refine j_bipush 5 C dX1_isOneOf_5 bp_7 ?_
    refine j_icge 7 33 C dX1_isOneOf_7 (by decide) (fun c7 => ?_) (fun c7 => ?_)
    · exact absurd c7 (nI_ge (a := s) (b := 7) (by omega) (by decide))
    · refine j_il2 10 C dX1_isOneOf_10 ?_
      refine j_iflt 11 33 C dX1_isOneOf_11 (by decide) (fun c11 => ?_) (fun c11 => ?_)
      · exact absurd c11 (by decide)
      · refine j_il2 14 C dX1_isOneOf_14 ?_
        refine j_il1 15 C dX1_isOneOf_15 ?_
        refine j_icne 16 21 C dX1_isOneOf_16 (by decide) (fun c16 => ?_) (fun c16 => ?_)
        · have hn : ¬ 5 = U := fun q => c16 (by rw [q])
          refine jgs_X1_9 21 C dX1_isOneOf_21 ?_
          refine j_il2 24 C dX1_isOneOf_24 ?_
          refine j_top (nI (5)) rfl ?_
          refine jl_st2 25 (by decide) C dX1_isOneOf_25 ?_
          refine j_top (nI 0) (by decide) ?_
          refine j_is2 26 C dX1_isOneOf_26 rfl (Nat.le_of_ble_eq_true rfl) ?_
          refine j_inc3 27 C dX1_isOneOf_27 rfl (nI_inc _) (Nat.le_of_ble_eq_true rfl) ?_
          refine j_goto 30 4 C dX1_isOneOf_30 (by decide) ?_
          exact l0 (s + 1) (by omega) (by rw [hf]; simp [isk, anc]; omega)
        · have hy : 5 = U := (nI_eq (by decide) (by omega)).mp c16
          refine j_iconst 19 C dX1_isOneOf_19 ic_1 ?_
          exact hR dX1_isOneOf_20 (by first | exact Or.inl rfl | exact Or.inr rfl) ⟨by rw [hf, ← hy]; rfl, rfl⟩
  have l3 : ∀ s, s + 2 ≤ 5 → isk K U = isk 3 U → J X G 4 g 4 [some (.int (nI K)), some (.int (nI U)), some (.int (nI 3)), some (.int (nI s))] [] := by
    intro s hs hf
    refine j_il3 4 C dX1_isOneOf_4 ?_
    refine j_bipush 5 C dX1_isOneOf_5 bp_7 ?_
    refine j_icge 7 33 C dX1_isOneOf_7 (by decide) (fun c7 => ?_) (fun c7 => ?_)
    · exact absurd c7 (nI_ge (a := s) (b := 7) (by omega) (by decide))
    · refine j_il2 10 C dX1_isOneOf_10 ?_
      refine j_iflt 11 33 C dX1_isOneOf_11 (by decide) (fun c11 => ?_) (fun c11 => ?_)
      · exact absurd c11 (by decide)
      · refine j_il2 14 C dX1_isOneOf_14 ?_
        refine j_il1 15 C dX1_isOneOf_15 ?_
        refine j_icne 16 21 C dX1_isOneOf_16 (by decide) (fun c16 => ?_) (fun c16 => ?_)
        · have hn : ¬ 3 = U := fun q => c16 (by rw [q])
          refine jgs_X1_9 21 C dX1_isOneOf_21 ?_
          refine j_il2 24 C dX1_isOneOf_24 ?_
          refine j_top (nI (3)) rfl ?_
          refine jl_st2 25 (by decide) C dX1_isOneOf_25 ?_
          refine j_top (nI 2) (by decide) ?_
          refine j_is2 26 C dX1_isOneOf_26 rfl (Nat.le_of_ble_eq_true rfl) ?_
          refine j_inc3 27 C dX1_isOneOf_27 rfl (nI_inc _) (Nat.le_of_ble_eq_true rfl) ?_
          refine j_goto 30 4 C dX1_isOneOf_30 (by decide) ?_
          exact l2 (s + 1) (by omega) (by rw [hf]; simp [isk, anc]; omega)
        · have hy : 3 = U := (nI_eq (by decide) (by omega)).mp c16
          refine j_iconst 19 C dX1_isOneOf_19 ic_1 ?_
          exact hR dX1_isOneOf_20 (by first | exact Or.inl rfl | exact Or.inr rfl) ⟨by rw [hf, ← hy]; rfl, rfl⟩
  have l6 : ∀ s, s + 2 ≤ 5 → isk K U = isk 6 U → J X G 4 g 4 [some (.int (nI K)), some (.int (nI U)), some (.int (nI 6)), some (.int (nI s))] [] := by
    intro s hs hf
    refine j_il3 4 C dX1_isOneOf_4 ?_
    refine j_bipush 5 C dX1_isOneOf_5 bp_7 ?_
    refine j_icge 7 33 C dX1_isOneOf_7 (by decide) (fun c7 => ?_) (fun c7 => ?_)
    · exact absurd c7 (nI_ge (a := s) (b := 7) (by omega) (by decide))
    · refine j_il2 10 C dX1_isOneOf_10 ?_
      refine j_iflt 11 33 C dX1_isOneOf_11 (by decide) (fun c11 => ?_) (fun c11 => ?_)
      · exact absurd c11 (by decide)
      · refine j_il2 14 C dX1_isOneOf_14 ?_
        refine j_il1 15 C dX1_isOneOf_15 ?_
        refine j_icne 16 21 C dX1_isOneOf_16 (by decide) (fun c16 => ?_) (fun c16 => ?_)
        · have hn : ¬ 6 = U := fun q => c16 (by rw [q])
          refine jgs_X1_9 21 C dX1_isOneOf_21 ?_
          refine j_il2 24 C dX1_isOneOf_24 ?_
          refine j_top (nI (6)) rfl ?_
          refine jl_st2 25 (by decide) C dX1_isOneOf_25 ?_
          refine j_top (nI 1) (by decide) ?_
          refine j_is2 26 C dX1_isOneOf_26 rfl (Nat.le_of_ble_eq_true rfl) ?_
          refine j_inc3 27 C dX1_isOneOf_27 rfl (nI_inc _) (Nat.le_of_ble_eq_true rfl) ?_
          refine j_goto 30 4 C dX1_isOneOf_30 (by decide) ?_
          exact l1 (s + 1) (by omega) (by rw [hf]; simp [isk, anc]; omega)
        · have hy : 6 = U := (nI_eq (by decide) (by omega)).mp c16
          refine j_iconst 19 C dX1_isOneOf_19 ic_1 ?_
          exact hR dX1_isOneOf_20 (by first | exact Or.inl rfl | exact Or.inr rfl) ⟨by rw [hf, ← hy]; rfl, rfl⟩
  have l4 : ∀ s, s + 3 ≤ 5 → isk K U = isk 4 U → J X G 4 g 4 [some (.int (nI K)), some (.int (nI U)), some (.int (nI 4)), some (.int (nI s))] [] := by
    intro s hs hf
    refine j_il3 4 C dX1_isOneOf_4 ?_
    refine j_bipush 5 C dX1_isOneOf_5 bp_7 ?_
    refine j_icge 7 33 C dX1_isOneOf_7 (by decide) (fun c7 => ?_) (fun c7 => ?_)
    · exact absurd c7 (nI_ge (a := s) (b := 7) (by omega) (by decide))
    · refine j_il2 10 C dX1_isOneOf_10 ?_
      refine j_iflt 11 33 C dX1_isOneOf_11 (by decide) (fun c11 => ?_) (fun c11 => ?_)
      · exact absurd c11 (by decide)
      · refine j_il2 14 C dX1_isOneOf_14 ?_
        refine j_il1 15 C dX1_isOneOf_15 ?_
        refine j_icne 16 21 C dX1_isOneOf_16 (by decide) (fun c16 => ?_) (fun c16 => ?_)
        · have hn : ¬ 4 = U := fun q => c16 (by rw [q])
          refine jgs_X1_9 21 C dX1_isOneOf_21 ?_
          refine j_il2 24 C dX1_isOneOf_24 ?_
          refine j_top (nI (4)) rfl ?_
          refine jl_st2 25 (by decide) C dX1_isOneOf_25 ?_
          refine j_top (nI 3) (by decide) ?_
          refine j_is2 26 C dX1_isOneOf_26 rfl (Nat.le_of_ble_eq_true rfl) ?_
          refine j_inc3 27 C dX1_isOneOf_27 rfl (nI_inc _) (Nat.le_of_ble_eq_true rfl) ?_
          refine j_goto 30 4 C dX1_isOneOf_30 (by decide) ?_
          exact l3 (s + 1) (by omega) (by rw [hf]; simp [isk, anc]; omega)
        · have hy : 4 = U := (nI_eq (by decide) (by omega)).mp c16
          refine j_iconst 19 C dX1_isOneOf_19 ic_1 ?_
          exact hR dX1_isOneOf_20 (by first | exact Or.inl rfl | exact Or.inr rfl) ⟨by rw [hf, ← hy]; rfl, rfl⟩
  refine j_il0 0 C dX1_isOneOf_0 ?_
  refine j_is2 1 C dX1_isOneOf_1 rfl (Nat.le_of_ble_eq_true rfl) ?_
  refine j_iconst 2 C dX1_isOneOf_2 ic_0 ?_
  refine j_is3 3 C dX1_isOneOf_3 rfl (Nat.le_of_ble_eq_true rfl) ?_
  match K, hK with
  | 0, _ => exact l0 0 (by decide) rfl
  | 1, _ => exact l1 0 (by decide) rfl
  | 2, _ => exact l2 0 (by decide) rfl
  | 3, _ => exact l3 0 (by decide) rfl
  | 4, _ => exact l4 0 (by decide) rfl
  | 5, _ => exact l5 0 (by decide) rfl
  | 6, _ => exact l6 0 (by decide) rfl
