theorem bS_lt {S : Row} {m : Nat} : 0 ≤ bS S m ↔ ¬ bS S m = -1 := by
  rcases bt_or (S := S) (P := cl (tr S m 1)) (K := cl (tr S m 0)) (t := tr S m 2) (F := cl (tr S m 3)) with q | ⟨j, hj, q⟩
  · have q : bS S m = -1 := q
    rw [q]; exact ⟨fun h => absurd h (by decide), fun h => absurd rfl h⟩
  · have q : bS S m = nI j := q
    rw [q]; exact ⟨fun _ => nI_nm1 (by omega), fun _ => nI_pos' (by omega)⟩
set_option maxRecDepth 20000 in
theorem c_X5_saysAll {G : GT} {g : Mem} : Cti G yX5_saysAll cX5_saysAll 3 .int 2 45 [.ref (mo G)] g (fun r g' => r = sI (fun p => ss (g 12) p 8) 6 ∧ g = g') := by
  refine ent_i (by decide) (Nat.le_of_ble_eq_true rfl) [some (.ref (mo G)), none, none] rfl ?_
  intro X C hR
  have C : CX X G RX5 cX5_saysAll 3 2 45 := C
  refine j_iconst 0 C dX5_saysAll_0 ic_0 ?_
  refine j_is1 1 C dX5_saysAll_1 rfl (Nat.le_of_ble_eq_true rfl) ?_
  refine j_iconst 2 C dX5_saysAll_2 ic_0 ?_
  refine j_is2 3 C dX5_saysAll_3 rfl (Nat.le_of_ble_eq_true rfl) ?_
  have loop : ∀ n k, k + n = 6 → J X G 3 g 4 [some (.ref (mo G)), some (.int (sI (fun p => ss (g 12) p 8) k)), some (.int (nI k))] [] := by
    intro n
    induction n with
    | zero =>
      intro k hk
      obtain rfl : k = 6 := by omega
      refine j_il2 4 C dX5_saysAll_4 ?_
      refine j_bipush 5 C dX5_saysAll_5 bp_6 ?_
      refine j_icge 7 24 C dX5_saysAll_7 (by decide) (fun c7 => ?_) (fun c7 => ?_)
      · refine j_il1 24 C dX5_saysAll_24 ?_
        exact hR dX5_saysAll_25 ⟨rfl, rfl⟩
      · exact absurd (nI_le (Nat.le_refl _) (by decide)) c7
    | succ n ih =>
      intro k hk
      refine j_il2 4 C dX5_saysAll_4 ?_
      refine j_bipush 5 C dX5_saysAll_5 bp_6 ?_
      refine j_icge 7 24 C dX5_saysAll_7 (by decide) (fun c7 => ?_) (fun c7 => ?_)
      · exact absurd c7 (nI_ge (a := k) (b := 6) (by omega) (by decide))
      · refine j_il1 10 C dX5_saysAll_10 ?_
        refine j_al0 11 C dX5_saysAll_11 ?_
        refine j_il2 12 C dX5_saysAll_12 ?_
        refine j_vi 13 C dX5_saysAll_13 mv_X5_saysNow lk_X5_72 (c_X5_saysNow (by omega)) rc_m rfl rfl ⟨(Nat.le_of_ble_eq_true rfl), (Nat.le_of_ble_eq_true rfl)⟩ (Nat.le_of_ble_eq_true rfl) (fun r13 g13 hp13 => ?_)
        obtain ⟨rfl, rfl⟩ := hp13
        refine j_iadd 16 C dX5_saysAll_16 ?_
        refine j_is1 17 C dX5_saysAll_17 rfl (Nat.le_of_ble_eq_true rfl) ?_
        refine j_inc2 18 C dX5_saysAll_18 rfl (nI_inc _) (Nat.le_of_ble_eq_true rfl) ?_
        refine j_goto 21 4 C dX5_saysAll_21 (by decide) ?_
        exact ih (k + 1) (by omega)
  exact loop 6 0 rfl
set_option maxRecDepth 20000 in
theorem c_X5_fedAll {G : GT} {g : Mem} {M : Nat} (hM8 : M ≤ 8) (hM0 : g 12 0 = nI M) : Cti G yX5_fedAll cX5_fedAll 3 .int 1 22 [.ref (mo G)] g (fun r g' => r = sI (fun m => tr (g 12) m 3) M ∧ g = g') := by
  refine ent_i (by decide) (Nat.le_of_ble_eq_true rfl) [some (.ref (mo G)), none, none] rfl ?_
  intro X C hR
  have C : CX X G RX5 cX5_fedAll 3 1 22 := C
  refine j_iconst 0 C dX5_fedAll_0 ic_0 ?_
  refine j_is1 1 C dX5_fedAll_1 rfl (Nat.le_of_ble_eq_true rfl) ?_
  refine j_iconst 2 C dX5_fedAll_2 ic_0 ?_
  refine j_is2 3 C dX5_fedAll_3 rfl (Nat.le_of_ble_eq_true rfl) ?_
  have loop : ∀ n k, k + n = M → J X G 3 g 4 [some (.ref (mo G)), some (.int (sI (fun m => tr (g 12) m 3) k)), some (.int (nI k))] [] := by
    intro n
    induction n with
    | zero =>
      intro k hk
      obtain rfl : M = k := by omega
      refine j_il2 4 C dX5_fedAll_4 ?_
      refine j_al0 5 C dX5_fedAll_5 ?_
      refine jg_X5_7 6 C dX5_fedAll_6 ?_
      refine j_iconst 9 C dX5_fedAll_9 ic_0 ?_
      refine j_top (nI (0)) rfl ?_
      refine jl_A0 10 (by omega) C dX5_fedAll_10 ?_
      refine j_top (nI M) hM0 ?_
      refine j_icge 11 29 C dX5_fedAll_11 (by decide) (fun c11 => ?_) (fun c11 => ?_)
      · refine j_il1 29 C dX5_fedAll_29 ?_
        exact hR dX5_fedAll_30 ⟨rfl, rfl⟩
      · exact absurd (nI_le (Nat.le_refl _) (by omega)) c11
    | succ n ih =>
      intro k hk
      refine j_il2 4 C dX5_fedAll_4 ?_
      refine j_al0 5 C dX5_fedAll_5 ?_
      refine jg_X5_7 6 C dX5_fedAll_6 ?_
      refine j_iconst 9 C dX5_fedAll_9 ic_0 ?_
      refine j_top (nI (0)) rfl ?_
      refine jl_A0 10 (by omega) C dX5_fedAll_10 ?_
      refine j_top (nI M) hM0 ?_
      refine j_icge 11 29 C dX5_fedAll_11 (by decide) (fun c11 => ?_) (fun c11 => ?_)
      · exact absurd c11 (nI_ge (a := k) (b := M) (by omega) (by omega))
      · refine j_il1 14 C dX5_fedAll_14 ?_
        refine j_al0 15 C dX5_fedAll_15 ?_
        refine j_il2 16 C dX5_fedAll_16 ?_
        refine j_iconst 17 C dX5_fedAll_17 ic_3 ?_
        refine j_vi 18 C dX5_fedAll_18 mv_X5_its lk_X5_67 (c_X5_its (W := 3) (by omega) (by decide)) rc_m rfl rfl ⟨(Nat.le_of_ble_eq_true rfl), (Nat.le_of_ble_eq_true rfl)⟩ (Nat.le_of_ble_eq_true rfl) (fun r18 g18 hp18 => ?_)
        obtain ⟨rfl, rfl⟩ := hp18
        refine j_iadd 21 C dX5_fedAll_21 ?_
        refine j_is1 22 C dX5_fedAll_22 rfl (Nat.le_of_ble_eq_true rfl) ?_
        refine j_inc2 23 C dX5_fedAll_23 rfl (nI_inc _) (Nat.le_of_ble_eq_true rfl) ?_
        refine j_goto 26 4 C dX5_fedAll_26 (by decide) ?_
        exact ih (k + 1) (by omega)
  exact loop M 0 (Nat.zero_add M)
set_option maxRecDepth 20000 in
theorem c_X5_hungry {G : GT} {g : Mem} {M : Nat} (hM8 : M ≤ 8) (hM0 : g 12 0 = nI M) (hS : SI (g 12)) : Cti G yX5_hungry cX5_hungry 3 .int 4 93 [.ref (mo G)] g (fun r g' => r = bs (fun m => decide (bS (g 12) m = -1)) M ∧ g = g') := by
  refine ent_i (by decide) (Nat.le_of_ble_eq_true rfl) [some (.ref (mo G)), none, none] rfl ?_
  intro X C hR
  have C : CX X G RX5 cX5_hungry 3 4 93 := C
  refine j_iconst 0 C dX5_hungry_0 ic_0 ?_
  refine j_is1 1 C dX5_hungry_1 rfl (Nat.le_of_ble_eq_true rfl) ?_
  refine j_iconst 2 C dX5_hungry_2 ic_0 ?_
  refine j_is2 3 C dX5_hungry_3 rfl (Nat.le_of_ble_eq_true rfl) ?_
  have loop : ∀ n k, k + n = M → J X G 3 g 4 [some (.ref (mo G)), some (.int (bs (fun m => decide (bS (g 12) m = -1)) k)), some (.int (nI k))] [] := by
    intro n
    induction n with
    | zero =>
      intro k hk
      obtain rfl : M = k := by omega
      refine j_il2 4 C dX5_hungry_4 ?_
      refine j_al0 5 C dX5_hungry_5 ?_
      refine jg_X5_7 6 C dX5_hungry_6 ?_
      refine j_iconst 9 C dX5_hungry_9 ic_0 ?_
      refine j_top (nI (0)) rfl ?_
      refine jl_A0 10 (by omega) C dX5_hungry_10 ?_
      refine j_top (nI M) hM0 ?_
      refine j_icge 11 38 C dX5_hungry_11 (by decide) (fun c11 => ?_) (fun c11 => ?_)
      · refine j_il1 38 C dX5_hungry_38 ?_
        exact hR dX5_hungry_39 ⟨rfl, rfl⟩
      · exact absurd (nI_le (Nat.le_refl _) (by omega)) c11
    | succ n ih =>
      intro k hk
      refine j_il2 4 C dX5_hungry_4 ?_
      refine j_al0 5 C dX5_hungry_5 ?_
      refine jg_X5_7 6 C dX5_hungry_6 ?_
      refine j_iconst 9 C dX5_hungry_9 ic_0 ?_
      refine j_top (nI (0)) rfl ?_
      refine jl_A0 10 (by omega) C dX5_hungry_10 ?_
      refine j_top (nI M) hM0 ?_
      refine j_icge 11 38 C dX5_hungry_11 (by decide) (fun c11 => ?_) (fun c11 => ?_)
      · exact absurd c11 (nI_ge (a := k) (b := M) (by omega) (by omega))
      · refine j_il1 14 C dX5_hungry_14 ?_
        refine j_al0 15 C dX5_hungry_15 ?_
        refine j_il2 16 C dX5_hungry_16 ?_
        refine j_vi 17 C dX5_hungry_17 mv_X5_bites lk_X5_117 (c_X5_bites hS (show k < 8 by omega)) rc_m rfl rfl ⟨(Nat.le_of_ble_eq_true rfl), (Nat.le_of_ble_eq_true rfl)⟩ (Nat.le_of_ble_eq_true rfl) (fun r17 g17 hp17 => ?_)
        obtain ⟨rfl, rfl⟩ := hp17
        refine j_ifge 20 29 C dX5_hungry_20 (by decide) (fun c20 => ?_) (fun c20 => ?_)
        · have e : bs (fun m => decide (bS (g 12) m = -1)) (k + 1) = bs (fun m => decide (bS (g 12) m = -1)) k ||| 0 := by rw [or_0]; exact if_neg (fun q => bS_lt.mp c20 (of_decide_eq_true q))
          refine j_iconst 29 C dX5_hungry_29 ic_0 ?_
          refine j_ior 30 C dX5_hungry_30 ?_
          rw [← e]
          refine j_is1 31 C dX5_hungry_31 rfl (Nat.le_of_ble_eq_true rfl) ?_
          refine j_inc2 32 C dX5_hungry_32 rfl (nI_inc _) (Nat.le_of_ble_eq_true rfl) ?_
          refine j_goto 35 4 C dX5_hungry_35 (by decide) ?_
          exact ih (k + 1) (by omega)
        · have e : bs (fun m => decide (bS (g 12) m = -1)) (k + 1) = bs (fun m => decide (bS (g 12) m = -1)) k ||| (1 <<< (nI k &&& 31)) := if_pos (decide_eq_true (Decidable.not_not.mp (fun z => c20 (bS_lt.mpr z))))
          refine j_iconst 23 C dX5_hungry_23 ic_1 ?_
          refine j_il2 24 C dX5_hungry_24 ?_
          refine j_ishl 25 C dX5_hungry_25 ?_
          refine j_goto 26 30 C dX5_hungry_26 (by decide) ?_
          refine j_ior 30 C dX5_hungry_30 ?_
          rw [← e]
          refine j_is1 31 C dX5_hungry_31 rfl (Nat.le_of_ble_eq_true rfl) ?_
          refine j_inc2 32 C dX5_hungry_32 rfl (nI_inc _) (Nat.le_of_ble_eq_true rfl) ?_
          refine j_goto 35 4 C dX5_hungry_35 (by decide) ?_
          exact ih (k + 1) (by omega)
  exact loop M 0 (Nat.zero_add M)
set_option maxRecDepth 20000 in
theorem c_X5_barePages {G : GT} {g : Mem} (hW : IW (g 12)) : Cti G yX5_barePages cX5_barePages 3 .int 2 45 [.ref (mo G)] g (fun r g' => r = bs (bare (g 12)) 6 ∧ g = g') := by
  refine ent_i (by decide) (Nat.le_of_ble_eq_true rfl) [some (.ref (mo G)), none, none] rfl ?_
  intro X C hR
  have C : CX X G RX5 cX5_barePages 3 2 45 := C
  refine j_iconst 0 C dX5_barePages_0 ic_0 ?_
  refine j_is1 1 C dX5_barePages_1 rfl (Nat.le_of_ble_eq_true rfl) ?_
  refine j_iconst 2 C dX5_barePages_2 ic_0 ?_
  refine j_is2 3 C dX5_barePages_3 rfl (Nat.le_of_ble_eq_true rfl) ?_
  have loop : ∀ n k, k + n = 6 → J X G 3 g 4 [some (.ref (mo G)), some (.int (bs (bare (g 12)) k)), some (.int (nI k))] [] := by
    intro n
    induction n with
    | zero =>
      intro k hk
      obtain rfl : k = 6 := by omega
      refine j_il2 4 C dX5_barePages_4 ?_
      refine j_bipush 5 C dX5_barePages_5 bp_6 ?_
      refine j_icge 7 34 C dX5_barePages_7 (by decide) (fun c7 => ?_) (fun c7 => ?_)
      · refine j_il1 34 C dX5_barePages_34 ?_
        exact hR dX5_barePages_35 ⟨rfl, rfl⟩
      · exact absurd (nI_le (Nat.le_refl _) (by decide)) c7
    | succ n ih =>
      intro k hk
      refine j_il2 4 C dX5_barePages_4 ?_
      refine j_bipush 5 C dX5_barePages_5 bp_6 ?_
      refine j_icge 7 34 C dX5_barePages_7 (by decide) (fun c7 => ?_) (fun c7 => ?_)
      · exact absurd c7 (nI_ge (a := k) (b := 6) (by omega) (by decide))
      · refine j_il1 10 C dX5_barePages_10 ?_
        refine j_al0 11 C dX5_barePages_11 ?_
        refine j_il2 12 C dX5_barePages_12 ?_
        refine j_vi 13 C dX5_barePages_13 mv_X5_whole lk_X5_75 (c_X5_whole (by omega) hW) rc_m rfl rfl ⟨(Nat.le_of_ble_eq_true rfl), (Nat.le_of_ble_eq_true rfl)⟩ (Nat.le_of_ble_eq_true rfl) (fun r13 g13 hp13 => ?_)
        obtain ⟨rfl, rfl⟩ := hp13
        refine j_ifne 16 25 C dX5_barePages_16 (by decide) (fun c16 => ?_) (fun c16 => ?_)
        · have e : bs (bare (g 12)) (k + 1) = bs (bare (g 12)) k ||| 0 := by rw [or_0]; exact if_neg (fun q => c16 (of_decide_eq_true q))
          refine j_iconst 25 C dX5_barePages_25 ic_0 ?_
          refine j_ior 26 C dX5_barePages_26 ?_
          rw [← e]
          refine j_is1 27 C dX5_barePages_27 rfl (Nat.le_of_ble_eq_true rfl) ?_
          refine j_inc2 28 C dX5_barePages_28 rfl (nI_inc _) (Nat.le_of_ble_eq_true rfl) ?_
          refine j_goto 31 4 C dX5_barePages_31 (by decide) ?_
          exact ih (k + 1) (by omega)
        · have e : bs (bare (g 12)) (k + 1) = bs (bare (g 12)) k ||| (1 <<< (nI k &&& 31)) := if_pos (show bare (g 12) k = true from decide_eq_true c16)
          refine j_iconst 19 C dX5_barePages_19 ic_1 ?_
          refine j_il2 20 C dX5_barePages_20 ?_
          refine j_ishl 21 C dX5_barePages_21 ?_
          refine j_goto 22 26 C dX5_barePages_22 (by decide) ?_
          refine j_ior 26 C dX5_barePages_26 ?_
          rw [← e]
          refine j_is1 27 C dX5_barePages_27 rfl (Nat.le_of_ble_eq_true rfl) ?_
          refine j_inc2 28 C dX5_barePages_28 rfl (nI_inc _) (Nat.le_of_ble_eq_true rfl) ?_
          refine j_goto 31 4 C dX5_barePages_31 (by decide) ?_
          exact ih (k + 1) (by omega)
  exact loop 6 0 rfl
set_option maxRecDepth 20000 in
theorem c_X5_now {G : GT} {g : Mem} (hS : SI (g 12)) {T : Nat} (hT : g 12 1 = nI T) (hTb : T ≤ 31000) {w : Int32} : Cti G yX5_now cX5_now 2 .int 5 115 [.ref (mo G), .int w] g (fun r g' => cpM (s_now w (g 12)) g r g') := by
  refine ent_i (by decide) (Nat.le_of_ble_eq_true rfl) [some (.ref (mo G)), some (.int w)] rfl ?_
  intro X C hR
  have C : CX X G RX5 cX5_now 2 5 115 := C
  obtain ⟨hM8, hM0⟩ := SI_cl0 hS
  refine j_il1 0 C dX5_now_0 ?_
  by_cases hw : inr w 0 5 = true
  · obtain ⟨W, hW, rfl⟩ := inr_nat (n := 5) (by decide) hw
    rcases (show W = 0 ∨ W = 1 ∨ W = 2 ∨ W = 3 ∨ W = 4 ∨ W = 5 by omega) with rfl | rfl | rfl | rfl | rfl | rfl
    · refine j_tsIn 1 40 (off := 39) C dX5_now_1 (by decide) (by decide) (by decide) (by decide) ?_
      refine j_al0 40 C dX5_now_40 ?_
      refine jg_X5_7 41 C dX5_now_41 ?_
      refine j_iconst 44 C dX5_now_44 ic_1 ?_
      refine j_top (nI (1)) rfl ?_
      refine jl_A0 45 (by omega) C dX5_now_45 ?_
      exact hR dX5_now_46 (cpM_q (by unfold s_now; rw [hw]; rfl) rfl SC.rfl)
    · refine j_tsIn 1 47 (off := 46) C dX5_now_1 (by decide) (by decide) (by decide) (by decide) ?_
      refine j_al0 47 C dX5_now_47 ?_
      refine j_vi 48 C dX5_now_48 mv_X5_holes lk_X5_142 (c_X5_holes) rc_m rfl rfl ⟨(Nat.le_of_ble_eq_true rfl), (Nat.le_of_ble_eq_true rfl)⟩ (Nat.le_of_ble_eq_true rfl) (fun r48 g48 hp48 => ?_)
      obtain ⟨rfl, rfl⟩ := hp48
      exact hR dX5_now_51 (cpM_q (by unfold s_now; rw [hw]; rfl) rfl SC.rfl)
    · refine j_tsIn 1 52 (off := 51) C dX5_now_1 (by decide) (by decide) (by decide) (by decide) ?_
      refine j_al0 52 C dX5_now_52 ?_
      refine j_vi 53 C dX5_now_53 mv_X5_saysAll lk_X5_146 (c_X5_saysAll) rc_m rfl rfl ⟨(Nat.le_of_ble_eq_true rfl), (Nat.le_of_ble_eq_true rfl)⟩ (Nat.le_of_ble_eq_true rfl) (fun r53 g53 hp53 => ?_)
      obtain ⟨rfl, rfl⟩ := hp53
      exact hR dX5_now_56 (cpM_q (by unfold s_now; rw [hw]; rfl) rfl SC.rfl)
    · refine j_tsIn 1 57 (off := 56) C dX5_now_1 (by decide) (by decide) (by decide) (by decide) ?_
      refine j_al0 57 C dX5_now_57 ?_
      refine j_vi 58 C dX5_now_58 mv_X5_fedAll lk_X5_149 (c_X5_fedAll hM8 hM0) rc_m rfl rfl ⟨(Nat.le_of_ble_eq_true rfl), (Nat.le_of_ble_eq_true rfl)⟩ (Nat.le_of_ble_eq_true rfl) (fun r58 g58 hp58 => ?_)
      obtain ⟨rfl, rfl⟩ := hp58
      exact hR dX5_now_61 (cpM_q (by unfold s_now; rw [hw]; rfl) rfl SC.rfl)
    · refine j_tsIn 1 62 (off := 61) C dX5_now_1 (by decide) (by decide) (by decide) (by decide) ?_
      refine j_al0 62 C dX5_now_62 ?_
      refine j_vi 63 C dX5_now_63 mv_X5_hungry lk_X5_152 (c_X5_hungry hM8 hM0 hS) rc_m rfl rfl ⟨(Nat.le_of_ble_eq_true rfl), (Nat.le_of_ble_eq_true rfl)⟩ (Nat.le_of_ble_eq_true rfl) (fun r63 g63 hp63 => ?_)
      obtain ⟨rfl, rfl⟩ := hp63
      exact hR dX5_now_66 (cpM_q (by unfold s_now; rw [hw]; rfl) rfl SC.rfl)
    · refine j_tsIn 1 67 (off := 66) C dX5_now_1 (by decide) (by decide) (by decide) (by decide) ?_
      refine j_al0 67 C dX5_now_67 ?_
      refine j_vi 68 C dX5_now_68 mv_X5_barePages lk_X5_155 (c_X5_barePages hS.2.1) rc_m rfl rfl ⟨(Nat.le_of_ble_eq_true rfl), (Nat.le_of_ble_eq_true rfl)⟩ (Nat.le_of_ble_eq_true rfl) (fun r68 g68 hp68 => ?_)
      obtain ⟨rfl, rfl⟩ := hp68
      exact hR dX5_now_71 (cpM_q (by unfold s_now; rw [hw]; rfl) rfl SC.rfl)
  · rw [Bool.not_eq_true] at hw
    refine j_tsOut 1 72 C dX5_now_1 (ts_out hw (by decide)) (by decide) ?_
    refine j_al0 72 C dX5_now_72 ?_
    refine j_ldc 73 C dX5_now_73 cs_X5_40 ?_
    refine j_vi 75 C dX5_now_75 mv_X5_finds lk_X5_46 (c_X5_finds (f := 0) (by decide) (by decide)) rc_m rfl rfl ⟨(Nat.le_of_ble_eq_true rfl), (Nat.le_of_ble_eq_true rfl)⟩ (Nat.le_of_ble_eq_true rfl) (fun r75 g75 hp75 => ?_)
    obtain ⟨rfl, rfl⟩ := hp75
    exact hR dX5_now_78 (cpM_f (f := 0) (by simp [s_now, hw]) (by decide) (by decide) SC.rfl)
set_option maxRecDepth 20000 in
theorem c_X5_ahead {G : GT} {g : Mem} (hS : SI (g 12)) {T : Nat} (hT : g 12 1 = nI T) (hTb : T ≤ 31000) {p k n : Int32} : Cti G yX5_ahead cX5_ahead 5 .int 6 140 [.ref (mo G), .int p, .int k, .int n] g (fun r g' => cpM (s_ahead p k n (g 12)) g r g') := by
  refine ent_i (by decide) (Nat.le_of_ble_eq_true rfl) [some (.ref (mo G)), some (.int p), some (.int k), some (.int n), none] rfl ?_
  intro X C hR
  have C : CX X G RX5 cX5_ahead 5 6 140 := C
  refine j_il1 0 C dX5_ahead_0 ?_
  refine j_il2 1 C dX5_ahead_1 ?_
  refine j_si 2 C dX5_ahead_2 ms_X5_isPlace lk_X5_50 (c_X5_isPlace) rfl rfl ⟨(Nat.le_of_ble_eq_true rfl), (Nat.le_of_ble_eq_true rfl)⟩ (Nat.le_of_ble_eq_true rfl) (fun r2 g2 hp2 => ?_)
  obtain ⟨rfl, rfl⟩ := hp2
  refine j_ifeq 5 20 C dX5_ahead_5 (by decide) (fun c5 => ?_) (fun c5 => ?_)
  · have v5 := bi_0 c5
    refine j_al0 20 C dX5_ahead_20 ?_
    refine j_ldc 21 C dX5_ahead_21 cs_X5_40 ?_
    refine j_vi 23 C dX5_ahead_23 mv_X5_finds lk_X5_46 (c_X5_finds (f := 0) (by decide) (by decide)) rc_m rfl rfl ⟨(Nat.le_of_ble_eq_true rfl), (Nat.le_of_ble_eq_true rfl)⟩ (Nat.le_of_ble_eq_true rfl) (fun r23 g23 hp23 => ?_)
    obtain ⟨rfl, rfl⟩ := hp23
    exact hR dX5_ahead_26 (cpM_f (f := 0) (by simp [s_ahead, v5]) (by decide) (by decide) SC.rfl)
  · have v5 := bi_n c5
    refine j_il3 8 C dX5_ahead_8 ?_
    refine j_i2l 9 C dX5_ahead_9 ?_
    refine j_lconst 10 C dX5_ahead_10 lc_0 ?_
    refine j_ldc2 11 C dX5_ahead_11 cl_X5_158 ?_
    refine j_si 14 C dX5_ahead_14 ms_X5_isIn lk_X5_56 (c_X5_isIn (lo := 0) (hi := 100) (by decide) (by decide)) rfl rfl ⟨(Nat.le_of_ble_eq_true rfl), (Nat.le_of_ble_eq_true rfl)⟩ (Nat.le_of_ble_eq_true rfl) (fun r14 g14 hp14 => ?_)
    obtain ⟨rfl, rfl⟩ := hp14
    refine j_ifne 17 27 C dX5_ahead_17 (by decide) (fun c17 => ?_) (fun c17 => ?_)
    · have v17 := bi_n c17
      obtain ⟨w1, w2⟩ := and_tt v5
      obtain ⟨P, hP, rfl⟩ := inr_nat (n := 5) (by decide) w1
      obtain ⟨K, hK, rfl⟩ := inr_nat (n := 7) (by decide) w2
      obtain ⟨N, hN, rfl⟩ := inr_nat (n := 100) (by decide) v17
      refine j_al0 27 C dX5_ahead_27 ?_
      refine jg_X5_7 28 C dX5_ahead_28 ?_
      refine j_al0 31 C dX5_ahead_31 ?_
      refine jg_X5_19 32 C dX5_ahead_32 ?_
      refine j_sv 35 C dX5_ahead_35 ms_X5_copyRow lk_X5_160 (c_X5_copyRow (i := 0) (j := 3) (by decide) (by decide) (by decide)) rfl rfl ⟨(Nat.le_of_ble_eq_true rfl), (Nat.le_of_ble_eq_true rfl)⟩ (Nat.le_of_ble_eq_true rfl) (fun g35 hp35 => ?_)
      have hp35 : g35 = ub g 15 (g 12) := hp35
      subst hp35
      refine j_al0 38 C dX5_ahead_38 ?_
      refine j_il3 39 C dX5_ahead_39 ?_
      refine j_vv 40 C dX5_ahead_40 mv_X5_goes lk_X5_139 (c_X5_goes (by rw [ub_n (by decide)]; exact hS) (by omega)) rc_m rfl rfl ⟨(Nat.le_of_ble_eq_true rfl), (Nat.le_of_ble_eq_true rfl)⟩ (Nat.le_of_ble_eq_true rfl) (fun g40 hp40 => ?_)
      obtain rfl := hp40
      rw [ub_n (b' := 12) (b := 15) (by decide)]
      refine j_al0 43 C dX5_ahead_43 ?_
      refine j_il1 44 C dX5_ahead_44 ?_
      refine j_il2 45 C dX5_ahead_45 ?_
      refine j_vi 46 C dX5_ahead_46 mv_X5_wordAt lk_X5_64 (c_X5_wordAt (by omega) (by omega)) rc_m rfl rfl ⟨(Nat.le_of_ble_eq_true rfl), (Nat.le_of_ble_eq_true rfl)⟩ (Nat.le_of_ble_eq_true rfl) (fun r46 g46 hp46 => ?_)
      obtain ⟨hr46, rfl⟩ := hp46
      rw [ub_s] at hr46
      subst hr46
      refine j_is4 49 C dX5_ahead_49 rfl (Nat.le_of_ble_eq_true rfl) ?_
      refine j_al0 51 C dX5_ahead_51 ?_
      refine jg_X5_19 52 C dX5_ahead_52 ?_
      refine j_al0 55 C dX5_ahead_55 ?_
      refine jg_X5_7 56 C dX5_ahead_56 ?_
      refine j_sv 59 C dX5_ahead_59 ms_X5_copyRow lk_X5_160 (c_X5_copyRow (i := 3) (j := 0) (by decide) (by decide) (by decide)) rfl rfl ⟨(Nat.le_of_ble_eq_true rfl), (Nat.le_of_ble_eq_true rfl)⟩ (Nat.le_of_ble_eq_true rfl) (fun g59 hp59 => ?_)
      have hp59 := hp59.trans rs15
      subst hp59
      refine j_il4 62 C dX5_ahead_62 ?_
      exact hR dX5_ahead_64 (cpM_q (by simp [s_ahead, v5, v17, cl_nI (show P < 2 ^ 31 by omega), cl_nI (show K < 2 ^ 31 by omega), cl_nI (show N < 2 ^ 31 by omega)]) rfl SC_15)
    · have v17 := bi_0 c17
      refine j_al0 20 C dX5_ahead_20 ?_
      refine j_ldc 21 C dX5_ahead_21 cs_X5_40 ?_
      refine j_vi 23 C dX5_ahead_23 mv_X5_finds lk_X5_46 (c_X5_finds (f := 0) (by decide) (by decide)) rc_m rfl rfl ⟨(Nat.le_of_ble_eq_true rfl), (Nat.le_of_ble_eq_true rfl)⟩ (Nat.le_of_ble_eq_true rfl) (fun r23 g23 hp23 => ?_)
      obtain ⟨rfl, rfl⟩ := hp23
      exact hR dX5_ahead_26 (cpM_f (f := 0) (by simp [s_ahead, v5, v17]) (by decide) (by decide) SC.rfl)
set_option maxRecDepth 20000 in
theorem c_X5_saysIn {G : GT} {g : Mem} (hS : SI (g 12)) {P N : Nat} (hP : P < 6) (hN : N < 1000) : Cti G yX5_saysIn cX5_saysIn 4 .int 6 140 [.ref (mo G), .int (nI P), .int (nI N)] g (fun r g' => r = ss (ngs (g 12) 0 N) P 8 ∧ g' = ub g 15 (g 12)) := by
  refine ent_i (by decide) (Nat.le_of_ble_eq_true rfl) [some (.ref (mo G)), some (.int (nI P)), some (.int (nI N)), none] rfl ?_
  intro X C hR
  have C : CX X G RX5 cX5_saysIn 4 6 140 := C
  refine j_al0 0 C dX5_saysIn_0 ?_
  refine jg_X5_7 1 C dX5_saysIn_1 ?_
  refine j_al0 4 C dX5_saysIn_4 ?_
  refine jg_X5_19 5 C dX5_saysIn_5 ?_
  refine j_sv 8 C dX5_saysIn_8 ms_X5_copyRow lk_X5_160 (c_X5_copyRow (i := 0) (j := 3) (by decide) (by decide) (by decide)) rfl rfl ⟨(Nat.le_of_ble_eq_true rfl), (Nat.le_of_ble_eq_true rfl)⟩ (Nat.le_of_ble_eq_true rfl) (fun g8 hp8 => ?_)
  have hp8 : g8 = ub g 15 (g 12) := hp8
  subst hp8
  refine j_al0 11 C dX5_saysIn_11 ?_
  refine j_il2 12 C dX5_saysIn_12 ?_
  refine j_vv 13 C dX5_saysIn_13 mv_X5_goes lk_X5_139 (c_X5_goes (by rw [ub_n (by decide)]; exact hS) (by omega)) rc_m rfl rfl ⟨(Nat.le_of_ble_eq_true rfl), (Nat.le_of_ble_eq_true rfl)⟩ (Nat.le_of_ble_eq_true rfl) (fun g13 hp13 => ?_)
  obtain rfl := hp13
  rw [ub_n (b' := 12) (b := 15) (by decide)]
  refine j_al0 16 C dX5_saysIn_16 ?_
  refine j_il1 17 C dX5_saysIn_17 ?_
  refine j_vi 18 C dX5_saysIn_18 mv_X5_saysNow lk_X5_72 (c_X5_saysNow hP) rc_m rfl rfl ⟨(Nat.le_of_ble_eq_true rfl), (Nat.le_of_ble_eq_true rfl)⟩ (Nat.le_of_ble_eq_true rfl) (fun r18 g18 hp18 => ?_)
  obtain ⟨hr18, rfl⟩ := hp18
  rw [ub_s] at hr18
  subst hr18
  refine j_is3 21 C dX5_saysIn_21 rfl (Nat.le_of_ble_eq_true rfl) ?_
  refine j_al0 22 C dX5_saysIn_22 ?_
  refine jg_X5_19 23 C dX5_saysIn_23 ?_
  refine j_al0 26 C dX5_saysIn_26 ?_
  refine jg_X5_7 27 C dX5_saysIn_27 ?_
  refine j_sv 30 C dX5_saysIn_30 ms_X5_copyRow lk_X5_160 (c_X5_copyRow (i := 3) (j := 0) (by decide) (by decide) (by decide)) rfl rfl ⟨(Nat.le_of_ble_eq_true rfl), (Nat.le_of_ble_eq_true rfl)⟩ (Nat.le_of_ble_eq_true rfl) (fun g30 hp30 => ?_)
  have hp30 := hp30.trans rs15
  subst hp30
  refine j_il3 33 C dX5_saysIn_33 ?_
  exact hR dX5_saysIn_34 ⟨rfl, rfl⟩
set_option maxRecDepth 20000 in
theorem c_X5_says {G : GT} {g : Mem} (hS : SI (g 12)) {T : Nat} (hT : g 12 1 = nI T) (hTb : T ≤ 31000) {p n : Int32} : Cti G yX5_says cX5_says 3 .int 7 163 [.ref (mo G), .int p, .int n] g (fun r g' => cpM (s_says p n (g 12)) g r g') := by
  refine ent_i (by decide) (Nat.le_of_ble_eq_true rfl) [some (.ref (mo G)), some (.int p), some (.int n)] rfl ?_
  intro X C hR
  have C : CX X G RX5 cX5_says 3 7 163 := C
  refine j_il1 0 C dX5_says_0 ?_
  refine j_si 1 C dX5_says_1 ms_X5_isPage lk_X5_41 (c_X5_isPage) rfl rfl ⟨(Nat.le_of_ble_eq_true rfl), (Nat.le_of_ble_eq_true rfl)⟩ (Nat.le_of_ble_eq_true rfl) (fun r1 g1 hp1 => ?_)
  obtain ⟨rfl, rfl⟩ := hp1
  refine j_ifeq 4 28 C dX5_says_4 (by decide) (fun c4 => ?_) (fun c4 => ?_)
  · have v4 := bi_0 c4
    refine j_al0 28 C dX5_says_28 ?_
    refine j_ldc 29 C dX5_says_29 cs_X5_40 ?_
    refine j_vi 31 C dX5_says_31 mv_X5_finds lk_X5_46 (c_X5_finds (f := 0) (by decide) (by decide)) rc_m rfl rfl ⟨(Nat.le_of_ble_eq_true rfl), (Nat.le_of_ble_eq_true rfl)⟩ (Nat.le_of_ble_eq_true rfl) (fun r31 g31 hp31 => ?_)
    obtain ⟨rfl, rfl⟩ := hp31
    exact hR dX5_says_34 (cpM_f (f := 0) (by simp [s_says, v4]) (by decide) (by decide) SC.rfl)
  · have v4 := bi_n c4
    refine j_il2 7 C dX5_says_7 ?_
    refine j_i2l 8 C dX5_says_8 ?_
    refine j_lconst 9 C dX5_says_9 lc_0 ?_
    refine j_ldc2 10 C dX5_says_10 cl_X5_158 ?_
    refine j_si 13 C dX5_says_13 ms_X5_isIn lk_X5_56 (c_X5_isIn (lo := 0) (hi := 100) (by decide) (by decide)) rfl rfl ⟨(Nat.le_of_ble_eq_true rfl), (Nat.le_of_ble_eq_true rfl)⟩ (Nat.le_of_ble_eq_true rfl) (fun r13 g13 hp13 => ?_)
    obtain ⟨rfl, rfl⟩ := hp13
    refine j_ifeq 16 28 C dX5_says_16 (by decide) (fun c16 => ?_) (fun c16 => ?_)
    · have v16 := bi_0 c16
      refine j_al0 28 C dX5_says_28 ?_
      refine j_ldc 29 C dX5_says_29 cs_X5_40 ?_
      refine j_vi 31 C dX5_says_31 mv_X5_finds lk_X5_46 (c_X5_finds (f := 0) (by decide) (by decide)) rc_m rfl rfl ⟨(Nat.le_of_ble_eq_true rfl), (Nat.le_of_ble_eq_true rfl)⟩ (Nat.le_of_ble_eq_true rfl) (fun r31 g31 hp31 => ?_)
      obtain ⟨rfl, rfl⟩ := hp31
      exact hR dX5_says_34 (cpM_f (f := 0) (by simp [s_says, v4, v16]) (by decide) (by decide) SC.rfl)
    · have v16 := bi_n c16
      obtain ⟨P, hP, rfl⟩ := inr_nat (n := 5) (by decide) v4
      obtain ⟨N, hN, rfl⟩ := inr_nat (n := 100) (by decide) v16
      refine j_al0 19 C dX5_says_19 ?_
      refine j_il1 20 C dX5_says_20 ?_
      refine j_il2 21 C dX5_says_21 ?_
      refine j_vi 22 C dX5_says_22 mv_X5_saysIn lk_X5_164 (c_X5_saysIn hS (by omega) (by omega)) rc_m rfl rfl ⟨(Nat.le_of_ble_eq_true rfl), (Nat.le_of_ble_eq_true rfl)⟩ (Nat.le_of_ble_eq_true rfl) (fun r22 g22 hp22 => ?_)
      obtain ⟨rfl, rfl⟩ := hp22
      refine j_goto 25 34 C dX5_says_25 (by decide) ?_
      exact hR dX5_says_34 (cpM_q (by simp [s_says, v4, v16, cl_nI (show P < 2 ^ 31 by omega), cl_nI (show N < 2 ^ 31 by omega)]) rfl SC_15)
set_option maxRecDepth 20000 in
theorem c_X5_fed {G : GT} {g : Mem} (hS : SI (g 12)) {T : Nat} (hT : g 12 1 = nI T) (hTb : T ≤ 31000) {m n : Int32} : Cti G yX5_fed cX5_fed 4 .int 6 140 [.ref (mo G), .int m, .int n] g (fun r g' => cpM (s_fed m n (g 12)) g r g') := by
  refine ent_i (by decide) (Nat.le_of_ble_eq_true rfl) [some (.ref (mo G)), some (.int m), some (.int n), none] rfl ?_
  intro X C hR
  have C : CX X G RX5 cX5_fed 4 6 140 := C
  refine j_al0 0 C dX5_fed_0 ?_
  refine j_il1 1 C dX5_fed_1 ?_
  refine j_vi 2 C dX5_fed_2 mv_X5_isMoth lk_X5_112 (c_X5_isMoth hS.1) rc_m rfl rfl ⟨(Nat.le_of_ble_eq_true rfl), (Nat.le_of_ble_eq_true rfl)⟩ (Nat.le_of_ble_eq_true rfl) (fun r2 g2 hp2 => ?_)
  obtain ⟨rfl, rfl⟩ := hp2
  refine j_ifeq 5 20 C dX5_fed_5 (by decide) (fun c5 => ?_) (fun c5 => ?_)
  · have v5 := bi_0 c5
    refine j_al0 20 C dX5_fed_20 ?_
    refine j_ldc 21 C dX5_fed_21 cs_X5_40 ?_
    refine j_vi 23 C dX5_fed_23 mv_X5_finds lk_X5_46 (c_X5_finds (f := 0) (by decide) (by decide)) rc_m rfl rfl ⟨(Nat.le_of_ble_eq_true rfl), (Nat.le_of_ble_eq_true rfl)⟩ (Nat.le_of_ble_eq_true rfl) (fun r23 g23 hp23 => ?_)
    obtain ⟨rfl, rfl⟩ := hp23
    exact hR dX5_fed_26 (cpM_f (f := 0) (by simp [s_fed, v5]) (by decide) (by decide) SC.rfl)
  · have v5 := bi_n c5
    refine j_il2 8 C dX5_fed_8 ?_
    refine j_i2l 9 C dX5_fed_9 ?_
    refine j_lconst 10 C dX5_fed_10 lc_0 ?_
    refine j_ldc2 11 C dX5_fed_11 cl_X5_158 ?_
    refine j_si 14 C dX5_fed_14 ms_X5_isIn lk_X5_56 (c_X5_isIn (lo := 0) (hi := 100) (by decide) (by decide)) rfl rfl ⟨(Nat.le_of_ble_eq_true rfl), (Nat.le_of_ble_eq_true rfl)⟩ (Nat.le_of_ble_eq_true rfl) (fun r14 g14 hp14 => ?_)
    obtain ⟨rfl, rfl⟩ := hp14
    refine j_ifne 17 27 C dX5_fed_17 (by decide) (fun c17 => ?_) (fun c17 => ?_)
    · have v17 := bi_n c17
      obtain ⟨hM8, hM0⟩ := SI_cl0 hS
      obtain ⟨M, hM, rfl⟩ := isM_nat hM0 hM8 v5
      obtain ⟨N, hN, rfl⟩ := inr_nat (n := 100) (by decide) v17
      refine j_al0 27 C dX5_fed_27 ?_
      refine jg_X5_7 28 C dX5_fed_28 ?_
      refine j_al0 31 C dX5_fed_31 ?_
      refine jg_X5_19 32 C dX5_fed_32 ?_
      refine j_sv 35 C dX5_fed_35 ms_X5_copyRow lk_X5_160 (c_X5_copyRow (i := 0) (j := 3) (by decide) (by decide) (by decide)) rfl rfl ⟨(Nat.le_of_ble_eq_true rfl), (Nat.le_of_ble_eq_true rfl)⟩ (Nat.le_of_ble_eq_true rfl) (fun g35 hp35 => ?_)
      have hp35 : g35 = ub g 15 (g 12) := hp35
      subst hp35
      refine j_al0 38 C dX5_fed_38 ?_
      refine j_il2 39 C dX5_fed_39 ?_
      refine j_vv 40 C dX5_fed_40 mv_X5_goes lk_X5_139 (c_X5_goes (by rw [ub_n (by decide)]; exact hS) (by omega)) rc_m rfl rfl ⟨(Nat.le_of_ble_eq_true rfl), (Nat.le_of_ble_eq_true rfl)⟩ (Nat.le_of_ble_eq_true rfl) (fun g40 hp40 => ?_)
      obtain rfl := hp40
      rw [ub_n (b' := 12) (b := 15) (by decide)]
      refine j_al0 43 C dX5_fed_43 ?_
      refine j_il1 44 C dX5_fed_44 ?_
      refine j_iconst 45 C dX5_fed_45 ic_3 ?_
      refine j_vi 46 C dX5_fed_46 mv_X5_its lk_X5_67 (c_X5_its (W := 3) (by omega) (by decide)) rc_m rfl rfl ⟨(Nat.le_of_ble_eq_true rfl), (Nat.le_of_ble_eq_true rfl)⟩ (Nat.le_of_ble_eq_true rfl) (fun r46 g46 hp46 => ?_)
      obtain ⟨hr46, rfl⟩ := hp46
      rw [ub_s] at hr46
      subst hr46
      refine j_is3 49 C dX5_fed_49 rfl (Nat.le_of_ble_eq_true rfl) ?_
      refine j_al0 50 C dX5_fed_50 ?_
      refine jg_X5_19 51 C dX5_fed_51 ?_
      refine j_al0 54 C dX5_fed_54 ?_
      refine jg_X5_7 55 C dX5_fed_55 ?_
      refine j_sv 58 C dX5_fed_58 ms_X5_copyRow lk_X5_160 (c_X5_copyRow (i := 3) (j := 0) (by decide) (by decide) (by decide)) rfl rfl ⟨(Nat.le_of_ble_eq_true rfl), (Nat.le_of_ble_eq_true rfl)⟩ (Nat.le_of_ble_eq_true rfl) (fun g58 hp58 => ?_)
      have hp58 := hp58.trans rs15
      subst hp58
      refine j_il3 61 C dX5_fed_61 ?_
      exact hR dX5_fed_62 (cpM_q (by simp [s_fed, v5, v17, cl_nI (show M < 2 ^ 31 by omega), cl_nI (show N < 2 ^ 31 by omega)]) rfl SC_15)
    · have v17 := bi_0 c17
      refine j_al0 20 C dX5_fed_20 ?_
      refine j_ldc 21 C dX5_fed_21 cs_X5_40 ?_
      refine j_vi 23 C dX5_fed_23 mv_X5_finds lk_X5_46 (c_X5_finds (f := 0) (by decide) (by decide)) rc_m rfl rfl ⟨(Nat.le_of_ble_eq_true rfl), (Nat.le_of_ble_eq_true rfl)⟩ (Nat.le_of_ble_eq_true rfl) (fun r23 g23 hp23 => ?_)
      obtain ⟨rfl, rfl⟩ := hp23
      exact hR dX5_fed_26 (cpM_f (f := 0) (by simp [s_fed, v5, v17]) (by decide) (by decide) SC.rfl)
set_option maxRecDepth 20000 in
theorem c_X5_bare {G : GT} {g : Mem} (hS : SI (g 12)) {T : Nat} (hT : g 12 1 = nI T) (hTb : T ≤ 31000) {p : Int32} : Cti G yX5_bare cX5_bare 3 .int 5 118 [.ref (mo G), .int p] g (fun r g' => cpM (s_bare p (g 12)) g r g') := by
  refine ent_i (by decide) (Nat.le_of_ble_eq_true rfl) [some (.ref (mo G)), some (.int p), none] rfl ?_
  intro X C hR
  have C : CX X G RX5 cX5_bare 3 5 118 := C
  refine j_il1 0 C dX5_bare_0 ?_
  refine j_si 1 C dX5_bare_1 ms_X5_isPage lk_X5_41 (c_X5_isPage) rfl rfl ⟨(Nat.le_of_ble_eq_true rfl), (Nat.le_of_ble_eq_true rfl)⟩ (Nat.le_of_ble_eq_true rfl) (fun r1 g1 hp1 => ?_)
  obtain ⟨rfl, rfl⟩ := hp1
  refine j_ifne 4 14 C dX5_bare_4 (by decide) (fun c4 => ?_) (fun c4 => ?_)
  · have v4 := bi_n c4
    obtain ⟨P, hP, rfl⟩ := inr_nat (n := 5) (by decide) v4
    have loop : ∀ n k, k + n = 201 → ff (fun n => bare (ngs (g 12) 0 n) P) 0 201 = ff (fun n => bare (ngs (g 12) 0 n) P) k (201 - k) → J X G 3 (ub (ub g 15 (g 12)) 12 (ngs (g 12) 0 k)) 27 [some (.ref (mo G)), some (.int (nI P)), some (.int (nI k))] [] := by
      intro n
      induction n with
      | zero =>
        intro k hk hf
        obtain rfl : k = 201 := by omega
        refine j_il2 27 C dX5_bare_27 ?_
        refine j_sipush 28 C dX5_bare_28 sq_200 ?_
        refine j_icgt 31 53 C dX5_bare_31 (by decide) (fun c31 => ?_) (fun c31 => ?_)
        · refine j_al0 53 C dX5_bare_53 ?_
          refine jg_X5_19 54 C dX5_bare_54 ?_
          refine j_al0 57 C dX5_bare_57 ?_
          refine jg_X5_7 58 C dX5_bare_58 ?_
          refine j_sv 61 C dX5_bare_61 ms_X5_copyRow lk_X5_160 (c_X5_copyRow (i := 3) (j := 0) (by decide) (by decide) (by decide)) rfl rfl ⟨(Nat.le_of_ble_eq_true rfl), (Nat.le_of_ble_eq_true rfl)⟩ (Nat.le_of_ble_eq_true rfl) (fun g61 hp61 => ?_)
          have hp61 := hp61.trans rs15
          subst hp61
          refine j_il2 64 C dX5_bare_64 ?_
          refine j_sipush 65 C dX5_bare_65 sq_200 ?_
          refine j_icgt 68 75 C dX5_bare_68 (by decide) (fun c68 => ?_) (fun c68 => ?_)
          · refine j_al0 75 C dX5_bare_75 ?_
            refine j_ldc 76 C dX5_bare_76 cs_X5_45 ?_
            refine j_vi 78 C dX5_bare_78 mv_X5_finds lk_X5_46 (c_X5_finds (f := 3) (by decide) (by decide)) rc_m rfl rfl ⟨(Nat.le_of_ble_eq_true rfl), (Nat.le_of_ble_eq_true rfl)⟩ (Nat.le_of_ble_eq_true rfl) (fun r78 g78 hp78 => ?_)
            obtain ⟨rfl, rfl⟩ := hp78
            exact hR dX5_bare_81 (cpM_f (f := 3) (by unfold s_bare; rw [v4, cl_nI (show P < 2 ^ 31 by omega)]; exact (if_pos rfl).trans (fst_n hf)) (by decide) (by decide) (FM_SC SC_15))
          · exact absurd (by decide) c68
        · exact absurd (by decide) c31
      | succ n ih =>
        intro k hk hf
        refine j_il2 27 C dX5_bare_27 ?_
        refine j_sipush 28 C dX5_bare_28 sq_200 ?_
        refine j_icgt 31 53 C dX5_bare_31 (by decide) (fun c31 => ?_) (fun c31 => ?_)
        · exact absurd c31 (nI_nlt (a := 200) (b := k) (by omega) (by decide))
        · refine j_al0 34 C dX5_bare_34 ?_
          refine j_il1 35 C dX5_bare_35 ?_
          refine j_vi 36 C dX5_bare_36 mv_X5_whole lk_X5_75 (c_X5_whole (by omega) (by rw [ub_s]; exact (ngs_SI hS).2.1)) rc_m rfl rfl ⟨(Nat.le_of_ble_eq_true rfl), (Nat.le_of_ble_eq_true rfl)⟩ (Nat.le_of_ble_eq_true rfl) (fun r36 g36 hp36 => ?_)
          obtain ⟨hr36, rfl⟩ := hp36
          rw [ub_s] at hr36
          subst hr36
          refine j_ifeq 39 53 C dX5_bare_39 (by decide) (fun c39 => ?_) (fun c39 => ?_)
          · have e9 : ff (fun n => bare (ngs (g 12) 0 n) P) k (201 - k) = nI k := by rw [show 201 - k = (201 - (k + 1)) + 1 by omega]; exact if_pos (show bare (ngs (g 12) 0 k) P = true from decide_eq_true c39)
            refine j_al0 53 C dX5_bare_53 ?_
            refine jg_X5_19 54 C dX5_bare_54 ?_
            refine j_al0 57 C dX5_bare_57 ?_
            refine jg_X5_7 58 C dX5_bare_58 ?_
            refine j_sv 61 C dX5_bare_61 ms_X5_copyRow lk_X5_160 (c_X5_copyRow (i := 3) (j := 0) (by decide) (by decide) (by decide)) rfl rfl ⟨(Nat.le_of_ble_eq_true rfl), (Nat.le_of_ble_eq_true rfl)⟩ (Nat.le_of_ble_eq_true rfl) (fun g61 hp61 => ?_)
            have hp61 := hp61.trans rs15
            subst hp61
            refine j_il2 64 C dX5_bare_64 ?_
            refine j_sipush 65 C dX5_bare_65 sq_200 ?_
            refine j_icgt 68 75 C dX5_bare_68 (by decide) (fun c68 => ?_) (fun c68 => ?_)
            · exact absurd c68 (nI_nlt (a := 200) (b := k) (by omega) (by decide))
            · refine j_il2 71 C dX5_bare_71 ?_
              refine j_goto 72 81 C dX5_bare_72 (by decide) ?_
              exact hR dX5_bare_81 (cpM_q (by unfold s_bare; rw [v4, cl_nI (show P < 2 ^ 31 by omega)]; exact (if_pos rfl).trans (fst_y (hf.trans e9) (by omega))) rfl SC_15)
          · have e9 : ff (fun n => bare (ngs (g 12) 0 n) P) k (201 - k) = ff (fun n => bare (ngs (g 12) 0 n) P) (k + 1) (201 - (k + 1)) := by rw [show 201 - k = (201 - (k + 1)) + 1 by omega]; exact if_neg (fun q => c39 (of_decide_eq_true q))
            refine j_al0 42 C dX5_bare_42 ?_
            refine j_iconst 43 C dX5_bare_43 ic_0 ?_
            refine j_vv 44 C dX5_bare_44 mv_X5_nightBut lk_X5_131 (c_X5_nightBut (O := 0) (by rw [ub_s]; exact ngs_SI hS) (by decide)) rc_m rfl rfl ⟨(Nat.le_of_ble_eq_true rfl), (Nat.le_of_ble_eq_true rfl)⟩ (Nat.le_of_ble_eq_true rfl) (fun g44 hp44 => ?_)
            obtain rfl := hp44
            rw [ub_ub, ub_s, show ng (ngs (g 12) 0 k) 0 = ngs (g 12) 0 (k + 1) from rfl]
            refine j_inc2 47 C dX5_bare_47 rfl (nI_inc _) (Nat.le_of_ble_eq_true rfl) ?_
            refine j_goto 50 27 C dX5_bare_50 (by decide) ?_
            exact ih (k + 1) (by omega) (hf.trans e9)
    refine j_al0 14 C dX5_bare_14 ?_
    refine jg_X5_7 15 C dX5_bare_15 ?_
    refine j_al0 18 C dX5_bare_18 ?_
    refine jg_X5_19 19 C dX5_bare_19 ?_
    refine j_sv 22 C dX5_bare_22 ms_X5_copyRow lk_X5_160 (c_X5_copyRow (i := 0) (j := 3) (by decide) (by decide) (by decide)) rfl rfl ⟨(Nat.le_of_ble_eq_true rfl), (Nat.le_of_ble_eq_true rfl)⟩ (Nat.le_of_ble_eq_true rfl) (fun g22 hp22 => ?_)
    have hp22 : g22 = ub g 15 (g 12) := hp22
    subst hp22
    refine j_iconst 25 C dX5_bare_25 ic_0 ?_
    refine j_is2 26 C dX5_bare_26 rfl (Nat.le_of_ble_eq_true rfl) ?_
    have h9 := loop 201 0 rfl rfl
    rw [show ub (ub g 15 (g 12)) 12 (ngs (g 12) 0 0) = ub g 15 (g 12) from (congrArg (ub (ub g 15 (g 12)) 12) (ub_n (g := g) (S := g 12) (show (12 : Nat) ≠ 15 by decide)).symm).trans ub_id] at h9
    exact h9
  · have v4 := bi_0 c4
    refine j_al0 7 C dX5_bare_7 ?_
    refine j_ldc 8 C dX5_bare_8 cs_X5_40 ?_
    refine j_vi 10 C dX5_bare_10 mv_X5_finds lk_X5_46 (c_X5_finds (f := 0) (by decide) (by decide)) rc_m rfl rfl ⟨(Nat.le_of_ble_eq_true rfl), (Nat.le_of_ble_eq_true rfl)⟩ (Nat.le_of_ble_eq_true rfl) (fun r10 g10 hp10 => ?_)
    obtain ⟨rfl, rfl⟩ := hp10
    exact hR dX5_bare_13 (cpM_f (f := 0) (by simp [s_bare, v4]) (by decide) (by decide) SC.rfl)
set_option maxRecDepth 20000 in
theorem c_X5_when {G : GT} {g : Mem} (hS : SI (g 12)) {T : Nat} (hT : g 12 1 = nI T) (hTb : T ≤ 31000) {p v : Int32} : Cti G yX5_when cX5_when 4 .int 5 118 [.ref (mo G), .int p, .int v] g (fun r g' => cpM (s_when p v (g 12)) g r g') := by
  refine ent_i (by decide) (Nat.le_of_ble_eq_true rfl) [some (.ref (mo G)), some (.int p), some (.int v), none] rfl ?_
  intro X C hR
  have C : CX X G RX5 cX5_when 4 5 118 := C
  refine j_il1 0 C dX5_when_0 ?_
  refine j_si 1 C dX5_when_1 ms_X5_isPage lk_X5_41 (c_X5_isPage) rfl rfl ⟨(Nat.le_of_ble_eq_true rfl), (Nat.le_of_ble_eq_true rfl)⟩ (Nat.le_of_ble_eq_true rfl) (fun r1 g1 hp1 => ?_)
  obtain ⟨rfl, rfl⟩ := hp1
  refine j_ifeq 4 19 C dX5_when_4 (by decide) (fun c4 => ?_) (fun c4 => ?_)
  · have v4 := bi_0 c4
    refine j_al0 19 C dX5_when_19 ?_
    refine j_ldc 20 C dX5_when_20 cs_X5_40 ?_
    refine j_vi 22 C dX5_when_22 mv_X5_finds lk_X5_46 (c_X5_finds (f := 0) (by decide) (by decide)) rc_m rfl rfl ⟨(Nat.le_of_ble_eq_true rfl), (Nat.le_of_ble_eq_true rfl)⟩ (Nat.le_of_ble_eq_true rfl) (fun r22 g22 hp22 => ?_)
    obtain ⟨rfl, rfl⟩ := hp22
    exact hR dX5_when_25 (cpM_f (f := 0) (by simp [s_when, v4]) (by decide) (by decide) SC.rfl)
  · have v4 := bi_n c4
    refine j_il2 7 C dX5_when_7 ?_
    refine j_i2l 8 C dX5_when_8 ?_
    refine j_lconst 9 C dX5_when_9 lc_0 ?_
    refine j_ldc2 10 C dX5_when_10 cl_X5_167 ?_
    refine j_si 13 C dX5_when_13 ms_X5_isIn lk_X5_56 (c_X5_isIn (lo := 0) (hi := 324) (by decide) (by decide)) rfl rfl ⟨(Nat.le_of_ble_eq_true rfl), (Nat.le_of_ble_eq_true rfl)⟩ (Nat.le_of_ble_eq_true rfl) (fun r13 g13 hp13 => ?_)
    obtain ⟨rfl, rfl⟩ := hp13
    refine j_ifne 16 26 C dX5_when_16 (by decide) (fun c16 => ?_) (fun c16 => ?_)
    · have v16 := bi_n c16
      obtain ⟨P, hP, rfl⟩ := inr_nat (n := 5) (by decide) v4
      have loop : ∀ n k, k + n = 201 → ff (fun n => decide (ss (ngs (g 12) 0 n) P 8 = v)) 0 201 = ff (fun n => decide (ss (ngs (g 12) 0 n) P 8 = v)) k (201 - k) → J X G 4 (ub (ub g 15 (g 12)) 12 (ngs (g 12) 0 k)) 39 [some (.ref (mo G)), some (.int (nI P)), some (.int (v)), some (.int (nI k))] [] := by
        intro n
        induction n with
        | zero =>
          intro k hk hf
          obtain rfl : k = 201 := by omega
          refine j_il3 39 C dX5_when_39 ?_
          refine j_sipush 40 C dX5_when_40 sq_200 ?_
          refine j_icgt 43 66 C dX5_when_43 (by decide) (fun c43 => ?_) (fun c43 => ?_)
          · refine j_al0 66 C dX5_when_66 ?_
            refine jg_X5_19 67 C dX5_when_67 ?_
            refine j_al0 70 C dX5_when_70 ?_
            refine jg_X5_7 71 C dX5_when_71 ?_
            refine j_sv 74 C dX5_when_74 ms_X5_copyRow lk_X5_160 (c_X5_copyRow (i := 3) (j := 0) (by decide) (by decide) (by decide)) rfl rfl ⟨(Nat.le_of_ble_eq_true rfl), (Nat.le_of_ble_eq_true rfl)⟩ (Nat.le_of_ble_eq_true rfl) (fun g74 hp74 => ?_)
            have hp74 := hp74.trans rs15
            subst hp74
            refine j_il3 77 C dX5_when_77 ?_
            refine j_sipush 78 C dX5_when_78 sq_200 ?_
            refine j_icgt 81 88 C dX5_when_81 (by decide) (fun c81 => ?_) (fun c81 => ?_)
            · refine j_al0 88 C dX5_when_88 ?_
              refine j_ldc 89 C dX5_when_89 cs_X5_45 ?_
              refine j_vi 91 C dX5_when_91 mv_X5_finds lk_X5_46 (c_X5_finds (f := 3) (by decide) (by decide)) rc_m rfl rfl ⟨(Nat.le_of_ble_eq_true rfl), (Nat.le_of_ble_eq_true rfl)⟩ (Nat.le_of_ble_eq_true rfl) (fun r91 g91 hp91 => ?_)
              obtain ⟨rfl, rfl⟩ := hp91
              exact hR dX5_when_94 (cpM_f (f := 3) (by unfold s_when; rw [v4, v16, cl_nI (show P < 2 ^ 31 by omega)]; exact (if_pos rfl).trans (fst_n hf)) (by decide) (by decide) (FM_SC SC_15))
            · exact absurd (by decide) c81
          · exact absurd (by decide) c43
        | succ n ih =>
          intro k hk hf
          refine j_il3 39 C dX5_when_39 ?_
          refine j_sipush 40 C dX5_when_40 sq_200 ?_
          refine j_icgt 43 66 C dX5_when_43 (by decide) (fun c43 => ?_) (fun c43 => ?_)
          · exact absurd c43 (nI_nlt (a := 200) (b := k) (by omega) (by decide))
          · refine j_al0 46 C dX5_when_46 ?_
            refine j_il1 47 C dX5_when_47 ?_
            refine j_vi 48 C dX5_when_48 mv_X5_saysNow lk_X5_72 (c_X5_saysNow (by omega)) rc_m rfl rfl ⟨(Nat.le_of_ble_eq_true rfl), (Nat.le_of_ble_eq_true rfl)⟩ (Nat.le_of_ble_eq_true rfl) (fun r48 g48 hp48 => ?_)
            obtain ⟨hr48, rfl⟩ := hp48
            rw [ub_s] at hr48
            subst hr48
            refine j_il2 51 C dX5_when_51 ?_
            refine j_iceq 52 66 C dX5_when_52 (by decide) (fun c52 => ?_) (fun c52 => ?_)
            · have e9 : ff (fun n => decide (ss (ngs (g 12) 0 n) P 8 = v)) k (201 - k) = nI k := by rw [show 201 - k = (201 - (k + 1)) + 1 by omega]; exact if_pos (decide_eq_true c52)
              refine j_al0 66 C dX5_when_66 ?_
              refine jg_X5_19 67 C dX5_when_67 ?_
              refine j_al0 70 C dX5_when_70 ?_
              refine jg_X5_7 71 C dX5_when_71 ?_
              refine j_sv 74 C dX5_when_74 ms_X5_copyRow lk_X5_160 (c_X5_copyRow (i := 3) (j := 0) (by decide) (by decide) (by decide)) rfl rfl ⟨(Nat.le_of_ble_eq_true rfl), (Nat.le_of_ble_eq_true rfl)⟩ (Nat.le_of_ble_eq_true rfl) (fun g74 hp74 => ?_)
              have hp74 := hp74.trans rs15
              subst hp74
              refine j_il3 77 C dX5_when_77 ?_
              refine j_sipush 78 C dX5_when_78 sq_200 ?_
              refine j_icgt 81 88 C dX5_when_81 (by decide) (fun c81 => ?_) (fun c81 => ?_)
              · exact absurd c81 (nI_nlt (a := 200) (b := k) (by omega) (by decide))
              · refine j_il3 84 C dX5_when_84 ?_
                refine j_goto 85 94 C dX5_when_85 (by decide) ?_
                exact hR dX5_when_94 (cpM_q (by unfold s_when; rw [v4, v16, cl_nI (show P < 2 ^ 31 by omega)]; exact (if_pos rfl).trans (fst_y (hf.trans e9) (by omega))) rfl SC_15)
            · have e9 : ff (fun n => decide (ss (ngs (g 12) 0 n) P 8 = v)) k (201 - k) = ff (fun n => decide (ss (ngs (g 12) 0 n) P 8 = v)) (k + 1) (201 - (k + 1)) := by rw [show 201 - k = (201 - (k + 1)) + 1 by omega]; exact if_neg (fun q => c52 (of_decide_eq_true q))
              refine j_al0 55 C dX5_when_55 ?_
              refine j_iconst 56 C dX5_when_56 ic_0 ?_
              refine j_vv 57 C dX5_when_57 mv_X5_nightBut lk_X5_131 (c_X5_nightBut (O := 0) (by rw [ub_s]; exact ngs_SI hS) (by decide)) rc_m rfl rfl ⟨(Nat.le_of_ble_eq_true rfl), (Nat.le_of_ble_eq_true rfl)⟩ (Nat.le_of_ble_eq_true rfl) (fun g57 hp57 => ?_)
              obtain rfl := hp57
              rw [ub_ub, ub_s, show ng (ngs (g 12) 0 k) 0 = ngs (g 12) 0 (k + 1) from rfl]
              refine j_inc3 60 C dX5_when_60 rfl (nI_inc _) (Nat.le_of_ble_eq_true rfl) ?_
              refine j_goto 63 39 C dX5_when_63 (by decide) ?_
              exact ih (k + 1) (by omega) (hf.trans e9)
      refine j_al0 26 C dX5_when_26 ?_
      refine jg_X5_7 27 C dX5_when_27 ?_
      refine j_al0 30 C dX5_when_30 ?_
      refine jg_X5_19 31 C dX5_when_31 ?_
      refine j_sv 34 C dX5_when_34 ms_X5_copyRow lk_X5_160 (c_X5_copyRow (i := 0) (j := 3) (by decide) (by decide) (by decide)) rfl rfl ⟨(Nat.le_of_ble_eq_true rfl), (Nat.le_of_ble_eq_true rfl)⟩ (Nat.le_of_ble_eq_true rfl) (fun g34 hp34 => ?_)
      have hp34 : g34 = ub g 15 (g 12) := hp34
      subst hp34
      refine j_iconst 37 C dX5_when_37 ic_0 ?_
      refine j_is3 38 C dX5_when_38 rfl (Nat.le_of_ble_eq_true rfl) ?_
      have h9 := loop 201 0 rfl rfl
      rw [show ub (ub g 15 (g 12)) 12 (ngs (g 12) 0 0) = ub g 15 (g 12) from (congrArg (ub (ub g 15 (g 12)) 12) (ub_n (g := g) (S := g 12) (show (12 : Nat) ≠ 15 by decide)).symm).trans ub_id] at h9
      exact h9
    · have v16 := bi_0 c16
      refine j_al0 19 C dX5_when_19 ?_
      refine j_ldc 20 C dX5_when_20 cs_X5_40 ?_
      refine j_vi 22 C dX5_when_22 mv_X5_finds lk_X5_46 (c_X5_finds (f := 0) (by decide) (by decide)) rc_m rfl rfl ⟨(Nat.le_of_ble_eq_true rfl), (Nat.le_of_ble_eq_true rfl)⟩ (Nat.le_of_ble_eq_true rfl) (fun r22 g22 hp22 => ?_)
      obtain ⟨rfl, rfl⟩ := hp22
      exact hR dX5_when_25 (cpM_f (f := 0) (by simp [s_when, v4, v16]) (by decide) (by decide) SC.rfl)
set_option maxRecDepth 20000 in
theorem c_X5_areAlike {G : GT} {g : Mem} {A B : Nat} (hA : A < 6) (hB : B < 6) : Cti G yX5_areAlike cX5_areAlike 5 .boolean 1 22 [.ref (mo G), .int (nI A), .int (nI B)] g (fun r g' => r = bi (decide (ct (pU (g 12) A B) 8 = 0)) ∧ g = g') := by
  refine ent_z (by decide) (Nat.le_of_ble_eq_true rfl) [some (.ref (mo G)), some (.int (nI A)), some (.int (nI B)), none, none] rfl ?_
  intro X C hR
  have C : CX X G RX5 cX5_areAlike 5 1 22 := C
  refine j_iconst 0 C dX5_areAlike_0 ic_1 ?_
  refine j_is3 1 C dX5_areAlike_1 rfl (Nat.le_of_ble_eq_true rfl) ?_
  refine j_iconst 2 C dX5_areAlike_2 ic_0 ?_
  refine j_is4 3 C dX5_areAlike_3 rfl (Nat.le_of_ble_eq_true rfl) ?_
  have loop : ∀ n k, k + n = 8 → J X G 5 g 5 [some (.ref (mo G)), some (.int (nI A)), some (.int (nI B)), some (.int (bi (al (fun k => decide (wd (g 12) A k = wd (g 12) B k)) k))), some (.int (nI k))] [] := by
    intro n
    induction n with
    | zero =>
      intro k hk
      obtain rfl : k = 8 := by omega
      refine j_il4 5 C dX5_areAlike_5 ?_
      refine j_bipush 7 C dX5_areAlike_7 bp_8 ?_
      refine j_icge 9 43 C dX5_areAlike_9 (by decide) (fun c9 => ?_) (fun c9 => ?_)
      · refine j_il3 43 C dX5_areAlike_43 ?_
        exact hR dX5_areAlike_44 (by unfold bi; split <;> first | exact Or.inl rfl | exact Or.inr rfl) ⟨by rw [alk_eq], rfl⟩
      · exact absurd (nI_le (Nat.le_refl _) (by decide)) c9
    | succ n ih =>
      intro k hk
      refine j_il4 5 C dX5_areAlike_5 ?_
      refine j_bipush 7 C dX5_areAlike_7 bp_8 ?_
      refine j_icge 9 43 C dX5_areAlike_9 (by decide) (fun c9 => ?_) (fun c9 => ?_)
      · exact absurd c9 (nI_ge (a := k) (b := 8) (by omega) (by decide))
      · refine j_il3 12 C dX5_areAlike_12 ?_
        refine j_al0 13 C dX5_areAlike_13 ?_
        refine j_il1 14 C dX5_areAlike_14 ?_
        refine j_il4 15 C dX5_areAlike_15 ?_
        refine j_vi 17 C dX5_areAlike_17 mv_X5_wordAt lk_X5_64 (c_X5_wordAt (by omega) (by omega)) rc_m rfl rfl ⟨(Nat.le_of_ble_eq_true rfl), (Nat.le_of_ble_eq_true rfl)⟩ (Nat.le_of_ble_eq_true rfl) (fun r17 g17 hp17 => ?_)
        obtain ⟨rfl, rfl⟩ := hp17
        refine j_al0 20 C dX5_areAlike_20 ?_
        refine j_il2 21 C dX5_areAlike_21 ?_
        refine j_il4 22 C dX5_areAlike_22 ?_
        refine j_vi 24 C dX5_areAlike_24 mv_X5_wordAt lk_X5_64 (c_X5_wordAt (by omega) (by omega)) rc_m rfl rfl ⟨(Nat.le_of_ble_eq_true rfl), (Nat.le_of_ble_eq_true rfl)⟩ (Nat.le_of_ble_eq_true rfl) (fun r24 g24 hp24 => ?_)
        obtain ⟨rfl, rfl⟩ := hp24
        refine j_icne 27 34 C dX5_areAlike_27 (by decide) (fun c27 => ?_) (fun c27 => ?_)
        · refine j_iconst 34 C dX5_areAlike_34 ic_0 ?_
          refine j_iand 35 C dX5_areAlike_35 ?_
          refine j_top (bi (al (fun k => decide (wd (g 12) A k = wd (g 12) B k)) (k + 1))) (by show bi _ &&& bi false = bi (al (fun k => decide (wd (g 12) A k = wd (g 12) B k)) k && decide (wd (g 12) A k = wd (g 12) B k)); rw [bi_and, decide_eq_false c27]) ?_
          refine j_is3 36 C dX5_areAlike_36 rfl (Nat.le_of_ble_eq_true rfl) ?_
          refine j_inc4 37 C dX5_areAlike_37 rfl (nI_inc _) (Nat.le_of_ble_eq_true rfl) ?_
          refine j_goto 40 5 C dX5_areAlike_40 (by decide) ?_
          exact ih (k + 1) (by omega)
        · refine j_iconst 30 C dX5_areAlike_30 ic_1 ?_
          refine j_goto 31 35 C dX5_areAlike_31 (by decide) ?_
          refine j_iand 35 C dX5_areAlike_35 ?_
          refine j_top (bi (al (fun k => decide (wd (g 12) A k = wd (g 12) B k)) (k + 1))) (by show bi _ &&& bi true = bi (al (fun k => decide (wd (g 12) A k = wd (g 12) B k)) k && decide (wd (g 12) A k = wd (g 12) B k)); rw [bi_and, decide_eq_true c27]) ?_
          refine j_is3 36 C dX5_areAlike_36 rfl (Nat.le_of_ble_eq_true rfl) ?_
          refine j_inc4 37 C dX5_areAlike_37 rfl (nI_inc _) (Nat.le_of_ble_eq_true rfl) ?_
          refine j_goto 40 5 C dX5_areAlike_40 (by decide) ?_
          exact ih (k + 1) (by omega)
  exact loop 8 0 rfl
set_option maxRecDepth 20000 in
theorem c_X5_alike {G : GT} {g : Mem} (hS : SI (g 12)) {T : Nat} (hT : g 12 1 = nI T) (hTb : T ≤ 31000) {a b : Int32} : Cti G yX5_alike cX5_alike 4 .int 5 118 [.ref (mo G), .int a, .int b] g (fun r g' => cpM (s_alike a b (g 12)) g r g') := by
  refine ent_i (by decide) (Nat.le_of_ble_eq_true rfl) [some (.ref (mo G)), some (.int a), some (.int b), none] rfl ?_
  intro X C hR
  have C : CX X G RX5 cX5_alike 4 5 118 := C
  refine j_il1 0 C dX5_alike_0 ?_
  refine j_si 1 C dX5_alike_1 ms_X5_isPage lk_X5_41 (c_X5_isPage) rfl rfl ⟨(Nat.le_of_ble_eq_true rfl), (Nat.le_of_ble_eq_true rfl)⟩ (Nat.le_of_ble_eq_true rfl) (fun r1 g1 hp1 => ?_)
  obtain ⟨rfl, rfl⟩ := hp1
  refine j_ifeq 4 19 C dX5_alike_4 (by decide) (fun c4 => ?_) (fun c4 => ?_)
  · have v4 := bi_0 c4
    refine j_al0 19 C dX5_alike_19 ?_
    refine j_ldc 20 C dX5_alike_20 cs_X5_40 ?_
    refine j_vi 22 C dX5_alike_22 mv_X5_finds lk_X5_46 (c_X5_finds (f := 0) (by decide) (by decide)) rc_m rfl rfl ⟨(Nat.le_of_ble_eq_true rfl), (Nat.le_of_ble_eq_true rfl)⟩ (Nat.le_of_ble_eq_true rfl) (fun r22 g22 hp22 => ?_)
    obtain ⟨rfl, rfl⟩ := hp22
    exact hR dX5_alike_25 (cpM_f (f := 0) (by simp [s_alike, v4]) (by decide) (by decide) SC.rfl)
  · have v4 := bi_n c4
    refine j_il2 7 C dX5_alike_7 ?_
    refine j_si 8 C dX5_alike_8 ms_X5_isPage lk_X5_41 (c_X5_isPage) rfl rfl ⟨(Nat.le_of_ble_eq_true rfl), (Nat.le_of_ble_eq_true rfl)⟩ (Nat.le_of_ble_eq_true rfl) (fun r8 g8 hp8 => ?_)
    obtain ⟨rfl, rfl⟩ := hp8
    refine j_ifeq 11 19 C dX5_alike_11 (by decide) (fun c11 => ?_) (fun c11 => ?_)
    · have v11 := bi_0 c11
      refine j_al0 19 C dX5_alike_19 ?_
      refine j_ldc 20 C dX5_alike_20 cs_X5_40 ?_
      refine j_vi 22 C dX5_alike_22 mv_X5_finds lk_X5_46 (c_X5_finds (f := 0) (by decide) (by decide)) rc_m rfl rfl ⟨(Nat.le_of_ble_eq_true rfl), (Nat.le_of_ble_eq_true rfl)⟩ (Nat.le_of_ble_eq_true rfl) (fun r22 g22 hp22 => ?_)
      obtain ⟨rfl, rfl⟩ := hp22
      exact hR dX5_alike_25 (cpM_f (f := 0) (by simp [s_alike, v4, v11]) (by decide) (by decide) SC.rfl)
    · have v11 := bi_n c11
      refine j_il1 14 C dX5_alike_14 ?_
      refine j_il2 15 C dX5_alike_15 ?_
      refine j_icne 16 26 C dX5_alike_16 (by decide) (fun c16 => ?_) (fun c16 => ?_)
      · obtain ⟨A, hA, rfl⟩ := inr_nat (n := 5) (by decide) v4
        obtain ⟨B, hB, rfl⟩ := inr_nat (n := 5) (by decide) v11
        have loop : ∀ n k, k + n = 201 → ff (fun n => decide (ct (pU (ngs (g 12) 0 n) A B) 8 = 0)) 0 201 = ff (fun n => decide (ct (pU (ngs (g 12) 0 n) A B) 8 = 0)) k (201 - k) → J X G 4 (ub (ub g 15 (g 12)) 12 (ngs (g 12) 0 k)) 39 [some (.ref (mo G)), some (.int (nI A)), some (.int (nI B)), some (.int (nI k))] [] := by
          intro n
          induction n with
          | zero =>
            intro k hk hf
            obtain rfl : k = 201 := by omega
            refine j_il3 39 C dX5_alike_39 ?_
            refine j_sipush 40 C dX5_alike_40 sq_200 ?_
            refine j_icgt 43 66 C dX5_alike_43 (by decide) (fun c43 => ?_) (fun c43 => ?_)
            · refine j_al0 66 C dX5_alike_66 ?_
              refine jg_X5_19 67 C dX5_alike_67 ?_
              refine j_al0 70 C dX5_alike_70 ?_
              refine jg_X5_7 71 C dX5_alike_71 ?_
              refine j_sv 74 C dX5_alike_74 ms_X5_copyRow lk_X5_160 (c_X5_copyRow (i := 3) (j := 0) (by decide) (by decide) (by decide)) rfl rfl ⟨(Nat.le_of_ble_eq_true rfl), (Nat.le_of_ble_eq_true rfl)⟩ (Nat.le_of_ble_eq_true rfl) (fun g74 hp74 => ?_)
              have hp74 := hp74.trans rs15
              subst hp74
              refine j_il3 77 C dX5_alike_77 ?_
              refine j_sipush 78 C dX5_alike_78 sq_200 ?_
              refine j_icgt 81 88 C dX5_alike_81 (by decide) (fun c81 => ?_) (fun c81 => ?_)
              · refine j_al0 88 C dX5_alike_88 ?_
                refine j_ldc 89 C dX5_alike_89 cs_X5_45 ?_
                refine j_vi 91 C dX5_alike_91 mv_X5_finds lk_X5_46 (c_X5_finds (f := 3) (by decide) (by decide)) rc_m rfl rfl ⟨(Nat.le_of_ble_eq_true rfl), (Nat.le_of_ble_eq_true rfl)⟩ (Nat.le_of_ble_eq_true rfl) (fun r91 g91 hp91 => ?_)
                obtain ⟨rfl, rfl⟩ := hp91
                exact hR dX5_alike_94 (cpM_f (f := 3) (by unfold s_alike; rw [v4, v11, decide_eq_true c16, cl_nI (show A < 2 ^ 31 by omega), cl_nI (show B < 2 ^ 31 by omega)]; exact (if_pos rfl).trans (fst_n hf)) (by decide) (by decide) (FM_SC SC_15))
              · exact absurd (by decide) c81
            · exact absurd (by decide) c43
          | succ n ih =>
            intro k hk hf
            refine j_il3 39 C dX5_alike_39 ?_
            refine j_sipush 40 C dX5_alike_40 sq_200 ?_
            refine j_icgt 43 66 C dX5_alike_43 (by decide) (fun c43 => ?_) (fun c43 => ?_)
            · exact absurd c43 (nI_nlt (a := 200) (b := k) (by omega) (by decide))
            · refine j_al0 46 C dX5_alike_46 ?_
              refine j_il1 47 C dX5_alike_47 ?_
              refine j_il2 48 C dX5_alike_48 ?_
              refine j_vi 49 C dX5_alike_49 mv_X5_areAlike lk_X5_173 (c_X5_areAlike (by omega) (by omega)) rc_m rfl rfl ⟨(Nat.le_of_ble_eq_true rfl), (Nat.le_of_ble_eq_true rfl)⟩ (Nat.le_of_ble_eq_true rfl) (fun r49 g49 hp49 => ?_)
              obtain ⟨hr49, rfl⟩ := hp49
              rw [ub_s] at hr49
              subst hr49
              refine j_ifne 52 66 C dX5_alike_52 (by decide) (fun c52 => ?_) (fun c52 => ?_)
              · have e9 : ff (fun n => decide (ct (pU (ngs (g 12) 0 n) A B) 8 = 0)) k (201 - k) = nI k := by rw [show 201 - k = (201 - (k + 1)) + 1 by omega]; exact if_pos (bi_n c52)
                refine j_al0 66 C dX5_alike_66 ?_
                refine jg_X5_19 67 C dX5_alike_67 ?_
                refine j_al0 70 C dX5_alike_70 ?_
                refine jg_X5_7 71 C dX5_alike_71 ?_
                refine j_sv 74 C dX5_alike_74 ms_X5_copyRow lk_X5_160 (c_X5_copyRow (i := 3) (j := 0) (by decide) (by decide) (by decide)) rfl rfl ⟨(Nat.le_of_ble_eq_true rfl), (Nat.le_of_ble_eq_true rfl)⟩ (Nat.le_of_ble_eq_true rfl) (fun g74 hp74 => ?_)
                have hp74 := hp74.trans rs15
                subst hp74
                refine j_il3 77 C dX5_alike_77 ?_
                refine j_sipush 78 C dX5_alike_78 sq_200 ?_
                refine j_icgt 81 88 C dX5_alike_81 (by decide) (fun c81 => ?_) (fun c81 => ?_)
                · exact absurd c81 (nI_nlt (a := 200) (b := k) (by omega) (by decide))
                · refine j_il3 84 C dX5_alike_84 ?_
                  refine j_goto 85 94 C dX5_alike_85 (by decide) ?_
                  exact hR dX5_alike_94 (cpM_q (by unfold s_alike; rw [v4, v11, decide_eq_true c16, cl_nI (show A < 2 ^ 31 by omega), cl_nI (show B < 2 ^ 31 by omega)]; exact (if_pos rfl).trans (fst_y (hf.trans e9) (by omega))) rfl SC_15)
              · have e9 : ff (fun n => decide (ct (pU (ngs (g 12) 0 n) A B) 8 = 0)) k (201 - k) = ff (fun n => decide (ct (pU (ngs (g 12) 0 n) A B) 8 = 0)) (k + 1) (201 - (k + 1)) := by rw [show 201 - k = (201 - (k + 1)) + 1 by omega]; exact if_neg (by have e := bi_0 c52; intro q; have q := of_decide_eq_true q; rw [decide_eq_true q] at e; cases e)
                refine j_al0 55 C dX5_alike_55 ?_
                refine j_iconst 56 C dX5_alike_56 ic_0 ?_
                refine j_vv 57 C dX5_alike_57 mv_X5_nightBut lk_X5_131 (c_X5_nightBut (O := 0) (by rw [ub_s]; exact ngs_SI hS) (by decide)) rc_m rfl rfl ⟨(Nat.le_of_ble_eq_true rfl), (Nat.le_of_ble_eq_true rfl)⟩ (Nat.le_of_ble_eq_true rfl) (fun g57 hp57 => ?_)
                obtain rfl := hp57
                rw [ub_ub, ub_s, show ng (ngs (g 12) 0 k) 0 = ngs (g 12) 0 (k + 1) from rfl]
                refine j_inc3 60 C dX5_alike_60 rfl (nI_inc _) (Nat.le_of_ble_eq_true rfl) ?_
                refine j_goto 63 39 C dX5_alike_63 (by decide) ?_
                exact ih (k + 1) (by omega) (hf.trans e9)
        refine j_al0 26 C dX5_alike_26 ?_
        refine jg_X5_7 27 C dX5_alike_27 ?_
        refine j_al0 30 C dX5_alike_30 ?_
        refine jg_X5_19 31 C dX5_alike_31 ?_
        refine j_sv 34 C dX5_alike_34 ms_X5_copyRow lk_X5_160 (c_X5_copyRow (i := 0) (j := 3) (by decide) (by decide) (by decide)) rfl rfl ⟨(Nat.le_of_ble_eq_true rfl), (Nat.le_of_ble_eq_true rfl)⟩ (Nat.le_of_ble_eq_true rfl) (fun g34 hp34 => ?_)
        have hp34 : g34 = ub g 15 (g 12) := hp34
        subst hp34
        refine j_iconst 37 C dX5_alike_37 ic_0 ?_
        refine j_is3 38 C dX5_alike_38 rfl (Nat.le_of_ble_eq_true rfl) ?_
        have h9 := loop 201 0 rfl rfl
        rw [show ub (ub g 15 (g 12)) 12 (ngs (g 12) 0 0) = ub g 15 (g 12) from (congrArg (ub (ub g 15 (g 12)) 12) (ub_n (g := g) (S := g 12) (show (12 : Nat) ≠ 15 by decide)).symm).trans ub_id] at h9
        exact h9
      · refine j_al0 19 C dX5_alike_19 ?_
        refine j_ldc 20 C dX5_alike_20 cs_X5_40 ?_
        refine j_vi 22 C dX5_alike_22 mv_X5_finds lk_X5_46 (c_X5_finds (f := 0) (by decide) (by decide)) rc_m rfl rfl ⟨(Nat.le_of_ble_eq_true rfl), (Nat.le_of_ble_eq_true rfl)⟩ (Nat.le_of_ble_eq_true rfl) (fun r22 g22 hp22 => ?_)
        obtain ⟨rfl, rfl⟩ := hp22
        exact hR dX5_alike_25 (cpM_f (f := 0) (by simp [s_alike, v4, v11, c16]) (by decide) (by decide) SC.rfl)
set_option maxRecDepth 20000 in
theorem c_X5_leavesAll {G : GT} {g : Mem} (hS : SI (g 12)) : Cti G yX5_leavesAll cX5_leavesAll 3 .boolean 5 118 [.ref (mo G)] g (fun r g' => r = bi (sam (ng (g 12) 0) (g 12)) ∧ ∃ W, g' = ub (ub g 21 W) 12 (ng (g 12) 0)) := by
  refine ent_z (by decide) (Nat.le_of_ble_eq_true rfl) [some (.ref (mo G)), none, none] rfl ?_
  intro X C hR
  have C : CX X G RX5 cX5_leavesAll 3 5 118 := C
  have l1 : ∀ n k, k + n = 48 → ∀ W : Row, (∀ q, q < k → W q = g 12 (3 + q)) → J X G 3 (ub g 21 W) 2 [some (.ref (mo G)), some (.int (nI k)), none] [] := by
    intro n
    induction n with
    | zero =>
      intro k hk W hW
      obtain rfl : k = 48 := by omega
      refine j_il1 2 C dX5_leavesAll_2 ?_
      refine j_bipush 3 C dX5_leavesAll_3 bp_48 ?_
      refine j_icge 5 28 C dX5_leavesAll_5 (by decide) (fun c5 => ?_) (fun c5 => ?_)
      · refine j_al0 28 C dX5_leavesAll_28 ?_
        refine j_iconst 29 C dX5_leavesAll_29 ic_0 ?_
        refine j_vv 30 C dX5_leavesAll_30 mv_X5_nightBut lk_X5_131 (c_X5_nightBut (O := 0) (by rw [ub_n (by decide)]; exact hS) (by decide)) rc_m rfl rfl ⟨(Nat.le_of_ble_eq_true rfl), (Nat.le_of_ble_eq_true rfl)⟩ (Nat.le_of_ble_eq_true rfl) (fun g30 hp30 => ?_)
        obtain rfl := hp30
        rw [ub_n (b' := 12) (b := 21) (by decide)]
        refine j_iconst 33 C dX5_leavesAll_33 ic_1 ?_
        refine j_is1 34 C dX5_leavesAll_34 rfl (Nat.le_of_ble_eq_true rfl) ?_
        refine j_iconst 35 C dX5_leavesAll_35 ic_0 ?_
        refine j_is2 36 C dX5_leavesAll_36 rfl (Nat.le_of_ble_eq_true rfl) ?_
        have e48 : al (fun i => decide (W i = ng (g 12) 0 (3 + i))) 48 = sam (ng (g 12) 0) (g 12) := by rw [← sam_48]; exact al_congr (fun i hi => by rw [hW i hi])
        have loop : ∀ n k, k + n = 48 → J X G 3 (ub (ub g 21 W) 12 (ng (g 12) 0)) 37 [some (.ref (mo G)), some (.int (bi (al (fun i => decide (W i = ng (g 12) 0 (3 + i))) k))), some (.int (nI k))] [] := by
          intro n
          induction n with
          | zero =>
            intro k hk
            obtain rfl : k = 48 := by omega
            refine j_il2 37 C dX5_leavesAll_37 ?_
            refine j_bipush 38 C dX5_leavesAll_38 bp_48 ?_
            refine j_icge 40 74 C dX5_leavesAll_40 (by decide) (fun c40 => ?_) (fun c40 => ?_)
            · refine j_il1 74 C dX5_leavesAll_74 ?_
              exact hR dX5_leavesAll_75 (by unfold bi; split <;> first | exact Or.inl rfl | exact Or.inr rfl) ⟨by rw [e48], W, rfl⟩
            · exact absurd (nI_le (Nat.le_refl _) (by decide)) c40
          | succ n ih =>
            intro k hk
            refine j_il2 37 C dX5_leavesAll_37 ?_
            refine j_bipush 38 C dX5_leavesAll_38 bp_48 ?_
            refine j_icge 40 74 C dX5_leavesAll_40 (by decide) (fun c40 => ?_) (fun c40 => ?_)
            · exact absurd c40 (nI_ge (a := k) (b := 48) (by omega) (by decide))
            · refine j_il1 43 C dX5_leavesAll_43 ?_
              refine j_al0 44 C dX5_leavesAll_44 ?_
              refine jg_X5_37 45 C dX5_leavesAll_45 ?_
              refine j_il2 48 C dX5_leavesAll_48 ?_
              refine jl_A9 49 (by omega) C dX5_leavesAll_49 ?_
              refine j_top (W k) (by rw [ub_n (by decide), ub_s]) ?_
              refine j_al0 50 C dX5_leavesAll_50 ?_
              refine jg_X5_7 51 C dX5_leavesAll_51 ?_
              refine j_iconst 54 C dX5_leavesAll_54 ic_3 ?_
              refine j_il2 55 C dX5_leavesAll_55 ?_
              refine j_iadd 56 C dX5_leavesAll_56 ?_
              refine j_top (nI (3 + k)) (nI_add 3 k) ?_
              refine jl_A0 57 (by omega) C dX5_leavesAll_57 ?_
              refine j_top (ng (g 12) 0 (3 + k)) (by rw [ub_s]) ?_
              refine j_icne 58 65 C dX5_leavesAll_58 (by decide) (fun c58 => ?_) (fun c58 => ?_)
              · refine j_iconst 65 C dX5_leavesAll_65 ic_0 ?_
                refine j_iand 66 C dX5_leavesAll_66 ?_
                refine j_top (bi (al (fun i => decide (W i = ng (g 12) 0 (3 + i))) (k + 1))) (by show bi _ &&& bi false = bi (al (fun i => decide (W i = ng (g 12) 0 (3 + i))) k && decide (W k = ng (g 12) 0 (3 + k))); rw [bi_and, decide_eq_false c58]) ?_
                refine j_is1 67 C dX5_leavesAll_67 rfl (Nat.le_of_ble_eq_true rfl) ?_
                refine j_inc2 68 C dX5_leavesAll_68 rfl (nI_inc _) (Nat.le_of_ble_eq_true rfl) ?_
                refine j_goto 71 37 C dX5_leavesAll_71 (by decide) ?_
                exact ih (k + 1) (by omega)
              · refine j_iconst 61 C dX5_leavesAll_61 ic_1 ?_
                refine j_goto 62 66 C dX5_leavesAll_62 (by decide) ?_
                refine j_iand 66 C dX5_leavesAll_66 ?_
                refine j_top (bi (al (fun i => decide (W i = ng (g 12) 0 (3 + i))) (k + 1))) (by show bi _ &&& bi true = bi (al (fun i => decide (W i = ng (g 12) 0 (3 + i))) k && decide (W k = ng (g 12) 0 (3 + k))); rw [bi_and, decide_eq_true c58]) ?_
                refine j_is1 67 C dX5_leavesAll_67 rfl (Nat.le_of_ble_eq_true rfl) ?_
                refine j_inc2 68 C dX5_leavesAll_68 rfl (nI_inc _) (Nat.le_of_ble_eq_true rfl) ?_
                refine j_goto 71 37 C dX5_leavesAll_71 (by decide) ?_
                exact ih (k + 1) (by omega)
        exact loop 48 0 rfl
      · exact absurd (nI_le (Nat.le_refl _) (by decide)) c5
    | succ n ih =>
      intro k hk W hW
      refine j_il1 2 C dX5_leavesAll_2 ?_
      refine j_bipush 3 C dX5_leavesAll_3 bp_48 ?_
      refine j_icge 5 28 C dX5_leavesAll_5 (by decide) (fun c5 => ?_) (fun c5 => ?_)
      · exact absurd c5 (nI_ge (a := k) (b := 48) (by omega) (by decide))
      · refine j_al0 8 C dX5_leavesAll_8 ?_
        refine jg_X5_37 9 C dX5_leavesAll_9 ?_
        refine j_il1 12 C dX5_leavesAll_12 ?_
        refine j_al0 13 C dX5_leavesAll_13 ?_
        refine jg_X5_7 14 C dX5_leavesAll_14 ?_
        refine j_iconst 17 C dX5_leavesAll_17 ic_3 ?_
        refine j_il1 18 C dX5_leavesAll_18 ?_
        refine j_iadd 19 C dX5_leavesAll_19 ?_
        refine j_top (nI (3 + k)) (nI_add 3 k) ?_
        refine jl_A0 20 (by omega) C dX5_leavesAll_20 ?_
        refine js_A9 21 (by omega) C dX5_leavesAll_21 ?_
        rw [ub_n (b' := 12) (b := 21) (by decide), ub_ub, ub_s]
        refine j_inc1 22 C dX5_leavesAll_22 rfl (nI_inc _) (Nat.le_of_ble_eq_true rfl) ?_
        refine j_goto 25 2 C dX5_leavesAll_25 (by decide) ?_
        refine ih (k + 1) (by omega) _ (fun q hq => ?_)
        by_cases e : q = k
        · subst e; exact upd_s
        · rw [upd_n e]; exact hW q (by omega)
  refine j_iconst 0 C dX5_leavesAll_0 ic_0 ?_
  refine j_is1 1 C dX5_leavesAll_1 rfl (Nat.le_of_ble_eq_true rfl) ?_
  have h9 := l1 48 0 rfl (g 21) (fun q hq => absurd hq (Nat.not_lt_zero q))
  rw [ub_id] at h9
  exact h9
