theorem bp_11 : (Int8.ofInt (11)).toInt32 = 11 := by decide
theorem m1_lt : (-1 : Int32) < 0 := by decide
theorem nI_n0 {j : Nat} (h : j < 2 ^ 31) : ¬ nI j < 0 := Int32.not_lt.mpr (nI_pos' h)
theorem lv_e : ∀ n, n < 10 → (lv 1 (nI n) = nI n - 1) ∧ (lv 2 (nI n) = 10 - nI n) ∧ (lv 3 (nI n) = if (9 : Int32) < 11 - nI n then 9 else 11 - nI n) ∧ (lv 4 (nI n) = (if (9 : Int32) < 11 - nI n then 9 else 11 - nI n) / 2) := by decide +kernel
/-- a page copied, its first k places -/
def cpk (S : Row) (F T k : Nat) : Row := fun i => if 3 + 8 * T ≤ i ∧ i < 3 + 8 * T + k then S (3 + (8 * F + (i - (3 + 8 * T)))) else S i
theorem cpk_0 {S : Row} {F T : Nat} : cpk S F T 0 = S := by
  funext i; exact if_neg (by omega)
theorem cpk_F {S : Row} {F T k : Nat} (hk : k < 8) : wd (cpk S F T k) F k = wd S F k := by
  unfold wd cpk
  by_cases h : 3 + 8 * T ≤ 3 + (8 * F + k) ∧ 3 + (8 * F + k) < 3 + 8 * T + k
  · exfalso; omega
  · exact if_neg h
theorem cpk_T {S : Row} {F T k : Nat} : cpk S F T k (3 + (8 * T + k)) = wd S T k := if_neg (by omega)
theorem cpk_s {S : Row} {F T k : Nat} (hk : k < 8) : upd (cpk S F T k) (3 + (8 * T + k)) (wd S F k) = cpk S F T (k + 1) := by
  funext i
  by_cases h : i = 3 + (8 * T + k)
  · subst h; rw [upd_s]; unfold cpk; rw [if_pos (by omega)]; unfold wd; congr 3; omega
  · rw [upd_n h]; unfold cpk
    by_cases h2 : 3 + 8 * T ≤ i ∧ i < 3 + 8 * T + k
    · rw [if_pos h2, if_pos (by omega)]
    · rw [if_neg h2, if_neg (by omega)]
theorem cpk_F1 {S : Row} {F T k : Nat} (hk : k < 8) : wd (cpk S F T (k + 1)) F k = wd S F k := by
  unfold wd cpk
  by_cases h : 3 + 8 * T ≤ 3 + (8 * F + k) ∧ 3 + (8 * F + k) < 3 + 8 * T + (k + 1)
  · rw [if_pos h]; have : T = F := by omega
    subst this; congr 1; omega
  · exact if_neg h
set_option maxRecDepth 20000 in
theorem c_X5_leavesBy {G : GT} {g : Mem} {K n : Nat} (hK : K < 7) (hn : n < 10) : Cti G yX5_leavesBy cX5_leavesBy 2 .int 1 21 [.int (nI K), .int (nI n)] g (fun r g' => r = lv K (nI n) ∧ g = g') := by
  refine ent_i (by decide) (Nat.le_of_ble_eq_true rfl) [some (.int (nI K)), some (.int (nI n))] rfl ?_
  intro X C hR
  have C : CX X G RX5 cX5_leavesBy 2 1 21 := C
  obtain ⟨e1, e2, e3, e4⟩ := lv_e n hn
  obtain ⟨e5, e6⟩ := lv_6 n hn
  match K, hK with
  | 0, _ =>
    refine j_il0 0 C dX5_leavesBy_0 ?_
    refine j_tsOut 1 84 C dX5_leavesBy_1 (by decide) (by decide) ?_
    refine j_iconst 84 C dX5_leavesBy_84 ic_0 ?_
    exact hR dX5_leavesBy_85 ⟨rfl, rfl⟩
  | 1, _ =>
    refine j_il0 0 C dX5_leavesBy_0 ?_
    refine j_tsIn 1 40 (off := 39) C dX5_leavesBy_1 (by decide) (by decide) (by decide) (by decide) ?_
    refine j_il1 40 C dX5_leavesBy_40 ?_
    refine j_iconst 41 C dX5_leavesBy_41 ic_1 ?_
    refine j_isub 42 C dX5_leavesBy_42 ?_
    exact hR dX5_leavesBy_43 ⟨e1.symm, rfl⟩
  | 2, _ =>
    refine j_il0 0 C dX5_leavesBy_0 ?_
    refine j_tsIn 1 44 (off := 43) C dX5_leavesBy_1 (by decide) (by decide) (by decide) (by decide) ?_
    refine j_bipush 44 C dX5_leavesBy_44 bp_10 ?_
    refine j_il1 46 C dX5_leavesBy_46 ?_
    refine j_isub 47 C dX5_leavesBy_47 ?_
    exact hR dX5_leavesBy_48 ⟨e2.symm, rfl⟩
  | 3, _ =>
    refine j_il0 0 C dX5_leavesBy_0 ?_
    refine j_tsIn 1 49 (off := 48) C dX5_leavesBy_1 (by decide) (by decide) (by decide) (by decide) ?_
    refine j_bipush 49 C dX5_leavesBy_49 bp_9 ?_
    refine j_bipush 51 C dX5_leavesBy_51 bp_11 ?_
    refine j_il1 53 C dX5_leavesBy_53 ?_
    refine j_isub 54 C dX5_leavesBy_54 ?_
    refine j_si 55 C dX5_leavesBy_55 ms_X5_least lk_X5_109 (c_X5_least) rfl rfl ⟨(Nat.le_of_ble_eq_true rfl), (Nat.le_of_ble_eq_true rfl)⟩ (Nat.le_of_ble_eq_true rfl) (fun r55 g55 hp55 => ?_)
    obtain ⟨rfl, rfl⟩ := hp55
    exact hR dX5_leavesBy_58 ⟨e3.symm, rfl⟩
  | 4, _ =>
    refine j_il0 0 C dX5_leavesBy_0 ?_
    refine j_tsIn 1 59 (off := 58) C dX5_leavesBy_1 (by decide) (by decide) (by decide) (by decide) ?_
    refine j_bipush 59 C dX5_leavesBy_59 bp_9 ?_
    refine j_bipush 61 C dX5_leavesBy_61 bp_11 ?_
    refine j_il1 63 C dX5_leavesBy_63 ?_
    refine j_isub 64 C dX5_leavesBy_64 ?_
    refine j_si 65 C dX5_leavesBy_65 ms_X5_least lk_X5_109 (c_X5_least) rfl rfl ⟨(Nat.le_of_ble_eq_true rfl), (Nat.le_of_ble_eq_true rfl)⟩ (Nat.le_of_ble_eq_true rfl) (fun r65 g65 hp65 => ?_)
    obtain ⟨rfl, rfl⟩ := hp65
    refine j_iconst 68 C dX5_leavesBy_68 ic_2 ?_
    refine j_idiv 69 C dX5_leavesBy_69 (by decide) ?_
    exact hR dX5_leavesBy_70 ⟨e4.symm, rfl⟩
  | 5, _ =>
    refine j_il0 0 C dX5_leavesBy_0 ?_
    refine j_tsIn 1 84 (off := 83) C dX5_leavesBy_1 (by decide) (by decide) (by decide) (by decide) ?_
    refine j_iconst 84 C dX5_leavesBy_84 ic_0 ?_
    exact hR dX5_leavesBy_85 ⟨rfl, rfl⟩
  | 6, _ =>
    refine j_il0 0 C dX5_leavesBy_0 ?_
    refine j_tsIn 1 71 (off := 70) C dX5_leavesBy_1 (by decide) (by decide) (by decide) (by decide) ?_
    refine j_il1 71 C dX5_leavesBy_71 ?_
    refine j_iconst 72 C dX5_leavesBy_72 ic_2 ?_
    refine j_icge 73 80 C dX5_leavesBy_73 (by decide) (fun c73 => ?_) (fun c73 => ?_)
    · refine j_il1 80 C dX5_leavesBy_80 ?_
      refine j_iconst 81 C dX5_leavesBy_81 ic_2 ?_
      refine j_isub 82 C dX5_leavesBy_82 ?_
      exact hR dX5_leavesBy_83 ⟨by first | exact (e6 (Int32.not_lt.mpr c73)).symm | exact (e5 (Int32.not_le.mp c73)).symm, rfl⟩
    · refine j_iconst 76 C dX5_leavesBy_76 ic_0 ?_
      refine j_goto 77 83 C dX5_leavesBy_77 (by decide) ?_
      exact hR dX5_leavesBy_83 ⟨by first | exact (e6 (Int32.not_lt.mpr c73)).symm | exact (e5 (Int32.not_le.mp c73)).symm, rfl⟩
set_option maxRecDepth 20000 in
theorem c_X5_gainsBy {G : GT} {g : Mem} {K : Nat} (hK : K < 7) {x : Int32} : Cti G yX5_gainsBy cX5_gainsBy 2 .int 0 0 [.int (nI K), .int x] g (fun r g' => r = gn K x ∧ g = g') := by
  refine ent_i (by decide) (Nat.le_of_ble_eq_true rfl) [some (.int (nI K)), some (.int x)] rfl ?_
  intro X C hR
  have C : CX X G RX5 cX5_gainsBy 2 0 0 := C
  match K, hK with
  | 0, _ =>
    refine j_il0 0 C dX5_gainsBy_0 ?_
    refine j_tsOut 1 58 C dX5_gainsBy_1 (by decide) (by decide) ?_
    refine j_il1 58 C dX5_gainsBy_58 ?_
    exact hR dX5_gainsBy_59 ⟨rfl, rfl⟩
  | 1, _ =>
    refine j_il0 0 C dX5_gainsBy_0 ?_
    refine j_tsIn 1 40 (off := 39) C dX5_gainsBy_1 (by decide) (by decide) (by decide) (by decide) ?_
    refine j_iconst 40 C dX5_gainsBy_40 ic_1 ?_
    exact hR dX5_gainsBy_41 ⟨rfl, rfl⟩
  | 2, _ =>
    refine j_il0 0 C dX5_gainsBy_0 ?_
    refine j_tsIn 1 42 (off := 41) C dX5_gainsBy_1 (by decide) (by decide) (by decide) (by decide) ?_
    refine j_il1 42 C dX5_gainsBy_42 ?_
    refine j_iconst 43 C dX5_gainsBy_43 ic_2 ?_
    refine j_idiv 44 C dX5_gainsBy_44 (by decide) ?_
    exact hR dX5_gainsBy_45 ⟨rfl, rfl⟩
  | 3, _ =>
    refine j_il0 0 C dX5_gainsBy_0 ?_
    refine j_tsIn 1 46 (off := 45) C dX5_gainsBy_1 (by decide) (by decide) (by decide) (by decide) ?_
    refine j_il1 46 C dX5_gainsBy_46 ?_
    refine j_iconst 47 C dX5_gainsBy_47 ic_2 ?_
    refine j_idiv 48 C dX5_gainsBy_48 (by decide) ?_
    refine j_iconst 49 C dX5_gainsBy_49 ic_1 ?_
    refine j_iadd 50 C dX5_gainsBy_50 ?_
    exact hR dX5_gainsBy_51 ⟨rfl, rfl⟩
  | 4, _ =>
    refine j_il0 0 C dX5_gainsBy_0 ?_
    refine j_tsIn 1 46 (off := 45) C dX5_gainsBy_1 (by decide) (by decide) (by decide) (by decide) ?_
    refine j_il1 46 C dX5_gainsBy_46 ?_
    refine j_iconst 47 C dX5_gainsBy_47 ic_2 ?_
    refine j_idiv 48 C dX5_gainsBy_48 (by decide) ?_
    refine j_iconst 49 C dX5_gainsBy_49 ic_1 ?_
    refine j_iadd 50 C dX5_gainsBy_50 ?_
    exact hR dX5_gainsBy_51 ⟨rfl, rfl⟩
  | 5, _ =>
    refine j_il0 0 C dX5_gainsBy_0 ?_
    refine j_tsIn 1 52 (off := 51) C dX5_gainsBy_1 (by decide) (by decide) (by decide) (by decide) ?_
    refine j_il1 52 C dX5_gainsBy_52 ?_
    refine j_iconst 53 C dX5_gainsBy_53 ic_1 ?_
    refine j_iadd 54 C dX5_gainsBy_54 ?_
    exact hR dX5_gainsBy_55 ⟨rfl, rfl⟩
  | 6, _ =>
    refine j_il0 0 C dX5_gainsBy_0 ?_
    refine j_tsIn 1 56 (off := 55) C dX5_gainsBy_1 (by decide) (by decide) (by decide) (by decide) ?_
    refine j_iconst 56 C dX5_gainsBy_56 ic_2 ?_
    exact hR dX5_gainsBy_57 ⟨rfl, rfl⟩
set_option maxRecDepth 20000 in
theorem c_X5_scholarBites {G : GT} {g : Mem} {P : Nat} (hP : P < 6) (hW : IW (g 12)) {t : Int32} : Cti G yX5_scholarBites cX5_scholarBites 4 .int 2 47 [.ref (mo G), .int (nI P), .int t] g (fun r g' => r = sb (g 12) P t ∧ g = g') := by
  refine ent_i (by decide) (Nat.le_of_ble_eq_true rfl) [some (.ref (mo G)), some (.int (nI P)), some (.int t), none] rfl ?_
  intro X C hR
  have C : CX X G RX5 cX5_scholarBites 4 2 47 := C
  refine j_al0 0 C dX5_scholarBites_0 ?_
  refine j_il1 1 C dX5_scholarBites_1 ?_
  refine j_il2 2 C dX5_scholarBites_2 ?_
  refine j_vi 3 C dX5_scholarBites_3 mv_X5_firstLike lk_X5_94 (c_X5_firstLike hP hW) rc_m rfl rfl ⟨(Nat.le_of_ble_eq_true rfl), (Nat.le_of_ble_eq_true rfl)⟩ (Nat.le_of_ble_eq_true rfl) (fun r3 g3 hp3 => ?_)
  obtain ⟨rfl, rfl⟩ := hp3
  refine j_is3 6 C dX5_scholarBites_6 rfl (Nat.le_of_ble_eq_true rfl) ?_
  have hs := ff8_or (p := pP (g 12) P t)
  generalize hk0 : ff (pP (g 12) P t) 0 8 = k0 at hs ⊢
  rcases hs with rfl | ⟨j, hj, rfl⟩
  · have hsb : sb (g 12) P t = -1 := by unfold sb; rw [if_pos hk0]
    refine j_il3 7 C dX5_scholarBites_7 ?_
    refine j_iflt 8 25 C dX5_scholarBites_8 (by decide) (fun c8 => ?_) (fun c8 => ?_)
    · refine j_iconst 25 C dX5_scholarBites_25 ic_m1 ?_
      exact hR dX5_scholarBites_26 ⟨hsb.symm, rfl⟩
    · exact absurd m1_lt c8
  · have hne : ¬ ff (pP (g 12) P t) 0 8 = -1 := by rw [hk0]; exact nI_nm1 (by omega)
    have hcl : cl (ff (pP (g 12) P t) 0 8) = j := by rw [hk0]; exact cl_nI (by omega)
    refine j_il3 7 C dX5_scholarBites_7 ?_
    refine j_iflt 8 25 C dX5_scholarBites_8 (by decide) (fun c8 => ?_) (fun c8 => ?_)
    · exact absurd c8 (nI_n0 (by omega))
    · refine j_al0 11 C dX5_scholarBites_11 ?_
      refine j_il1 12 C dX5_scholarBites_12 ?_
      refine j_il3 13 C dX5_scholarBites_13 ?_
      refine j_vi 14 C dX5_scholarBites_14 mv_X5_wordAt lk_X5_64 (c_X5_wordAt (by omega) (by omega)) rc_m rfl rfl ⟨(Nat.le_of_ble_eq_true rfl), (Nat.le_of_ble_eq_true rfl)⟩ (Nat.le_of_ble_eq_true rfl) (fun r14 g14 hp14 => ?_)
      obtain ⟨rfl, rfl⟩ := hp14
      refine j_il2 17 C dX5_scholarBites_17 ?_
      refine j_iclt 18 25 C dX5_scholarBites_18 (by decide) (fun c18 => ?_) (fun c18 => ?_)
      · have hsb : sb (g 12) P t = -1 := by unfold sb; rw [if_neg hne, hcl, if_neg (Int32.not_le.mpr c18)]
        refine j_iconst 25 C dX5_scholarBites_25 ic_m1 ?_
        exact hR dX5_scholarBites_26 ⟨hsb.symm, rfl⟩
      · have hsb : sb (g 12) P t = nI j := by unfold sb; rw [if_neg hne, hcl, if_pos (Int32.not_lt.mp c18)]; exact hk0
        refine j_il3 21 C dX5_scholarBites_21 ?_
        refine j_goto 22 26 C dX5_scholarBites_22 (by decide) ?_
        exact hR dX5_scholarBites_26 ⟨hsb.symm, rfl⟩
set_option maxRecDepth 20000 in
theorem c_X5_bites {G : GT} {g : Mem} (hS : SI (g 12)) {M : Nat} (hM : M < 8) : Cti G yX5_bites cX5_bites 4 .int 3 70 [.ref (mo G), .int (nI M)] g (fun r g' => r = bS (g 12) M ∧ g = g') := by
  refine ent_i (by decide) (Nat.le_of_ble_eq_true rfl) [some (.ref (mo G)), some (.int (nI M)), none, none] rfl ?_
  intro X C hR
  have C : CX X G RX5 cX5_bites 4 3 70 := C
  obtain ⟨⟨K, hK, eK⟩, ⟨P, hP, eP⟩, -, F, hF, eF⟩ := hS.2.2.1 M hM
  have hW := hS.2.1
  have hb : bS (g 12) M = bt (g 12) P K (tr (g 12) M 2) F := by unfold bS; rw [eK, eP, eF, cl_nI (show K < 2 ^ 31 by omega), cl_nI (show P < 2 ^ 31 by omega), cl_nI (show F < 2 ^ 31 by omega)]
  rw [hb] at hR
  refine j_al0 0 C dX5_bites_0 ?_
  refine j_il1 1 C dX5_bites_1 ?_
  refine j_iconst 2 C dX5_bites_2 ic_1 ?_
  refine j_vi 3 C dX5_bites_3 mv_X5_its lk_X5_67 (c_X5_its (W := 1) hM (by decide)) rc_m rfl rfl ⟨(Nat.le_of_ble_eq_true rfl), (Nat.le_of_ble_eq_true rfl)⟩ (Nat.le_of_ble_eq_true rfl) (fun r3 g3 hp3 => ?_)
  obtain ⟨hr3, rfl⟩ := hp3
  rw [eP] at hr3
  subst hr3
  refine j_is2 6 C dX5_bites_6 rfl (Nat.le_of_ble_eq_true rfl) ?_
  refine j_al0 7 C dX5_bites_7 ?_
  refine j_il1 8 C dX5_bites_8 ?_
  refine j_iconst 9 C dX5_bites_9 ic_2 ?_
  refine j_vi 10 C dX5_bites_10 mv_X5_its lk_X5_67 (c_X5_its (W := 2) hM (by decide)) rc_m rfl rfl ⟨(Nat.le_of_ble_eq_true rfl), (Nat.le_of_ble_eq_true rfl)⟩ (Nat.le_of_ble_eq_true rfl) (fun r10 g10 hp10 => ?_)
  obtain ⟨rfl, rfl⟩ := hp10
  refine j_is3 13 C dX5_bites_13 rfl (Nat.le_of_ble_eq_true rfl) ?_
  refine j_al0 14 C dX5_bites_14 ?_
  refine j_il1 15 C dX5_bites_15 ?_
  refine j_iconst 16 C dX5_bites_16 ic_0 ?_
  refine j_vi 17 C dX5_bites_17 mv_X5_its lk_X5_67 (c_X5_its (W := 0) hM (by decide)) rc_m rfl rfl ⟨(Nat.le_of_ble_eq_true rfl), (Nat.le_of_ble_eq_true rfl)⟩ (Nat.le_of_ble_eq_true rfl) (fun r17 g17 hp17 => ?_)
  obtain ⟨hr17, rfl⟩ := hp17
  rw [eK] at hr17
  subst hr17
  match K, hK with
  | 0, _ =>
    refine j_tsOut 20 142 C dX5_bites_20 (by decide) (by decide) ?_
    refine j_al0 142 C dX5_bites_142 ?_
    refine j_il2 143 C dX5_bites_143 ?_
    refine j_il3 144 C dX5_bites_144 ?_
    refine j_vi 145 C dX5_bites_145 mv_X5_firstOf lk_X5_103 (c_X5_firstOf hP) rc_m rfl rfl ⟨(Nat.le_of_ble_eq_true rfl), (Nat.le_of_ble_eq_true rfl)⟩ (Nat.le_of_ble_eq_true rfl) (fun r145 g145 hp145 => ?_)
    obtain ⟨rfl, rfl⟩ := hp145
    exact hR dX5_bites_148 ⟨rfl, rfl⟩
  | 1, _ =>
    refine j_tsIn 20 60 (off := 40) C dX5_bites_20 (by decide) (by decide) (by decide) (by decide) ?_
    refine j_al0 60 C dX5_bites_60 ?_
    refine j_il2 61 C dX5_bites_61 ?_
    refine j_vi 62 C dX5_bites_62 mv_X5_firstWhole lk_X5_97 (c_X5_firstWhole hP hW) rc_m rfl rfl ⟨(Nat.le_of_ble_eq_true rfl), (Nat.le_of_ble_eq_true rfl)⟩ (Nat.le_of_ble_eq_true rfl) (fun r62 g62 hp62 => ?_)
    obtain ⟨rfl, rfl⟩ := hp62
    exact hR dX5_bites_65 ⟨rfl, rfl⟩
  | 2, _ =>
    refine j_tsIn 20 66 (off := 46) C dX5_bites_20 (by decide) (by decide) (by decide) (by decide) ?_
    refine j_al0 66 C dX5_bites_66 ?_
    refine j_il2 67 C dX5_bites_67 ?_
    refine j_il3 68 C dX5_bites_68 ?_
    refine j_vi 69 C dX5_bites_69 mv_X5_firstLike lk_X5_94 (c_X5_firstLike hP hW) rc_m rfl rfl ⟨(Nat.le_of_ble_eq_true rfl), (Nat.le_of_ble_eq_true rfl)⟩ (Nat.le_of_ble_eq_true rfl) (fun r69 g69 hp69 => ?_)
    obtain ⟨rfl, rfl⟩ := hp69
    exact hR dX5_bites_72 ⟨rfl, rfl⟩
  | 3, _ =>
    refine j_tsIn 20 73 (off := 53) C dX5_bites_20 (by decide) (by decide) (by decide) (by decide) ?_
    refine j_al0 73 C dX5_bites_73 ?_
    refine j_il2 74 C dX5_bites_74 ?_
    refine j_il3 75 C dX5_bites_75 ?_
    refine j_vi 76 C dX5_bites_76 mv_X5_scholarBites lk_X5_100 (c_X5_scholarBites hP hW) rc_m rfl rfl ⟨(Nat.le_of_ble_eq_true rfl), (Nat.le_of_ble_eq_true rfl)⟩ (Nat.le_of_ble_eq_true rfl) (fun r76 g76 hp76 => ?_)
    obtain ⟨rfl, rfl⟩ := hp76
    exact hR dX5_bites_79 ⟨rfl, rfl⟩
  | 4, _ =>
    refine j_tsIn 20 80 (off := 60) C dX5_bites_20 (by decide) (by decide) (by decide) (by decide) ?_
    have hs := sb_or (S := g 12) (P := P) (t := tr (g 12) M 2)
    rcases hs with hs | ⟨j, hj, hs⟩
    · refine j_al0 80 C dX5_bites_80 ?_
      refine j_il2 81 C dX5_bites_81 ?_
      refine j_il3 82 C dX5_bites_82 ?_
      refine j_vi 83 C dX5_bites_83 mv_X5_scholarBites lk_X5_100 (c_X5_scholarBites hP hW) rc_m rfl rfl ⟨(Nat.le_of_ble_eq_true rfl), (Nat.le_of_ble_eq_true rfl)⟩ (Nat.le_of_ble_eq_true rfl) (fun r83 g83 hp83 => ?_)
      obtain ⟨rfl, rfl⟩ := hp83
      refine j_top (-1) hs ?_
      refine j_ifge 86 98 C dX5_bites_86 (by decide) (fun c86 => ?_) (fun c86 => ?_)
      · exact absurd c86 (by decide)
      · refine j_al0 89 C dX5_bites_89 ?_
        refine j_il2 90 C dX5_bites_90 ?_
        refine j_il3 91 C dX5_bites_91 ?_
        refine j_vi 92 C dX5_bites_92 mv_X5_firstOf lk_X5_103 (c_X5_firstOf hP) rc_m rfl rfl ⟨(Nat.le_of_ble_eq_true rfl), (Nat.le_of_ble_eq_true rfl)⟩ (Nat.le_of_ble_eq_true rfl) (fun r92 g92 hp92 => ?_)
        obtain ⟨rfl, rfl⟩ := hp92
        refine j_goto 95 104 C dX5_bites_95 (by decide) ?_
        exact hR dX5_bites_104 ⟨by unfold bt; rw [if_neg (by decide), if_neg (by decide), if_neg (by decide), if_pos rfl, if_pos hs], rfl⟩
    · refine j_al0 80 C dX5_bites_80 ?_
      refine j_il2 81 C dX5_bites_81 ?_
      refine j_il3 82 C dX5_bites_82 ?_
      refine j_vi 83 C dX5_bites_83 mv_X5_scholarBites lk_X5_100 (c_X5_scholarBites hP hW) rc_m rfl rfl ⟨(Nat.le_of_ble_eq_true rfl), (Nat.le_of_ble_eq_true rfl)⟩ (Nat.le_of_ble_eq_true rfl) (fun r83 g83 hp83 => ?_)
      obtain ⟨rfl, rfl⟩ := hp83
      refine j_top (nI j) hs ?_
      refine j_ifge 86 98 C dX5_bites_86 (by decide) (fun c86 => ?_) (fun c86 => ?_)
      · refine j_al0 98 C dX5_bites_98 ?_
        refine j_il2 99 C dX5_bites_99 ?_
        refine j_il3 100 C dX5_bites_100 ?_
        refine j_vi 101 C dX5_bites_101 mv_X5_scholarBites lk_X5_100 (c_X5_scholarBites hP hW) rc_m rfl rfl ⟨(Nat.le_of_ble_eq_true rfl), (Nat.le_of_ble_eq_true rfl)⟩ (Nat.le_of_ble_eq_true rfl) (fun r101 g101 hp101 => ?_)
        obtain ⟨rfl, rfl⟩ := hp101
        exact hR dX5_bites_104 ⟨by unfold bt; rw [if_neg (by decide), if_neg (by decide), if_neg (by decide), if_pos rfl, if_neg (by rw [hs]; exact nI_nm1 (by omega))], rfl⟩
      · exact absurd (nI_pos' (by omega)) c86
  | 5, _ =>
    refine j_tsIn 20 105 (off := 85) C dX5_bites_20 (by decide) (by decide) (by decide) (by decide) ?_
    refine j_al0 105 C dX5_bites_105 ?_
    refine j_il2 106 C dX5_bites_106 ?_
    refine j_al0 107 C dX5_bites_107 ?_
    refine j_il1 108 C dX5_bites_108 ?_
    refine j_iconst 109 C dX5_bites_109 ic_3 ?_
    refine j_vi 110 C dX5_bites_110 mv_X5_its lk_X5_67 (c_X5_its (W := 3) hM (by decide)) rc_m rfl rfl ⟨(Nat.le_of_ble_eq_true rfl), (Nat.le_of_ble_eq_true rfl)⟩ (Nat.le_of_ble_eq_true rfl) (fun r110 g110 hp110 => ?_)
    obtain ⟨hr110, rfl⟩ := hp110
    rw [eF] at hr110
    subst hr110
    refine j_bipush 113 C dX5_bites_113 bp_8 ?_
    refine j_irem 115 C dX5_bites_115 (by decide) ?_
    refine j_top (nI (F % 8)) (pk_rem (by omega) (by decide) (by decide)) ?_
    refine j_vi 116 C dX5_bites_116 mv_X5_wordAt lk_X5_64 (c_X5_wordAt hP (Nat.mod_lt _ (by decide))) rc_m rfl rfl ⟨(Nat.le_of_ble_eq_true rfl), (Nat.le_of_ble_eq_true rfl)⟩ (Nat.le_of_ble_eq_true rfl) (fun r116 g116 hp116 => ?_)
    obtain ⟨rfl, rfl⟩ := hp116
    refine j_ifle 119 134 C dX5_bites_119 (by decide) (fun c119 => ?_) (fun c119 => ?_)
    · refine j_iconst 134 C dX5_bites_134 ic_m1 ?_
      exact hR dX5_bites_135 ⟨(if_pos ((wd_le hW hP (Nat.mod_lt _ (by decide))).mp c119)).symm, rfl⟩
    · refine j_al0 122 C dX5_bites_122 ?_
      refine j_il1 123 C dX5_bites_123 ?_
      refine j_iconst 124 C dX5_bites_124 ic_3 ?_
      refine j_vi 125 C dX5_bites_125 mv_X5_its lk_X5_67 (c_X5_its (W := 3) hM (by decide)) rc_m rfl rfl ⟨(Nat.le_of_ble_eq_true rfl), (Nat.le_of_ble_eq_true rfl)⟩ (Nat.le_of_ble_eq_true rfl) (fun r125 g125 hp125 => ?_)
      obtain ⟨hr125, rfl⟩ := hp125
      rw [eF] at hr125
      subst hr125
      refine j_bipush 128 C dX5_bites_128 bp_8 ?_
      refine j_irem 130 C dX5_bites_130 (by decide) ?_
      refine j_top (nI (F % 8)) (pk_rem (by omega) (by decide) (by decide)) ?_
      refine j_goto 131 135 C dX5_bites_131 (by decide) ?_
      exact hR dX5_bites_135 ⟨(if_neg (fun z => c119 ((wd_le hW hP (Nat.mod_lt _ (by decide))).mpr z))).symm, rfl⟩
  | 6, _ =>
    refine j_tsIn 20 136 (off := 116) C dX5_bites_20 (by decide) (by decide) (by decide) (by decide) ?_
    refine j_al0 136 C dX5_bites_136 ?_
    refine j_il2 137 C dX5_bites_137 ?_
    refine j_vi 138 C dX5_bites_138 mv_X5_lastWhole lk_X5_106 (c_X5_lastWhole hP hW) rc_m rfl rfl ⟨(Nat.le_of_ble_eq_true rfl), (Nat.le_of_ble_eq_true rfl)⟩ (Nat.le_of_ble_eq_true rfl) (fun r138 g138 hp138 => ?_)
    obtain ⟨rfl, rfl⟩ := hp138
    exact hR dX5_bites_141 ⟨rfl, rfl⟩
set_option maxRecDepth 20000 in
theorem c_X5_holes {G : GT} {g : Mem} : Cti G yX5_holes cX5_holes 3 .int 0 0 [.ref (mo G)] g (fun r g' => r = hAll (g 12) ∧ g = g') := by
  refine ent_i (by decide) (Nat.le_of_ble_eq_true rfl) [some (.ref (mo G)), none, none] rfl ?_
  intro X C hR
  have C : CX X G RX5 cX5_holes 3 0 0 := C
  refine j_iconst 0 C dX5_holes_0 ic_0 ?_
  refine j_is1 1 C dX5_holes_1 rfl (Nat.le_of_ble_eq_true rfl) ?_
  refine j_iconst 2 C dX5_holes_2 ic_0 ?_
  refine j_is2 3 C dX5_holes_3 rfl (Nat.le_of_ble_eq_true rfl) ?_
  have loop : ∀ n k, k + n = 48 → J X G 3 g 4 [some (.ref (mo G)), some (.int (nI (ct (fun i => decide (g 12 (3 + i) = 0)) k))), some (.int (nI k))] [] := by
    intro n
    induction n with
    | zero =>
      intro k hk
      obtain rfl : k = 48 := by omega
      refine j_il2 4 C dX5_holes_4 ?_
      refine j_bipush 5 C dX5_holes_5 bp_48 ?_
      refine j_icge 7 35 C dX5_holes_7 (by decide) (fun c7 => ?_) (fun c7 => ?_)
      · refine j_il1 35 C dX5_holes_35 ?_
        exact hR dX5_holes_36 ⟨by unfold hAll; rw [hol48], rfl⟩
      · exact absurd (nI_le (Nat.le_refl _) (by decide)) c7
    | succ n ih =>
      intro k hk
      refine j_il2 4 C dX5_holes_4 ?_
      refine j_bipush 5 C dX5_holes_5 bp_48 ?_
      refine j_icge 7 35 C dX5_holes_7 (by decide) (fun c7 => ?_) (fun c7 => ?_)
      · exact absurd c7 (nI_ge (a := k) (b := 48) (by omega) (by decide))
      · refine j_il1 10 C dX5_holes_10 ?_
        refine j_al0 11 C dX5_holes_11 ?_
        refine jg_X5_7 12 C dX5_holes_12 ?_
        refine j_iconst 15 C dX5_holes_15 ic_3 ?_
        refine j_il2 16 C dX5_holes_16 ?_
        refine j_iadd 17 C dX5_holes_17 ?_
        refine j_top (nI (3 + k)) (nI_add 3 k) ?_
        refine jl_A0 18 (by omega) C dX5_holes_18 ?_
        refine j_ifne 19 26 C dX5_holes_19 (by decide) (fun c19 => ?_) (fun c19 => ?_)
        · have e : ct (fun i => decide (g 12 (3 + i) = 0)) (k + 1) = ct (fun i => decide (g 12 (3 + i) = 0)) k := if_neg (fun q => c19 (of_decide_eq_true q))
          refine j_iconst 26 C dX5_holes_26 ic_0 ?_
          refine j_iadd 27 C dX5_holes_27 ?_
          refine j_top (nI (ct (fun i => decide (g 12 (3 + i) = 0)) (k + 1))) (by rw [e]; exact Int32.add_zero _) ?_
          refine j_is1 28 C dX5_holes_28 rfl (Nat.le_of_ble_eq_true rfl) ?_
          refine j_inc2 29 C dX5_holes_29 rfl (nI_inc _) (Nat.le_of_ble_eq_true rfl) ?_
          refine j_goto 32 4 C dX5_holes_32 (by decide) ?_
          exact ih (k + 1) (by omega)
        · have e : ct (fun i => decide (g 12 (3 + i) = 0)) (k + 1) = ct (fun i => decide (g 12 (3 + i) = 0)) k + 1 := if_pos (decide_eq_true c19)
          refine j_iconst 22 C dX5_holes_22 ic_1 ?_
          refine j_goto 23 27 C dX5_holes_23 (by decide) ?_
          refine j_iadd 27 C dX5_holes_27 ?_
          refine j_top (nI (ct (fun i => decide (g 12 (3 + i) = 0)) (k + 1))) (by rw [e]; exact (nI_succ _).symm) ?_
          refine j_is1 28 C dX5_holes_28 rfl (Nat.le_of_ble_eq_true rfl) ?_
          refine j_inc2 29 C dX5_holes_29 rfl (nI_inc _) (Nat.le_of_ble_eq_true rfl) ?_
          refine j_goto 32 4 C dX5_holes_32 (by decide) ?_
          exact ih (k + 1) (by omega)
  exact loop 48 0 rfl
set_option maxRecDepth 20000 in
theorem c_X5_nightBut {G : GT} {g : Mem} (hS : SI (g 12)) {O : Nat} (hO : O < 256) : Ctv G yX5_nightBut cX5_nightBut 6 4 93 [.ref (mo G), .int (nI O)] g (fun g' => g' = ub g 12 (ng (g 12) O)) := by
  refine ent_v (by decide) (Nat.le_of_ble_eq_true rfl) [some (.ref (mo G)), some (.int (nI O)), none, none, none, none] rfl ?_
  intro X C hR
  have C : CX X G RX5 cX5_nightBut 6 4 93 := C
  obtain ⟨hM8, hM0⟩ := SI_cl0 hS
  generalize hMM : cl (g 12 0) = M at hM8 hM0
  have loop : ∀ n k, k + n = M → ∀ o3 o4 o5 : Option Value, J X G 6 (ub g 12 (nm (g 12) O k)) 2 [some (.ref (mo G)), some (.int (nI O)), some (.int (nI k)), o3, o4, o5] [] := by
    intro n
    induction n with
    | zero =>
      intro k hk o3 o4 o5
      obtain rfl : M = k := by omega
      refine j_il2 2 C dX5_nightBut_2 ?_
      refine j_al0 3 C dX5_nightBut_3 ?_
      refine jg_X5_7 4 C dX5_nightBut_4 ?_
      refine j_iconst 7 C dX5_nightBut_7 ic_0 ?_
      refine j_top (nI (0)) rfl ?_
      refine jl_A0 8 (by omega) C dX5_nightBut_8 ?_
      refine j_top (nI M) (by rw [ub_s, nm_lo (by decide)]; exact hM0) ?_
      refine j_icge 9 114 C dX5_nightBut_9 (by decide) (fun c9 => ?_) (fun c9 => ?_)
      · refine j_al0 114 C dX5_nightBut_114 ?_
        refine jg_X5_7 115 C dX5_nightBut_115 ?_
        refine j_iconst 118 C dX5_nightBut_118 ic_1 ?_
        refine j_top (nI 1) rfl ?_
        refine j_dup2 119 C dX5_nightBut_119 rfl rfl ?_
        refine jl_A0 120 (by omega) C dX5_nightBut_120 ?_
        refine j_iconst 121 C dX5_nightBut_121 ic_1 ?_
        refine j_iadd 122 C dX5_nightBut_122 ?_
        refine js_A0 123 (by omega) C dX5_nightBut_123 ?_
        rw [ub_ub, ub_s]
        exact hR dX5_nightBut_124 (by unfold ng; rw [hMM])
      · exact absurd (nI_le (Nat.le_refl _) (by omega)) c9
    | succ n ih =>
      intro k hk o3 o4 o5
      have hSk : SI (nm (g 12) O k) := nm_SI hS (by omega)
      refine j_il2 2 C dX5_nightBut_2 ?_
      refine j_al0 3 C dX5_nightBut_3 ?_
      refine jg_X5_7 4 C dX5_nightBut_4 ?_
      refine j_iconst 7 C dX5_nightBut_7 ic_0 ?_
      refine j_top (nI (0)) rfl ?_
      refine jl_A0 8 (by omega) C dX5_nightBut_8 ?_
      refine j_top (nI M) (by rw [ub_s, nm_lo (by decide)]; exact hM0) ?_
      refine j_icge 9 114 C dX5_nightBut_9 (by decide) (fun c9 => ?_) (fun c9 => ?_)
      · exact absurd c9 (nI_ge (a := k) (b := M) (by omega) (by omega))
      · refine j_il1 12 C dX5_nightBut_12 ?_
        refine j_il2 13 C dX5_nightBut_13 ?_
        refine j_ishr 14 C dX5_nightBut_14 ?_
        refine j_iconst 15 C dX5_nightBut_15 ic_1 ?_
        refine j_iand 16 C dX5_nightBut_16 ?_
        refine j_iconst 17 C dX5_nightBut_17 ic_1 ?_
        refine j_icne 18 25 C dX5_nightBut_18 (by decide) (fun c18 => ?_) (fun c18 => ?_)
        · have hb : ¬ O.testBit k = true := fun z => c18 ((sh_bit O hO k (by omega)).mpr z)
          have e : nm (g 12) O (k + 1) = bite (nm (g 12) O k) k := if_neg hb
          refine j_al0 25 C dX5_nightBut_25 ?_
          refine j_il2 26 C dX5_nightBut_26 ?_
          refine j_vi 27 C dX5_nightBut_27 mv_X5_bites lk_X5_117 (c_X5_bites (by rw [ub_s]; exact hSk) (show k < 8 by omega)) rc_m rfl rfl ⟨(Nat.le_of_ble_eq_true rfl), (Nat.le_of_ble_eq_true rfl)⟩ (Nat.le_of_ble_eq_true rfl) (fun r27 g27 hp27 => ?_)
          obtain ⟨hr27, rfl⟩ := hp27
          rw [ub_s] at hr27
          subst hr27
          refine j_is3 30 C dX5_nightBut_30 rfl (Nat.le_of_ble_eq_true rfl) ?_
          rcases bt_or (S := (nm (g 12) O k)) (P := cl (tr (nm (g 12) O k) k 1)) (K := cl (tr (nm (g 12) O k) k 0)) (t := tr (nm (g 12) O k) k 2) (F := cl (tr (nm (g 12) O k) k 3)) with q | ⟨j, hj, ej⟩
          · have q : bS (nm (g 12) O k) k = -1 := q
            have e2 : bite (nm (g 12) O k) k = (nm (g 12) O k) := if_pos q
            rw [q]
            refine j_il3 31 C dX5_nightBut_31 ?_
            refine j_iflt 32 108 C dX5_nightBut_32 (by decide) (fun c32 => ?_) (fun c32 => ?_)
            · refine j_inc2 108 C dX5_nightBut_108 rfl (nI_inc _) (Nat.le_of_ble_eq_true rfl) ?_
              refine j_goto 111 2 C dX5_nightBut_111 (by decide) ?_
              have h9 := ih (k + 1) (by omega) (some (.int (-1))) o4 o5
              rw [e, e2] at h9
              exact h9
            · exact absurd m1_lt c32
          · have ej : bS (nm (g 12) O k) k = nI j := ej
            obtain ⟨⟨K, hK, eK⟩, ⟨P, hP, eP⟩, -, F, hF, eF⟩ := hSk.2.2.1 k (by omega)
            obtain ⟨m9, hm9, em9⟩ := hSk.2.1.at hP hj
            have e2 : bite (nm (g 12) O k) k = biteP (nm (g 12) O k) k P K j := by unfold bite; rw [if_neg (by rw [ej]; exact nI_nm1 (by omega)), ej, eK, eP, cl_nI (show K < 2 ^ 31 by omega), cl_nI (show P < 2 ^ 31 by omega), cl_nI (show j < 2 ^ 31 by omega)]
            rw [ej]
            refine j_il3 31 C dX5_nightBut_31 ?_
            refine j_iflt 32 108 C dX5_nightBut_32 (by decide) (fun c32 => ?_) (fun c32 => ?_)
            · exact absurd c32 (nI_n0 (by omega))
            · refine j_al0 35 C dX5_nightBut_35 ?_
              refine j_il2 36 C dX5_nightBut_36 ?_
              refine j_iconst 37 C dX5_nightBut_37 ic_0 ?_
              refine j_vi 38 C dX5_nightBut_38 mv_X5_its lk_X5_67 (c_X5_its (W := 0) (by omega) (by decide)) rc_m rfl rfl ⟨(Nat.le_of_ble_eq_true rfl), (Nat.le_of_ble_eq_true rfl)⟩ (Nat.le_of_ble_eq_true rfl) (fun r38 g38 hp38 => ?_)
              obtain ⟨hr38, rfl⟩ := hp38
              rw [ub_s, eK] at hr38
              subst hr38
              refine j_is4 41 C dX5_nightBut_41 rfl (Nat.le_of_ble_eq_true rfl) ?_
              refine j_al0 43 C dX5_nightBut_43 ?_
              refine j_iconst 44 C dX5_nightBut_44 ic_3 ?_
              refine j_bipush 45 C dX5_nightBut_45 bp_8 ?_
              refine j_al0 47 C dX5_nightBut_47 ?_
              refine j_il2 48 C dX5_nightBut_48 ?_
              refine j_iconst 49 C dX5_nightBut_49 ic_1 ?_
              refine j_vi 50 C dX5_nightBut_50 mv_X5_its lk_X5_67 (c_X5_its (W := 1) (by omega) (by decide)) rc_m rfl rfl ⟨(Nat.le_of_ble_eq_true rfl), (Nat.le_of_ble_eq_true rfl)⟩ (Nat.le_of_ble_eq_true rfl) (fun r50 g50 hp50 => ?_)
              obtain ⟨hr50, rfl⟩ := hp50
              rw [ub_s, eP] at hr50
              subst hr50
              refine j_imul 53 C dX5_nightBut_53 ?_
              refine j_iadd 54 C dX5_nightBut_54 ?_
              refine j_il3 55 C dX5_nightBut_55 ?_
              refine j_iadd 56 C dX5_nightBut_56 ?_
              refine j_top (nI (3 + (8 * P + j))) (ix_wa P j) ?_
              refine j_il4 57 C dX5_nightBut_57 ?_
              refine j_al0 59 C dX5_nightBut_59 ?_
              refine j_al0 60 C dX5_nightBut_60 ?_
              refine j_il2 61 C dX5_nightBut_61 ?_
              refine j_iconst 62 C dX5_nightBut_62 ic_1 ?_
              refine j_vi 63 C dX5_nightBut_63 mv_X5_its lk_X5_67 (c_X5_its (W := 1) (by omega) (by decide)) rc_m rfl rfl ⟨(Nat.le_of_ble_eq_true rfl), (Nat.le_of_ble_eq_true rfl)⟩ (Nat.le_of_ble_eq_true rfl) (fun r63 g63 hp63 => ?_)
              obtain ⟨hr63, rfl⟩ := hp63
              rw [ub_s, eP] at hr63
              subst hr63
              refine j_il3 66 C dX5_nightBut_66 ?_
              refine j_vi 67 C dX5_nightBut_67 mv_X5_wordAt lk_X5_64 (c_X5_wordAt hP hj) rc_m rfl rfl ⟨(Nat.le_of_ble_eq_true rfl), (Nat.le_of_ble_eq_true rfl)⟩ (Nat.le_of_ble_eq_true rfl) (fun r67 g67 hp67 => ?_)
              obtain ⟨hr67, rfl⟩ := hp67
              rw [ub_s, em9] at hr67
              subst hr67
              refine j_si 70 C dX5_nightBut_70 ms_X5_leavesBy lk_X5_125 (c_X5_leavesBy hK (show m9 < 10 by omega)) rfl rfl ⟨(Nat.le_of_ble_eq_true rfl), (Nat.le_of_ble_eq_true rfl)⟩ (Nat.le_of_ble_eq_true rfl) (fun r70 g70 hp70 => ?_)
              obtain ⟨rfl, rfl⟩ := hp70
              refine j_vi 73 C dX5_nightBut_73 mv_X5_becomes lk_X5_60 (c_X5_becomes (by omega)) rc_m rfl rfl ⟨(Nat.le_of_ble_eq_true rfl), (Nat.le_of_ble_eq_true rfl)⟩ (Nat.le_of_ble_eq_true rfl) (fun r73 g73 hp73 => ?_)
              obtain ⟨hr73, rfl⟩ := hp73
              rw [ub_s, show (nm (g 12) O k) (3 + (8 * P + j)) = nI m9 from em9] at hr73
              subst hr73
              rw [ub_ub, ub_s]
              refine j_is5 76 C dX5_nightBut_76 rfl (Nat.le_of_ble_eq_true rfl) ?_
              refine j_al0 78 C dX5_nightBut_78 ?_
              refine jg_X5_7 79 C dX5_nightBut_79 ?_
              refine j_il2 82 C dX5_nightBut_82 ?_
              refine j_iconst 83 C dX5_nightBut_83 ic_3 ?_
              refine j_si 84 C dX5_nightBut_84 ms_X5_at lk_X5_84 (c_X5_at (W := 3)) rfl rfl ⟨(Nat.le_of_ble_eq_true rfl), (Nat.le_of_ble_eq_true rfl)⟩ (Nat.le_of_ble_eq_true rfl) (fun r84 g84 hp84 => ?_)
              obtain ⟨rfl, rfl⟩ := hp84
              refine j_sipush 87 C dX5_nightBut_87 sq_9999 ?_
              refine j_al0 90 C dX5_nightBut_90 ?_
              refine j_il2 91 C dX5_nightBut_91 ?_
              refine j_iconst 92 C dX5_nightBut_92 ic_3 ?_
              refine j_vi 93 C dX5_nightBut_93 mv_X5_its lk_X5_67 (c_X5_its (W := 3) (by omega) (by decide)) rc_m rfl rfl ⟨(Nat.le_of_ble_eq_true rfl), (Nat.le_of_ble_eq_true rfl)⟩ (Nat.le_of_ble_eq_true rfl) (fun r93 g93 hp93 => ?_)
              obtain ⟨hr93, rfl⟩ := hp93
              rw [ub_s, show tr (upd (nm (g 12) O k) (3 + (8 * P + j)) (lv K (nI m9))) k 3 = tr (nm (g 12) O k) k 3 from upd_n (by omega)] at hr93
              subst hr93
              refine j_il4 96 C dX5_nightBut_96 ?_
              refine j_il5 98 C dX5_nightBut_98 ?_
              refine j_si 100 C dX5_nightBut_100 ms_X5_gainsBy lk_X5_128 (c_X5_gainsBy hK) rfl rfl ⟨(Nat.le_of_ble_eq_true rfl), (Nat.le_of_ble_eq_true rfl)⟩ (Nat.le_of_ble_eq_true rfl) (fun r100 g100 hp100 => ?_)
              obtain ⟨rfl, rfl⟩ := hp100
              refine j_iadd 103 C dX5_nightBut_103 ?_
              refine j_si 104 C dX5_nightBut_104 ms_X5_least lk_X5_109 (c_X5_least) rfl rfl ⟨(Nat.le_of_ble_eq_true rfl), (Nat.le_of_ble_eq_true rfl)⟩ (Nat.le_of_ble_eq_true rfl) (fun r104 g104 hp104 => ?_)
              obtain ⟨rfl, rfl⟩ := hp104
              refine js_A0 107 (by omega) C dX5_nightBut_107 ?_
              rw [ub_ub, ub_s]
              refine j_inc2 108 C dX5_nightBut_108 rfl (nI_inc _) (Nat.le_of_ble_eq_true rfl) ?_
              refine j_goto 111 2 C dX5_nightBut_111 (by decide) ?_
              have h9 := ih (k + 1) (by omega) (some (.int (nI j))) (some (.int (nI K))) (some (.int (nI m9)))
              rw [e, e2] at h9
              unfold biteP at h9
              rw [em9] at h9
              exact h9
        · have hb : O.testBit k = true := (sh_bit O hO k (by omega)).mp c18
          have e : nm (g 12) O (k + 1) = nm (g 12) O k := if_pos hb
          refine j_iconst 21 C dX5_nightBut_21 ic_m1 ?_
          refine j_goto 22 30 C dX5_nightBut_22 (by decide) ?_
          refine j_is3 30 C dX5_nightBut_30 rfl (Nat.le_of_ble_eq_true rfl) ?_
          refine j_il3 31 C dX5_nightBut_31 ?_
          refine j_iflt 32 108 C dX5_nightBut_32 (by decide) (fun c32 => ?_) (fun c32 => ?_)
          · refine j_inc2 108 C dX5_nightBut_108 rfl (nI_inc _) (Nat.le_of_ble_eq_true rfl) ?_
            refine j_goto 111 2 C dX5_nightBut_111 (by decide) ?_
            have h9 := ih (k + 1) (by omega) (some (.int (-1))) o4 o5
            rw [e] at h9
            exact h9
          · exact absurd m1_lt c32
  refine j_iconst 0 C dX5_nightBut_0 ic_0 ?_
  refine j_is2 1 C dX5_nightBut_1 rfl (Nat.le_of_ble_eq_true rfl) ?_
  have h9 := loop M 0 (Nat.zero_add M) none none none
  rw [show ub g 12 (nm (g 12) O 0) = g from ub_id] at h9
  exact h9
set_option maxRecDepth 20000 in
theorem c_X5_goes {G : GT} {g : Mem} (hS : SI (g 12)) {N : Nat} (hN : N < 1000) : Ctv G yX5_goes cX5_goes 3 5 118 [.ref (mo G), .int (nI N)] g (fun g' => g' = ub g 12 (ngs (g 12) 0 N)) := by
  refine ent_v (by decide) (Nat.le_of_ble_eq_true rfl) [some (.ref (mo G)), some (.int (nI N)), none] rfl ?_
  intro X C hR
  have C : CX X G RX5 cX5_goes 3 5 118 := C
  refine j_iconst 0 C dX5_goes_0 ic_0 ?_
  refine j_is2 1 C dX5_goes_1 rfl (Nat.le_of_ble_eq_true rfl) ?_
  have loop : ∀ n k, k + n = N → J X G 3 (ub g 12 (ngs (g 12) 0 k)) 2 [some (.ref (mo G)), some (.int (nI N)), some (.int (nI k))] [] := by
    intro n
    induction n with
    | zero =>
      intro k hk
      obtain rfl : N = k := by omega
      refine j_il2 2 C dX5_goes_2 ?_
      refine j_il1 3 C dX5_goes_3 ?_
      refine j_icge 4 18 C dX5_goes_4 (by decide) (fun c4 => ?_) (fun c4 => ?_)
      · exact hR dX5_goes_18 rfl
      · exact absurd (nI_le (Nat.le_refl _) (by omega)) c4
    | succ n ih =>
      intro k hk
      refine j_il2 2 C dX5_goes_2 ?_
      refine j_il1 3 C dX5_goes_3 ?_
      refine j_icge 4 18 C dX5_goes_4 (by decide) (fun c4 => ?_) (fun c4 => ?_)
      · exact absurd c4 (nI_ge (a := k) (b := N) (by omega) (by omega))
      · refine j_al0 7 C dX5_goes_7 ?_
        refine j_iconst 8 C dX5_goes_8 ic_0 ?_
        refine j_vv 9 C dX5_goes_9 mv_X5_nightBut lk_X5_131 (c_X5_nightBut (O := 0) (by rw [ub_s]; exact ngs_SI hS) (by decide)) rc_m rfl rfl ⟨(Nat.le_of_ble_eq_true rfl), (Nat.le_of_ble_eq_true rfl)⟩ (Nat.le_of_ble_eq_true rfl) (fun g9 hp9 => ?_)
        obtain rfl := hp9
        rw [ub_ub, ub_s]
        refine j_inc2 12 C dX5_goes_12 rfl (nI_inc _) (Nat.le_of_ble_eq_true rfl) ?_
        refine j_goto 15 2 C dX5_goes_15 (by decide) ?_
        exact ih (k + 1) (by omega)
  have h9 := loop N 0 (Nat.zero_add N)
  rw [show ub g 12 (ngs (g 12) 0 0) = g from ub_id] at h9
  exact h9
