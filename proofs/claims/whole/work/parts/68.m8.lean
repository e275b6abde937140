set_option maxRecDepth 20000 in
theorem c_X5_isSheet {G : GT} {g : Mem} {x : Int32} : Cti G yX5_isSheet cX5_isSheet 1 .boolean 0 0 [.int x] g (fun r g' => r = bi (inr x 0 3) ∧ g = g') := by
  refine ent_z (by decide) (Nat.le_of_ble_eq_true rfl) [some (.int x)] rfl ?_
  intro X C hR
  have C : CX X G RX5 cX5_isSheet 1 0 0 := C
  refine j_il0 0 C dX5_isSheet_0 ?_
  refine j_iflt 1 13 C dX5_isSheet_1 (by decide) (fun c1 => ?_) (fun c1 => ?_)
  · refine j_iconst 13 C dX5_isSheet_13 ic_0 ?_
    exact hR dX5_isSheet_14 (by first | exact Or.inl rfl | exact Or.inr rfl) ⟨by first | exact pg_t (n := 3) (by decide) c1 c6 | exact pg_f1 c1 | exact pg_f2 (n := 3) (by decide) c6, rfl⟩
  · refine j_il0 4 C dX5_isSheet_4 ?_
    refine j_iconst 5 C dX5_isSheet_5 ic_4 ?_
    refine j_icge 6 13 C dX5_isSheet_6 (by decide) (fun c6 => ?_) (fun c6 => ?_)
    · refine j_iconst 13 C dX5_isSheet_13 ic_0 ?_
      exact hR dX5_isSheet_14 (by first | exact Or.inl rfl | exact Or.inr rfl) ⟨by first | exact pg_t (n := 3) (by decide) c1 c6 | exact pg_f1 c1 | exact pg_f2 (n := 3) (by decide) c6, rfl⟩
    · refine j_iconst 9 C dX5_isSheet_9 ic_1 ?_
      refine j_goto 10 14 C dX5_isSheet_10 (by decide) ?_
      exact hR dX5_isSheet_14 (by first | exact Or.inl rfl | exact Or.inr rfl) ⟨by first | exact pg_t (n := 3) (by decide) c1 c6 | exact pg_f1 c1 | exact pg_f2 (n := 3) (by decide) c6, rfl⟩
set_option maxRecDepth 20000 in
theorem c_X5_wants {G : GT} {g : Mem} {s : Int32} : Cti G yX5_wants cX5_wants 2 .int 1 20 [.ref (mo G), .int s] g (fun r g' => r = wn s g ∧ g = g') := by
  refine ent_i (by decide) (Nat.le_of_ble_eq_true rfl) [some (.ref (mo G)), some (.int s)] rfl ?_
  intro X C hR
  have C : CX X G RX5 cX5_wants 2 1 20 := C
  refine j_il1 0 C dX5_wants_0 ?_
  refine j_si 1 C dX5_wants_1 ms_X5_isSheet lk_X5_297 (c_X5_isSheet) rfl rfl ⟨(Nat.le_of_ble_eq_true rfl), (Nat.le_of_ble_eq_true rfl)⟩ (Nat.le_of_ble_eq_true rfl) (fun r1 g1 hp1 => ?_)
  obtain ⟨rfl, rfl⟩ := hp1
  refine j_ifne 4 12 C dX5_wants_4 (by decide) (fun c4 => ?_) (fun c4 => ?_)
  · have v4 := bi_n c4
    obtain ⟨Q, hQ, rfl⟩ := inr_nat (n := 3) (by decide) v4
    refine j_al0 12 C dX5_wants_12 ?_
    refine jg_X5_28 13 C dX5_wants_13 ?_
    refine j_il1 16 C dX5_wants_16 ?_
    refine jl_A6 17 (by omega) C dX5_wants_17 ?_
    refine j_ifge 18 27 C dX5_wants_18 (by decide) (fun c18 => ?_) (fun c18 => ?_)
    · refine j_iconst 27 C dX5_wants_27 ic_0 ?_
      exact hR dX5_wants_28 ⟨by unfold wn; first | (rw [v4]; rfl) | (rw [v4, cl_nI (show Q < 2 ^ 31 by omega), if_pos (Int32.not_le.mp c18)]; rfl) | (rw [v4, cl_nI (show Q < 2 ^ 31 by omega), if_neg (Int32.not_lt.mpr c18)]; rfl), rfl⟩
    · refine j_ldcw 21 C dX5_wants_21 cs_X5_292 ?_
      refine j_goto 24 28 C dX5_wants_24 (by decide) ?_
      exact hR dX5_wants_28 ⟨by unfold wn; first | (rw [v4]; rfl) | (rw [v4, cl_nI (show Q < 2 ^ 31 by omega), if_pos (Int32.not_le.mp c18)]; rfl) | (rw [v4, cl_nI (show Q < 2 ^ 31 by omega), if_neg (Int32.not_lt.mpr c18)]; rfl), rfl⟩
  · have v4 := bi_0 c4
    refine j_ldc 7 C dX5_wants_7 cs_X5_40 ?_
    refine j_goto 9 28 C dX5_wants_9 (by decide) ?_
    exact hR dX5_wants_28 ⟨by unfold wn; first | (rw [v4]; rfl) | (rw [v4, cl_nI (show Q < 2 ^ 31 by omega), if_pos (Int32.not_le.mp c18)]; rfl) | (rw [v4, cl_nI (show Q < 2 ^ 31 by omega), if_neg (Int32.not_lt.mpr c18)]; rfl), rfl⟩
set_option maxRecDepth 20000 in
theorem c_X5_sheet {G : GT} {g : Mem} (hS : SI (g 12)) (hZ : HZ g) {s b z : Int32} : Cti G yX5_sheet cX5_sheet 5 .int 1 21 [.ref (mo G), .int s, .int b, .int z] g (fun r g' => cgM (m_sheet s b z g) g r g') := by
  refine ent_i (by decide) (Nat.le_of_ble_eq_true rfl) [some (.ref (mo G)), some (.int s), some (.int b), some (.int z), none] rfl ?_
  intro X C hR
  have C : CX X G RX5 cX5_sheet 5 1 21 := C
  refine j_il1 0 C dX5_sheet_0 ?_
  refine j_si 1 C dX5_sheet_1 ms_X5_isSheet lk_X5_297 (c_X5_isSheet) rfl rfl ⟨(Nat.le_of_ble_eq_true rfl), (Nat.le_of_ble_eq_true rfl)⟩ (Nat.le_of_ble_eq_true rfl) (fun r1 g1 hp1 => ?_)
  obtain ⟨rfl, rfl⟩ := hp1
  refine j_ifeq 4 29 C dX5_sheet_4 (by decide) (fun c4 => ?_) (fun c4 => ?_)
  · have v4 := bi_0 c4
    refine j_al0 29 C dX5_sheet_29 ?_
    refine j_ldc 30 C dX5_sheet_30 cs_X5_40 ?_
    refine j_vi 32 C dX5_sheet_32 mv_X5_finds lk_X5_46 (c_X5_finds (f := 0) (by decide) (by decide)) rc_m rfl rfl ⟨(Nat.le_of_ble_eq_true rfl), (Nat.le_of_ble_eq_true rfl)⟩ (Nat.le_of_ble_eq_true rfl) (fun r32 g32 hp32 => ?_)
    obtain ⟨rfl, rfl⟩ := hp32
    exact hR dX5_sheet_35 (cgM_f (f := 0) (by unfold m_sheet; rw [v4]; rfl) (by decide) (by decide) SC.rfl)
  · have v4 := bi_n c4
    refine j_il2 7 C dX5_sheet_7 ?_
    refine j_ifeq 8 36 C dX5_sheet_8 (by decide) (fun c8 => ?_) (fun c8 => ?_)
    · have hb : okb b = true := decide_eq_true (Or.inl c8)
      refine j_il3 36 C dX5_sheet_36 ?_
      refine j_ifge 37 48 C dX5_sheet_37 (by decide) (fun c37 => ?_) (fun c37 => ?_)
      · refine j_il3 48 C dX5_sheet_48 ?_
        refine j_bipush 49 C dX5_sheet_49 bp_40 ?_
        refine j_icle 51 61 C dX5_sheet_51 (by decide) (fun c51 => ?_) (fun c51 => ?_)
        · have hq : inr s 0 3 = true := v4
          obtain ⟨Q, hQ, rfl⟩ := inr_nat (n := 3) (by decide) v4
          refine j_al0 61 C dX5_sheet_61 ?_
          refine jg_X5_28 62 C dX5_sheet_62 ?_
          refine j_il1 65 C dX5_sheet_65 ?_
          refine j_il2 66 C dX5_sheet_66 ?_
          refine j_ifne 67 74 C dX5_sheet_67 (by decide) (fun c67 => ?_) (fun c67 => ?_)
          · refine j_il2 74 C dX5_sheet_74 ?_
            refine j_top (if b = 0 then -1 else b) (if_neg c67).symm ?_
            refine js_A6 75 (by omega) C dX5_sheet_75 ?_
            refine j_al0 76 C dX5_sheet_76 ?_
            refine jg_X5_31 77 C dX5_sheet_77 ?_
            refine j_il1 80 C dX5_sheet_80 ?_
            refine j_il2 81 C dX5_sheet_81 ?_
            refine j_ifne 82 89 C dX5_sheet_82 (by decide) (fun c82 => ?_) (fun c82 => ?_)
            · refine j_il3 89 C dX5_sheet_89 ?_
              refine j_top (if b = 0 then 0 else z) (if_neg c67).symm ?_
              refine js_A7 90 (by omega) C dX5_sheet_90 ?_
              rw [ub_n (b' := 19) (b := 18) (by decide)]
              have loop : ∀ n k, k + n = 40 → J X G 5 (ub (ub (ub g 18 (upd (g 18) Q (if b = 0 then -1 else b))) 19 (upd (g 19) Q (if b = 0 then 0 else z))) 20 (zer (g 20) Q k)) 94 [some (.ref (mo G)), some (.int (nI Q)), some (.int (b)), some (.int (z)), some (.int (nI k))] [] := by
                intro n
                induction n with
                | zero =>
                  intro k hk
                  obtain rfl : k = 40 := by omega
                  refine j_il4 94 C dX5_sheet_94 ?_
                  refine j_bipush 96 C dX5_sheet_96 bp_40 ?_
                  refine j_icge 98 120 C dX5_sheet_98 (by decide) (fun c98 => ?_) (fun c98 => ?_)
                  · refine j_al0 120 C dX5_sheet_120 ?_
                    refine jg_X5_31 121 C dX5_sheet_121 ?_
                    refine j_il1 124 C dX5_sheet_124 ?_
                    refine jl_A7 125 (by omega) C dX5_sheet_125 ?_
                    refine j_top (if b = 0 then 0 else z) (by rw [ub_n (by decide), ub_s, upd_s]) ?_
                    exact hR dX5_sheet_126 (cgM_r (by unfold m_sheet; rw [hq, hb, cl_nI (show Q < 2 ^ 31 by omega), if_neg (Int32.not_lt.mpr c37), if_neg (Int32.not_lt.mpr c51)]; rfl) rfl SC.rfl)
                  · exact absurd (nI_le (Nat.le_refl _) (by decide)) c98
                | succ n ih =>
                  intro k hk
                  refine j_il4 94 C dX5_sheet_94 ?_
                  refine j_bipush 96 C dX5_sheet_96 bp_40 ?_
                  refine j_icge 98 120 C dX5_sheet_98 (by decide) (fun c98 => ?_) (fun c98 => ?_)
                  · exact absurd c98 (nI_ge (a := k) (b := 40) (by omega) (by decide))
                  · refine j_al0 101 C dX5_sheet_101 ?_
                    refine jg_X5_34 102 C dX5_sheet_102 ?_
                    refine j_bipush 105 C dX5_sheet_105 bp_40 ?_
                    refine j_il1 107 C dX5_sheet_107 ?_
                    refine j_imul 108 C dX5_sheet_108 ?_
                    refine j_il4 109 C dX5_sheet_109 ?_
                    refine j_iadd 111 C dX5_sheet_111 ?_
                    refine j_top (nI (40 * Q + k)) (ix_n Q k) ?_
                    refine j_iconst 112 C dX5_sheet_112 ic_0 ?_
                    refine js_A8 113 (by omega) C dX5_sheet_113 ?_
                    rw [ub_ub, ub_s, zer_s]
                    refine j_inc4 114 C dX5_sheet_114 rfl (nI_inc _) (Nat.le_of_ble_eq_true rfl) ?_
                    refine j_goto 117 94 C dX5_sheet_117 (by decide) ?_
                    exact ih (k + 1) (by omega)
              refine j_iconst 91 C dX5_sheet_91 ic_0 ?_
              refine j_is4 92 C dX5_sheet_92 rfl (Nat.le_of_ble_eq_true rfl) ?_
              have h9 := loop 40 0 rfl
              rw [zer_0, show ub (ub (ub g 18 (upd (g 18) Q (if b = 0 then -1 else b))) 19 (upd (g 19) Q (if b = 0 then 0 else z))) 20 (g 20) = (ub (ub g 18 (upd (g 18) Q (if b = 0 then -1 else b))) 19 (upd (g 19) Q (if b = 0 then 0 else z))) from (congrArg _ (show g 20 = (ub (ub g 18 (upd (g 18) Q (if b = 0 then -1 else b))) 19 (upd (g 19) Q (if b = 0 then 0 else z))) 20 by rw [ub_n (by decide), ub_n (by decide)])).trans ub_id] at h9
              exact h9
            · exact absurd c82 c67
          · refine j_iconst 70 C dX5_sheet_70 ic_m1 ?_
            refine j_goto 71 75 C dX5_sheet_71 (by decide) ?_
            refine j_top (if b = 0 then -1 else b) (if_pos c67).symm ?_
            refine js_A6 75 (by omega) C dX5_sheet_75 ?_
            refine j_al0 76 C dX5_sheet_76 ?_
            refine jg_X5_31 77 C dX5_sheet_77 ?_
            refine j_il1 80 C dX5_sheet_80 ?_
            refine j_il2 81 C dX5_sheet_81 ?_
            refine j_ifne 82 89 C dX5_sheet_82 (by decide) (fun c82 => ?_) (fun c82 => ?_)
            · exact absurd c67 c82
            · refine j_iconst 85 C dX5_sheet_85 ic_0 ?_
              refine j_goto 86 90 C dX5_sheet_86 (by decide) ?_
              refine j_top (if b = 0 then 0 else z) (if_pos c67).symm ?_
              refine js_A7 90 (by omega) C dX5_sheet_90 ?_
              rw [ub_n (b' := 19) (b := 18) (by decide)]
              have loop : ∀ n k, k + n = 40 → J X G 5 (ub (ub (ub g 18 (upd (g 18) Q (if b = 0 then -1 else b))) 19 (upd (g 19) Q (if b = 0 then 0 else z))) 20 (zer (g 20) Q k)) 94 [some (.ref (mo G)), some (.int (nI Q)), some (.int (b)), some (.int (z)), some (.int (nI k))] [] := by
                intro n
                induction n with
                | zero =>
                  intro k hk
                  obtain rfl : k = 40 := by omega
                  refine j_il4 94 C dX5_sheet_94 ?_
                  refine j_bipush 96 C dX5_sheet_96 bp_40 ?_
                  refine j_icge 98 120 C dX5_sheet_98 (by decide) (fun c98 => ?_) (fun c98 => ?_)
                  · refine j_al0 120 C dX5_sheet_120 ?_
                    refine jg_X5_31 121 C dX5_sheet_121 ?_
                    refine j_il1 124 C dX5_sheet_124 ?_
                    refine jl_A7 125 (by omega) C dX5_sheet_125 ?_
                    refine j_top (if b = 0 then 0 else z) (by rw [ub_n (by decide), ub_s, upd_s]) ?_
                    exact hR dX5_sheet_126 (cgM_r (by unfold m_sheet; rw [hq, hb, cl_nI (show Q < 2 ^ 31 by omega), if_neg (Int32.not_lt.mpr c37), if_neg (Int32.not_lt.mpr c51)]; rfl) rfl SC.rfl)
                  · exact absurd (nI_le (Nat.le_refl _) (by decide)) c98
                | succ n ih =>
                  intro k hk
                  refine j_il4 94 C dX5_sheet_94 ?_
                  refine j_bipush 96 C dX5_sheet_96 bp_40 ?_
                  refine j_icge 98 120 C dX5_sheet_98 (by decide) (fun c98 => ?_) (fun c98 => ?_)
                  · exact absurd c98 (nI_ge (a := k) (b := 40) (by omega) (by decide))
                  · refine j_al0 101 C dX5_sheet_101 ?_
                    refine jg_X5_34 102 C dX5_sheet_102 ?_
                    refine j_bipush 105 C dX5_sheet_105 bp_40 ?_
                    refine j_il1 107 C dX5_sheet_107 ?_
                    refine j_imul 108 C dX5_sheet_108 ?_
                    refine j_il4 109 C dX5_sheet_109 ?_
                    refine j_iadd 111 C dX5_sheet_111 ?_
                    refine j_top (nI (40 * Q + k)) (ix_n Q k) ?_
                    refine j_iconst 112 C dX5_sheet_112 ic_0 ?_
                    refine js_A8 113 (by omega) C dX5_sheet_113 ?_
                    rw [ub_ub, ub_s, zer_s]
                    refine j_inc4 114 C dX5_sheet_114 rfl (nI_inc _) (Nat.le_of_ble_eq_true rfl) ?_
                    refine j_goto 117 94 C dX5_sheet_117 (by decide) ?_
                    exact ih (k + 1) (by omega)
              refine j_iconst 91 C dX5_sheet_91 ic_0 ?_
              refine j_is4 92 C dX5_sheet_92 rfl (Nat.le_of_ble_eq_true rfl) ?_
              have h9 := loop 40 0 rfl
              rw [zer_0, show ub (ub (ub g 18 (upd (g 18) Q (if b = 0 then -1 else b))) 19 (upd (g 19) Q (if b = 0 then 0 else z))) 20 (g 20) = (ub (ub g 18 (upd (g 18) Q (if b = 0 then -1 else b))) 19 (upd (g 19) Q (if b = 0 then 0 else z))) from (congrArg _ (show g 20 = (ub (ub g 18 (upd (g 18) Q (if b = 0 then -1 else b))) 19 (upd (g 19) Q (if b = 0 then 0 else z))) 20 by rw [ub_n (by decide), ub_n (by decide)])).trans ub_id] at h9
              exact h9
        · refine j_al0 54 C dX5_sheet_54 ?_
          refine j_ldc 55 C dX5_sheet_55 cs_X5_40 ?_
          refine j_vi 57 C dX5_sheet_57 mv_X5_finds lk_X5_46 (c_X5_finds (f := 0) (by decide) (by decide)) rc_m rfl rfl ⟨(Nat.le_of_ble_eq_true rfl), (Nat.le_of_ble_eq_true rfl)⟩ (Nat.le_of_ble_eq_true rfl) (fun r57 g57 hp57 => ?_)
          obtain ⟨rfl, rfl⟩ := hp57
          exact hR dX5_sheet_60 (cgM_f (f := 0) (by unfold m_sheet; rw [v4, hb, if_neg (Int32.not_lt.mpr c37), if_pos (Int32.not_le.mp c51)]; rfl) (by decide) (by decide) SC.rfl)
      · refine j_al0 40 C dX5_sheet_40 ?_
        refine j_ldcw 41 C dX5_sheet_41 cs_X5_300 ?_
        refine j_vi 44 C dX5_sheet_44 mv_X5_finds lk_X5_46 (c_X5_finds (f := 6) (by decide) (by decide)) rc_m rfl rfl ⟨(Nat.le_of_ble_eq_true rfl), (Nat.le_of_ble_eq_true rfl)⟩ (Nat.le_of_ble_eq_true rfl) (fun r44 g44 hp44 => ?_)
        obtain ⟨rfl, rfl⟩ := hp44
        exact hR dX5_sheet_47 (cgM_f (f := 6) (by unfold m_sheet; rw [v4, hb, if_pos (Int32.not_le.mp c37)]; rfl) (by decide) (by decide) SC.rfl)
    · refine j_il2 11 C dX5_sheet_11 ?_
      refine j_bipush 12 C dX5_sheet_12 bp_8 ?_
      refine j_iceq 14 36 C dX5_sheet_14 (by decide) (fun c14 => ?_) (fun c14 => ?_)
      · have hb : okb b = true := decide_eq_true (Or.inr (Or.inl c14))
        refine j_il3 36 C dX5_sheet_36 ?_
        refine j_ifge 37 48 C dX5_sheet_37 (by decide) (fun c37 => ?_) (fun c37 => ?_)
        · refine j_il3 48 C dX5_sheet_48 ?_
          refine j_bipush 49 C dX5_sheet_49 bp_40 ?_
          refine j_icle 51 61 C dX5_sheet_51 (by decide) (fun c51 => ?_) (fun c51 => ?_)
          · have hq : inr s 0 3 = true := v4
            obtain ⟨Q, hQ, rfl⟩ := inr_nat (n := 3) (by decide) v4
            refine j_al0 61 C dX5_sheet_61 ?_
            refine jg_X5_28 62 C dX5_sheet_62 ?_
            refine j_il1 65 C dX5_sheet_65 ?_
            refine j_il2 66 C dX5_sheet_66 ?_
            refine j_ifne 67 74 C dX5_sheet_67 (by decide) (fun c67 => ?_) (fun c67 => ?_)
            · refine j_il2 74 C dX5_sheet_74 ?_
              refine j_top (if b = 0 then -1 else b) (if_neg c67).symm ?_
              refine js_A6 75 (by omega) C dX5_sheet_75 ?_
              refine j_al0 76 C dX5_sheet_76 ?_
              refine jg_X5_31 77 C dX5_sheet_77 ?_
              refine j_il1 80 C dX5_sheet_80 ?_
              refine j_il2 81 C dX5_sheet_81 ?_
              refine j_ifne 82 89 C dX5_sheet_82 (by decide) (fun c82 => ?_) (fun c82 => ?_)
              · refine j_il3 89 C dX5_sheet_89 ?_
                refine j_top (if b = 0 then 0 else z) (if_neg c67).symm ?_
                refine js_A7 90 (by omega) C dX5_sheet_90 ?_
                rw [ub_n (b' := 19) (b := 18) (by decide)]
                have loop : ∀ n k, k + n = 40 → J X G 5 (ub (ub (ub g 18 (upd (g 18) Q (if b = 0 then -1 else b))) 19 (upd (g 19) Q (if b = 0 then 0 else z))) 20 (zer (g 20) Q k)) 94 [some (.ref (mo G)), some (.int (nI Q)), some (.int (b)), some (.int (z)), some (.int (nI k))] [] := by
                  intro n
                  induction n with
                  | zero =>
                    intro k hk
                    obtain rfl : k = 40 := by omega
                    refine j_il4 94 C dX5_sheet_94 ?_
                    refine j_bipush 96 C dX5_sheet_96 bp_40 ?_
                    refine j_icge 98 120 C dX5_sheet_98 (by decide) (fun c98 => ?_) (fun c98 => ?_)
                    · refine j_al0 120 C dX5_sheet_120 ?_
                      refine jg_X5_31 121 C dX5_sheet_121 ?_
                      refine j_il1 124 C dX5_sheet_124 ?_
                      refine jl_A7 125 (by omega) C dX5_sheet_125 ?_
                      refine j_top (if b = 0 then 0 else z) (by rw [ub_n (by decide), ub_s, upd_s]) ?_
                      exact hR dX5_sheet_126 (cgM_r (by unfold m_sheet; rw [hq, hb, cl_nI (show Q < 2 ^ 31 by omega), if_neg (Int32.not_lt.mpr c37), if_neg (Int32.not_lt.mpr c51)]; rfl) rfl SC.rfl)
                    · exact absurd (nI_le (Nat.le_refl _) (by decide)) c98
                  | succ n ih =>
                    intro k hk
                    refine j_il4 94 C dX5_sheet_94 ?_
                    refine j_bipush 96 C dX5_sheet_96 bp_40 ?_
                    refine j_icge 98 120 C dX5_sheet_98 (by decide) (fun c98 => ?_) (fun c98 => ?_)
                    · exact absurd c98 (nI_ge (a := k) (b := 40) (by omega) (by decide))
                    · refine j_al0 101 C dX5_sheet_101 ?_
                      refine jg_X5_34 102 C dX5_sheet_102 ?_
                      refine j_bipush 105 C dX5_sheet_105 bp_40 ?_
                      refine j_il1 107 C dX5_sheet_107 ?_
                      refine j_imul 108 C dX5_sheet_108 ?_
                      refine j_il4 109 C dX5_sheet_109 ?_
                      refine j_iadd 111 C dX5_sheet_111 ?_
                      refine j_top (nI (40 * Q + k)) (ix_n Q k) ?_
                      refine j_iconst 112 C dX5_sheet_112 ic_0 ?_
                      refine js_A8 113 (by omega) C dX5_sheet_113 ?_
                      rw [ub_ub, ub_s, zer_s]
                      refine j_inc4 114 C dX5_sheet_114 rfl (nI_inc _) (Nat.le_of_ble_eq_true rfl) ?_
                      refine j_goto 117 94 C dX5_sheet_117 (by decide) ?_
                      exact ih (k + 1) (by omega)
                refine j_iconst 91 C dX5_sheet_91 ic_0 ?_
                refine j_is4 92 C dX5_sheet_92 rfl (Nat.le_of_ble_eq_true rfl) ?_
                have h9 := loop 40 0 rfl
                rw [zer_0, show ub (ub (ub g 18 (upd (g 18) Q (if b = 0 then -1 else b))) 19 (upd (g 19) Q (if b = 0 then 0 else z))) 20 (g 20) = (ub (ub g 18 (upd (g 18) Q (if b = 0 then -1 else b))) 19 (upd (g 19) Q (if b = 0 then 0 else z))) from (congrArg _ (show g 20 = (ub (ub g 18 (upd (g 18) Q (if b = 0 then -1 else b))) 19 (upd (g 19) Q (if b = 0 then 0 else z))) 20 by rw [ub_n (by decide), ub_n (by decide)])).trans ub_id] at h9
                exact h9
              · exact absurd c82 c67
            · refine j_iconst 70 C dX5_sheet_70 ic_m1 ?_
              refine j_goto 71 75 C dX5_sheet_71 (by decide) ?_
              refine j_top (if b = 0 then -1 else b) (if_pos c67).symm ?_
              refine js_A6 75 (by omega) C dX5_sheet_75 ?_
              refine j_al0 76 C dX5_sheet_76 ?_
              refine jg_X5_31 77 C dX5_sheet_77 ?_
              refine j_il1 80 C dX5_sheet_80 ?_
              refine j_il2 81 C dX5_sheet_81 ?_
              refine j_ifne 82 89 C dX5_sheet_82 (by decide) (fun c82 => ?_) (fun c82 => ?_)
              · exact absurd c67 c82
              · refine j_iconst 85 C dX5_sheet_85 ic_0 ?_
                refine j_goto 86 90 C dX5_sheet_86 (by decide) ?_
                refine j_top (if b = 0 then 0 else z) (if_pos c67).symm ?_
                refine js_A7 90 (by omega) C dX5_sheet_90 ?_
                rw [ub_n (b' := 19) (b := 18) (by decide)]
                have loop : ∀ n k, k + n = 40 → J X G 5 (ub (ub (ub g 18 (upd (g 18) Q (if b = 0 then -1 else b))) 19 (upd (g 19) Q (if b = 0 then 0 else z))) 20 (zer (g 20) Q k)) 94 [some (.ref (mo G)), some (.int (nI Q)), some (.int (b)), some (.int (z)), some (.int (nI k))] [] := by
                  intro n
                  induction n with
                  | zero =>
                    intro k hk
                    obtain rfl : k = 40 := by omega
                    refine j_il4 94 C dX5_sheet_94 ?_
                    refine j_bipush 96 C dX5_sheet_96 bp_40 ?_
                    refine j_icge 98 120 C dX5_sheet_98 (by decide) (fun c98 => ?_) (fun c98 => ?_)
                    · refine j_al0 120 C dX5_sheet_120 ?_
                      refine jg_X5_31 121 C dX5_sheet_121 ?_
                      refine j_il1 124 C dX5_sheet_124 ?_
                      refine jl_A7 125 (by omega) C dX5_sheet_125 ?_
                      refine j_top (if b = 0 then 0 else z) (by rw [ub_n (by decide), ub_s, upd_s]) ?_
                      exact hR dX5_sheet_126 (cgM_r (by unfold m_sheet; rw [hq, hb, cl_nI (show Q < 2 ^ 31 by omega), if_neg (Int32.not_lt.mpr c37), if_neg (Int32.not_lt.mpr c51)]; rfl) rfl SC.rfl)
                    · exact absurd (nI_le (Nat.le_refl _) (by decide)) c98
                  | succ n ih =>
                    intro k hk
                    refine j_il4 94 C dX5_sheet_94 ?_
                    refine j_bipush 96 C dX5_sheet_96 bp_40 ?_
                    refine j_icge 98 120 C dX5_sheet_98 (by decide) (fun c98 => ?_) (fun c98 => ?_)
                    · exact absurd c98 (nI_ge (a := k) (b := 40) (by omega) (by decide))
                    · refine j_al0 101 C dX5_sheet_101 ?_
                      refine jg_X5_34 102 C dX5_sheet_102 ?_
                      refine j_bipush 105 C dX5_sheet_105 bp_40 ?_
                      refine j_il1 107 C dX5_sheet_107 ?_
                      refine j_imul 108 C dX5_sheet_108 ?_
                      refine j_il4 109 C dX5_sheet_109 ?_
                      refine j_iadd 111 C dX5_sheet_111 ?_
                      refine j_top (nI (40 * Q + k)) (ix_n Q k) ?_
                      refine j_iconst 112 C dX5_sheet_112 ic_0 ?_
                      refine js_A8 113 (by omega) C dX5_sheet_113 ?_
                      rw [ub_ub, ub_s, zer_s]
                      refine j_inc4 114 C dX5_sheet_114 rfl (nI_inc _) (Nat.le_of_ble_eq_true rfl) ?_
                      refine j_goto 117 94 C dX5_sheet_117 (by decide) ?_
                      exact ih (k + 1) (by omega)
                refine j_iconst 91 C dX5_sheet_91 ic_0 ?_
                refine j_is4 92 C dX5_sheet_92 rfl (Nat.le_of_ble_eq_true rfl) ?_
                have h9 := loop 40 0 rfl
                rw [zer_0, show ub (ub (ub g 18 (upd (g 18) Q (if b = 0 then -1 else b))) 19 (upd (g 19) Q (if b = 0 then 0 else z))) 20 (g 20) = (ub (ub g 18 (upd (g 18) Q (if b = 0 then -1 else b))) 19 (upd (g 19) Q (if b = 0 then 0 else z))) from (congrArg _ (show g 20 = (ub (ub g 18 (upd (g 18) Q (if b = 0 then -1 else b))) 19 (upd (g 19) Q (if b = 0 then 0 else z))) 20 by rw [ub_n (by decide), ub_n (by decide)])).trans ub_id] at h9
                exact h9
          · refine j_al0 54 C dX5_sheet_54 ?_
            refine j_ldc 55 C dX5_sheet_55 cs_X5_40 ?_
            refine j_vi 57 C dX5_sheet_57 mv_X5_finds lk_X5_46 (c_X5_finds (f := 0) (by decide) (by decide)) rc_m rfl rfl ⟨(Nat.le_of_ble_eq_true rfl), (Nat.le_of_ble_eq_true rfl)⟩ (Nat.le_of_ble_eq_true rfl) (fun r57 g57 hp57 => ?_)
            obtain ⟨rfl, rfl⟩ := hp57
            exact hR dX5_sheet_60 (cgM_f (f := 0) (by unfold m_sheet; rw [v4, hb, if_neg (Int32.not_lt.mpr c37), if_pos (Int32.not_le.mp c51)]; rfl) (by decide) (by decide) SC.rfl)
        · refine j_al0 40 C dX5_sheet_40 ?_
          refine j_ldcw 41 C dX5_sheet_41 cs_X5_300 ?_
          refine j_vi 44 C dX5_sheet_44 mv_X5_finds lk_X5_46 (c_X5_finds (f := 6) (by decide) (by decide)) rc_m rfl rfl ⟨(Nat.le_of_ble_eq_true rfl), (Nat.le_of_ble_eq_true rfl)⟩ (Nat.le_of_ble_eq_true rfl) (fun r44 g44 hp44 => ?_)
          obtain ⟨rfl, rfl⟩ := hp44
          exact hR dX5_sheet_47 (cgM_f (f := 6) (by unfold m_sheet; rw [v4, hb, if_pos (Int32.not_le.mp c37)]; rfl) (by decide) (by decide) SC.rfl)
      · refine j_il2 17 C dX5_sheet_17 ?_
        refine j_bipush 18 C dX5_sheet_18 bp_16 ?_
        refine j_iceq 20 36 C dX5_sheet_20 (by decide) (fun c20 => ?_) (fun c20 => ?_)
        · have hb : okb b = true := decide_eq_true (Or.inr (Or.inr (Or.inl c20)))
          refine j_il3 36 C dX5_sheet_36 ?_
          refine j_ifge 37 48 C dX5_sheet_37 (by decide) (fun c37 => ?_) (fun c37 => ?_)
          · refine j_il3 48 C dX5_sheet_48 ?_
            refine j_bipush 49 C dX5_sheet_49 bp_40 ?_
            refine j_icle 51 61 C dX5_sheet_51 (by decide) (fun c51 => ?_) (fun c51 => ?_)
            · have hq : inr s 0 3 = true := v4
              obtain ⟨Q, hQ, rfl⟩ := inr_nat (n := 3) (by decide) v4
              refine j_al0 61 C dX5_sheet_61 ?_
              refine jg_X5_28 62 C dX5_sheet_62 ?_
              refine j_il1 65 C dX5_sheet_65 ?_
              refine j_il2 66 C dX5_sheet_66 ?_
              refine j_ifne 67 74 C dX5_sheet_67 (by decide) (fun c67 => ?_) (fun c67 => ?_)
              · refine j_il2 74 C dX5_sheet_74 ?_
                refine j_top (if b = 0 then -1 else b) (if_neg c67).symm ?_
                refine js_A6 75 (by omega) C dX5_sheet_75 ?_
                refine j_al0 76 C dX5_sheet_76 ?_
                refine jg_X5_31 77 C dX5_sheet_77 ?_
                refine j_il1 80 C dX5_sheet_80 ?_
                refine j_il2 81 C dX5_sheet_81 ?_
                refine j_ifne 82 89 C dX5_sheet_82 (by decide) (fun c82 => ?_) (fun c82 => ?_)
                · refine j_il3 89 C dX5_sheet_89 ?_
                  refine j_top (if b = 0 then 0 else z) (if_neg c67).symm ?_
                  refine js_A7 90 (by omega) C dX5_sheet_90 ?_
                  rw [ub_n (b' := 19) (b := 18) (by decide)]
                  have loop : ∀ n k, k + n = 40 → J X G 5 (ub (ub (ub g 18 (upd (g 18) Q (if b = 0 then -1 else b))) 19 (upd (g 19) Q (if b = 0 then 0 else z))) 20 (zer (g 20) Q k)) 94 [some (.ref (mo G)), some (.int (nI Q)), some (.int (b)), some (.int (z)), some (.int (nI k))] [] := by
                    intro n
                    induction n with
                    | zero =>
                      intro k hk
                      obtain rfl : k = 40 := by omega
                      refine j_il4 94 C dX5_sheet_94 ?_
                      refine j_bipush 96 C dX5_sheet_96 bp_40 ?_
                      refine j_icge 98 120 C dX5_sheet_98 (by decide) (fun c98 => ?_) (fun c98 => ?_)
                      · refine j_al0 120 C dX5_sheet_120 ?_
                        refine jg_X5_31 121 C dX5_sheet_121 ?_
                        refine j_il1 124 C dX5_sheet_124 ?_
                        refine jl_A7 125 (by omega) C dX5_sheet_125 ?_
                        refine j_top (if b = 0 then 0 else z) (by rw [ub_n (by decide), ub_s, upd_s]) ?_
                        exact hR dX5_sheet_126 (cgM_r (by unfold m_sheet; rw [hq, hb, cl_nI (show Q < 2 ^ 31 by omega), if_neg (Int32.not_lt.mpr c37), if_neg (Int32.not_lt.mpr c51)]; rfl) rfl SC.rfl)
                      · exact absurd (nI_le (Nat.le_refl _) (by decide)) c98
                    | succ n ih =>
                      intro k hk
                      refine j_il4 94 C dX5_sheet_94 ?_
                      refine j_bipush 96 C dX5_sheet_96 bp_40 ?_
                      refine j_icge 98 120 C dX5_sheet_98 (by decide) (fun c98 => ?_) (fun c98 => ?_)
                      · exact absurd c98 (nI_ge (a := k) (b := 40) (by omega) (by decide))
                      · refine j_al0 101 C dX5_sheet_101 ?_
                        refine jg_X5_34 102 C dX5_sheet_102 ?_
                        refine j_bipush 105 C dX5_sheet_105 bp_40 ?_
                        refine j_il1 107 C dX5_sheet_107 ?_
                        refine j_imul 108 C dX5_sheet_108 ?_
                        refine j_il4 109 C dX5_sheet_109 ?_
                        refine j_iadd 111 C dX5_sheet_111 ?_
                        refine j_top (nI (40 * Q + k)) (ix_n Q k) ?_
                        refine j_iconst 112 C dX5_sheet_112 ic_0 ?_
                        refine js_A8 113 (by omega) C dX5_sheet_113 ?_
                        rw [ub_ub, ub_s, zer_s]
                        refine j_inc4 114 C dX5_sheet_114 rfl (nI_inc _) (Nat.le_of_ble_eq_true rfl) ?_
                        refine j_goto 117 94 C dX5_sheet_117 (by decide) ?_
                        exact ih (k + 1) (by omega)
                  refine j_iconst 91 C dX5_sheet_91 ic_0 ?_
                  refine j_is4 92 C dX5_sheet_92 rfl (Nat.le_of_ble_eq_true rfl) ?_
                  have h9 := loop 40 0 rfl
                  rw [zer_0, show ub (ub (ub g 18 (upd (g 18) Q (if b = 0 then -1 else b))) 19 (upd (g 19) Q (if b = 0 then 0 else z))) 20 (g 20) = (ub (ub g 18 (upd (g 18) Q (if b = 0 then -1 else b))) 19 (upd (g 19) Q (if b = 0 then 0 else z))) from (congrArg _ (show g 20 = (ub (ub g 18 (upd (g 18) Q (if b = 0 then -1 else b))) 19 (upd (g 19) Q (if b = 0 then 0 else z))) 20 by rw [ub_n (by decide), ub_n (by decide)])).trans ub_id] at h9
                  exact h9
                · exact absurd c82 c67
              · refine j_iconst 70 C dX5_sheet_70 ic_m1 ?_
                refine j_goto 71 75 C dX5_sheet_71 (by decide) ?_
                refine j_top (if b = 0 then -1 else b) (if_pos c67).symm ?_
                refine js_A6 75 (by omega) C dX5_sheet_75 ?_
                refine j_al0 76 C dX5_sheet_76 ?_
                refine jg_X5_31 77 C dX5_sheet_77 ?_
                refine j_il1 80 C dX5_sheet_80 ?_
                refine j_il2 81 C dX5_sheet_81 ?_
                refine j_ifne 82 89 C dX5_sheet_82 (by decide) (fun c82 => ?_) (fun c82 => ?_)
                · exact absurd c67 c82
                · refine j_iconst 85 C dX5_sheet_85 ic_0 ?_
                  refine j_goto 86 90 C dX5_sheet_86 (by decide) ?_
                  refine j_top (if b = 0 then 0 else z) (if_pos c67).symm ?_
                  refine js_A7 90 (by omega) C dX5_sheet_90 ?_
                  rw [ub_n (b' := 19) (b := 18) (by decide)]
                  have loop : ∀ n k, k + n = 40 → J X G 5 (ub (ub (ub g 18 (upd (g 18) Q (if b = 0 then -1 else b))) 19 (upd (g 19) Q (if b = 0 then 0 else z))) 20 (zer (g 20) Q k)) 94 [some (.ref (mo G)), some (.int (nI Q)), some (.int (b)), some (.int (z)), some (.int (nI k))] [] := by
                    intro n
                    induction n with
                    | zero =>
                      intro k hk
                      obtain rfl : k = 40 := by omega
                      refine j_il4 94 C dX5_sheet_94 ?_
                      refine j_bipush 96 C dX5_sheet_96 bp_40 ?_
                      refine j_icge 98 120 C dX5_sheet_98 (by decide) (fun c98 => ?_) (fun c98 => ?_)
                      · refine j_al0 120 C dX5_sheet_120 ?_
                        refine jg_X5_31 121 C dX5_sheet_121 ?_
                        refine j_il1 124 C dX5_sheet_124 ?_
                        refine jl_A7 125 (by omega) C dX5_sheet_125 ?_
                        refine j_top (if b = 0 then 0 else z) (by rw [ub_n (by decide), ub_s, upd_s]) ?_
                        exact hR dX5_sheet_126 (cgM_r (by unfold m_sheet; rw [hq, hb, cl_nI (show Q < 2 ^ 31 by omega), if_neg (Int32.not_lt.mpr c37), if_neg (Int32.not_lt.mpr c51)]; rfl) rfl SC.rfl)
                      · exact absurd (nI_le (Nat.le_refl _) (by decide)) c98
                    | succ n ih =>
                      intro k hk
                      refine j_il4 94 C dX5_sheet_94 ?_
                      refine j_bipush 96 C dX5_sheet_96 bp_40 ?_
                      refine j_icge 98 120 C dX5_sheet_98 (by decide) (fun c98 => ?_) (fun c98 => ?_)
                      · exact absurd c98 (nI_ge (a := k) (b := 40) (by omega) (by decide))
                      · refine j_al0 101 C dX5_sheet_101 ?_
                        refine jg_X5_34 102 C dX5_sheet_102 ?_
                        refine j_bipush 105 C dX5_sheet_105 bp_40 ?_
                        refine j_il1 107 C dX5_sheet_107 ?_
                        refine j_imul 108 C dX5_sheet_108 ?_
                        refine j_il4 109 C dX5_sheet_109 ?_
                        refine j_iadd 111 C dX5_sheet_111 ?_
                        refine j_top (nI (40 * Q + k)) (ix_n Q k) ?_
                        refine j_iconst 112 C dX5_sheet_112 ic_0 ?_
                        refine js_A8 113 (by omega) C dX5_sheet_113 ?_
                        rw [ub_ub, ub_s, zer_s]
                        refine j_inc4 114 C dX5_sheet_114 rfl (nI_inc _) (Nat.le_of_ble_eq_true rfl) ?_
                        refine j_goto 117 94 C dX5_sheet_117 (by decide) ?_
                        exact ih (k + 1) (by omega)
                  refine j_iconst 91 C dX5_sheet_91 ic_0 ?_
                  refine j_is4 92 C dX5_sheet_92 rfl (Nat.le_of_ble_eq_true rfl) ?_
                  have h9 := loop 40 0 rfl
                  rw [zer_0, show ub (ub (ub g 18 (upd (g 18) Q (if b = 0 then -1 else b))) 19 (upd (g 19) Q (if b = 0 then 0 else z))) 20 (g 20) = (ub (ub g 18 (upd (g 18) Q (if b = 0 then -1 else b))) 19 (upd (g 19) Q (if b = 0 then 0 else z))) from (congrArg _ (show g 20 = (ub (ub g 18 (upd (g 18) Q (if b = 0 then -1 else b))) 19 (upd (g 19) Q (if b = 0 then 0 else z))) 20 by rw [ub_n (by decide), ub_n (by decide)])).trans ub_id] at h9
                  exact h9
            · refine j_al0 54 C dX5_sheet_54 ?_
              refine j_ldc 55 C dX5_sheet_55 cs_X5_40 ?_
              refine j_vi 57 C dX5_sheet_57 mv_X5_finds lk_X5_46 (c_X5_finds (f := 0) (by decide) (by decide)) rc_m rfl rfl ⟨(Nat.le_of_ble_eq_true rfl), (Nat.le_of_ble_eq_true rfl)⟩ (Nat.le_of_ble_eq_true rfl) (fun r57 g57 hp57 => ?_)
              obtain ⟨rfl, rfl⟩ := hp57
              exact hR dX5_sheet_60 (cgM_f (f := 0) (by unfold m_sheet; rw [v4, hb, if_neg (Int32.not_lt.mpr c37), if_pos (Int32.not_le.mp c51)]; rfl) (by decide) (by decide) SC.rfl)
          · refine j_al0 40 C dX5_sheet_40 ?_
            refine j_ldcw 41 C dX5_sheet_41 cs_X5_300 ?_
            refine j_vi 44 C dX5_sheet_44 mv_X5_finds lk_X5_46 (c_X5_finds (f := 6) (by decide) (by decide)) rc_m rfl rfl ⟨(Nat.le_of_ble_eq_true rfl), (Nat.le_of_ble_eq_true rfl)⟩ (Nat.le_of_ble_eq_true rfl) (fun r44 g44 hp44 => ?_)
            obtain ⟨rfl, rfl⟩ := hp44
            exact hR dX5_sheet_47 (cgM_f (f := 6) (by unfold m_sheet; rw [v4, hb, if_pos (Int32.not_le.mp c37)]; rfl) (by decide) (by decide) SC.rfl)
        · refine j_il2 23 C dX5_sheet_23 ?_
          refine j_bipush 24 C dX5_sheet_24 bp_32 ?_
          refine j_iceq 26 36 C dX5_sheet_26 (by decide) (fun c26 => ?_) (fun c26 => ?_)
          · have hb : okb b = true := decide_eq_true (Or.inr (Or.inr (Or.inr c26)))
            refine j_il3 36 C dX5_sheet_36 ?_
            refine j_ifge 37 48 C dX5_sheet_37 (by decide) (fun c37 => ?_) (fun c37 => ?_)
            · refine j_il3 48 C dX5_sheet_48 ?_
              refine j_bipush 49 C dX5_sheet_49 bp_40 ?_
              refine j_icle 51 61 C dX5_sheet_51 (by decide) (fun c51 => ?_) (fun c51 => ?_)
              · have hq : inr s 0 3 = true := v4
                obtain ⟨Q, hQ, rfl⟩ := inr_nat (n := 3) (by decide) v4
                refine j_al0 61 C dX5_sheet_61 ?_
                refine jg_X5_28 62 C dX5_sheet_62 ?_
                refine j_il1 65 C dX5_sheet_65 ?_
                refine j_il2 66 C dX5_sheet_66 ?_
                refine j_ifne 67 74 C dX5_sheet_67 (by decide) (fun c67 => ?_) (fun c67 => ?_)
                · refine j_il2 74 C dX5_sheet_74 ?_
                  refine j_top (if b = 0 then -1 else b) (if_neg c67).symm ?_
                  refine js_A6 75 (by omega) C dX5_sheet_75 ?_
                  refine j_al0 76 C dX5_sheet_76 ?_
                  refine jg_X5_31 77 C dX5_sheet_77 ?_
                  refine j_il1 80 C dX5_sheet_80 ?_
                  refine j_il2 81 C dX5_sheet_81 ?_
                  refine j_ifne 82 89 C dX5_sheet_82 (by decide) (fun c82 => ?_) (fun c82 => ?_)
                  · refine j_il3 89 C dX5_sheet_89 ?_
                    refine j_top (if b = 0 then 0 else z) (if_neg c67).symm ?_
                    refine js_A7 90 (by omega) C dX5_sheet_90 ?_
                    rw [ub_n (b' := 19) (b := 18) (by decide)]
                    have loop : ∀ n k, k + n = 40 → J X G 5 (ub (ub (ub g 18 (upd (g 18) Q (if b = 0 then -1 else b))) 19 (upd (g 19) Q (if b = 0 then 0 else z))) 20 (zer (g 20) Q k)) 94 [some (.ref (mo G)), some (.int (nI Q)), some (.int (b)), some (.int (z)), some (.int (nI k))] [] := by
                      intro n
                      induction n with
                      | zero =>
                        intro k hk
                        obtain rfl : k = 40 := by omega
                        refine j_il4 94 C dX5_sheet_94 ?_
                        refine j_bipush 96 C dX5_sheet_96 bp_40 ?_
                        refine j_icge 98 120 C dX5_sheet_98 (by decide) (fun c98 => ?_) (fun c98 => ?_)
                        · refine j_al0 120 C dX5_sheet_120 ?_
                          refine jg_X5_31 121 C dX5_sheet_121 ?_
                          refine j_il1 124 C dX5_sheet_124 ?_
                          refine jl_A7 125 (by omega) C dX5_sheet_125 ?_
                          refine j_top (if b = 0 then 0 else z) (by rw [ub_n (by decide), ub_s, upd_s]) ?_
                          exact hR dX5_sheet_126 (cgM_r (by unfold m_sheet; rw [hq, hb, cl_nI (show Q < 2 ^ 31 by omega), if_neg (Int32.not_lt.mpr c37), if_neg (Int32.not_lt.mpr c51)]; rfl) rfl SC.rfl)
                        · exact absurd (nI_le (Nat.le_refl _) (by decide)) c98
                      | succ n ih =>
                        intro k hk
                        refine j_il4 94 C dX5_sheet_94 ?_
                        refine j_bipush 96 C dX5_sheet_96 bp_40 ?_
                        refine j_icge 98 120 C dX5_sheet_98 (by decide) (fun c98 => ?_) (fun c98 => ?_)
                        · exact absurd c98 (nI_ge (a := k) (b := 40) (by omega) (by decide))
                        · refine j_al0 101 C dX5_sheet_101 ?_
                          refine jg_X5_34 102 C dX5_sheet_102 ?_
                          refine j_bipush 105 C dX5_sheet_105 bp_40 ?_
                          refine j_il1 107 C dX5_sheet_107 ?_
                          refine j_imul 108 C dX5_sheet_108 ?_
                          refine j_il4 109 C dX5_sheet_109 ?_
                          refine j_iadd 111 C dX5_sheet_111 ?_
                          refine j_top (nI (40 * Q + k)) (ix_n Q k) ?_
                          refine j_iconst 112 C dX5_sheet_112 ic_0 ?_
                          refine js_A8 113 (by omega) C dX5_sheet_113 ?_
                          rw [ub_ub, ub_s, zer_s]
                          refine j_inc4 114 C dX5_sheet_114 rfl (nI_inc _) (Nat.le_of_ble_eq_true rfl) ?_
                          refine j_goto 117 94 C dX5_sheet_117 (by decide) ?_
                          exact ih (k + 1) (by omega)
                    refine j_iconst 91 C dX5_sheet_91 ic_0 ?_
                    refine j_is4 92 C dX5_sheet_92 rfl (Nat.le_of_ble_eq_true rfl) ?_
                    have h9 := loop 40 0 rfl
                    rw [zer_0, show ub (ub (ub g 18 (upd (g 18) Q (if b = 0 then -1 else b))) 19 (upd (g 19) Q (if b = 0 then 0 else z))) 20 (g 20) = (ub (ub g 18 (upd (g 18) Q (if b = 0 then -1 else b))) 19 (upd (g 19) Q (if b = 0 then 0 else z))) from (congrArg _ (show g 20 = (ub (ub g 18 (upd (g 18) Q (if b = 0 then -1 else b))) 19 (upd (g 19) Q (if b = 0 then 0 else z))) 20 by rw [ub_n (by decide), ub_n (by decide)])).trans ub_id] at h9
                    exact h9
                  · exact absurd c82 c67
                · refine j_iconst 70 C dX5_sheet_70 ic_m1 ?_
                  refine j_goto 71 75 C dX5_sheet_71 (by decide) ?_
                  refine j_top (if b = 0 then -1 else b) (if_pos c67).symm ?_
                  refine js_A6 75 (by omega) C dX5_sheet_75 ?_
                  refine j_al0 76 C dX5_sheet_76 ?_
                  refine jg_X5_31 77 C dX5_sheet_77 ?_
                  refine j_il1 80 C dX5_sheet_80 ?_
                  refine j_il2 81 C dX5_sheet_81 ?_
                  refine j_ifne 82 89 C dX5_sheet_82 (by decide) (fun c82 => ?_) (fun c82 => ?_)
                  · exact absurd c67 c82
                  · refine j_iconst 85 C dX5_sheet_85 ic_0 ?_
                    refine j_goto 86 90 C dX5_sheet_86 (by decide) ?_
                    refine j_top (if b = 0 then 0 else z) (if_pos c67).symm ?_
                    refine js_A7 90 (by omega) C dX5_sheet_90 ?_
                    rw [ub_n (b' := 19) (b := 18) (by decide)]
                    have loop : ∀ n k, k + n = 40 → J X G 5 (ub (ub (ub g 18 (upd (g 18) Q (if b = 0 then -1 else b))) 19 (upd (g 19) Q (if b = 0 then 0 else z))) 20 (zer (g 20) Q k)) 94 [some (.ref (mo G)), some (.int (nI Q)), some (.int (b)), some (.int (z)), some (.int (nI k))] [] := by
                      intro n
                      induction n with
                      | zero =>
                        intro k hk
                        obtain rfl : k = 40 := by omega
                        refine j_il4 94 C dX5_sheet_94 ?_
                        refine j_bipush 96 C dX5_sheet_96 bp_40 ?_
                        refine j_icge 98 120 C dX5_sheet_98 (by decide) (fun c98 => ?_) (fun c98 => ?_)
                        · refine j_al0 120 C dX5_sheet_120 ?_
                          refine jg_X5_31 121 C dX5_sheet_121 ?_
                          refine j_il1 124 C dX5_sheet_124 ?_
                          refine jl_A7 125 (by omega) C dX5_sheet_125 ?_
                          refine j_top (if b = 0 then 0 else z) (by rw [ub_n (by decide), ub_s, upd_s]) ?_
                          exact hR dX5_sheet_126 (cgM_r (by unfold m_sheet; rw [hq, hb, cl_nI (show Q < 2 ^ 31 by omega), if_neg (Int32.not_lt.mpr c37), if_neg (Int32.not_lt.mpr c51)]; rfl) rfl SC.rfl)
                        · exact absurd (nI_le (Nat.le_refl _) (by decide)) c98
                      | succ n ih =>
                        intro k hk
                        refine j_il4 94 C dX5_sheet_94 ?_
                        refine j_bipush 96 C dX5_sheet_96 bp_40 ?_
                        refine j_icge 98 120 C dX5_sheet_98 (by decide) (fun c98 => ?_) (fun c98 => ?_)
                        · exact absurd c98 (nI_ge (a := k) (b := 40) (by omega) (by decide))
                        · refine j_al0 101 C dX5_sheet_101 ?_
                          refine jg_X5_34 102 C dX5_sheet_102 ?_
                          refine j_bipush 105 C dX5_sheet_105 bp_40 ?_
                          refine j_il1 107 C dX5_sheet_107 ?_
                          refine j_imul 108 C dX5_sheet_108 ?_
                          refine j_il4 109 C dX5_sheet_109 ?_
                          refine j_iadd 111 C dX5_sheet_111 ?_
                          refine j_top (nI (40 * Q + k)) (ix_n Q k) ?_
                          refine j_iconst 112 C dX5_sheet_112 ic_0 ?_
                          refine js_A8 113 (by omega) C dX5_sheet_113 ?_
                          rw [ub_ub, ub_s, zer_s]
                          refine j_inc4 114 C dX5_sheet_114 rfl (nI_inc _) (Nat.le_of_ble_eq_true rfl) ?_
                          refine j_goto 117 94 C dX5_sheet_117 (by decide) ?_
                          exact ih (k + 1) (by omega)
                    refine j_iconst 91 C dX5_sheet_91 ic_0 ?_
                    refine j_is4 92 C dX5_sheet_92 rfl (Nat.le_of_ble_eq_true rfl) ?_
                    have h9 := loop 40 0 rfl
                    rw [zer_0, show ub (ub (ub g 18 (upd (g 18) Q (if b = 0 then -1 else b))) 19 (upd (g 19) Q (if b = 0 then 0 else z))) 20 (g 20) = (ub (ub g 18 (upd (g 18) Q (if b = 0 then -1 else b))) 19 (upd (g 19) Q (if b = 0 then 0 else z))) from (congrArg _ (show g 20 = (ub (ub g 18 (upd (g 18) Q (if b = 0 then -1 else b))) 19 (upd (g 19) Q (if b = 0 then 0 else z))) 20 by rw [ub_n (by decide), ub_n (by decide)])).trans ub_id] at h9
                    exact h9
              · refine j_al0 54 C dX5_sheet_54 ?_
                refine j_ldc 55 C dX5_sheet_55 cs_X5_40 ?_
                refine j_vi 57 C dX5_sheet_57 mv_X5_finds lk_X5_46 (c_X5_finds (f := 0) (by decide) (by decide)) rc_m rfl rfl ⟨(Nat.le_of_ble_eq_true rfl), (Nat.le_of_ble_eq_true rfl)⟩ (Nat.le_of_ble_eq_true rfl) (fun r57 g57 hp57 => ?_)
                obtain ⟨rfl, rfl⟩ := hp57
                exact hR dX5_sheet_60 (cgM_f (f := 0) (by unfold m_sheet; rw [v4, hb, if_neg (Int32.not_lt.mpr c37), if_pos (Int32.not_le.mp c51)]; rfl) (by decide) (by decide) SC.rfl)
            · refine j_al0 40 C dX5_sheet_40 ?_
              refine j_ldcw 41 C dX5_sheet_41 cs_X5_300 ?_
              refine j_vi 44 C dX5_sheet_44 mv_X5_finds lk_X5_46 (c_X5_finds (f := 6) (by decide) (by decide)) rc_m rfl rfl ⟨(Nat.le_of_ble_eq_true rfl), (Nat.le_of_ble_eq_true rfl)⟩ (Nat.le_of_ble_eq_true rfl) (fun r44 g44 hp44 => ?_)
              obtain ⟨rfl, rfl⟩ := hp44
              exact hR dX5_sheet_47 (cgM_f (f := 6) (by unfold m_sheet; rw [v4, hb, if_pos (Int32.not_le.mp c37)]; rfl) (by decide) (by decide) SC.rfl)
          · have hb : okb b = false := decide_eq_false (fun h => by rcases h with h | h | h | h; exact c8 h; exact c14 h; exact c20 h; exact c26 h)
            refine j_al0 29 C dX5_sheet_29 ?_
            refine j_ldc 30 C dX5_sheet_30 cs_X5_40 ?_
            refine j_vi 32 C dX5_sheet_32 mv_X5_finds lk_X5_46 (c_X5_finds (f := 0) (by decide) (by decide)) rc_m rfl rfl ⟨(Nat.le_of_ble_eq_true rfl), (Nat.le_of_ble_eq_true rfl)⟩ (Nat.le_of_ble_eq_true rfl) (fun r32 g32 hp32 => ?_)
            obtain ⟨rfl, rfl⟩ := hp32
            exact hR dX5_sheet_35 (cgM_f (f := 0) (by unfold m_sheet; rw [v4, hb]; rfl) (by decide) (by decide) SC.rfl)
set_option maxRecDepth 20000 in
theorem c_X5_write {G : GT} {g : Mem} (hS : SI (g 12)) (hZ : HZ g) {s i v : Int32} : Cti G yX5_write cX5_write 4 .int 1 25 [.ref (mo G), .int s, .int i, .int v] g (fun r g' => cgM (m_write s i v g) g r g') := by
  refine ent_i (by decide) (Nat.le_of_ble_eq_true rfl) [some (.ref (mo G)), some (.int s), some (.int i), some (.int v)] rfl ?_
  intro X C hR
  have C : CX X G RX5 cX5_write 4 1 25 := C
  refine j_il1 0 C dX5_write_0 ?_
  refine j_si 1 C dX5_write_1 ms_X5_isSheet lk_X5_297 (c_X5_isSheet) rfl rfl ⟨(Nat.le_of_ble_eq_true rfl), (Nat.le_of_ble_eq_true rfl)⟩ (Nat.le_of_ble_eq_true rfl) (fun r1 g1 hp1 => ?_)
  obtain ⟨rfl, rfl⟩ := hp1
  refine j_ifne 4 14 C dX5_write_4 (by decide) (fun c4 => ?_) (fun c4 => ?_)
  · have v4 := bi_n c4
    obtain ⟨Q, hQ, rfl⟩ := inr_nat (n := 3) (by decide) v4
    obtain ⟨hb, Z, hZ4, hz⟩ := hZ Q (by omega)
    refine j_al0 14 C dX5_write_14 ?_
    refine jg_X5_28 15 C dX5_write_15 ?_
    refine j_il1 18 C dX5_write_18 ?_
    refine jl_A6 19 (by omega) C dX5_write_19 ?_
    refine j_ifge 20 31 C dX5_write_20 (by decide) (fun c20 => ?_) (fun c20 => ?_)
    · refine j_il2 31 C dX5_write_31 ?_
      refine j_i2l 32 C dX5_write_32 ?_
      refine j_lconst 33 C dX5_write_33 lc_0 ?_
      refine j_al0 34 C dX5_write_34 ?_
      refine jg_X5_31 35 C dX5_write_35 ?_
      refine j_il1 38 C dX5_write_38 ?_
      refine jl_A7 39 (by omega) C dX5_write_39 ?_
      refine j_iconst 40 C dX5_write_40 ic_1 ?_
      refine j_isub 41 C dX5_write_41 ?_
      refine j_i2l 42 C dX5_write_42 ?_
      refine j_si 43 C dX5_write_43 ms_X5_isIn lk_X5_56 (c_X5_isIn (lo := 0) (hi := g 19 Q - 1) (by decide) rfl) rfl rfl ⟨(Nat.le_of_ble_eq_true rfl), (Nat.le_of_ble_eq_true rfl)⟩ (Nat.le_of_ble_eq_true rfl) (fun r43 g43 hp43 => ?_)
      obtain ⟨rfl, rfl⟩ := hp43
      refine j_ifne 46 56 C dX5_write_46 (by decide) (fun c46 => ?_) (fun c46 => ?_)
      · have v46 := bi_n c46
        obtain ⟨i9, hi9, rfl⟩ := inr_sz (n := Z) hZ4 (by rw [← hz]; exact v46)
        refine j_al0 56 C dX5_write_56 ?_
        refine jg_X5_34 57 C dX5_write_57 ?_
        refine j_bipush 60 C dX5_write_60 bp_40 ?_
        refine j_il1 62 C dX5_write_62 ?_
        refine j_imul 63 C dX5_write_63 ?_
        refine j_il2 64 C dX5_write_64 ?_
        refine j_iadd 65 C dX5_write_65 ?_
        refine j_top (nI (40 * Q + i9)) (ix_n Q i9) ?_
        refine j_al0 66 C dX5_write_66 ?_
        refine jg_X5_28 67 C dX5_write_67 ?_
        refine j_il1 70 C dX5_write_70 ?_
        refine jl_A6 71 (by omega) C dX5_write_71 ?_
        refine j_bipush 72 C dX5_write_72 bp_8 ?_
        refine j_icne 74 82 C dX5_write_74 (by decide) (fun c74 => ?_) (fun c74 => ?_)
        · refine j_al0 82 C dX5_write_82 ?_
          refine jg_X5_28 83 C dX5_write_83 ?_
          refine j_il1 86 C dX5_write_86 ?_
          refine jl_A6 87 (by omega) C dX5_write_87 ?_
          refine j_bipush 88 C dX5_write_88 bp_16 ?_
          refine j_icne 90 98 C dX5_write_90 (by decide) (fun c90 => ?_) (fun c90 => ?_)
          · refine j_il3 98 C dX5_write_98 ?_
            refine js_A8 99 (by omega) C dX5_write_99 ?_
            refine j_iconst 100 C dX5_write_100 ic_1 ?_
            exact hR dX5_write_101 (cgM_r (by unfold m_write; rw [v4, cl_nI (show Q < 2 ^ 31 by omega), if_neg (Int32.not_lt.mpr c20), v46, cl_nI (show i9 < 2 ^ 31 by omega)]; show _ = Sum.inr (1, ub g 20 (upd (g 20) (40 * Q + i9) _)); unfold nar; rw [if_neg c74, if_neg c90]; rfl) rfl SC.rfl)
          · refine j_il3 93 C dX5_write_93 ?_
            refine j_i2s 94 C dX5_write_94 ?_
            refine j_goto 95 99 C dX5_write_95 (by decide) ?_
            refine js_A8 99 (by omega) C dX5_write_99 ?_
            refine j_iconst 100 C dX5_write_100 ic_1 ?_
            exact hR dX5_write_101 (cgM_r (by unfold m_write; rw [v4, cl_nI (show Q < 2 ^ 31 by omega), if_neg (Int32.not_lt.mpr c20), v46, cl_nI (show i9 < 2 ^ 31 by omega)]; show _ = Sum.inr (1, ub g 20 (upd (g 20) (40 * Q + i9) _)); unfold nar; rw [if_neg c74, if_pos c90]; rfl) rfl SC.rfl)
        · refine j_il3 77 C dX5_write_77 ?_
          refine j_i2b 78 C dX5_write_78 ?_
          refine j_goto 79 99 C dX5_write_79 (by decide) ?_
          refine js_A8 99 (by omega) C dX5_write_99 ?_
          refine j_iconst 100 C dX5_write_100 ic_1 ?_
          exact hR dX5_write_101 (cgM_r (by unfold m_write; rw [v4, cl_nI (show Q < 2 ^ 31 by omega), if_neg (Int32.not_lt.mpr c20), v46, cl_nI (show i9 < 2 ^ 31 by omega)]; show _ = Sum.inr (1, ub g 20 (upd (g 20) (40 * Q + i9) _)); unfold nar; rw [if_pos c74]; rfl) rfl SC.rfl)
      · have v46 := bi_0 c46
        refine j_al0 49 C dX5_write_49 ?_
        refine j_ldc 50 C dX5_write_50 cs_X5_40 ?_
        refine j_vi 52 C dX5_write_52 mv_X5_finds lk_X5_46 (c_X5_finds (f := 0) (by decide) (by decide)) rc_m rfl rfl ⟨(Nat.le_of_ble_eq_true rfl), (Nat.le_of_ble_eq_true rfl)⟩ (Nat.le_of_ble_eq_true rfl) (fun r52 g52 hp52 => ?_)
        obtain ⟨rfl, rfl⟩ := hp52
        exact hR dX5_write_55 (cgM_f (f := 0) (by unfold m_write; rw [v4, cl_nI (show Q < 2 ^ 31 by omega), if_neg (Int32.not_lt.mpr c20), v46]; rfl) (by decide) (by decide) SC.rfl)
    · refine j_al0 23 C dX5_write_23 ?_
      refine j_ldcw 24 C dX5_write_24 cs_X5_292 ?_
      refine j_vi 27 C dX5_write_27 mv_X5_finds lk_X5_46 (c_X5_finds (f := 5) (by decide) (by decide)) rc_m rfl rfl ⟨(Nat.le_of_ble_eq_true rfl), (Nat.le_of_ble_eq_true rfl)⟩ (Nat.le_of_ble_eq_true rfl) (fun r27 g27 hp27 => ?_)
      obtain ⟨rfl, rfl⟩ := hp27
      exact hR dX5_write_30 (cgM_f (f := 5) (by unfold m_write; rw [v4, cl_nI (show Q < 2 ^ 31 by omega), if_pos (Int32.not_le.mp c20)]; rfl) (by decide) (by decide) SC.rfl)
  · have v4 := bi_0 c4
    refine j_al0 7 C dX5_write_7 ?_
    refine j_ldc 8 C dX5_write_8 cs_X5_40 ?_
    refine j_vi 10 C dX5_write_10 mv_X5_finds lk_X5_46 (c_X5_finds (f := 0) (by decide) (by decide)) rc_m rfl rfl ⟨(Nat.le_of_ble_eq_true rfl), (Nat.le_of_ble_eq_true rfl)⟩ (Nat.le_of_ble_eq_true rfl) (fun r10 g10 hp10 => ?_)
    obtain ⟨rfl, rfl⟩ := hp10
    exact hR dX5_write_13 (cgM_f (f := 0) (by simp [m_write, v4]) (by decide) (by decide) SC.rfl)
set_option maxRecDepth 20000 in
theorem c_X5_image {G : GT} {g : Mem} : Cti G yX5_image cX5_image 1 .int 1 22 [.ref (mo G)] g (fun r g' => cgM (m_image g) g r g') := by
  refine ent_i (by decide) (Nat.le_of_ble_eq_true rfl) [some (.ref (mo G))] rfl ?_
  intro X C hR
  have C : CX X G RX5 cX5_image 1 1 22 := C
  refine j_al0 0 C dX5_image_0 ?_
  refine jg_X5_7 1 C dX5_image_1 ?_
  refine j_al0 4 C dX5_image_4 ?_
  refine jg_X5_13 5 C dX5_image_5 ?_
  refine j_sv 8 C dX5_image_8 ms_X5_copyRow lk_X5_160 (c_X5_copyRow (i := 0) (j := 1) (by decide) (by decide) (by decide)) rfl rfl ⟨(Nat.le_of_ble_eq_true rfl), (Nat.le_of_ble_eq_true rfl)⟩ (Nat.le_of_ble_eq_true rfl) (fun g8 hp8 => ?_)
  have hp8 : g8 = ub g 13 (g 12) := hp8
  subst hp8
  refine j_al0 11 C dX5_image_11 ?_
  refine j_iconst 12 C dX5_image_12 ic_1 ?_
  refine jp_X5_301 13 C dX5_image_13 (by first | exact Or.inl rfl | exact Or.inr rfl) ?_
  rw [ub_n (b' := 22) (b := 13) (by decide)]
  refine j_iconst 16 C dX5_image_16 ic_1 ?_
  exact hR dX5_image_17 (cgM_r rfl rfl SC.rfl)
set_option maxRecDepth 20000 in
theorem c_X5_undo {G : GT} {g : Mem} : Cti G yX5_undo cX5_undo 1 .int 1 22 [.ref (mo G)] g (fun r g' => cgM (m_undo g) g r g') := by
  refine ent_i (by decide) (Nat.le_of_ble_eq_true rfl) [some (.ref (mo G))] rfl ?_
  intro X C hR
  have C : CX X G RX5 cX5_undo 1 1 22 := C
  refine j_al0 0 C dX5_undo_0 ?_
  refine jg_X5_301 1 C dX5_undo_1 ?_
  refine j_ifne 4 14 C dX5_undo_4 (by decide) (fun c4 => ?_) (fun c4 => ?_)
  · refine j_al0 14 C dX5_undo_14 ?_
    refine jg_X5_13 15 C dX5_undo_15 ?_
    refine j_al0 18 C dX5_undo_18 ?_
    refine jg_X5_7 19 C dX5_undo_19 ?_
    refine j_sv 22 C dX5_undo_22 ms_X5_copyRow lk_X5_160 (c_X5_copyRow (i := 1) (j := 0) (by decide) (by decide) (by decide)) rfl rfl ⟨(Nat.le_of_ble_eq_true rfl), (Nat.le_of_ble_eq_true rfl)⟩ (Nat.le_of_ble_eq_true rfl) (fun g22 hp22 => ?_)
    have hp22 : g22 = ub g 12 (g 13) := hp22
    subst hp22
    refine j_al0 25 C dX5_undo_25 ?_
    refine jg_X5_7 26 C dX5_undo_26 ?_
    refine j_iconst 29 C dX5_undo_29 ic_1 ?_
    refine j_top (nI (1)) rfl ?_
    refine jl_A0 30 (by omega) C dX5_undo_30 ?_
    rw [ub_s]
    exact hR dX5_undo_31 (cgM_r (if_neg c4) rfl SC.rfl)
  · refine j_al0 7 C dX5_undo_7 ?_
    refine j_ldc 8 C dX5_undo_8 cs_X5_45 ?_
    refine j_vi 10 C dX5_undo_10 mv_X5_finds lk_X5_46 (c_X5_finds (f := 3) (by decide) (by decide)) rc_m rfl rfl ⟨(Nat.le_of_ble_eq_true rfl), (Nat.le_of_ble_eq_true rfl)⟩ (Nat.le_of_ble_eq_true rfl) (fun r10 g10 hp10 => ?_)
    obtain ⟨rfl, rfl⟩ := hp10
    exact hR dX5_undo_13 (cgM_f (f := 3) (if_pos c4) (by decide) (by decide) SC.rfl)
set_option maxRecDepth 20000 in
theorem c_X5_tear {G : GT} {g : Mem} : Cti G yX5_tear cX5_tear 2 .int 0 0 [.ref (mo G)] g (fun r g' => cgM (m_tear g) g r g') := by
  refine ent_i (by decide) (Nat.le_of_ble_eq_true rfl) [some (.ref (mo G)), none] rfl ?_
  intro X C hR
  have C : CX X G RX5 cX5_tear 2 0 0 := C
  refine j_al0 0 C dX5_tear_0 ?_
  refine jg_X5_301 1 C dX5_tear_1 ?_
  refine j_is1 4 C dX5_tear_4 rfl (Nat.le_of_ble_eq_true rfl) ?_
  refine j_al0 5 C dX5_tear_5 ?_
  refine j_iconst 6 C dX5_tear_6 ic_0 ?_
  refine jp_X5_301 7 C dX5_tear_7 (by first | exact Or.inl rfl | exact Or.inr rfl) ?_
  refine j_il1 10 C dX5_tear_10 ?_
  refine j_ifeq 11 18 C dX5_tear_11 (by decide) (fun c11 => ?_) (fun c11 => ?_)
  · refine j_iconst 18 C dX5_tear_18 ic_0 ?_
    exact hR dX5_tear_19 (cgM_r rfl (by first | exact (if_neg c11).symm | exact (if_pos c11).symm) SC.rfl)
  · refine j_iconst 14 C dX5_tear_14 ic_1 ?_
    refine j_goto 15 19 C dX5_tear_15 (by decide) ?_
    exact hR dX5_tear_19 (cgM_r rfl (by first | exact (if_neg c11).symm | exact (if_pos c11).symm) SC.rfl)
set_option maxRecDepth 20000 in
theorem c_X5_wipe {G : GT} {g : Mem} : Cti G yX5_wipe cX5_wipe 2 .int 0 0 [.ref (mo G)] g (fun r g' => cgM (m_wipe g) g r g') := by
  refine ent_i (by decide) (Nat.le_of_ble_eq_true rfl) [some (.ref (mo G)), none] rfl ?_
  intro X C hR
  have C : CX X G RX5 cX5_wipe 2 0 0 := C
  refine j_al0 0 C dX5_wipe_0 ?_
  refine jg_X5_212 1 C dX5_wipe_1 ?_
  refine j_is1 4 C dX5_wipe_4 rfl (Nat.le_of_ble_eq_true rfl) ?_
  refine j_al0 5 C dX5_wipe_5 ?_
  refine j_iconst 6 C dX5_wipe_6 ic_0 ?_
  refine jp_X5_212 7 C dX5_wipe_7 ?_
  refine j_il1 10 C dX5_wipe_10 ?_
  exact hR dX5_wipe_11 (cgM_r rfl rfl SC.rfl)
set_option maxRecDepth 20000 in
theorem c_X5_status {G : GT} {g : Mem} {w : Int32} : Cti G yX5_status cX5_status 2 .int 1 25 [.ref (mo G), .int w] g (fun r g' => cgM (m_status w g) g r g') := by
  refine ent_i (by decide) (Nat.le_of_ble_eq_true rfl) [some (.ref (mo G)), some (.int w)] rfl ?_
  intro X C hR
  have C : CX X G RX5 cX5_status 2 1 25 := C
  refine j_il1 0 C dX5_status_0 ?_
  refine j_i2l 1 C dX5_status_1 ?_
  refine j_ldc2 2 C dX5_status_2 cl_X5_305 ?_
  refine j_ldc2 5 C dX5_status_5 cl_X5_87 ?_
  refine j_si 8 C dX5_status_8 ms_X5_isIn lk_X5_56 (c_X5_isIn (lo := -1) (hi := 6) (by decide) (by decide)) rfl rfl ⟨(Nat.le_of_ble_eq_true rfl), (Nat.le_of_ble_eq_true rfl)⟩ (Nat.le_of_ble_eq_true rfl) (fun r8 g8 hp8 => ?_)
  obtain ⟨rfl, rfl⟩ := hp8
  refine j_ifeq 11 25 C dX5_status_11 (by decide) (fun c11 => ?_) (fun c11 => ?_)
  · have v11 := bi_0 c11
    refine j_al0 25 C dX5_status_25 ?_
    refine j_ldc 26 C dX5_status_26 cs_X5_40 ?_
    refine j_vi 28 C dX5_status_28 mv_X5_finds lk_X5_46 (c_X5_finds (f := 0) (by decide) (by decide)) rc_m rfl rfl ⟨(Nat.le_of_ble_eq_true rfl), (Nat.le_of_ble_eq_true rfl)⟩ (Nat.le_of_ble_eq_true rfl) (fun r28 g28 hp28 => ?_)
    obtain ⟨rfl, rfl⟩ := hp28
    exact hR dX5_status_31 (cgM_f (f := 0) (by simp [m_status, v11]) (by decide) (by decide) SC.rfl)
  · have v11 := bi_n c11
    obtain ⟨j, hj, ej⟩ := inr_m1 v11
    refine j_al0 14 C dX5_status_14 ?_
    refine jg_X5_22 15 C dX5_status_15 ?_
    refine j_il1 18 C dX5_status_18 ?_
    refine j_iconst 19 C dX5_status_19 ic_1 ?_
    refine j_iadd 20 C dX5_status_20 ?_
    refine j_top (nI j) ej ?_
    refine jl_A4 21 (by omega) C dX5_status_21 ?_
    refine j_goto 22 31 C dX5_status_22 (by decide) ?_
    exact hR dX5_status_31 (cgM_r (by unfold m_status; rw [v11, ej, cl_nI (show j < 2 ^ 31 by omega)]; rfl) rfl SC.rfl)
