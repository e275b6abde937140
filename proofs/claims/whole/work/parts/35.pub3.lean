theorem bp_20 : (Int8.ofInt (20)).toInt32 = 20 := by decide
theorem bp_40 : (Int8.ofInt (40)).toInt32 = 40 := by decide
set_option maxRecDepth 20000 in
theorem c_X4_as {G : GT} {g : Mem} (hS : SI (g 0)) {T : Nat} (hT : g 0 1 = nI T) (hTb : T ≤ 31000) {s k : Int32} : Cti G yX4_as cX4_as 4 .int 2 42 [.ref (xo G), .int s, .int k] g (fun r g' => cpX (s_as s k (g 0)) g r g') := by
  refine ent_i (by decide) (Nat.le_of_ble_eq_true rfl) [some (.ref (xo G)), some (.int s), some (.int k), none] rfl ?_
  intro X C hR
  have C : CX X G RX4 cX4_as 4 2 42 := C
  refine j_il1 0 C dX4_as_0 ?_
  refine j_si 1 C dX4_as_1 ms_X4_isSpot lk_X4_224 (c_X4_isSpot) rfl rfl ⟨(Nat.le_of_ble_eq_true rfl), (Nat.le_of_ble_eq_true rfl)⟩ (Nat.le_of_ble_eq_true rfl) (fun r1 g1 hp1 => ?_)
  obtain ⟨rfl, rfl⟩ := hp1
  refine j_ifeq 4 14 C dX4_as_4 (by decide) (fun c4 => ?_) (fun c4 => ?_)
  · have v4 := bi_0 c4
    refine j_al0 14 C dX4_as_14 ?_
    refine j_ldc 15 C dX4_as_15 cs_X4_57 ?_
    refine j_vi 17 C dX4_as_17 mv_X4_finding lk_X4_58 (c_X4_finding (f := 0) (by decide) (by decide)) rc_x rfl rfl ⟨(Nat.le_of_ble_eq_true rfl), (Nat.le_of_ble_eq_true rfl)⟩ (Nat.le_of_ble_eq_true rfl) (fun r17 g17 hp17 => ?_)
    obtain ⟨rfl, rfl⟩ := hp17
    exact hR dX4_as_20 (cpX_f (f := 0) (by simp [s_as, v4]) (by decide) (by decide) SC.rfl)
  · have v4 := bi_n c4
    refine j_il2 7 C dX4_as_7 ?_
    refine j_si 8 C dX4_as_8 ms_X4_isKind lk_X4_85 (c_X4_isKind) rfl rfl ⟨(Nat.le_of_ble_eq_true rfl), (Nat.le_of_ble_eq_true rfl)⟩ (Nat.le_of_ble_eq_true rfl) (fun r8 g8 hp8 => ?_)
    obtain ⟨rfl, rfl⟩ := hp8
    refine j_ifne 11 21 C dX4_as_11 (by decide) (fun c11 => ?_) (fun c11 => ?_)
    · have v11 := bi_n c11
      obtain ⟨Q, hQ, rfl⟩ := inr_nat (n := 9) (by decide) v4
      obtain ⟨U, hU, rfl⟩ := inr_nat (n := 6) (by decide) v11
      refine j_al0 21 C dX4_as_21 ?_
      refine jg_X4_12 22 C dX4_as_22 ?_
      refine jg_X4_227 25 lt4_0 C dX4_as_25 ?_
      refine j_il1 28 C dX4_as_28 ?_
      refine jl_sp 29 lt4_0 (by omega) C dX4_as_29 ?_
      refine j_is3 30 C dX4_as_30 rfl (Nat.le_of_ble_eq_true rfl) ?_
      refine j_il3 31 C dX4_as_31 ?_
      refine j_iconst 32 C dX4_as_32 ic_m1 ?_
      refine j_icne 33 43 C dX4_as_33 (by decide) (fun c33 => ?_) (fun c33 => ?_)
      · obtain ⟨M, hM, eM⟩ : ∃ m, m < 8 ∧ g 0 (83 + Q) = nI m := (hS.2.2.2 Q (by omega)).resolve_left c33
        obtain ⟨⟨K, hK, eK⟩, -⟩ := hS.2.2.1 M hM
        refine j_al0 43 C dX4_as_43 ?_
        refine jg_X4_12 44 C dX4_as_44 ?_
        refine j_il3 47 C dX4_as_47 ?_
        refine j_top (nI M) eM ?_
        refine j_iconst 48 C dX4_as_48 ic_0 ?_
        refine j_vi 49 C dX4_as_49 mv_X0_trait lk_X4_106 (c_X0_trait (W := 0) lt4_0 hM (by decide)) (rc_d lt4_0) rfl rfl ⟨(Nat.le_of_ble_eq_true rfl), (Nat.le_of_ble_eq_true rfl)⟩ (Nat.le_of_ble_eq_true rfl) (fun r49 g49 hp49 => ?_)
        obtain ⟨hr49, rfl⟩ := hp49
        rw [eK] at hr49
        subst hr49
        refine j_il2 52 C dX4_as_52 ?_
        refine j_si 53 C dX4_as_53 ms_X1_isOneOf lk_X4_230 (c_X1_isOneOf hK (by omega)) rfl rfl ⟨(Nat.le_of_ble_eq_true rfl), (Nat.le_of_ble_eq_true rfl)⟩ (Nat.le_of_ble_eq_true rfl) (fun r53 g53 hp53 => ?_)
        obtain ⟨rfl, rfl⟩ := hp53
        refine j_ifne 56 66 C dX4_as_56 (by decide) (fun c56 => ?_) (fun c56 => ?_)
        · have v56 := bi_n c56
          refine j_il3 66 C dX4_as_66 ?_
          exact hR dX4_as_67 (cpX_q (by unfold s_as; rw [v4, v11, cl_nI (show Q < 2 ^ 31 by omega), eM, cl_nI (show M < 2 ^ 31 by omega), eK, cl_nI (show K < 2 ^ 31 by omega), cl_nI (show U < 2 ^ 31 by omega), if_neg (nI_nm1 (show M < 2 ^ 31 by omega)), v56]; rfl) eM SC.rfl)
        · have v56 := bi_0 c56
          refine j_al0 59 C dX4_as_59 ?_
          refine j_ldc 60 C dX4_as_60 cs_X4_234 ?_
          refine j_vi 62 C dX4_as_62 mv_X4_finding lk_X4_58 (c_X4_finding (f := 2) (by decide) (by decide)) rc_x rfl rfl ⟨(Nat.le_of_ble_eq_true rfl), (Nat.le_of_ble_eq_true rfl)⟩ (Nat.le_of_ble_eq_true rfl) (fun r62 g62 hp62 => ?_)
          obtain ⟨rfl, rfl⟩ := hp62
          exact hR dX4_as_65 (cpX_f (f := 2) (by unfold s_as; rw [v4, v11, cl_nI (show Q < 2 ^ 31 by omega), eM, cl_nI (show M < 2 ^ 31 by omega), eK, cl_nI (show K < 2 ^ 31 by omega), cl_nI (show U < 2 ^ 31 by omega), if_neg (nI_nm1 (show M < 2 ^ 31 by omega)), v56]; rfl) (by decide) (by decide) SC.rfl)
      · refine j_al0 36 C dX4_as_36 ?_
        refine j_ldc 37 C dX4_as_37 cs_X4_189 ?_
        refine j_vi 39 C dX4_as_39 mv_X4_finding lk_X4_58 (c_X4_finding (f := 5) (by decide) (by decide)) rc_x rfl rfl ⟨(Nat.le_of_ble_eq_true rfl), (Nat.le_of_ble_eq_true rfl)⟩ (Nat.le_of_ble_eq_true rfl) (fun r39 g39 hp39 => ?_)
        obtain ⟨rfl, rfl⟩ := hp39
        exact hR dX4_as_42 (cpX_f (f := 5) (by simp [s_as, v4, v11, c33, cl_nI (show Q < 2 ^ 31 by omega)]) (by decide) (by decide) SC.rfl)
    · have v11 := bi_0 c11
      refine j_al0 14 C dX4_as_14 ?_
      refine j_ldc 15 C dX4_as_15 cs_X4_57 ?_
      refine j_vi 17 C dX4_as_17 mv_X4_finding lk_X4_58 (c_X4_finding (f := 0) (by decide) (by decide)) rc_x rfl rfl ⟨(Nat.le_of_ble_eq_true rfl), (Nat.le_of_ble_eq_true rfl)⟩ (Nat.le_of_ble_eq_true rfl) (fun r17 g17 hp17 => ?_)
      obtain ⟨rfl, rfl⟩ := hp17
      exact hR dX4_as_20 (cpX_f (f := 0) (by simp [s_as, v4, v11]) (by decide) (by decide) SC.rfl)
set_option maxRecDepth 20000 in
theorem c_X4_bestTrait {G : GT} {g : Mem} (hS : SI (g 0)) {T : Nat} (hT : g 0 1 = nI T) (hTb : T ≤ 31000) {m p n : Int32} {W : Nat} (hW : W < 3) : Cti G yX4_bestTrait cX4_bestTrait 9 .int 5 120 [.ref (xo G), .int m, .int (nI W), .int p, .int n] g (fun r g' => cpX (s_best W m p n (g 0)) g r g') := by
  refine ent_i (by decide) (Nat.le_of_ble_eq_true rfl) [some (.ref (xo G)), some (.int m), some (.int (nI W)), some (.int p), some (.int n), none, none, none, none] rfl ?_
  intro X C hR
  have C : CX X G RX4 cX4_bestTrait 9 5 120 := C
  refine j_al0 0 C dX4_bestTrait_0 ?_
  refine j_il1 1 C dX4_bestTrait_1 ?_
  refine j_vi 2 C dX4_bestTrait_2 mv_X4_isMoth lk_X4_96 (c_X4_isMoth) rc_x rfl rfl ⟨(Nat.le_of_ble_eq_true rfl), (Nat.le_of_ble_eq_true rfl)⟩ (Nat.le_of_ble_eq_true rfl) (fun r2 g2 hp2 => ?_)
  obtain ⟨rfl, rfl⟩ := hp2
  refine j_ifeq 5 26 C dX4_bestTrait_5 (by decide) (fun c5 => ?_) (fun c5 => ?_)
  · have v5 := bi_0 c5
    refine j_al0 26 C dX4_bestTrait_26 ?_
    refine j_ldc 27 C dX4_bestTrait_27 cs_X4_57 ?_
    refine j_vi 29 C dX4_bestTrait_29 mv_X4_finding lk_X4_58 (c_X4_finding (f := 0) (by decide) (by decide)) rc_x rfl rfl ⟨(Nat.le_of_ble_eq_true rfl), (Nat.le_of_ble_eq_true rfl)⟩ (Nat.le_of_ble_eq_true rfl) (fun r29 g29 hp29 => ?_)
    obtain ⟨rfl, rfl⟩ := hp29
    exact hR dX4_bestTrait_32 (cpX_f (f := 0) (by simp [s_best, v5]) (by decide) (by decide) SC.rfl)
  · have v5 := bi_n c5
    refine j_il3 8 C dX4_bestTrait_8 ?_
    refine j_si 9 C dX4_bestTrait_9 ms_X4_isPage lk_X4_47 (c_X4_isPage) rfl rfl ⟨(Nat.le_of_ble_eq_true rfl), (Nat.le_of_ble_eq_true rfl)⟩ (Nat.le_of_ble_eq_true rfl) (fun r9 g9 hp9 => ?_)
    obtain ⟨rfl, rfl⟩ := hp9
    refine j_ifeq 12 26 C dX4_bestTrait_12 (by decide) (fun c12 => ?_) (fun c12 => ?_)
    · have v12 := bi_0 c12
      refine j_al0 26 C dX4_bestTrait_26 ?_
      refine j_ldc 27 C dX4_bestTrait_27 cs_X4_57 ?_
      refine j_vi 29 C dX4_bestTrait_29 mv_X4_finding lk_X4_58 (c_X4_finding (f := 0) (by decide) (by decide)) rc_x rfl rfl ⟨(Nat.le_of_ble_eq_true rfl), (Nat.le_of_ble_eq_true rfl)⟩ (Nat.le_of_ble_eq_true rfl) (fun r29 g29 hp29 => ?_)
      obtain ⟨rfl, rfl⟩ := hp29
      exact hR dX4_bestTrait_32 (cpX_f (f := 0) (by simp [s_best, v5, v12]) (by decide) (by decide) SC.rfl)
    · have v12 := bi_n c12
      refine j_il4 15 C dX4_bestTrait_15 ?_
      refine j_iconst 17 C dX4_bestTrait_17 ic_0 ?_
      refine j_bipush 18 C dX4_bestTrait_18 bp_40 ?_
      refine j_si 20 C dX4_bestTrait_20 ms_X4_within lk_X4_99 (c_X4_within) rfl rfl ⟨(Nat.le_of_ble_eq_true rfl), (Nat.le_of_ble_eq_true rfl)⟩ (Nat.le_of_ble_eq_true rfl) (fun r20 g20 hp20 => ?_)
      obtain ⟨rfl, rfl⟩ := hp20
      refine j_ifne 23 33 C dX4_bestTrait_23 (by decide) (fun c23 => ?_) (fun c23 => ?_)
      · have v23 := bi_n c23
        obtain ⟨hM8, hM0⟩ := SI_cl0 hS
        obtain ⟨M, hM, rfl⟩ := isM_nat hM0 hM8 v5
        obtain ⟨P, hP, rfl⟩ := inr_nat (n := 5) (by decide) v12
        obtain ⟨N, hN, rfl⟩ := inr_nat (n := 40) (by decide) v23
        obtain ⟨hmx, hlo, hhi⟩ := hi3_mx W hW
        have loop : ∀ n k, k + n = hi3 W + 1 - lo3 W → ∀ (E : Row) (o : Option Value), J X G 9 (ub g 2 E) 50 [some (.ref (xo G)), some (.int (nI M)), some (.int (nI W)), some (.int (nI P)), some (.int (nI N)), some (.int (bst (fB (g 0) M W P N) (lo3 W) k).1), some (.int (bst (fB (g 0) M W P N) (lo3 W) k).2), some (.int (nI (lo3 W + k))), o] [] := by
          intro n
          induction n with
          | zero =>
            intro k hk E o
            obtain rfl : hi3 W + 1 - lo3 W = k := by omega
            refine j_il7 50 C dX4_bestTrait_50 ?_
            refine jgs_X4_112 52 C dX4_bestTrait_52 ?_
            refine j_il2 55 C dX4_bestTrait_55 ?_
            refine jl_st1 56 (by omega) C dX4_bestTrait_56 ?_
            refine j_top (nI (hi3 W)) (kM3 W hW) ?_
            refine j_icgt 57 123 C dX4_bestTrait_57 (by decide) (fun c57 => ?_) (fun c57 => ?_)
            · refine j_il5 123 C dX4_bestTrait_123 ?_
              exact hR dX4_bestTrait_125 (cpX_q (by unfold s_best; rw [v5, v12, v23, cl_nI (show M < 2 ^ 31 by omega), cl_nI (show P < 2 ^ 31 by omega), cl_nI (show N < 2 ^ 31 by omega)]; rfl) rfl (SC_ub (Or.inl rfl)))
            · exact absurd (nI_lt (a := hi3 W) (b := lo3 W + (hi3 W + 1 - lo3 W)) (by omega) (by omega)) c57
          | succ n ih =>
            intro k hk E o
            refine j_il7 50 C dX4_bestTrait_50 ?_
            refine jgs_X4_112 52 C dX4_bestTrait_52 ?_
            refine j_il2 55 C dX4_bestTrait_55 ?_
            refine jl_st1 56 (by omega) C dX4_bestTrait_56 ?_
            refine j_top (nI (hi3 W)) (kM3 W hW) ?_
            refine j_icgt 57 123 C dX4_bestTrait_57 (by decide) (fun c57 => ?_) (fun c57 => ?_)
            · exact absurd c57 (nI_nlt (a := hi3 W) (b := lo3 W + k) (by omega) (by omega))
            · have hv : lo3 W + k ≤ mx4 W := by omega
              have hSv : SI (upd (g 0) (51 + (4 * M + W)) (nI (lo3 W + k))) := SI_tr hS (by omega) (by omega) hv
              have hTv : upd (g 0) (51 + (4 * M + W)) (nI (lo3 W + k)) 1 = nI T := by rw [upd_n (by omega)]; exact hT
              refine j_al0 60 C dX4_bestTrait_60 ?_
              refine jg_X4_19 61 C dX4_bestTrait_61 ?_
              refine j_al0 64 C dX4_bestTrait_64 ?_
              refine jg_X4_12 65 C dX4_bestTrait_65 ?_
              refine j_vv 68 C dX4_bestTrait_68 mv_X0_become lk_X4_168 (c_X0_become lt4_2 lt4_0 (by decide)) (rc_d lt4_2) rfl rfl ⟨(Nat.le_of_ble_eq_true rfl), (Nat.le_of_ble_eq_true rfl)⟩ (Nat.le_of_ble_eq_true rfl) (fun g68 hp68 => ?_)
              obtain rfl := hp68
              rw [ub_ub, ub_n (b' := 0) (b := 2) (by decide)]
              refine j_al0 71 C dX4_bestTrait_71 ?_
              refine jg_X4_19 72 C dX4_bestTrait_72 ?_
              refine j_il1 75 C dX4_bestTrait_75 ?_
              refine j_il2 76 C dX4_bestTrait_76 ?_
              refine j_il7 77 C dX4_bestTrait_77 ?_
              refine j_vv 79 C dX4_bestTrait_79 mv_X0_setTrait lk_X4_115 (c_X0_setTrait lt4_2 (by omega) (by omega)) (rc_d lt4_2) rfl rfl ⟨(Nat.le_of_ble_eq_true rfl), (Nat.le_of_ble_eq_true rfl)⟩ (Nat.le_of_ble_eq_true rfl) (fun g79 hp79 => ?_)
              obtain rfl := hp79
              rw [ub_ub, ub_s]
              refine j_al0 82 C dX4_bestTrait_82 ?_
              refine jg_X4_19 83 C dX4_bestTrait_83 ?_
              refine j_il4 86 C dX4_bestTrait_86 ?_
              refine j_iconst 88 C dX4_bestTrait_88 ic_0 ?_
              refine j_vv 89 C dX4_bestTrait_89 mv_X0_passNights lk_X4_132 (c_X0_passNights (O := 0) lt4_2 (by decide) (by rw [ub_s]; exact hSv) (by rw [ub_s]; exact hTv) (by omega)) (rc_d lt4_2) rfl rfl ⟨(Nat.le_of_ble_eq_true rfl), (Nat.le_of_ble_eq_true rfl)⟩ (Nat.le_of_ble_eq_true rfl) (fun g89 hp89 => ?_)
              obtain rfl := hp89
              rw [ub_ub, ub_s]
              refine j_al0 92 C dX4_bestTrait_92 ?_
              refine jg_X4_19 93 C dX4_bestTrait_93 ?_
              refine j_il3 96 C dX4_bestTrait_96 ?_
              refine j_vi 97 C dX4_bestTrait_97 mv_X0_saidBy lk_X4_70 (c_X0_saidBy lt4_2 (by omega)) (rc_d lt4_2) rfl rfl ⟨(Nat.le_of_ble_eq_true rfl), (Nat.le_of_ble_eq_true rfl)⟩ (Nat.le_of_ble_eq_true rfl) (fun r97 g97 hp97 => ?_)
              obtain ⟨hr97, rfl⟩ := hp97
              rw [ub_s] at hr97
              subst hr97
              refine j_is8 100 C dX4_bestTrait_100 rfl (Nat.le_of_ble_eq_true rfl) ?_
              refine j_il8 102 C dX4_bestTrait_102 ?_
              refine j_il6 104 C dX4_bestTrait_104 ?_
              refine j_icle 106 117 C dX4_bestTrait_106 (by decide) (fun c106 => ?_) (fun c106 => ?_)
              · have e : bst (fB (g 0) M W P N) (lo3 W) (k + 1) = bst (fB (g 0) M W P N) (lo3 W) k := if_neg (Int32.not_lt.mpr c106)
                refine j_inc7 117 C dX4_bestTrait_117 rfl (nI_inc _) (Nat.le_of_ble_eq_true rfl) ?_
                refine j_goto 120 50 C dX4_bestTrait_120 (by decide) ?_
                have h9 := ih (k + 1) (by omega) (ngs (upd (g 0) (51 + (4 * M + W)) (nI (lo3 W + k))) 0 N) (some (.int ((fB (g 0) M W P N) (lo3 W + k))))
                rw [e] at h9
                exact h9
              · have e : bst (fB (g 0) M W P N) (lo3 W) (k + 1) = (nI (lo3 W + k), (fB (g 0) M W P N) (lo3 W + k)) := if_pos (Int32.not_le.mp c106)
                refine j_il8 109 C dX4_bestTrait_109 ?_
                refine j_is6 111 C dX4_bestTrait_111 rfl (Nat.le_of_ble_eq_true rfl) ?_
                refine j_il7 113 C dX4_bestTrait_113 ?_
                refine j_is5 115 C dX4_bestTrait_115 rfl (Nat.le_of_ble_eq_true rfl) ?_
                refine j_inc7 117 C dX4_bestTrait_117 rfl (nI_inc _) (Nat.le_of_ble_eq_true rfl) ?_
                refine j_goto 120 50 C dX4_bestTrait_120 (by decide) ?_
                have h9 := ih (k + 1) (by omega) (ngs (upd (g 0) (51 + (4 * M + W)) (nI (lo3 W + k))) 0 N) (some (.int ((fB (g 0) M W P N) (lo3 W + k))))
                rw [e] at h9
                exact h9
        refine jgs_X4_109 33 C dX4_bestTrait_33 ?_
        refine j_il2 36 C dX4_bestTrait_36 ?_
        refine jl_st0 37 (by omega) C dX4_bestTrait_37 ?_
        refine j_top (nI (lo3 W)) (kL3 W hW) ?_
        refine j_is5 38 C dX4_bestTrait_38 rfl (Nat.le_of_ble_eq_true rfl) ?_
        refine j_iconst 40 C dX4_bestTrait_40 ic_m1 ?_
        refine j_is6 41 C dX4_bestTrait_41 rfl (Nat.le_of_ble_eq_true rfl) ?_
        refine jgs_X4_109 43 C dX4_bestTrait_43 ?_
        refine j_il2 46 C dX4_bestTrait_46 ?_
        refine jl_st0 47 (by omega) C dX4_bestTrait_47 ?_
        refine j_top (nI (lo3 W)) (kL3 W hW) ?_
        refine j_is7 48 C dX4_bestTrait_48 rfl (Nat.le_of_ble_eq_true rfl) ?_
        have h9 := loop (hi3 W + 1 - lo3 W) 0 (Nat.zero_add _) (g 2) none
        rw [ub_id] at h9
        exact h9
      · have v23 := bi_0 c23
        refine j_al0 26 C dX4_bestTrait_26 ?_
        refine j_ldc 27 C dX4_bestTrait_27 cs_X4_57 ?_
        refine j_vi 29 C dX4_bestTrait_29 mv_X4_finding lk_X4_58 (c_X4_finding (f := 0) (by decide) (by decide)) rc_x rfl rfl ⟨(Nat.le_of_ble_eq_true rfl), (Nat.le_of_ble_eq_true rfl)⟩ (Nat.le_of_ble_eq_true rfl) (fun r29 g29 hp29 => ?_)
        obtain ⟨rfl, rfl⟩ := hp29
        exact hR dX4_bestTrait_32 (cpX_f (f := 0) (by simp [s_best, v5, v12, v23]) (by decide) (by decide) SC.rfl)
set_option maxRecDepth 20000 in
theorem c_X4_put {G : GT} {g : Mem} (hS : SI (g 0)) {T : Nat} (hT : g 0 1 = nI T) (hTb : T ≤ 31000) {m p n : Int32} : Cti G yX4_put cX4_put 4 .int 6 148 [.ref (xo G), .int m, .int p, .int n] g (fun r g' => cpX (s_best 1 m p n (g 0)) g r g') := by
  refine ent_i (by decide) (Nat.le_of_ble_eq_true rfl) [some (.ref (xo G)), some (.int m), some (.int p), some (.int n)] rfl ?_
  intro X C hR
  have C : CX X G RX4 cX4_put 4 6 148 := C
  refine j_al0 0 C dX4_put_0 ?_
  refine j_il1 1 C dX4_put_1 ?_
  refine j_iconst 2 C dX4_put_2 ic_1 ?_
  refine j_il2 3 C dX4_put_3 ?_
  refine j_il3 4 C dX4_put_4 ?_
  refine j_vi 5 C dX4_put_5 mv_X4_bestTrait lk_X4_160 (c_X4_bestTrait (W := 1) hS hT hTb (by decide)) rc_x rfl rfl ⟨(Nat.le_of_ble_eq_true rfl), (Nat.le_of_ble_eq_true rfl)⟩ (Nat.le_of_ble_eq_true rfl) (fun r5 g5 hp5 => ?_)
  exact hR dX4_put_8 hp5
set_option maxRecDepth 20000 in
theorem c_X4_tasteFor {G : GT} {g : Mem} (hS : SI (g 0)) {T : Nat} (hT : g 0 1 = nI T) (hTb : T ≤ 31000) {m p n : Int32} : Cti G yX4_tasteFor cX4_tasteFor 4 .int 6 148 [.ref (xo G), .int m, .int p, .int n] g (fun r g' => cpX (s_best 2 m p n (g 0)) g r g') := by
  refine ent_i (by decide) (Nat.le_of_ble_eq_true rfl) [some (.ref (xo G)), some (.int m), some (.int p), some (.int n)] rfl ?_
  intro X C hR
  have C : CX X G RX4 cX4_tasteFor 4 6 148 := C
  refine j_al0 0 C dX4_tasteFor_0 ?_
  refine j_il1 1 C dX4_tasteFor_1 ?_
  refine j_iconst 2 C dX4_tasteFor_2 ic_2 ?_
  refine j_il2 3 C dX4_tasteFor_3 ?_
  refine j_il3 4 C dX4_tasteFor_4 ?_
  refine j_vi 5 C dX4_tasteFor_5 mv_X4_bestTrait lk_X4_160 (c_X4_bestTrait (W := 2) hS hT hTb (by decide)) rc_x rfl rfl ⟨(Nat.le_of_ble_eq_true rfl), (Nat.le_of_ble_eq_true rfl)⟩ (Nat.le_of_ble_eq_true rfl) (fun r5 g5 hp5 => ?_)
  exact hR dX4_tasteFor_8 hp5
set_option maxRecDepth 20000 in
theorem c_X4_kindFor {G : GT} {g : Mem} (hS : SI (g 0)) {T : Nat} (hT : g 0 1 = nI T) (hTb : T ≤ 31000) {m p n : Int32} : Cti G yX4_kindFor cX4_kindFor 4 .int 6 148 [.ref (xo G), .int m, .int p, .int n] g (fun r g' => cpX (s_best 0 m p n (g 0)) g r g') := by
  refine ent_i (by decide) (Nat.le_of_ble_eq_true rfl) [some (.ref (xo G)), some (.int m), some (.int p), some (.int n)] rfl ?_
  intro X C hR
  have C : CX X G RX4 cX4_kindFor 4 6 148 := C
  refine j_al0 0 C dX4_kindFor_0 ?_
  refine j_il1 1 C dX4_kindFor_1 ?_
  refine j_iconst 2 C dX4_kindFor_2 ic_0 ?_
  refine j_il2 3 C dX4_kindFor_3 ?_
  refine j_il3 4 C dX4_kindFor_4 ?_
  refine j_vi 5 C dX4_kindFor_5 mv_X4_bestTrait lk_X4_160 (c_X4_bestTrait (W := 0) hS hT hTb (by decide)) rc_x rfl rfl ⟨(Nat.le_of_ble_eq_true rfl), (Nat.le_of_ble_eq_true rfl)⟩ (Nat.le_of_ble_eq_true rfl) (fun r5 g5 hp5 => ?_)
  exact hR dX4_kindFor_8 hp5
set_option maxRecDepth 20000 in
theorem c_X4_swapFor {G : GT} {g : Mem} (hS : SI (g 0)) {T : Nat} (hT : g 0 1 = nI T) (hTb : T ≤ 31000) {p n : Int32} : Cti G yX4_swapFor cX4_swapFor 8 .int 5 120 [.ref (xo G), .int p, .int n] g (fun r g' => cpX (s_swapFor p n (g 0)) g r g') := by
  refine ent_i (by decide) (Nat.le_of_ble_eq_true rfl) [some (.ref (xo G)), some (.int p), some (.int n), none, none, none, none, none] rfl ?_
  intro X C hR
  have C : CX X G RX4 cX4_swapFor 8 5 120 := C
  obtain ⟨hM8, hM0⟩ := SI_cl0 hS
  refine j_il1 0 C dX4_swapFor_0 ?_
  refine j_si 1 C dX4_swapFor_1 ms_X4_isPage lk_X4_47 (c_X4_isPage) rfl rfl ⟨(Nat.le_of_ble_eq_true rfl), (Nat.le_of_ble_eq_true rfl)⟩ (Nat.le_of_ble_eq_true rfl) (fun r1 g1 hp1 => ?_)
  obtain ⟨rfl, rfl⟩ := hp1
  refine j_ifeq 4 17 C dX4_swapFor_4 (by decide) (fun c4 => ?_) (fun c4 => ?_)
  · have v4 := bi_0 c4
    refine j_al0 17 C dX4_swapFor_17 ?_
    refine j_ldc 18 C dX4_swapFor_18 cs_X4_57 ?_
    refine j_vi 20 C dX4_swapFor_20 mv_X4_finding lk_X4_58 (c_X4_finding (f := 0) (by decide) (by decide)) rc_x rfl rfl ⟨(Nat.le_of_ble_eq_true rfl), (Nat.le_of_ble_eq_true rfl)⟩ (Nat.le_of_ble_eq_true rfl) (fun r20 g20 hp20 => ?_)
    obtain ⟨rfl, rfl⟩ := hp20
    exact hR dX4_swapFor_23 (cpX_f (f := 0) (by simp [s_swapFor, v4]) (by decide) (by decide) SC.rfl)
  · have v4 := bi_n c4
    refine j_il2 7 C dX4_swapFor_7 ?_
    refine j_iconst 8 C dX4_swapFor_8 ic_0 ?_
    refine j_bipush 9 C dX4_swapFor_9 bp_40 ?_
    refine j_si 11 C dX4_swapFor_11 ms_X4_within lk_X4_99 (c_X4_within) rfl rfl ⟨(Nat.le_of_ble_eq_true rfl), (Nat.le_of_ble_eq_true rfl)⟩ (Nat.le_of_ble_eq_true rfl) (fun r11 g11 hp11 => ?_)
    obtain ⟨rfl, rfl⟩ := hp11
    refine j_ifne 14 24 C dX4_swapFor_14 (by decide) (fun c14 => ?_) (fun c14 => ?_)
    · have v14 := bi_n c14
      refine j_al0 24 C dX4_swapFor_24 ?_
      refine jg_X4_12 25 C dX4_swapFor_25 ?_
      refine jg_X4_164 28 lt4_0 C dX4_swapFor_28 ?_
      refine j_iconst 31 C dX4_swapFor_31 ic_2 ?_
      refine j_icge 32 42 C dX4_swapFor_32 (by decide) (fun c32 => ?_) (fun c32 => ?_)
      · generalize hMM : cl (g 0 0) = M at hM8 hM0
        obtain ⟨P, hP, rfl⟩ := inr_nat (n := 5) (by decide) v4
        obtain ⟨N, hN, rfl⟩ := inr_nat (n := 40) (by decide) v14
        have c32 : ¬ g 0 0 < 2 := Int32.not_lt.mpr c32
        have inner : ∀ a, a < M → (∀ (E : Row) (o6 o7 : Option Value), J X G 8 (ub g 2 E) 50 [some (.ref (xo G)), some (.int (nI P)), some (.int (nI N)), some (.int (sws (g 0) P N M (0, -1) (a + 1)).1), some (.int (sws (g 0) P N M (0, -1) (a + 1)).2), some (.int (nI (a + 1))), o6, o7] []) → ∀ n k, a + 1 + k + n = M → ∀ (E : Row) (o7 : Option Value), J X G 8 (ub g 2 E) 68 [some (.ref (xo G)), some (.int (nI P)), some (.int (nI N)), some (.int ((swb (g 0) P N a (sws (g 0) P N M (0, -1) a) k)).1), some (.int ((swb (g 0) P N a (sws (g 0) P N M (0, -1) a) k)).2), some (.int (nI a)), some (.int (nI (a + 1 + k))), o7] [] := by
          intro a ha hx n
          induction n with
          | zero =>
            intro k hk E o7
            refine j_il6 68 C dX4_swapFor_68 ?_
            refine j_al0 70 C dX4_swapFor_70 ?_
            refine jg_X4_12 71 C dX4_swapFor_71 ?_
            refine jg_X4_164 74 lt4_0 C dX4_swapFor_74 ?_
            refine j_top (nI M) (by rw [ub_n (by decide)]; exact hM0) ?_
            refine j_icge 77 147 C dX4_swapFor_77 (by decide) (fun c77 => ?_) (fun c77 => ?_)
            · have e : (swb (g 0) P N a (sws (g 0) P N M (0, -1) a) k) = sws (g 0) P N M (0, -1) (a + 1) := by show _ = swb (g 0) P N a _ (M - (a + 1)); rw [show M - (a + 1) = k by omega]
              rw [e]
              refine j_inc5 147 C dX4_swapFor_147 rfl (nI_inc _) (Nat.le_of_ble_eq_true rfl) ?_
              refine j_goto 150 50 C dX4_swapFor_150 (by decide) ?_
              exact hx E _ o7
            · exact absurd (show nI M ≤ nI (a + 1 + k) by rw [show a + 1 + k = M by omega]; exact nI_le (Nat.le_refl _) (by omega)) c77
          | succ n ih =>
            intro k hk E o7
            refine j_il6 68 C dX4_swapFor_68 ?_
            refine j_al0 70 C dX4_swapFor_70 ?_
            refine jg_X4_12 71 C dX4_swapFor_71 ?_
            refine jg_X4_164 74 lt4_0 C dX4_swapFor_74 ?_
            refine j_top (nI M) (by rw [ub_n (by decide)]; exact hM0) ?_
            refine j_icge 77 147 C dX4_swapFor_77 (by decide) (fun c77 => ?_) (fun c77 => ?_)
            · exact absurd c77 (nI_ge (a := a + 1 + k) (b := M) (by omega) (by omega))
            · have hSv : SI (swp (g 0) a (a + 1 + k)) := SI_swp hS (by omega) (by omega)
              have hTv : swp (g 0) a (a + 1 + k) 1 = nI T := by unfold swp; rw [upd_n (by omega), upd_n (by omega)]; exact hT
              refine j_al0 80 C dX4_swapFor_80 ?_
              refine jg_X4_19 81 C dX4_swapFor_81 ?_
              refine j_al0 84 C dX4_swapFor_84 ?_
              refine jg_X4_12 85 C dX4_swapFor_85 ?_
              refine j_vv 88 C dX4_swapFor_88 mv_X0_become lk_X4_168 (c_X0_become lt4_2 lt4_0 (by decide)) (rc_d lt4_2) rfl rfl ⟨(Nat.le_of_ble_eq_true rfl), (Nat.le_of_ble_eq_true rfl)⟩ (Nat.le_of_ble_eq_true rfl) (fun g88 hp88 => ?_)
              obtain rfl := hp88
              rw [ub_ub, ub_n (b' := 0) (b := 2) (by decide)]
              refine j_al0 91 C dX4_swapFor_91 ?_
              refine jg_X4_19 92 C dX4_swapFor_92 ?_
              refine j_il5 95 C dX4_swapFor_95 ?_
              refine j_il6 97 C dX4_swapFor_97 ?_
              refine j_vv 99 C dX4_swapFor_99 mv_X0_swapPages lk_X4_172 (c_X0_swapPages lt4_2 (by omega) (by omega)) (rc_d lt4_2) rfl rfl ⟨(Nat.le_of_ble_eq_true rfl), (Nat.le_of_ble_eq_true rfl)⟩ (Nat.le_of_ble_eq_true rfl) (fun g99 hp99 => ?_)
              obtain rfl := hp99
              rw [ub_ub, ub_s]
              refine j_al0 102 C dX4_swapFor_102 ?_
              refine jg_X4_19 103 C dX4_swapFor_103 ?_
              refine j_il2 106 C dX4_swapFor_106 ?_
              refine j_iconst 107 C dX4_swapFor_107 ic_0 ?_
              refine j_vv 108 C dX4_swapFor_108 mv_X0_passNights lk_X4_132 (c_X0_passNights (O := 0) lt4_2 (by decide) (by rw [ub_s]; exact hSv) (by rw [ub_s]; exact hTv) (by omega)) (rc_d lt4_2) rfl rfl ⟨(Nat.le_of_ble_eq_true rfl), (Nat.le_of_ble_eq_true rfl)⟩ (Nat.le_of_ble_eq_true rfl) (fun g108 hp108 => ?_)
              obtain rfl := hp108
              rw [ub_ub, ub_s]
              refine j_al0 111 C dX4_swapFor_111 ?_
              refine jg_X4_19 112 C dX4_swapFor_112 ?_
              refine j_il1 115 C dX4_swapFor_115 ?_
              refine j_vi 116 C dX4_swapFor_116 mv_X0_saidBy lk_X4_70 (c_X0_saidBy lt4_2 (by omega)) (rc_d lt4_2) rfl rfl ⟨(Nat.le_of_ble_eq_true rfl), (Nat.le_of_ble_eq_true rfl)⟩ (Nat.le_of_ble_eq_true rfl) (fun r116 g116 hp116 => ?_)
              obtain ⟨hr116, rfl⟩ := hp116
              rw [ub_s] at hr116
              subst hr116
              refine j_is7 119 C dX4_swapFor_119 rfl (Nat.le_of_ble_eq_true rfl) ?_
              refine j_il7 121 C dX4_swapFor_121 ?_
              refine j_il4 123 C dX4_swapFor_123 ?_
              refine j_icle 125 141 C dX4_swapFor_125 (by decide) (fun c125 => ?_) (fun c125 => ?_)
              · have e : swb (g 0) P N a (sws (g 0) P N M (0, -1) a) (k + 1) = (swb (g 0) P N a (sws (g 0) P N M (0, -1) a) k) := if_neg (Int32.not_lt.mpr c125)
                refine j_inc6 141 C dX4_swapFor_141 rfl (nI_inc _) (Nat.le_of_ble_eq_true rfl) ?_
                refine j_goto 144 68 C dX4_swapFor_144 (by decide) ?_
                have h9 := ih (k + 1) (by omega) (ngs (swp (g 0) a (a + 1 + k)) 0 N) (some (.int (ss (ngs (swp (g 0) a (a + 1 + k)) 0 N) P 8)))
                rw [e] at h9
                exact h9
              · have e : swb (g 0) P N a (sws (g 0) P N M (0, -1) a) (k + 1) = (nI (8 * a + (a + 1 + k)), ss (ngs (swp (g 0) a (a + 1 + k)) 0 N) P 8) := if_pos (Int32.not_le.mp c125)
                refine j_il7 128 C dX4_swapFor_128 ?_
                refine j_is4 130 C dX4_swapFor_130 rfl (Nat.le_of_ble_eq_true rfl) ?_
                refine j_bipush 132 C dX4_swapFor_132 bp_8 ?_
                refine j_il5 134 C dX4_swapFor_134 ?_
                refine j_imul 136 C dX4_swapFor_136 ?_
                refine j_il6 137 C dX4_swapFor_137 ?_
                refine j_iadd 139 C dX4_swapFor_139 ?_
                refine j_top (nI (8 * a + (a + 1 + k))) (by show nI 8 * nI a + nI (a + 1 + k) = _; rw [pk_mul, nI_add]) ?_
                refine j_is3 140 C dX4_swapFor_140 rfl (Nat.le_of_ble_eq_true rfl) ?_
                refine j_inc6 141 C dX4_swapFor_141 rfl (nI_inc _) (Nat.le_of_ble_eq_true rfl) ?_
                refine j_goto 144 68 C dX4_swapFor_144 (by decide) ?_
                have h9 := ih (k + 1) (by omega) (ngs (swp (g 0) a (a + 1 + k)) 0 N) (some (.int (ss (ngs (swp (g 0) a (a + 1 + k)) 0 N) P 8)))
                rw [e] at h9
                exact h9
        have outer : ∀ n a, a + n = M → ∀ (E : Row) (o6 o7 : Option Value), J X G 8 (ub g 2 E) 50 [some (.ref (xo G)), some (.int (nI P)), some (.int (nI N)), some (.int (sws (g 0) P N M (0, -1) a).1), some (.int (sws (g 0) P N M (0, -1) a).2), some (.int (nI a)), o6, o7] [] := by
          intro n
          induction n with
          | zero =>
            intro a ha E o6 o7
            obtain rfl : M = a := by omega
            refine j_il5 50 C dX4_swapFor_50 ?_
            refine j_al0 52 C dX4_swapFor_52 ?_
            refine jg_X4_12 53 C dX4_swapFor_53 ?_
            refine jg_X4_164 56 lt4_0 C dX4_swapFor_56 ?_
            refine j_top (nI M) (by rw [ub_n (by decide)]; exact hM0) ?_
            refine j_icge 59 153 C dX4_swapFor_59 (by decide) (fun c59 => ?_) (fun c59 => ?_)
            · refine j_il3 153 C dX4_swapFor_153 ?_
              exact hR dX4_swapFor_154 (cpX_q (by unfold s_swapFor; rw [v4, v14, if_neg c32, hMM, cl_nI (show P < 2 ^ 31 by omega), cl_nI (show N < 2 ^ 31 by omega)]; rfl) rfl (SC_ub (Or.inl rfl)))
            · exact absurd (nI_le (Nat.le_refl _) (by omega)) c59
          | succ n ih =>
            intro a ha E o6 o7
            refine j_il5 50 C dX4_swapFor_50 ?_
            refine j_al0 52 C dX4_swapFor_52 ?_
            refine jg_X4_12 53 C dX4_swapFor_53 ?_
            refine jg_X4_164 56 lt4_0 C dX4_swapFor_56 ?_
            refine j_top (nI M) (by rw [ub_n (by decide)]; exact hM0) ?_
            refine j_icge 59 153 C dX4_swapFor_59 (by decide) (fun c59 => ?_) (fun c59 => ?_)
            · exact absurd c59 (nI_ge (a := a) (b := M) (by omega) (by omega))
            · refine j_il5 62 C dX4_swapFor_62 ?_
              refine j_iconst 64 C dX4_swapFor_64 ic_1 ?_
              refine j_iadd 65 C dX4_swapFor_65 ?_
              refine j_top (nI (a + 1 + 0)) (nI_succ a).symm ?_
              refine j_is6 66 C dX4_swapFor_66 rfl (Nat.le_of_ble_eq_true rfl) ?_
              exact inner a (by omega) (ih (a + 1) (by omega)) (M - (a + 1)) 0 (by omega) E o7
        refine j_iconst 42 C dX4_swapFor_42 ic_0 ?_
        refine j_is3 43 C dX4_swapFor_43 rfl (Nat.le_of_ble_eq_true rfl) ?_
        refine j_iconst 44 C dX4_swapFor_44 ic_m1 ?_
        refine j_is4 45 C dX4_swapFor_45 rfl (Nat.le_of_ble_eq_true rfl) ?_
        refine j_iconst 47 C dX4_swapFor_47 ic_0 ?_
        refine j_is5 48 C dX4_swapFor_48 rfl (Nat.le_of_ble_eq_true rfl) ?_
        have h9 := outer M 0 (Nat.zero_add _) (g 2) none none
        rw [ub_id] at h9
        exact h9
      · refine j_al0 35 C dX4_swapFor_35 ?_
        refine j_ldc 36 C dX4_swapFor_36 cs_X4_167 ?_
        refine j_vi 38 C dX4_swapFor_38 mv_X4_finding lk_X4_58 (c_X4_finding (f := 3) (by decide) (by decide)) rc_x rfl rfl ⟨(Nat.le_of_ble_eq_true rfl), (Nat.le_of_ble_eq_true rfl)⟩ (Nat.le_of_ble_eq_true rfl) (fun r38 g38 hp38 => ?_)
        obtain ⟨rfl, rfl⟩ := hp38
        exact hR dX4_swapFor_41 (cpX_f (f := 3) (by unfold s_swapFor; rw [v4, v14, if_pos (Int32.not_le.mp c32)]; rfl) (by decide) (by decide) SC.rfl)
    · have v14 := bi_0 c14
      refine j_al0 17 C dX4_swapFor_17 ?_
      refine j_ldc 18 C dX4_swapFor_18 cs_X4_57 ?_
      refine j_vi 20 C dX4_swapFor_20 mv_X4_finding lk_X4_58 (c_X4_finding (f := 0) (by decide) (by decide)) rc_x rfl rfl ⟨(Nat.le_of_ble_eq_true rfl), (Nat.le_of_ble_eq_true rfl)⟩ (Nat.le_of_ble_eq_true rfl) (fun r20 g20 hp20 => ?_)
      obtain ⟨rfl, rfl⟩ := hp20
      exact hR dX4_swapFor_23 (cpX_f (f := 0) (by simp [s_swapFor, v4, v14]) (by decide) (by decide) SC.rfl)
set_option maxRecDepth 20000 in
theorem c_X4_lights {G : GT} {g : Mem} (hS : SI (g 0)) {T : Nat} (hT : g 0 1 = nI T) (hTb : T ≤ 31000) {n : Int32} : Cti G yX4_lights cX4_lights 3 .int 5 120 [.ref (xo G), .int n] g (fun r g' => cpX (s_lights n (g 0)) g r g') := by
  refine ent_i (by decide) (Nat.le_of_ble_eq_true rfl) [some (.ref (xo G)), some (.int n), none] rfl ?_
  intro X C hR
  have C : CX X G RX4 cX4_lights 3 5 120 := C
  refine j_il1 0 C dX4_lights_0 ?_
  refine j_iconst 1 C dX4_lights_1 ic_1 ?_
  refine j_bipush 2 C dX4_lights_2 bp_20 ?_
  refine j_si 4 C dX4_lights_4 ms_X4_within lk_X4_99 (c_X4_within) rfl rfl ⟨(Nat.le_of_ble_eq_true rfl), (Nat.le_of_ble_eq_true rfl)⟩ (Nat.le_of_ble_eq_true rfl) (fun r4 g4 hp4 => ?_)
  obtain ⟨rfl, rfl⟩ := hp4
  refine j_ifne 7 17 C dX4_lights_7 (by decide) (fun c7 => ?_) (fun c7 => ?_)
  · have v7 := bi_n c7
    obtain ⟨N, hN1, hN, rfl⟩ := inr_1 (n := 20) (by decide) v7
    obtain ⟨hM8, hM0⟩ := SI_cl0 hS
    have loop : ∀ n k, k + n = N → J X G 3 (ub g 0 (lts (g 0) k)) 40 [some (.ref (xo G)), some (.int (nI N)), some (.int (nI k))] [] := by
      intro n
      induction n with
      | zero =>
        intro k hk
        obtain rfl : N = k := by omega
        refine j_il2 40 C dX4_lights_40 ?_
        refine j_il1 41 C dX4_lights_41 ?_
        refine j_icge 42 67 C dX4_lights_42 (by decide) (fun c42 => ?_) (fun c42 => ?_)
        · refine j_al0 67 C dX4_lights_67 ?_
          refine jg_X4_12 68 C dX4_lights_68 ?_
          refine j_vi 71 C dX4_lights_71 mv_X0_allHoles lk_X4_136 (c_X0_allHoles lt4_0) (rc_d lt4_0) rfl rfl ⟨(Nat.le_of_ble_eq_true rfl), (Nat.le_of_ble_eq_true rfl)⟩ (Nat.le_of_ble_eq_true rfl) (fun r71 g71 hp71 => ?_)
          obtain ⟨hr71, rfl⟩ := hp71
          rw [ub_s] at hr71
          subst hr71
          exact hR dX4_lights_74 (cpX_r (by simp [s_lights, v7, hAll, cl_nI (show N < 2 ^ 31 by omega)]) rfl SC.rfl)
        · exact absurd (nI_le (Nat.le_refl _) (by omega)) c42
      | succ n ih =>
        intro k hk
        refine j_il2 40 C dX4_lights_40 ?_
        refine j_il1 41 C dX4_lights_41 ?_
        refine j_icge 42 67 C dX4_lights_42 (by decide) (fun c42 => ?_) (fun c42 => ?_)
        · exact absurd c42 (nI_ge (a := k) (b := N) (by omega) (by omega))
        · have h1k : lgt (lts (g 0) k) 1 = nI (T + k) := by rw [lgt_1]; exact lts_1 hT
          refine j_al0 45 C dX4_lights_45 ?_
          refine jg_X4_12 46 C dX4_lights_46 ?_
          refine j_vv 49 C dX4_lights_49 mv_X0_leaveLightOn lk_X4_197 (c_X0_leaveLightOn lt4_0 hM8 (by rw [ub_s, lts_0]; exact hM0)) (rc_d lt4_0) rfl rfl ⟨(Nat.le_of_ble_eq_true rfl), (Nat.le_of_ble_eq_true rfl)⟩ (Nat.le_of_ble_eq_true rfl) (fun g49 hp49 => ?_)
          obtain rfl := hp49
          rw [ub_ub, ub_s]
          refine j_al0 52 C dX4_lights_52 ?_
          refine jg_X4_12 53 C dX4_lights_53 ?_
          refine j_iconst 56 C dX4_lights_56 ic_1 ?_
          refine j_iconst 57 C dX4_lights_57 ic_0 ?_
          refine j_vv 58 C dX4_lights_58 mv_X0_passNights lk_X4_132 (c_X0_passNights (O := 0) (N := 1) (T := T + k) lt4_0 (by decide) (by rw [ub_s]; exact SI_lgt (lts_SI hS)) (by rw [ub_s]; exact h1k) (by omega)) (rc_d lt4_0) rfl rfl ⟨(Nat.le_of_ble_eq_true rfl), (Nat.le_of_ble_eq_true rfl)⟩ (Nat.le_of_ble_eq_true rfl) (fun g58 hp58 => ?_)
          obtain rfl := hp58
          rw [ub_ub, ub_s, show ngs (lgt (lts (g 0) k)) 0 1 = lts (g 0) (k + 1) from rfl]
          refine j_inc2 61 C dX4_lights_61 rfl (nI_inc _) (Nat.le_of_ble_eq_true rfl) ?_
          refine j_goto 64 40 C dX4_lights_64 (by decide) ?_
          exact ih (k + 1) (by omega)
    refine j_al0 17 C dX4_lights_17 ?_
    refine jg_X4_12 18 C dX4_lights_18 ?_
    refine jg_X4_126 21 lt4_0 C dX4_lights_21 ?_
    refine j_ldc 24 C dX4_lights_24 cs_X4_130 ?_
    refine j_il1 26 C dX4_lights_26 ?_
    refine j_isub 27 C dX4_lights_27 ?_
    refine j_icle 28 38 C dX4_lights_28 (by decide) (fun c28 => ?_) (fun c28 => ?_)
    · refine j_iconst 38 C dX4_lights_38 ic_0 ?_
      refine j_is2 39 C dX4_lights_39 rfl (Nat.le_of_ble_eq_true rfl) ?_
      have h9 := loop N 0 (Nat.zero_add N)
      rw [show ub g 0 (lts (g 0) 0) = g from ub_id] at h9
      exact h9
    · exact absurd (show g 0 1 ≤ 99999 - nI N by rw [hT, show (99999 : Int32) - nI N = nI (99999 - N) from pk_sub (a := 99999) (by omega)]; exact nI_le (by omega) (by omega)) c28
  · have v7 := bi_0 c7
    refine j_al0 10 C dX4_lights_10 ?_
    refine j_ldc 11 C dX4_lights_11 cs_X4_57 ?_
    refine j_vi 13 C dX4_lights_13 mv_X4_finding lk_X4_58 (c_X4_finding (f := 0) (by decide) (by decide)) rc_x rfl rfl ⟨(Nat.le_of_ble_eq_true rfl), (Nat.le_of_ble_eq_true rfl)⟩ (Nat.le_of_ble_eq_true rfl) (fun r13 g13 hp13 => ?_)
    obtain ⟨rfl, rfl⟩ := hp13
    exact hR dX4_lights_16 (cpX_f (f := 0) (by simp [s_lights, v7]) (by decide) (by decide) SC.rfl)
