set_option maxRecDepth 20000 in
theorem c_X4_write {G : GT} {g : Mem} (hS : SI (g 0)) {T : Nat} (hT : g 0 1 = nI T) (hTb : T ≤ 31000) (hH : HI g) {s i v : Int32} : Cti G yX4_write cX4_write 4 .int 2 42 [.ref (xo G), .int s, .int i, .int v] g (fun r g' => cgX (x_write s i v g) g r g') := by
  refine ent_i (by decide) (Nat.le_of_ble_eq_true rfl) [some (.ref (xo G)), some (.int s), some (.int i), some (.int v)] rfl ?_
  intro X C hR
  have C : CX X G RX4 cX4_write 4 2 42 := C
  refine j_il1 0 C dX4_write_0 ?_
  refine j_si 1 C dX4_write_1 ms_X4_isSheet lk_X4_183 (c_X4_isSheet) rfl rfl ⟨(Nat.le_of_ble_eq_true rfl), (Nat.le_of_ble_eq_true rfl)⟩ (Nat.le_of_ble_eq_true rfl) (fun r1 g1 hp1 => ?_)
  obtain ⟨rfl, rfl⟩ := hp1
  refine j_ifne 4 14 C dX4_write_4 (by decide) (fun c4 => ?_) (fun c4 => ?_)
  · have v4 := bi_n c4
    obtain ⟨Q, hQ, rfl⟩ := inr_nat (n := 3) (by decide) v4
    have ht4 : Q < 4 := by omega
    obtain ⟨hbits, Z, hZ, hz⟩ := hH Q ht4
    refine j_al0 14 C dX4_write_14 ?_
    refine jg_X4_34 15 C dX4_write_15 ?_
    refine j_il1 18 C dX4_write_18 ?_
    refine jl_hs 19 (by omega) C dX4_write_19 ?_
    refine j_vi 20 C dX4_write_20 mv_X2_isMissing lk_X4_186 (c_X2_isMissing ht4) (rc_s ht4) rfl rfl ⟨(Nat.le_of_ble_eq_true rfl), (Nat.le_of_ble_eq_true rfl)⟩ (Nat.le_of_ble_eq_true rfl) (fun r20 g20 hp20 => ?_)
    obtain ⟨rfl, rfl⟩ := hp20
    refine j_ifeq 23 33 C dX4_write_23 (by decide) (fun c23 => ?_) (fun c23 => ?_)
    · have v23 := bi_0 c23
      have v23 := of_decide_eq_false v23
      refine j_il2 33 C dX4_write_33 ?_
      refine j_iconst 34 C dX4_write_34 ic_0 ?_
      refine j_al0 35 C dX4_write_35 ?_
      refine jg_X4_34 36 C dX4_write_36 ?_
      refine j_il1 39 C dX4_write_39 ?_
      refine jl_hs 40 (by omega) C dX4_write_40 ?_
      refine jg_X4_239 41 ht4 C dX4_write_41 ?_
      refine j_iconst 44 C dX4_write_44 ic_1 ?_
      refine j_isub 45 C dX4_write_45 ?_
      refine j_si 46 C dX4_write_46 ms_X4_within lk_X4_99 (c_X4_within) rfl rfl ⟨(Nat.le_of_ble_eq_true rfl), (Nat.le_of_ble_eq_true rfl)⟩ (Nat.le_of_ble_eq_true rfl) (fun r46 g46 hp46 => ?_)
      obtain ⟨hr46, rfl⟩ := hp46
      subst hr46
      refine j_ifne 49 59 C dX4_write_49 (by decide) (fun c49 => ?_) (fun c49 => ?_)
      · have v49 := bi_n c49
        have v49a := v49
        rw [hz] at v49a
        obtain ⟨N, hN, rfl⟩ := inr_sz hZ v49a
        refine j_al0 59 C dX4_write_59 ?_
        refine jg_X4_34 60 C dX4_write_60 ?_
        refine j_il1 63 C dX4_write_63 ?_
        refine jl_hs 64 (by omega) C dX4_write_64 ?_
        refine j_il2 65 C dX4_write_65 ?_
        refine j_il3 66 C dX4_write_66 ?_
        refine j_vv 67 C dX4_write_67 mv_X2_set lk_X4_240 (c_X2_set ht4 (by omega) (hbits.resolve_left v23)) (rc_s ht4) rfl rfl ⟨(Nat.le_of_ble_eq_true rfl), (Nat.le_of_ble_eq_true rfl)⟩ (Nat.le_of_ble_eq_true rfl) (fun g67 hp67 => ?_)
        obtain rfl := hp67
        refine j_iconst 70 C dX4_write_70 ic_1 ?_
        exact hR dX4_write_71 (cgX_r (by simp [x_write, v4, v23, v49, cl_nI (show Q < 2 ^ 31 by omega), cl_nI (show N < 2 ^ 31 by omega)]) rfl SC.rfl)
      · have v49 := bi_0 c49
        refine j_al0 52 C dX4_write_52 ?_
        refine j_ldc 53 C dX4_write_53 cs_X4_57 ?_
        refine j_vi 55 C dX4_write_55 mv_X4_finding lk_X4_58 (c_X4_finding (f := 0) (by decide) (by decide)) rc_x rfl rfl ⟨(Nat.le_of_ble_eq_true rfl), (Nat.le_of_ble_eq_true rfl)⟩ (Nat.le_of_ble_eq_true rfl) (fun r55 g55 hp55 => ?_)
        obtain ⟨rfl, rfl⟩ := hp55
        exact hR dX4_write_58 (cgX_f (f := 0) (by simp [x_write, v4, v23, v49, cl_nI (show Q < 2 ^ 31 by omega)]) (by decide) (by decide) SC.rfl)
    · have v23 := bi_n c23
      have v23 := of_decide_eq_true v23
      refine j_al0 26 C dX4_write_26 ?_
      refine j_ldc 27 C dX4_write_27 cs_X4_189 ?_
      refine j_vi 29 C dX4_write_29 mv_X4_finding lk_X4_58 (c_X4_finding (f := 5) (by decide) (by decide)) rc_x rfl rfl ⟨(Nat.le_of_ble_eq_true rfl), (Nat.le_of_ble_eq_true rfl)⟩ (Nat.le_of_ble_eq_true rfl) (fun r29 g29 hp29 => ?_)
      obtain ⟨rfl, rfl⟩ := hp29
      exact hR dX4_write_32 (cgX_f (f := 5) (by simp [x_write, v4, v23, cl_nI (show Q < 2 ^ 31 by omega)]) (by decide) (by decide) SC.rfl)
  · have v4 := bi_0 c4
    refine j_al0 7 C dX4_write_7 ?_
    refine j_ldc 8 C dX4_write_8 cs_X4_57 ?_
    refine j_vi 10 C dX4_write_10 mv_X4_finding lk_X4_58 (c_X4_finding (f := 0) (by decide) (by decide)) rc_x rfl rfl ⟨(Nat.le_of_ble_eq_true rfl), (Nat.le_of_ble_eq_true rfl)⟩ (Nat.le_of_ble_eq_true rfl) (fun r10 g10 hp10 => ?_)
    obtain ⟨rfl, rfl⟩ := hp10
    exact hR dX4_write_13 (cgX_f (f := 0) (by simp [x_write, v4]) (by decide) (by decide) SC.rfl)
set_option maxRecDepth 20000 in
theorem c_X4_copy {G : GT} {g : Mem} (hS : SI (g 0)) {T : Nat} (hT : g 0 1 = nI T) (hTb : T ≤ 31000) (hH : HI g) {s f t u n : Int32} : Cti G yX4_copy cX4_copy 6 .int 2 42 [.ref (xo G), .int s, .int f, .int t, .int u, .int n] g (fun r g' => cgX (x_copy s f t u n g) g r g') := by
  refine ent_i (by decide) (Nat.le_of_ble_eq_true rfl) [some (.ref (xo G)), some (.int s), some (.int f), some (.int t), some (.int u), some (.int n)] rfl ?_
  intro X C hR
  have C : CX X G RX4 cX4_copy 6 2 42 := C
  refine j_il1 0 C dX4_copy_0 ?_
  refine j_si 1 C dX4_copy_1 ms_X4_isSheet lk_X4_183 (c_X4_isSheet) rfl rfl ⟨(Nat.le_of_ble_eq_true rfl), (Nat.le_of_ble_eq_true rfl)⟩ (Nat.le_of_ble_eq_true rfl) (fun r1 g1 hp1 => ?_)
  obtain ⟨rfl, rfl⟩ := hp1
  refine j_ifeq 4 14 C dX4_copy_4 (by decide) (fun c4 => ?_) (fun c4 => ?_)
  · have v4 := bi_0 c4
    refine j_al0 14 C dX4_copy_14 ?_
    refine j_ldc 15 C dX4_copy_15 cs_X4_57 ?_
    refine j_vi 17 C dX4_copy_17 mv_X4_finding lk_X4_58 (c_X4_finding (f := 0) (by decide) (by decide)) rc_x rfl rfl ⟨(Nat.le_of_ble_eq_true rfl), (Nat.le_of_ble_eq_true rfl)⟩ (Nat.le_of_ble_eq_true rfl) (fun r17 g17 hp17 => ?_)
    obtain ⟨rfl, rfl⟩ := hp17
    exact hR dX4_copy_20 (cgX_f (f := 0) (by simp [x_copy, v4]) (by decide) (by decide) SC.rfl)
  · have v4 := bi_n c4
    refine j_il3 7 C dX4_copy_7 ?_
    refine j_si 8 C dX4_copy_8 ms_X4_isSheet lk_X4_183 (c_X4_isSheet) rfl rfl ⟨(Nat.le_of_ble_eq_true rfl), (Nat.le_of_ble_eq_true rfl)⟩ (Nat.le_of_ble_eq_true rfl) (fun r8 g8 hp8 => ?_)
    obtain ⟨rfl, rfl⟩ := hp8
    refine j_ifne 11 21 C dX4_copy_11 (by decide) (fun c11 => ?_) (fun c11 => ?_)
    · have v11 := bi_n c11
      obtain ⟨Q, hQ, rfl⟩ := inr_nat (n := 3) (by decide) v4
      have ht4 : Q < 4 := by omega
      obtain ⟨hbits, Z, hZ, hz⟩ := hH Q ht4
      obtain ⟨U, hU, rfl⟩ := inr_nat (n := 3) (by decide) v11
      have hu4 : U < 4 := by omega
      obtain ⟨hbits2, Z2, hZ2, hz2⟩ := hH U hu4
      refine j_al0 21 C dX4_copy_21 ?_
      refine jg_X4_34 22 C dX4_copy_22 ?_
      refine j_il1 25 C dX4_copy_25 ?_
      refine jl_hs 26 (by omega) C dX4_copy_26 ?_
      refine j_vi 27 C dX4_copy_27 mv_X2_isMissing lk_X4_186 (c_X2_isMissing ht4) (rc_s ht4) rfl rfl ⟨(Nat.le_of_ble_eq_true rfl), (Nat.le_of_ble_eq_true rfl)⟩ (Nat.le_of_ble_eq_true rfl) (fun r27 g27 hp27 => ?_)
      obtain ⟨rfl, rfl⟩ := hp27
      refine j_ifne 30 45 C dX4_copy_30 (by decide) (fun c30 => ?_) (fun c30 => ?_)
      · have v30 := bi_n c30
        have v30 := of_decide_eq_true v30
        refine j_al0 45 C dX4_copy_45 ?_
        refine j_ldc 46 C dX4_copy_46 cs_X4_189 ?_
        refine j_vi 48 C dX4_copy_48 mv_X4_finding lk_X4_58 (c_X4_finding (f := 5) (by decide) (by decide)) rc_x rfl rfl ⟨(Nat.le_of_ble_eq_true rfl), (Nat.le_of_ble_eq_true rfl)⟩ (Nat.le_of_ble_eq_true rfl) (fun r48 g48 hp48 => ?_)
        obtain ⟨rfl, rfl⟩ := hp48
        exact hR dX4_copy_51 (cgX_f (f := 5) (by simp [x_copy, v4, v11, v30, cl_nI (show Q < 2 ^ 31 by omega), cl_nI (show U < 2 ^ 31 by omega)]) (by decide) (by decide) SC.rfl)
      · have v30 := bi_0 c30
        have v30 := of_decide_eq_false v30
        refine j_al0 33 C dX4_copy_33 ?_
        refine jg_X4_34 34 C dX4_copy_34 ?_
        refine j_il3 37 C dX4_copy_37 ?_
        refine jl_hs 38 (by omega) C dX4_copy_38 ?_
        refine j_vi 39 C dX4_copy_39 mv_X2_isMissing lk_X4_186 (c_X2_isMissing hu4) (rc_s hu4) rfl rfl ⟨(Nat.le_of_ble_eq_true rfl), (Nat.le_of_ble_eq_true rfl)⟩ (Nat.le_of_ble_eq_true rfl) (fun r39 g39 hp39 => ?_)
        obtain ⟨rfl, rfl⟩ := hp39
        refine j_ifeq 42 52 C dX4_copy_42 (by decide) (fun c42 => ?_) (fun c42 => ?_)
        · have v42 := bi_0 c42
          have v42 := of_decide_eq_false v42
          refine j_al0 52 C dX4_copy_52 ?_
          refine jg_X4_34 53 C dX4_copy_53 ?_
          refine j_il1 56 C dX4_copy_56 ?_
          refine jl_hs 57 (by omega) C dX4_copy_57 ?_
          refine jg_X4_243 58 ht4 C dX4_copy_58 ?_
          refine j_al0 61 C dX4_copy_61 ?_
          refine jg_X4_34 62 C dX4_copy_62 ?_
          refine j_il3 65 C dX4_copy_65 ?_
          refine jl_hs 66 (by omega) C dX4_copy_66 ?_
          refine jg_X4_243 67 hu4 C dX4_copy_67 ?_
          refine j_iceq 70 80 C dX4_copy_70 (by decide) (fun c70 => ?_) (fun c70 => ?_)
          · refine j_al0 80 C dX4_copy_80 ?_
            refine jg_X4_34 81 C dX4_copy_81 ?_
            refine j_il1 84 C dX4_copy_84 ?_
            refine jl_hs 85 (by omega) C dX4_copy_85 ?_
            refine j_il2 86 C dX4_copy_86 ?_
            refine j_il5 87 C dX4_copy_87 ?_
            refine j_vi 89 C dX4_copy_89 mv_X2_hasRun lk_X4_246 (c_X2_hasRun ht4) (rc_s ht4) rfl rfl ⟨(Nat.le_of_ble_eq_true rfl), (Nat.le_of_ble_eq_true rfl)⟩ (Nat.le_of_ble_eq_true rfl) (fun r89 g89 hp89 => ?_)
            obtain ⟨rfl, rfl⟩ := hp89
            refine j_ifeq 92 111 C dX4_copy_92 (by decide) (fun c92 => ?_) (fun c92 => ?_)
            · have v92 := bi_0 c92
              refine j_al0 111 C dX4_copy_111 ?_
              refine j_ldc 112 C dX4_copy_112 cs_X4_57 ?_
              refine j_vi 114 C dX4_copy_114 mv_X4_finding lk_X4_58 (c_X4_finding (f := 0) (by decide) (by decide)) rc_x rfl rfl ⟨(Nat.le_of_ble_eq_true rfl), (Nat.le_of_ble_eq_true rfl)⟩ (Nat.le_of_ble_eq_true rfl) (fun r114 g114 hp114 => ?_)
              obtain ⟨rfl, rfl⟩ := hp114
              exact hR dX4_copy_117 (cgX_f (f := 0) (by unfold x_copy; rw [v4, v11, cl_nI (show Q < 2 ^ 31 by omega), cl_nI (show U < 2 ^ 31 by omega)]; simp only [Bool.and_self, if_true, c70, or_self, v42, not_true_eq_false, if_false]; simp [v4, v11, v30, v42, c70, v92]) (by decide) (by decide) SC.rfl)
            · have v92 := bi_n c92
              refine j_al0 95 C dX4_copy_95 ?_
              refine jg_X4_34 96 C dX4_copy_96 ?_
              refine j_il3 99 C dX4_copy_99 ?_
              refine jl_hs 100 (by omega) C dX4_copy_100 ?_
              refine j_il4 101 C dX4_copy_101 ?_
              refine j_il5 103 C dX4_copy_103 ?_
              refine j_vi 105 C dX4_copy_105 mv_X2_hasRun lk_X4_246 (c_X2_hasRun hu4) (rc_s hu4) rfl rfl ⟨(Nat.le_of_ble_eq_true rfl), (Nat.le_of_ble_eq_true rfl)⟩ (Nat.le_of_ble_eq_true rfl) (fun r105 g105 hp105 => ?_)
              obtain ⟨rfl, rfl⟩ := hp105
              refine j_ifne 108 118 C dX4_copy_108 (by decide) (fun c108 => ?_) (fun c108 => ?_)
              · have v108 := bi_n c108
                have v92a := v92
                have v108a := v108
                rw [hz] at v92a
                rw [hz2] at v108a
                obtain ⟨F, N, hFN, rfl, rfl⟩ := run_nat hZ v92a
                obtain ⟨W, N2, hWN, rfl, eN⟩ := run_nat hZ2 v108a
                obtain rfl : N = N2 := (nI_eq (by omega) (by omega)).mp eN
                refine j_al0 118 C dX4_copy_118 ?_
                refine jg_X4_34 119 C dX4_copy_119 ?_
                refine j_il1 122 C dX4_copy_122 ?_
                refine jl_hs 123 (by omega) C dX4_copy_123 ?_
                refine jg_X4_249 124 ht4 C dX4_copy_124 ?_
                refine j_il2 127 C dX4_copy_127 ?_
                refine j_al0 128 C dX4_copy_128 ?_
                refine jg_X4_34 129 C dX4_copy_129 ?_
                refine j_il3 132 C dX4_copy_132 ?_
                refine jl_hs 133 (by omega) C dX4_copy_133 ?_
                refine jg_X4_249 134 hu4 C dX4_copy_134 ?_
                refine j_il4 137 C dX4_copy_137 ?_
                refine j_il5 139 C dX4_copy_139 ?_
                refine j_acpy 141 (21 + 2 * Q) (21 + 2 * U) (sp := F) (dp := W) (n := N) C dX4_copy_141 lk_X4_252 (at_Sn ht4) (at_Sn hu4) (by omega) (by omega) (by decide) (by decide) ⟨(Nat.le_of_ble_eq_true rfl), (Nat.le_of_ble_eq_true rfl)⟩ (g' := ub g (6 + U) (cpS (g (6 + U)) (g (6 + Q)) F W N)) (fun H hP => ?_) ?_
                · refine WW_row (21 + 2 * U) (cpS (g (6 + U)) (g (6 + Q)) F W N) (by omega) (tb_Sn hu4).1 (fun i hi => ?_) hP (at_Sn hu4) (fun ha => at_arr ha (fun i hi => ?_))
                  · rw [(tb_Sn hu4).2.1, (tb_Sn hu4).2.2] at hi
                    exact if_neg (by omega)
                  · rw [ub_s]
                    show va_cpy _ _ _ _ _ i = if 2 + W ≤ 2 + i ∧ 2 + i < 2 + W + N then _ else _
                    by_cases q : W ≤ i ∧ i < W + N
                    · rw [pk_cpy_in q.1 q.2, if_pos (by omega)]
                      congr 3
                      omega
                    · rw [pk_cpy_out (by omega), if_neg (by omega)]
                · refine j_il5 144 C dX4_copy_144 ?_
                  exact hR dX4_copy_146 (cgX_r (by unfold x_copy; rw [v4, v11, cl_nI (show Q < 2 ^ 31 by omega), cl_nI (show U < 2 ^ 31 by omega), cl_nI (show F < 2 ^ 31 by omega), cl_nI (show W < 2 ^ 31 by omega), cl_nI (show N < 2 ^ 31 by omega), v92, v108]; simp only [Bool.and_self, if_true, c70, or_self, v42, not_true_eq_false, if_false]) rfl SC.rfl)
              · have v108 := bi_0 c108
                refine j_al0 111 C dX4_copy_111 ?_
                refine j_ldc 112 C dX4_copy_112 cs_X4_57 ?_
                refine j_vi 114 C dX4_copy_114 mv_X4_finding lk_X4_58 (c_X4_finding (f := 0) (by decide) (by decide)) rc_x rfl rfl ⟨(Nat.le_of_ble_eq_true rfl), (Nat.le_of_ble_eq_true rfl)⟩ (Nat.le_of_ble_eq_true rfl) (fun r114 g114 hp114 => ?_)
                obtain ⟨rfl, rfl⟩ := hp114
                exact hR dX4_copy_117 (cgX_f (f := 0) (by unfold x_copy; rw [v4, v11, cl_nI (show Q < 2 ^ 31 by omega), cl_nI (show U < 2 ^ 31 by omega)]; simp only [Bool.and_self, if_true, c70, or_self, v42, not_true_eq_false, if_false]; simp [v4, v11, v30, v42, c70, v92, v108]) (by decide) (by decide) SC.rfl)
          · refine j_al0 73 C dX4_copy_73 ?_
            refine j_ldc 74 C dX4_copy_74 cs_X4_234 ?_
            refine j_vi 76 C dX4_copy_76 mv_X4_finding lk_X4_58 (c_X4_finding (f := 2) (by decide) (by decide)) rc_x rfl rfl ⟨(Nat.le_of_ble_eq_true rfl), (Nat.le_of_ble_eq_true rfl)⟩ (Nat.le_of_ble_eq_true rfl) (fun r76 g76 hp76 => ?_)
            obtain ⟨rfl, rfl⟩ := hp76
            exact hR dX4_copy_79 (cgX_f (f := 2) (by simp [x_copy, v4, v11, v30, v42, c70, cl_nI (show Q < 2 ^ 31 by omega), cl_nI (show U < 2 ^ 31 by omega)]) (by decide) (by decide) SC.rfl)
        · have v42 := bi_n c42
          have v42 := of_decide_eq_true v42
          refine j_al0 45 C dX4_copy_45 ?_
          refine j_ldc 46 C dX4_copy_46 cs_X4_189 ?_
          refine j_vi 48 C dX4_copy_48 mv_X4_finding lk_X4_58 (c_X4_finding (f := 5) (by decide) (by decide)) rc_x rfl rfl ⟨(Nat.le_of_ble_eq_true rfl), (Nat.le_of_ble_eq_true rfl)⟩ (Nat.le_of_ble_eq_true rfl) (fun r48 g48 hp48 => ?_)
          obtain ⟨rfl, rfl⟩ := hp48
          exact hR dX4_copy_51 (cgX_f (f := 5) (by simp [x_copy, v4, v11, v30, v42, cl_nI (show Q < 2 ^ 31 by omega), cl_nI (show U < 2 ^ 31 by omega)]) (by decide) (by decide) SC.rfl)
    · have v11 := bi_0 c11
      refine j_al0 14 C dX4_copy_14 ?_
      refine j_ldc 15 C dX4_copy_15 cs_X4_57 ?_
      refine j_vi 17 C dX4_copy_17 mv_X4_finding lk_X4_58 (c_X4_finding (f := 0) (by decide) (by decide)) rc_x rfl rfl ⟨(Nat.le_of_ble_eq_true rfl), (Nat.le_of_ble_eq_true rfl)⟩ (Nat.le_of_ble_eq_true rfl) (fun r17 g17 hp17 => ?_)
      obtain ⟨rfl, rfl⟩ := hp17
      exact hR dX4_copy_20 (cgX_f (f := 0) (by simp [x_copy, v4, v11]) (by decide) (by decide) SC.rfl)
set_option maxRecDepth 20000 in
theorem c_X4_load {G : GT} {g : Mem} (hS : SI (g 0)) {T : Nat} (hT : g 0 1 = nI T) (hTb : T ≤ 31000) (hH : HI g) {s : Int32} : Cti G yX4_load cX4_load 5 .int 2 42 [.ref (xo G), .int s] g (fun r g' => cgX (x_load s g) g r g') := by
  refine ent_i (by decide) (Nat.le_of_ble_eq_true rfl) [some (.ref (xo G)), some (.int s), none, none, none] rfl ?_
  intro X C hR
  have C : CX X G RX4 cX4_load 5 2 42 := C
  refine j_il1 0 C dX4_load_0 ?_
  refine j_si 1 C dX4_load_1 ms_X4_isSheet lk_X4_183 (c_X4_isSheet) rfl rfl ⟨(Nat.le_of_ble_eq_true rfl), (Nat.le_of_ble_eq_true rfl)⟩ (Nat.le_of_ble_eq_true rfl) (fun r1 g1 hp1 => ?_)
  obtain ⟨rfl, rfl⟩ := hp1
  refine j_ifne 4 14 C dX4_load_4 (by decide) (fun c4 => ?_) (fun c4 => ?_)
  · have v4 := bi_n c4
    obtain ⟨Q, hQ, rfl⟩ := inr_nat (n := 3) (by decide) v4
    have ht4 : Q < 4 := by omega
    obtain ⟨hbits, Z, hZ, hz⟩ := hH Q ht4
    refine j_al0 14 C dX4_load_14 ?_
    refine jg_X4_34 15 C dX4_load_15 ?_
    refine j_il1 18 C dX4_load_18 ?_
    refine jl_hs 19 (by omega) C dX4_load_19 ?_
    refine j_vi 20 C dX4_load_20 mv_X2_isMissing lk_X4_186 (c_X2_isMissing ht4) (rc_s ht4) rfl rfl ⟨(Nat.le_of_ble_eq_true rfl), (Nat.le_of_ble_eq_true rfl)⟩ (Nat.le_of_ble_eq_true rfl) (fun r20 g20 hp20 => ?_)
    obtain ⟨rfl, rfl⟩ := hp20
    refine j_ifeq 23 33 C dX4_load_23 (by decide) (fun c23 => ?_) (fun c23 => ?_)
    · have v23 := bi_0 c23
      have v23 := of_decide_eq_false v23
      obtain ⟨MN, hMN⟩ : ∃ n, n = min Z 8 := ⟨_, rfl⟩
      have hMN8 : MN ≤ 8 ∧ MN ≤ Z := by omega
      have hsz : siz g Q = Z := by show cl (g (6 + Q) 1) = Z; rw [hz]; exact cl_nI (by omega)
      have loop : ∀ n k, k + n = MN → cnt (fun i => inr (num g Q i) 0 9) 0 MN = cnt (fun i => inr (num g Q i) 0 9) k (MN - k) → ∀ o : Option Value, J X G 5 (ub g 0 (lds (g 0) (num g Q) k)) 50 [some (.ref (xo G)), some (.int (nI Q)), some (.int (nI MN)), some (.int (nI k)), o] [] := by
        intro n
        induction n with
        | zero =>
          intro k hk hc o
          obtain rfl : MN = k := by omega
          refine j_il3 50 C dX4_load_50 ?_
          refine j_il2 51 C dX4_load_51 ?_
          refine j_icge 52 95 C dX4_load_52 (by decide) (fun c52 => ?_) (fun c52 => ?_)
          · have e9 := cnt_e hc
            refine j_il2 95 C dX4_load_95 ?_
            exact hR dX4_load_96 (cgX_r (by unfold x_load sx; rw [v4, if_neg (show ¬ g (6 + cl (nI Q)) 0 = 0 by rw [cl_nI (show Q < 2 ^ 31 by omega)]; exact v23), cl_nI (show Q < 2 ^ 31 by omega), hsz]; unfold ldc; rw [← hMN, e9]; rfl) rfl SC.rfl)
          · exact absurd (nI_le (Nat.le_refl _) (by omega)) c52
        | succ n ih =>
          intro k hk hc o
          refine j_il3 50 C dX4_load_50 ?_
          refine j_il2 51 C dX4_load_51 ?_
          refine j_icge 52 95 C dX4_load_52 (by decide) (fun c52 => ?_) (fun c52 => ?_)
          · exact absurd c52 (nI_ge (a := k) (b := MN) (by omega) (by omega))
          · refine j_al0 55 C dX4_load_55 ?_
            refine jg_X4_34 56 C dX4_load_56 ?_
            refine j_il1 59 C dX4_load_59 ?_
            refine jl_hs 60 (by omega) C dX4_load_60 ?_
            refine jg_X4_249 61 ht4 C dX4_load_61 ?_
            refine j_il3 64 C dX4_load_64 ?_
            refine jl_sn 65 ht4 (by omega) C dX4_load_65 ?_
            rw [ub_n (b' := 6 + Q) (b := 0) (by omega)]
            refine j_is4 66 C dX4_load_66 rfl (Nat.le_of_ble_eq_true rfl) ?_
            refine j_il4 68 C dX4_load_68 ?_
            refine j_si 70 C dX4_load_70 ms_X4_isWord lk_X4_54 (c_X4_isWord) rfl rfl ⟨(Nat.le_of_ble_eq_true rfl), (Nat.le_of_ble_eq_true rfl)⟩ (Nat.le_of_ble_eq_true rfl) (fun r70 g70 hp70 => ?_)
            obtain ⟨rfl, rfl⟩ := hp70
            refine j_ifne 73 78 C dX4_load_73 (by decide) (fun c73 => ?_) (fun c73 => ?_)
            · have v73 := bi_n c73
              have e9 := cnt_n hc (by omega) v73
              refine j_al0 78 C dX4_load_78 ?_
              refine jg_X4_12 79 C dX4_load_79 ?_
              refine j_iconst 82 C dX4_load_82 ic_0 ?_
              refine j_il3 83 C dX4_load_83 ?_
              refine j_il4 84 C dX4_load_84 ?_
              refine j_vv 86 C dX4_load_86 mv_X0_setWord lk_X4_66 (c_X0_setWord (P := 0) lt4_0 (by decide) (by omega)) (rc_d lt4_0) rfl rfl ⟨(Nat.le_of_ble_eq_true rfl), (Nat.le_of_ble_eq_true rfl)⟩ (Nat.le_of_ble_eq_true rfl) (fun g86 hp86 => ?_)
              obtain rfl := hp86
              rw [ub_ub, ub_s]
              refine j_inc3 89 C dX4_load_89 rfl (nI_inc _) (Nat.le_of_ble_eq_true rfl) ?_
              refine j_goto 92 50 C dX4_load_92 (by decide) ?_
              exact ih (k + 1) (by omega) e9 _
            · have v73 := bi_0 c73
              have e9 := cnt_s hc (by omega) v73
              refine j_il3 76 C dX4_load_76 ?_
              exact hR dX4_load_77 (cgX_r (by unfold x_load sx; rw [v4, if_neg (show ¬ g (6 + cl (nI Q)) 0 = 0 by rw [cl_nI (show Q < 2 ^ 31 by omega)]; exact v23), cl_nI (show Q < 2 ^ 31 by omega), hsz]; unfold ldc; rw [← hMN, e9]; rfl) rfl SC.rfl)
      refine j_al0 33 C dX4_load_33 ?_
      refine jg_X4_34 34 C dX4_load_34 ?_
      refine j_il1 37 C dX4_load_37 ?_
      refine jl_hs 38 (by omega) C dX4_load_38 ?_
      refine jg_X4_239 39 ht4 C dX4_load_39 ?_
      refine j_top (nI Z) hz ?_
      refine j_bipush 42 C dX4_load_42 bp_8 ?_
      refine j_mmin 44 C dX4_load_44 lk_X4_258 tw_min ⟨(Nat.le_of_ble_eq_true rfl), (Nat.le_of_ble_eq_true rfl)⟩ ?_
      refine j_top (nI MN) (by rw [min8 (by omega), hMN]) ?_
      refine j_is2 47 C dX4_load_47 rfl (Nat.le_of_ble_eq_true rfl) ?_
      refine j_iconst 48 C dX4_load_48 ic_0 ?_
      refine j_is3 49 C dX4_load_49 rfl (Nat.le_of_ble_eq_true rfl) ?_
      have h9 := loop MN 0 (Nat.zero_add _) rfl none
      rw [show ub g 0 (lds (g 0) (num g Q) 0) = g from ub_id] at h9
      exact h9
    · have v23 := bi_n c23
      have v23 := of_decide_eq_true v23
      refine j_al0 26 C dX4_load_26 ?_
      refine j_ldc 27 C dX4_load_27 cs_X4_189 ?_
      refine j_vi 29 C dX4_load_29 mv_X4_finding lk_X4_58 (c_X4_finding (f := 5) (by decide) (by decide)) rc_x rfl rfl ⟨(Nat.le_of_ble_eq_true rfl), (Nat.le_of_ble_eq_true rfl)⟩ (Nat.le_of_ble_eq_true rfl) (fun r29 g29 hp29 => ?_)
      obtain ⟨rfl, rfl⟩ := hp29
      exact hR dX4_load_32 (cgX_f (f := 5) (by simp [x_load, sx, v4, v23, cl_nI (show Q < 2 ^ 31 by omega)]) (by decide) (by decide) SC.rfl)
  · have v4 := bi_0 c4
    refine j_al0 7 C dX4_load_7 ?_
    refine j_ldc 8 C dX4_load_8 cs_X4_57 ?_
    refine j_vi 10 C dX4_load_10 mv_X4_finding lk_X4_58 (c_X4_finding (f := 0) (by decide) (by decide)) rc_x rfl rfl ⟨(Nat.le_of_ble_eq_true rfl), (Nat.le_of_ble_eq_true rfl)⟩ (Nat.le_of_ble_eq_true rfl) (fun r10 g10 hp10 => ?_)
    obtain ⟨rfl, rfl⟩ := hp10
    exact hR dX4_load_13 (cgX_f (f := 0) (by simp [x_load, sx, v4]) (by decide) (by decide) SC.rfl)
set_option maxRecDepth 20000 in
theorem c_X4_judge {G : GT} {g : Mem} (hS : SI (g 0)) {T : Nat} (hT : g 0 1 = nI T) (hTb : T ≤ 31000) (hH : HI g) {s : Int32} : Cti G yX4_judge cX4_judge 3 .int 2 45 [.ref (xo G), .int s] g (fun r g' => cgX (x_judge s g) g r g') := by
  refine ent_i (by decide) (Nat.le_of_ble_eq_true rfl) [some (.ref (xo G)), some (.int s), none] rfl ?_
  intro X C hR
  have C : CX X G RX4 cX4_judge 3 2 45 := C
  refine j_il1 0 C dX4_judge_0 ?_
  refine j_si 1 C dX4_judge_1 ms_X4_isSheet lk_X4_183 (c_X4_isSheet) rfl rfl ⟨(Nat.le_of_ble_eq_true rfl), (Nat.le_of_ble_eq_true rfl)⟩ (Nat.le_of_ble_eq_true rfl) (fun r1 g1 hp1 => ?_)
  obtain ⟨rfl, rfl⟩ := hp1
  refine j_ifne 4 14 C dX4_judge_4 (by decide) (fun c4 => ?_) (fun c4 => ?_)
  · have v4 := bi_n c4
    obtain ⟨Q, hQ, rfl⟩ := inr_nat (n := 3) (by decide) v4
    have ht4 : Q < 4 := by omega
    obtain ⟨hbits, Z, hZ, hz⟩ := hH Q ht4
    refine j_al0 14 C dX4_judge_14 ?_
    refine jg_X4_34 15 C dX4_judge_15 ?_
    refine j_il1 18 C dX4_judge_18 ?_
    refine jl_hs 19 (by omega) C dX4_judge_19 ?_
    refine j_vi 20 C dX4_judge_20 mv_X2_isMissing lk_X4_186 (c_X2_isMissing ht4) (rc_s ht4) rfl rfl ⟨(Nat.le_of_ble_eq_true rfl), (Nat.le_of_ble_eq_true rfl)⟩ (Nat.le_of_ble_eq_true rfl) (fun r20 g20 hp20 => ?_)
    obtain ⟨rfl, rfl⟩ := hp20
    refine j_ifeq 23 33 C dX4_judge_23 (by decide) (fun c23 => ?_) (fun c23 => ?_)
    · have v23 := bi_0 c23
      have v23 := of_decide_eq_false v23
      have hsz : siz g Q = Z := by show cl (g (6 + Q) 1) = Z; rw [hz]; exact cl_nI (by omega)
      have loop : ∀ n k, k + n = Z → cnt (fun i => decide (i < 6) && decide (num g Q i = ss (g 0) i 8)) 0 Z = cnt (fun i => decide (i < 6) && decide (num g Q i = ss (g 0) i 8)) k (Z - k) → J X G 3 g 35 [some (.ref (xo G)), some (.int (nI Q)), some (.int (nI k))] [] := by
        intro n
        induction n with
        | zero =>
          intro k hk hc
          obtain rfl : Z = k := by omega
          refine j_il2 35 C dX4_judge_35 ?_
          refine j_al0 36 C dX4_judge_36 ?_
          refine jg_X4_34 37 C dX4_judge_37 ?_
          refine j_il1 40 C dX4_judge_40 ?_
          refine jl_hs 41 (by omega) C dX4_judge_41 ?_
          refine jg_X4_239 42 ht4 C dX4_judge_42 ?_
          refine j_top (nI Z) hz ?_
          refine j_icge 45 87 C dX4_judge_45 (by decide) (fun c45 => ?_) (fun c45 => ?_)
          · have e9 := cnt_e hc
            have hj : jdr (g 0) (num g Q) Z = 0 := by unfold jdr jdc; rw [e9]; exact if_neg (Nat.lt_irrefl Z)
            refine j_iconst 87 C dX4_judge_87 ic_0 ?_
            exact hR dX4_judge_88 (cgX_r (by unfold x_judge sx; rw [v4, if_neg (show ¬ g (6 + cl (nI Q)) 0 = 0 by rw [cl_nI (show Q < 2 ^ 31 by omega)]; exact v23), cl_nI (show Q < 2 ^ 31 by omega), hsz, hj]; rfl) rfl SC.rfl)
          · exact absurd (nI_le (Nat.le_refl _) (by omega)) c45
        | succ n ih =>
          intro k hk hc
          refine j_il2 35 C dX4_judge_35 ?_
          refine j_al0 36 C dX4_judge_36 ?_
          refine jg_X4_34 37 C dX4_judge_37 ?_
          refine j_il1 40 C dX4_judge_40 ?_
          refine jl_hs 41 (by omega) C dX4_judge_41 ?_
          refine jg_X4_239 42 ht4 C dX4_judge_42 ?_
          refine j_top (nI Z) hz ?_
          refine j_icge 45 87 C dX4_judge_45 (by decide) (fun c45 => ?_) (fun c45 => ?_)
          · exact absurd c45 (nI_ge (a := k) (b := Z) (by omega) (by omega))
          · refine j_il2 48 C dX4_judge_48 ?_
            refine j_si 49 C dX4_judge_49 ms_X4_isPage lk_X4_47 (c_X4_isPage) rfl rfl ⟨(Nat.le_of_ble_eq_true rfl), (Nat.le_of_ble_eq_true rfl)⟩ (Nat.le_of_ble_eq_true rfl) (fun r49 g49 hp49 => ?_)
            obtain ⟨rfl, rfl⟩ := hp49
            refine j_ifeq 52 77 C dX4_judge_52 (by decide) (fun c52 => ?_) (fun c52 => ?_)
            · have v52 := bi_0 c52
              have hk6 : ¬ k < 6 := fun q => by rw [show inr (nI k) 0 5 = true from inr_nI (n := 5) (by omega) (by decide)] at v52; cases v52
              have e9 := cnt_s hc (by omega) (show (decide (k < 6) && decide (num g Q k = ss (g 0) k 8)) = false by rw [decide_eq_false hk6]; rfl)
              have hj : jdr (g 0) (num g Q) Z = nI (1 + k) := by unfold jdr jdc; rw [e9]; exact if_pos (by omega)
              refine j_iconst 77 C dX4_judge_77 ic_1 ?_
              refine j_il2 78 C dX4_judge_78 ?_
              refine j_iadd 79 C dX4_judge_79 ?_
              exact hR dX4_judge_80 (cgX_r (by unfold x_judge sx; rw [v4, if_neg (show ¬ g (6 + cl (nI Q)) 0 = 0 by rw [cl_nI (show Q < 2 ^ 31 by omega)]; exact v23), cl_nI (show Q < 2 ^ 31 by omega), hsz, hj]; rfl) (nI_add 1 k) SC.rfl)
            · have v52 := bi_n c52
              have hk6 : k < 6 := by obtain ⟨j, hj, ej⟩ := inr_nat (n := 5) (by decide) v52; have := (nI_eq (by omega) (by omega)).mp ej; omega
              refine j_al0 55 C dX4_judge_55 ?_
              refine jg_X4_34 56 C dX4_judge_56 ?_
              refine j_il1 59 C dX4_judge_59 ?_
              refine jl_hs 60 (by omega) C dX4_judge_60 ?_
              refine jg_X4_249 61 ht4 C dX4_judge_61 ?_
              refine j_il2 64 C dX4_judge_64 ?_
              refine jl_sn 65 ht4 (by omega) C dX4_judge_65 ?_
              refine j_al0 66 C dX4_judge_66 ?_
              refine jg_X4_12 67 C dX4_judge_67 ?_
              refine j_il2 70 C dX4_judge_70 ?_
              refine j_vi 71 C dX4_judge_71 mv_X0_saidBy lk_X4_70 (c_X0_saidBy lt4_0 hk6) (rc_d lt4_0) rfl rfl ⟨(Nat.le_of_ble_eq_true rfl), (Nat.le_of_ble_eq_true rfl)⟩ (Nat.le_of_ble_eq_true rfl) (fun r71 g71 hp71 => ?_)
              obtain ⟨rfl, rfl⟩ := hp71
              refine j_iceq 74 81 C dX4_judge_74 (by decide) (fun c74 => ?_) (fun c74 => ?_)
              · have e9 := cnt_n hc (by omega) (show (decide (k < 6) && decide (num g Q k = ss (g 0) k 8)) = true by rw [decide_eq_true hk6, decide_eq_true c74]; rfl)
                refine j_inc2 81 C dX4_judge_81 rfl (nI_inc _) (Nat.le_of_ble_eq_true rfl) ?_
                refine j_goto 84 35 C dX4_judge_84 (by decide) ?_
                exact ih (k + 1) (by omega) e9
              · have e9 := cnt_s hc (by omega) (show (decide (k < 6) && decide (num g Q k = ss (g 0) k 8)) = false by rw [decide_eq_false c74]; simp)
                have hj : jdr (g 0) (num g Q) Z = nI (1 + k) := by unfold jdr jdc; rw [e9]; exact if_pos (by omega)
                refine j_iconst 77 C dX4_judge_77 ic_1 ?_
                refine j_il2 78 C dX4_judge_78 ?_
                refine j_iadd 79 C dX4_judge_79 ?_
                exact hR dX4_judge_80 (cgX_r (by unfold x_judge sx; rw [v4, if_neg (show ¬ g (6 + cl (nI Q)) 0 = 0 by rw [cl_nI (show Q < 2 ^ 31 by omega)]; exact v23), cl_nI (show Q < 2 ^ 31 by omega), hsz, hj]; rfl) (nI_add 1 k) SC.rfl)
      refine j_iconst 33 C dX4_judge_33 ic_0 ?_
      refine j_is2 34 C dX4_judge_34 rfl (Nat.le_of_ble_eq_true rfl) ?_
      exact loop Z 0 (Nat.zero_add _) rfl
    · have v23 := bi_n c23
      have v23 := of_decide_eq_true v23
      refine j_al0 26 C dX4_judge_26 ?_
      refine j_ldc 27 C dX4_judge_27 cs_X4_189 ?_
      refine j_vi 29 C dX4_judge_29 mv_X4_finding lk_X4_58 (c_X4_finding (f := 5) (by decide) (by decide)) rc_x rfl rfl ⟨(Nat.le_of_ble_eq_true rfl), (Nat.le_of_ble_eq_true rfl)⟩ (Nat.le_of_ble_eq_true rfl) (fun r29 g29 hp29 => ?_)
      obtain ⟨rfl, rfl⟩ := hp29
      exact hR dX4_judge_32 (cgX_f (f := 5) (by simp [x_judge, sx, v4, v23, cl_nI (show Q < 2 ^ 31 by omega)]) (by decide) (by decide) SC.rfl)
  · have v4 := bi_0 c4
    refine j_al0 7 C dX4_judge_7 ?_
    refine j_ldc 8 C dX4_judge_8 cs_X4_57 ?_
    refine j_vi 10 C dX4_judge_10 mv_X4_finding lk_X4_58 (c_X4_finding (f := 0) (by decide) (by decide)) rc_x rfl rfl ⟨(Nat.le_of_ble_eq_true rfl), (Nat.le_of_ble_eq_true rfl)⟩ (Nat.le_of_ble_eq_true rfl) (fun r10 g10 hp10 => ?_)
    obtain ⟨rfl, rfl⟩ := hp10
    exact hR dX4_judge_13 (cgX_f (f := 0) (by simp [x_judge, sx, v4]) (by decide) (by decide) SC.rfl)
set_option maxRecDepth 20000 in
theorem c_X4_fits {G : GT} {g : Mem} (hS : SI (g 0)) {T : Nat} (hT : g 0 1 = nI T) (hTb : T ≤ 31000) (hH : HI g) {s p k n : Int32} : Cti G yX4_fits cX4_fits 7 .int 5 120 [.ref (xo G), .int s, .int p, .int k, .int n] g (fun r g' => cgX (x_fits s p k n g) g r g') := by
  refine ent_i (by decide) (Nat.le_of_ble_eq_true rfl) [some (.ref (xo G)), some (.int s), some (.int p), some (.int k), some (.int n), none, none] rfl ?_
  intro X C hR
  have C : CX X G RX4 cX4_fits 7 5 120 := C
  refine j_il1 0 C dX4_fits_0 ?_
  refine j_si 1 C dX4_fits_1 ms_X4_isSheet lk_X4_183 (c_X4_isSheet) rfl rfl ⟨(Nat.le_of_ble_eq_true rfl), (Nat.le_of_ble_eq_true rfl)⟩ (Nat.le_of_ble_eq_true rfl) (fun r1 g1 hp1 => ?_)
  obtain ⟨rfl, rfl⟩ := hp1
  refine j_ifne 4 14 C dX4_fits_4 (by decide) (fun c4 => ?_) (fun c4 => ?_)
  · have v4 := bi_n c4
    obtain ⟨Q, hQ, rfl⟩ := inr_nat (n := 3) (by decide) v4
    have ht4 : Q < 4 := by omega
    obtain ⟨hbits, Z, hZ, hz⟩ := hH Q ht4
    refine j_al0 14 C dX4_fits_14 ?_
    refine jg_X4_34 15 C dX4_fits_15 ?_
    refine j_il1 18 C dX4_fits_18 ?_
    refine jl_hs 19 (by omega) C dX4_fits_19 ?_
    refine j_vi 20 C dX4_fits_20 mv_X2_isMissing lk_X4_186 (c_X2_isMissing ht4) (rc_s ht4) rfl rfl ⟨(Nat.le_of_ble_eq_true rfl), (Nat.le_of_ble_eq_true rfl)⟩ (Nat.le_of_ble_eq_true rfl) (fun r20 g20 hp20 => ?_)
    obtain ⟨rfl, rfl⟩ := hp20
    refine j_ifeq 23 33 C dX4_fits_23 (by decide) (fun c23 => ?_) (fun c23 => ?_)
    · have v23 := bi_0 c23
      have v23 := of_decide_eq_false v23
      refine j_il2 33 C dX4_fits_33 ?_
      refine j_si 34 C dX4_fits_34 ms_X4_isPage lk_X4_47 (c_X4_isPage) rfl rfl ⟨(Nat.le_of_ble_eq_true rfl), (Nat.le_of_ble_eq_true rfl)⟩ (Nat.le_of_ble_eq_true rfl) (fun r34 g34 hp34 => ?_)
      obtain ⟨rfl, rfl⟩ := hp34
      refine j_ifeq 37 58 C dX4_fits_37 (by decide) (fun c37 => ?_) (fun c37 => ?_)
      · have v37 := bi_0 c37
        refine j_al0 58 C dX4_fits_58 ?_
        refine j_ldc 59 C dX4_fits_59 cs_X4_57 ?_
        refine j_vi 61 C dX4_fits_61 mv_X4_finding lk_X4_58 (c_X4_finding (f := 0) (by decide) (by decide)) rc_x rfl rfl ⟨(Nat.le_of_ble_eq_true rfl), (Nat.le_of_ble_eq_true rfl)⟩ (Nat.le_of_ble_eq_true rfl) (fun r61 g61 hp61 => ?_)
        obtain ⟨rfl, rfl⟩ := hp61
        exact hR dX4_fits_64 (cgX_f (f := 0) (by simp [x_fits, sx, v4, v23, v37, cl_nI (show Q < 2 ^ 31 by omega)]) (by decide) (by decide) SC.rfl)
      · have v37 := bi_n c37
        refine j_il3 40 C dX4_fits_40 ?_
        refine j_si 41 C dX4_fits_41 ms_X4_isPlace lk_X4_51 (c_X4_isPlace) rfl rfl ⟨(Nat.le_of_ble_eq_true rfl), (Nat.le_of_ble_eq_true rfl)⟩ (Nat.le_of_ble_eq_true rfl) (fun r41 g41 hp41 => ?_)
        obtain ⟨rfl, rfl⟩ := hp41
        refine j_ifeq 44 58 C dX4_fits_44 (by decide) (fun c44 => ?_) (fun c44 => ?_)
        · have v44 := bi_0 c44
          refine j_al0 58 C dX4_fits_58 ?_
          refine j_ldc 59 C dX4_fits_59 cs_X4_57 ?_
          refine j_vi 61 C dX4_fits_61 mv_X4_finding lk_X4_58 (c_X4_finding (f := 0) (by decide) (by decide)) rc_x rfl rfl ⟨(Nat.le_of_ble_eq_true rfl), (Nat.le_of_ble_eq_true rfl)⟩ (Nat.le_of_ble_eq_true rfl) (fun r61 g61 hp61 => ?_)
          obtain ⟨rfl, rfl⟩ := hp61
          exact hR dX4_fits_64 (cgX_f (f := 0) (by simp [x_fits, sx, v4, v23, v37, v44, cl_nI (show Q < 2 ^ 31 by omega)]) (by decide) (by decide) SC.rfl)
        · have v44 := bi_n c44
          refine j_il4 47 C dX4_fits_47 ?_
          refine j_iconst 49 C dX4_fits_49 ic_0 ?_
          refine j_bipush 50 C dX4_fits_50 bp_20 ?_
          refine j_si 52 C dX4_fits_52 ms_X4_within lk_X4_99 (c_X4_within) rfl rfl ⟨(Nat.le_of_ble_eq_true rfl), (Nat.le_of_ble_eq_true rfl)⟩ (Nat.le_of_ble_eq_true rfl) (fun r52 g52 hp52 => ?_)
          obtain ⟨rfl, rfl⟩ := hp52
          refine j_ifne 55 65 C dX4_fits_55 (by decide) (fun c55 => ?_) (fun c55 => ?_)
          · have v55 := bi_n c55
            obtain ⟨P, hP, rfl⟩ := inr_nat (n := 5) (by decide) v37
            obtain ⟨K, hK, rfl⟩ := inr_nat (n := 7) (by decide) v44
            obtain ⟨N, hN, rfl⟩ := inr_nat (n := 20) (by decide) v55
            have hsz : siz g Q = Z := by show cl (g (6 + Q) 1) = Z; rw [hz]; exact cl_nI (by omega)
            have loop : ∀ n k, k + n = 10 → ∀ E : Row, J X G 7 (ub g 2 E) 71 [some (.ref (xo G)), some (.int (nI Q)), some (.int (nI P)), some (.int (nI K)), some (.int (nI N)), some (.int (bs (fitv (g 0) (num g Q) Z P K N) k)), some (.int (nI k))] [] := by
              intro n
              induction n with
              | zero =>
                intro k hk E
                obtain rfl : k = 10 := by omega
                refine j_il6 71 C dX4_fits_71 ?_
                refine j_bipush 73 C dX4_fits_73 bp_9 ?_
                refine j_icgt 75 139 C dX4_fits_75 (by decide) (fun c75 => ?_) (fun c75 => ?_)
                · refine j_il5 139 C dX4_fits_139 ?_
                  exact hR dX4_fits_141 (cgX_r (by unfold x_fits sx; rw [v4, if_neg (show ¬ g (6 + cl (nI Q)) 0 = 0 by rw [cl_nI (show Q < 2 ^ 31 by omega)]; exact v23), v37, v44, v55, cl_nI (show Q < 2 ^ 31 by omega), cl_nI (show P < 2 ^ 31 by omega), cl_nI (show K < 2 ^ 31 by omega), cl_nI (show N < 2 ^ 31 by omega), hsz]; rfl) rfl (SC_ub (Or.inl rfl)))
                · exact absurd (by decide) c75
              | succ n ih =>
                intro k hk E
                refine j_il6 71 C dX4_fits_71 ?_
                refine j_bipush 73 C dX4_fits_73 bp_9 ?_
                refine j_icgt 75 139 C dX4_fits_75 (by decide) (fun c75 => ?_) (fun c75 => ?_)
                · exact absurd c75 (nI_nlt (a := 9) (b := k) (by omega) (by decide))
                · have hSv : SI (upd (g 0) (3 + (8 * P + K)) (nI k)) := SI_wd hS (by omega) (by omega)
                  have hTv : upd (g 0) (3 + (8 * P + K)) (nI k) 1 = nI T := by rw [upd_n (by omega)]; exact hT
                  refine j_al0 78 C dX4_fits_78 ?_
                  refine jg_X4_19 79 C dX4_fits_79 ?_
                  refine j_al0 82 C dX4_fits_82 ?_
                  refine jg_X4_12 83 C dX4_fits_83 ?_
                  refine j_vv 86 C dX4_fits_86 mv_X0_become lk_X4_168 (c_X0_become lt4_2 lt4_0 (by decide)) (rc_d lt4_2) rfl rfl ⟨(Nat.le_of_ble_eq_true rfl), (Nat.le_of_ble_eq_true rfl)⟩ (Nat.le_of_ble_eq_true rfl) (fun g86 hp86 => ?_)
                  obtain rfl := hp86
                  rw [ub_ub, ub_n (b' := 0) (b := 2) (by decide)]
                  refine j_al0 89 C dX4_fits_89 ?_
                  refine jg_X4_19 90 C dX4_fits_90 ?_
                  refine j_il2 93 C dX4_fits_93 ?_
                  refine j_il3 94 C dX4_fits_94 ?_
                  refine j_il6 95 C dX4_fits_95 ?_
                  refine j_vv 97 C dX4_fits_97 mv_X0_setWord lk_X4_66 (c_X0_setWord lt4_2 (by omega) (by omega)) (rc_d lt4_2) rfl rfl ⟨(Nat.le_of_ble_eq_true rfl), (Nat.le_of_ble_eq_true rfl)⟩ (Nat.le_of_ble_eq_true rfl) (fun g97 hp97 => ?_)
                  obtain rfl := hp97
                  rw [ub_ub, ub_s]
                  refine j_al0 100 C dX4_fits_100 ?_
                  refine jg_X4_19 101 C dX4_fits_101 ?_
                  refine j_il4 104 C dX4_fits_104 ?_
                  refine j_iconst 106 C dX4_fits_106 ic_0 ?_
                  refine j_vv 107 C dX4_fits_107 mv_X0_passNights lk_X4_132 (c_X0_passNights (O := 0) lt4_2 (by decide) (by rw [ub_s]; exact hSv) (by rw [ub_s]; exact hTv) (by omega)) (rc_d lt4_2) rfl rfl ⟨(Nat.le_of_ble_eq_true rfl), (Nat.le_of_ble_eq_true rfl)⟩ (Nat.le_of_ble_eq_true rfl) (fun g107 hp107 => ?_)
                  obtain rfl := hp107
                  rw [ub_ub, ub_s]
                  refine j_al0 110 C dX4_fits_110 ?_
                  refine j_al0 111 C dX4_fits_111 ?_
                  refine jg_X4_34 112 C dX4_fits_112 ?_
                  refine j_il1 115 C dX4_fits_115 ?_
                  refine jl_hs 116 (by omega) C dX4_fits_116 ?_
                  refine j_il2 117 C dX4_fits_117 ?_
                  refine j_vi 118 C dX4_fits_118 mv_X4_isPageAsTold lk_X4_190 (c_X4_isPageAsTold ht4 (by omega) hZ (by rw [ub_n (by omega)]; exact hz)) rc_x rfl rfl ⟨(Nat.le_of_ble_eq_true rfl), (Nat.le_of_ble_eq_true rfl)⟩ (Nat.le_of_ble_eq_true rfl) (fun r118 g118 hp118 => ?_)
                  obtain ⟨hr118, rfl⟩ := hp118
                  rw [ub_s] at hr118
                  have hr118 : r118 = bi (fitv (g 0) (num g Q) Z P K N k) := by rw [hr118]; unfold fitv; congr 1; exact al_congr (fun j _ => by unfold told num; rw [ub_n (by omega)])
                  subst hr118
                  refine j_ifeq 121 133 C dX4_fits_121 (by decide) (fun c121 => ?_) (fun c121 => ?_)
                  · have e : bs (fitv (g 0) (num g Q) Z P K N) (k + 1) = bs (fitv (g 0) (num g Q) Z P K N) k := if_neg (by rw [show (fitv (g 0) (num g Q) Z P K N) k = false from bi_0 c121]; decide)
                    refine j_inc6 133 C dX4_fits_133 rfl (nI_inc _) (Nat.le_of_ble_eq_true rfl) ?_
                    refine j_goto 136 71 C dX4_fits_136 (by decide) ?_
                    rw [← e]
                    exact ih (k + 1) (by omega) _
                  · have e : bs (fitv (g 0) (num g Q) Z P K N) (k + 1) = bs (fitv (g 0) (num g Q) Z P K N) k ||| (1 <<< (nI k &&& 31)) := if_pos (bi_n c121)
                    refine j_il5 124 C dX4_fits_124 ?_
                    refine j_iconst 126 C dX4_fits_126 ic_1 ?_
                    refine j_il6 127 C dX4_fits_127 ?_
                    refine j_ishl 129 C dX4_fits_129 ?_
                    refine j_ior 130 C dX4_fits_130 ?_
                    refine j_is5 131 C dX4_fits_131 rfl (Nat.le_of_ble_eq_true rfl) ?_
                    refine j_inc6 133 C dX4_fits_133 rfl (nI_inc _) (Nat.le_of_ble_eq_true rfl) ?_
                    refine j_goto 136 71 C dX4_fits_136 (by decide) ?_
                    rw [← e]
                    exact ih (k + 1) (by omega) _
            refine j_iconst 65 C dX4_fits_65 ic_0 ?_
            refine j_is5 66 C dX4_fits_66 rfl (Nat.le_of_ble_eq_true rfl) ?_
            refine j_iconst 68 C dX4_fits_68 ic_0 ?_
            refine j_is6 69 C dX4_fits_69 rfl (Nat.le_of_ble_eq_true rfl) ?_
            have h9 := loop 10 0 rfl (g 2)
            rw [ub_id] at h9
            exact h9
          · have v55 := bi_0 c55
            refine j_al0 58 C dX4_fits_58 ?_
            refine j_ldc 59 C dX4_fits_59 cs_X4_57 ?_
            refine j_vi 61 C dX4_fits_61 mv_X4_finding lk_X4_58 (c_X4_finding (f := 0) (by decide) (by decide)) rc_x rfl rfl ⟨(Nat.le_of_ble_eq_true rfl), (Nat.le_of_ble_eq_true rfl)⟩ (Nat.le_of_ble_eq_true rfl) (fun r61 g61 hp61 => ?_)
            obtain ⟨rfl, rfl⟩ := hp61
            exact hR dX4_fits_64 (cgX_f (f := 0) (by simp [x_fits, sx, v4, v23, v37, v44, v55, cl_nI (show Q < 2 ^ 31 by omega)]) (by decide) (by decide) SC.rfl)
    · have v23 := bi_n c23
      have v23 := of_decide_eq_true v23
      refine j_al0 26 C dX4_fits_26 ?_
      refine j_ldc 27 C dX4_fits_27 cs_X4_189 ?_
      refine j_vi 29 C dX4_fits_29 mv_X4_finding lk_X4_58 (c_X4_finding (f := 5) (by decide) (by decide)) rc_x rfl rfl ⟨(Nat.le_of_ble_eq_true rfl), (Nat.le_of_ble_eq_true rfl)⟩ (Nat.le_of_ble_eq_true rfl) (fun r29 g29 hp29 => ?_)
      obtain ⟨rfl, rfl⟩ := hp29
      exact hR dX4_fits_32 (cgX_f (f := 5) (by simp [x_fits, sx, v4, v23, cl_nI (show Q < 2 ^ 31 by omega)]) (by decide) (by decide) SC.rfl)
  · have v4 := bi_0 c4
    refine j_al0 7 C dX4_fits_7 ?_
    refine j_ldc 8 C dX4_fits_8 cs_X4_57 ?_
    refine j_vi 10 C dX4_fits_10 mv_X4_finding lk_X4_58 (c_X4_finding (f := 0) (by decide) (by decide)) rc_x rfl rfl ⟨(Nat.le_of_ble_eq_true rfl), (Nat.le_of_ble_eq_true rfl)⟩ (Nat.le_of_ble_eq_true rfl) (fun r10 g10 hp10 => ?_)
    obtain ⟨rfl, rfl⟩ := hp10
    exact hR dX4_fits_13 (cgX_f (f := 0) (by simp [x_fits, sx, v4]) (by decide) (by decide) SC.rfl)
set_option maxRecDepth 20000 in
theorem c_X4_kinds {G : GT} {g : Mem} (hS : SI (g 0)) {T : Nat} (hT : g 0 1 = nI T) (hTb : T ≤ 31000) (hH : HI g) {s m : Int32} : Cti G yX4_kinds cX4_kinds 5 .int 6 143 [.ref (xo G), .int s, .int m] g (fun r g' => cgX (x_kinds s m g) g r g') := by
  refine ent_i (by decide) (Nat.le_of_ble_eq_true rfl) [some (.ref (xo G)), some (.int s), some (.int m), none, none] rfl ?_
  intro X C hR
  have C : CX X G RX4 cX4_kinds 5 6 143 := C
  refine j_il1 0 C dX4_kinds_0 ?_
  refine j_si 1 C dX4_kinds_1 ms_X4_isSheet lk_X4_183 (c_X4_isSheet) rfl rfl ⟨(Nat.le_of_ble_eq_true rfl), (Nat.le_of_ble_eq_true rfl)⟩ (Nat.le_of_ble_eq_true rfl) (fun r1 g1 hp1 => ?_)
  obtain ⟨rfl, rfl⟩ := hp1
  refine j_ifne 4 14 C dX4_kinds_4 (by decide) (fun c4 => ?_) (fun c4 => ?_)
  · have v4 := bi_n c4
    obtain ⟨Q, hQ, rfl⟩ := inr_nat (n := 3) (by decide) v4
    have ht4 : Q < 4 := by omega
    obtain ⟨hbits, Z, hZ, hz⟩ := hH Q ht4
    refine j_al0 14 C dX4_kinds_14 ?_
    refine jg_X4_34 15 C dX4_kinds_15 ?_
    refine j_il1 18 C dX4_kinds_18 ?_
    refine jl_hs 19 (by omega) C dX4_kinds_19 ?_
    refine j_vi 20 C dX4_kinds_20 mv_X2_isMissing lk_X4_186 (c_X2_isMissing ht4) (rc_s ht4) rfl rfl ⟨(Nat.le_of_ble_eq_true rfl), (Nat.le_of_ble_eq_true rfl)⟩ (Nat.le_of_ble_eq_true rfl) (fun r20 g20 hp20 => ?_)
    obtain ⟨rfl, rfl⟩ := hp20
    refine j_ifeq 23 33 C dX4_kinds_23 (by decide) (fun c23 => ?_) (fun c23 => ?_)
    · have v23 := bi_0 c23
      have v23 := of_decide_eq_false v23
      refine j_al0 33 C dX4_kinds_33 ?_
      refine j_il2 34 C dX4_kinds_34 ?_
      refine j_vi 35 C dX4_kinds_35 mv_X4_isMoth lk_X4_96 (c_X4_isMoth) rc_x rfl rfl ⟨(Nat.le_of_ble_eq_true rfl), (Nat.le_of_ble_eq_true rfl)⟩ (Nat.le_of_ble_eq_true rfl) (fun r35 g35 hp35 => ?_)
      obtain ⟨rfl, rfl⟩ := hp35
      refine j_ifne 38 48 C dX4_kinds_38 (by decide) (fun c38 => ?_) (fun c38 => ?_)
      · have v38 := bi_n c38
        obtain ⟨hM8, hM0⟩ := SI_cl0 hS
        obtain ⟨M, hM, rfl⟩ := isM_nat hM0 hM8 v38
        have hsz : siz g Q = Z := by show cl (g (6 + Q) 1) = Z; rw [hz]; exact cl_nI (by omega)
        have loop : ∀ n k, k + n = 7 → ∀ E : Row, J X G 5 (ub g 2 E) 53 [some (.ref (xo G)), some (.int (nI Q)), some (.int (nI M)), some (.int (bs (kinv (g 0) (num g Q) Z M) k)), some (.int (nI k))] [] := by
          intro n
          induction n with
          | zero =>
            intro k hk E
            obtain rfl : k = 7 := by omega
            refine j_il4 53 C dX4_kinds_53 ?_
            refine j_bipush 55 C dX4_kinds_55 bp_7 ?_
            refine j_icge 57 109 C dX4_kinds_57 (by decide) (fun c57 => ?_) (fun c57 => ?_)
            · refine j_il3 109 C dX4_kinds_109 ?_
              exact hR dX4_kinds_110 (cgX_r (by unfold x_kinds sx; rw [v4, if_neg (show ¬ g (6 + cl (nI Q)) 0 = 0 by rw [cl_nI (show Q < 2 ^ 31 by omega)]; exact v23), v38, cl_nI (show Q < 2 ^ 31 by omega), cl_nI (show M < 2 ^ 31 by omega), hsz]; rfl) rfl (SC_ub (Or.inl rfl)))
            · exact absurd (by decide) c57
          | succ n ih =>
            intro k hk E
            refine j_il4 53 C dX4_kinds_53 ?_
            refine j_bipush 55 C dX4_kinds_55 bp_7 ?_
            refine j_icge 57 109 C dX4_kinds_57 (by decide) (fun c57 => ?_) (fun c57 => ?_)
            · exact absurd c57 (nI_ge (a := k) (b := 7) (by omega) (by decide))
            · have hSv : SI (upd (g 0) (51 + (4 * M + 0)) (nI k)) := SI_tr hS (by omega) (by omega) (show k ≤ 6 by omega)
              have hTv : upd (g 0) (51 + (4 * M + 0)) (nI k) 1 = nI T := by rw [upd_n (by omega)]; exact hT
              refine j_al0 60 C dX4_kinds_60 ?_
              refine jg_X4_19 61 C dX4_kinds_61 ?_
              refine j_al0 64 C dX4_kinds_64 ?_
              refine jg_X4_12 65 C dX4_kinds_65 ?_
              refine j_vv 68 C dX4_kinds_68 mv_X0_become lk_X4_168 (c_X0_become lt4_2 lt4_0 (by decide)) (rc_d lt4_2) rfl rfl ⟨(Nat.le_of_ble_eq_true rfl), (Nat.le_of_ble_eq_true rfl)⟩ (Nat.le_of_ble_eq_true rfl) (fun g68 hp68 => ?_)
              obtain rfl := hp68
              rw [ub_ub, ub_n (b' := 0) (b := 2) (by decide)]
              refine j_al0 71 C dX4_kinds_71 ?_
              refine jg_X4_19 72 C dX4_kinds_72 ?_
              refine j_il2 75 C dX4_kinds_75 ?_
              refine j_iconst 76 C dX4_kinds_76 ic_0 ?_
              refine j_il4 77 C dX4_kinds_77 ?_
              refine j_vv 79 C dX4_kinds_79 mv_X0_setTrait lk_X4_115 (c_X0_setTrait (W := 0) lt4_2 (by omega) (by decide)) (rc_d lt4_2) rfl rfl ⟨(Nat.le_of_ble_eq_true rfl), (Nat.le_of_ble_eq_true rfl)⟩ (Nat.le_of_ble_eq_true rfl) (fun g79 hp79 => ?_)
              obtain rfl := hp79
              rw [ub_ub, ub_s]
              refine j_al0 82 C dX4_kinds_82 ?_
              refine j_al0 83 C dX4_kinds_83 ?_
              refine jg_X4_34 84 C dX4_kinds_84 ?_
              refine j_il1 87 C dX4_kinds_87 ?_
              refine jl_hs 88 (by omega) C dX4_kinds_88 ?_
              refine j_il2 89 C dX4_kinds_89 ?_
              refine j_vi 90 C dX4_kinds_90 mv_X4_isFedAsTold lk_X4_194 (c_X4_isFedAsTold ht4 (by omega) (by rw [ub_s]; exact hSv) (by rw [ub_s]; exact hTv) hTb hZ (by rw [ub_n (by omega)]; exact hz)) rc_x rfl rfl ⟨(Nat.le_of_ble_eq_true rfl), (Nat.le_of_ble_eq_true rfl)⟩ (Nat.le_of_ble_eq_true rfl) (fun r90 g90 hp90 => ?_)
              obtain ⟨hr90, E2, rfl⟩ := hp90
              rw [ub_s] at hr90
              have hr90 : r90 = bi (kinv (g 0) (num g Q) Z M k) := by rw [hr90]; unfold kinv; congr 1; exact al_congr (fun j _ => by unfold fedt num; rw [ub_n (by omega)])
              subst hr90
              rw [ub_ub]
              refine j_ifeq 93 103 C dX4_kinds_93 (by decide) (fun c93 => ?_) (fun c93 => ?_)
              · have e : bs (kinv (g 0) (num g Q) Z M) (k + 1) = bs (kinv (g 0) (num g Q) Z M) k := if_neg (by rw [show (kinv (g 0) (num g Q) Z M) k = false from bi_0 c93]; decide)
                refine j_inc4 103 C dX4_kinds_103 rfl (nI_inc _) (Nat.le_of_ble_eq_true rfl) ?_
                refine j_goto 106 53 C dX4_kinds_106 (by decide) ?_
                rw [← e]
                exact ih (k + 1) (by omega) _
              · have e : bs (kinv (g 0) (num g Q) Z M) (k + 1) = bs (kinv (g 0) (num g Q) Z M) k ||| (1 <<< (nI k &&& 31)) := if_pos (bi_n c93)
                refine j_il3 96 C dX4_kinds_96 ?_
                refine j_iconst 97 C dX4_kinds_97 ic_1 ?_
                refine j_il4 98 C dX4_kinds_98 ?_
                refine j_ishl 100 C dX4_kinds_100 ?_
                refine j_ior 101 C dX4_kinds_101 ?_
                refine j_is3 102 C dX4_kinds_102 rfl (Nat.le_of_ble_eq_true rfl) ?_
                refine j_inc4 103 C dX4_kinds_103 rfl (nI_inc _) (Nat.le_of_ble_eq_true rfl) ?_
                refine j_goto 106 53 C dX4_kinds_106 (by decide) ?_
                rw [← e]
                exact ih (k + 1) (by omega) _
        refine j_iconst 48 C dX4_kinds_48 ic_0 ?_
        refine j_is3 49 C dX4_kinds_49 rfl (Nat.le_of_ble_eq_true rfl) ?_
        refine j_iconst 50 C dX4_kinds_50 ic_0 ?_
        refine j_is4 51 C dX4_kinds_51 rfl (Nat.le_of_ble_eq_true rfl) ?_
        have h9 := loop 7 0 rfl (g 2)
        rw [ub_id] at h9
        exact h9
      · have v38 := bi_0 c38
        refine j_al0 41 C dX4_kinds_41 ?_
        refine j_ldc 42 C dX4_kinds_42 cs_X4_57 ?_
        refine j_vi 44 C dX4_kinds_44 mv_X4_finding lk_X4_58 (c_X4_finding (f := 0) (by decide) (by decide)) rc_x rfl rfl ⟨(Nat.le_of_ble_eq_true rfl), (Nat.le_of_ble_eq_true rfl)⟩ (Nat.le_of_ble_eq_true rfl) (fun r44 g44 hp44 => ?_)
        obtain ⟨rfl, rfl⟩ := hp44
        exact hR dX4_kinds_47 (cgX_f (f := 0) (by simp [x_kinds, sx, v4, v23, v38, cl_nI (show Q < 2 ^ 31 by omega)]) (by decide) (by decide) SC.rfl)
    · have v23 := bi_n c23
      have v23 := of_decide_eq_true v23
      refine j_al0 26 C dX4_kinds_26 ?_
      refine j_ldc 27 C dX4_kinds_27 cs_X4_189 ?_
      refine j_vi 29 C dX4_kinds_29 mv_X4_finding lk_X4_58 (c_X4_finding (f := 5) (by decide) (by decide)) rc_x rfl rfl ⟨(Nat.le_of_ble_eq_true rfl), (Nat.le_of_ble_eq_true rfl)⟩ (Nat.le_of_ble_eq_true rfl) (fun r29 g29 hp29 => ?_)
      obtain ⟨rfl, rfl⟩ := hp29
      exact hR dX4_kinds_32 (cgX_f (f := 5) (by simp [x_kinds, sx, v4, v23, cl_nI (show Q < 2 ^ 31 by omega)]) (by decide) (by decide) SC.rfl)
  · have v4 := bi_0 c4
    refine j_al0 7 C dX4_kinds_7 ?_
    refine j_ldc 8 C dX4_kinds_8 cs_X4_57 ?_
    refine j_vi 10 C dX4_kinds_10 mv_X4_finding lk_X4_58 (c_X4_finding (f := 0) (by decide) (by decide)) rc_x rfl rfl ⟨(Nat.le_of_ble_eq_true rfl), (Nat.le_of_ble_eq_true rfl)⟩ (Nat.le_of_ble_eq_true rfl) (fun r10 g10 hp10 => ?_)
    obtain ⟨rfl, rfl⟩ := hp10
    exact hR dX4_kinds_13 (cgX_f (f := 0) (by simp [x_kinds, sx, v4]) (by decide) (by decide) SC.rfl)
set_option maxRecDepth 20000 in
theorem c_X4_image {G : GT} {g : Mem} (hS : SI (g 0)) {T : Nat} (hT : g 0 1 = nI T) (hTb : T ≤ 31000) (hH : HI g) : Cti G yX4_image cX4_image 1 .int 2 51 [.ref (xo G)] g (fun r g' => cgX (x_image g) g r g') := by
  refine ent_i (by decide) (Nat.le_of_ble_eq_true rfl) [some (.ref (xo G))] rfl ?_
  intro X C hR
  have C : CX X G RX4 cX4_image 1 2 51 := C
  refine j_al0 0 C dX4_image_0 ?_
  refine jg_X4_16 1 C dX4_image_1 ?_
  refine j_al0 4 C dX4_image_4 ?_
  refine jg_X4_12 5 C dX4_image_5 ?_
  refine j_vv 8 C dX4_image_8 mv_X0_become lk_X4_168 (c_X0_become lt4_1 lt4_0 (by decide)) (rc_d lt4_1) rfl rfl ⟨(Nat.le_of_ble_eq_true rfl), (Nat.le_of_ble_eq_true rfl)⟩ (Nat.le_of_ble_eq_true rfl) (fun g8 hp8 => ?_)
  obtain rfl := hp8
  refine j_al0 11 C dX4_image_11 ?_
  refine j_iconst 12 C dX4_image_12 ic_1 ?_
  refine jp_X4_42 13 C dX4_image_13 (by first | exact Or.inl rfl | exact Or.inr rfl) ?_
  rw [ub_n (b' := 11) (b := 1) (by decide)]
  refine j_iconst 16 C dX4_image_16 ic_1 ?_
  exact hR dX4_image_17 (cgX_r rfl rfl SC.rfl)
set_option maxRecDepth 20000 in
theorem c_X4_undo {G : GT} {g : Mem} (hS : SI (g 0)) {T : Nat} (hT : g 0 1 = nI T) (hTb : T ≤ 31000) (hH : HI g) : Cti G yX4_undo cX4_undo 1 .int 2 51 [.ref (xo G)] g (fun r g' => cgX (x_undo g) g r g') := by
  refine ent_i (by decide) (Nat.le_of_ble_eq_true rfl) [some (.ref (xo G))] rfl ?_
  intro X C hR
  have C : CX X G RX4 cX4_undo 1 2 51 := C
  refine j_al0 0 C dX4_undo_0 ?_
  refine jg_X4_42 1 C dX4_undo_1 ?_
  refine j_ifne 4 14 C dX4_undo_4 (by decide) (fun c4 => ?_) (fun c4 => ?_)
  · refine j_al0 14 C dX4_undo_14 ?_
    refine jg_X4_12 15 C dX4_undo_15 ?_
    refine j_al0 18 C dX4_undo_18 ?_
    refine jg_X4_16 19 C dX4_undo_19 ?_
    refine j_vv 22 C dX4_undo_22 mv_X0_become lk_X4_168 (c_X0_become lt4_0 lt4_1 (by decide)) (rc_d lt4_0) rfl rfl ⟨(Nat.le_of_ble_eq_true rfl), (Nat.le_of_ble_eq_true rfl)⟩ (Nat.le_of_ble_eq_true rfl) (fun g22 hp22 => ?_)
    obtain rfl := hp22
    refine j_al0 25 C dX4_undo_25 ?_
    refine jg_X4_12 26 C dX4_undo_26 ?_
    refine jg_X4_126 29 lt4_0 C dX4_undo_29 ?_
    rw [ub_s]
    exact hR dX4_undo_32 (cgX_r (by simp [x_undo, c4]) rfl SC.rfl)
  · refine j_al0 7 C dX4_undo_7 ?_
    refine j_ldc 8 C dX4_undo_8 cs_X4_167 ?_
    refine j_vi 10 C dX4_undo_10 mv_X4_finding lk_X4_58 (c_X4_finding (f := 3) (by decide) (by decide)) rc_x rfl rfl ⟨(Nat.le_of_ble_eq_true rfl), (Nat.le_of_ble_eq_true rfl)⟩ (Nat.le_of_ble_eq_true rfl) (fun r10 g10 hp10 => ?_)
    obtain ⟨rfl, rfl⟩ := hp10
    exact hR dX4_undo_13 (cgX_f (f := 3) (by simp [x_undo, c4]) (by decide) (by decide) SC.rfl)
set_option maxRecDepth 20000 in
theorem c_X4_tear {G : GT} {g : Mem} (hS : SI (g 0)) {T : Nat} (hT : g 0 1 = nI T) (hTb : T ≤ 31000) (hH : HI g) : Cti G yX4_tear cX4_tear 2 .int 0 0 [.ref (xo G)] g (fun r g' => cgX (x_tear g) g r g') := by
  refine ent_i (by decide) (Nat.le_of_ble_eq_true rfl) [some (.ref (xo G)), none] rfl ?_
  intro X C hR
  have C : CX X G RX4 cX4_tear 2 0 0 := C
  refine j_al0 0 C dX4_tear_0 ?_
  refine jg_X4_42 1 C dX4_tear_1 ?_
  refine j_ifeq 4 11 C dX4_tear_4 (by decide) (fun c4 => ?_) (fun c4 => ?_)
  · refine j_iconst 11 C dX4_tear_11 ic_0 ?_
    refine j_is1 12 C dX4_tear_12 rfl (Nat.le_of_ble_eq_true rfl) ?_
    refine j_al0 13 C dX4_tear_13 ?_
    refine j_iconst 14 C dX4_tear_14 ic_0 ?_
    refine jp_X4_42 15 C dX4_tear_15 (by first | exact Or.inl rfl | exact Or.inr rfl) ?_
    refine j_il1 18 C dX4_tear_18 ?_
    exact hR dX4_tear_19 (cgX_r (by simp [x_tear, c4]) rfl SC.rfl)
  · refine j_iconst 7 C dX4_tear_7 ic_1 ?_
    refine j_goto 8 12 C dX4_tear_8 (by decide) ?_
    refine j_is1 12 C dX4_tear_12 rfl (Nat.le_of_ble_eq_true rfl) ?_
    refine j_al0 13 C dX4_tear_13 ?_
    refine j_iconst 14 C dX4_tear_14 ic_0 ?_
    refine jp_X4_42 15 C dX4_tear_15 (by first | exact Or.inl rfl | exact Or.inr rfl) ?_
    refine j_il1 18 C dX4_tear_18 ?_
    exact hR dX4_tear_19 (cgX_r (by simp [x_tear, c4]) rfl SC.rfl)
set_option maxRecDepth 20000 in
theorem c_X4_count {G : GT} {g : Mem} (hS : SI (g 0)) {T : Nat} (hT : g 0 1 = nI T) (hTb : T ≤ 31000) (hH : HI g) {w : Int32} : Cti G yX4_count cX4_count 2 .int 4 88 [.ref (xo G), .int w] g (fun r g' => cgX (x_count w g) g r g') := by
  refine ent_i (by decide) (Nat.le_of_ble_eq_true rfl) [some (.ref (xo G)), some (.int w)] rfl ?_
  intro X C hR
  have C : CX X G RX4 cX4_count 2 4 88 := C
  obtain ⟨hM8, hM0⟩ := SI_cl0 hS
  refine j_il1 0 C dX4_count_0 ?_
  by_cases hw : inr w 0 7 = true
  · obtain ⟨W, hW, rfl⟩ := inr_nat (n := 7) (by decide) hw
    rcases (show W = 0 ∨ W = 1 ∨ W = 2 ∨ W = 3 ∨ W = 4 ∨ W = 5 ∨ W = 6 ∨ W = 7 by omega) with rfl | rfl | rfl | rfl | rfl | rfl | rfl | rfl
    · refine j_tsIn 1 48 (off := 47) C dX4_count_1 (by decide) (by decide) (by decide) (by decide) ?_
      refine j_al0 48 C dX4_count_48 ?_
      refine jg_X4_12 49 C dX4_count_49 ?_
      refine jg_X4_126 52 lt4_0 C dX4_count_52 ?_
      exact hR dX4_count_55 (cgX_r (by unfold x_count; rw [hw]; rfl) rfl SC.rfl)
    · refine j_tsIn 1 56 (off := 55) C dX4_count_1 (by decide) (by decide) (by decide) (by decide) ?_
      refine j_al0 56 C dX4_count_56 ?_
      refine jg_X4_12 57 C dX4_count_57 ?_
      refine jg_X4_164 60 lt4_0 C dX4_count_60 ?_
      exact hR dX4_count_63 (cgX_r (by unfold x_count; rw [hw]; rfl) rfl SC.rfl)
    · refine j_tsIn 1 64 (off := 63) C dX4_count_1 (by decide) (by decide) (by decide) (by decide) ?_
      refine j_al0 64 C dX4_count_64 ?_
      refine jg_X4_12 65 C dX4_count_65 ?_
      refine j_vi 68 C dX4_count_68 mv_X0_allHoles lk_X4_136 (c_X0_allHoles lt4_0) (rc_d lt4_0) rfl rfl ⟨(Nat.le_of_ble_eq_true rfl), (Nat.le_of_ble_eq_true rfl)⟩ (Nat.le_of_ble_eq_true rfl) (fun r68 g68 hp68 => ?_)
      obtain ⟨rfl, rfl⟩ := hp68
      exact hR dX4_count_71 (cgX_r (by unfold x_count; rw [hw]; rfl) rfl SC.rfl)
    · refine j_tsIn 1 72 (off := 71) C dX4_count_1 (by decide) (by decide) (by decide) (by decide) ?_
      refine j_al0 72 C dX4_count_72 ?_
      refine jg_X4_12 73 C dX4_count_73 ?_
      refine j_vi 76 C dX4_count_76 mv_X0_allFed lk_X4_143 (c_X0_allFed lt4_0 hM8 hM0) (rc_d lt4_0) rfl rfl ⟨(Nat.le_of_ble_eq_true rfl), (Nat.le_of_ble_eq_true rfl)⟩ (Nat.le_of_ble_eq_true rfl) (fun r76 g76 hp76 => ?_)
      obtain ⟨rfl, rfl⟩ := hp76
      exact hR dX4_count_79 (cgX_r (by unfold x_count; rw [hw]; rfl) rfl SC.rfl)
    · refine j_tsIn 1 80 (off := 79) C dX4_count_1 (by decide) (by decide) (by decide) (by decide) ?_
      refine j_al0 80 C dX4_count_80 ?_
      refine jg_X4_12 81 C dX4_count_81 ?_
      refine j_vi 84 C dX4_count_84 mv_X0_allSaid lk_X4_140 (c_X0_allSaid lt4_0) (rc_d lt4_0) rfl rfl ⟨(Nat.le_of_ble_eq_true rfl), (Nat.le_of_ble_eq_true rfl)⟩ (Nat.le_of_ble_eq_true rfl) (fun r84 g84 hp84 => ?_)
      obtain ⟨rfl, rfl⟩ := hp84
      exact hR dX4_count_87 (cgX_r (by unfold x_count; rw [hw]; rfl) rfl SC.rfl)
    · refine j_tsIn 1 88 (off := 87) C dX4_count_1 (by decide) (by decide) (by decide) (by decide) ?_
      refine j_al0 88 C dX4_count_88 ?_
      refine jg_X4_28 89 C dX4_count_89 ?_
      refine jg_X4_210 92 C dX4_count_92 ?_
      exact hR dX4_count_95 (cgX_r (by unfold x_count; rw [hw]; rfl) rfl SC.rfl)
    · refine j_tsIn 1 96 (off := 95) C dX4_count_1 (by decide) (by decide) (by decide) (by decide) ?_
      refine j_al0 96 C dX4_count_96 ?_
      refine jg_X4_12 97 C dX4_count_97 ?_
      refine jg_X4_207 100 lt4_0 C dX4_count_100 ?_
      exact hR dX4_count_103 (cgX_r (by unfold x_count; rw [hw]; rfl) rfl SC.rfl)
    · refine j_tsIn 1 104 (off := 103) C dX4_count_1 (by decide) (by decide) (by decide) (by decide) ?_
      refine j_al0 104 C dX4_count_104 ?_
      refine jg_X4_12 105 C dX4_count_105 ?_
      refine j_vi 108 C dX4_count_108 mv_X0_heldSpots lk_X4_263 (c_X0_heldSpots lt4_0) (rc_d lt4_0) rfl rfl ⟨(Nat.le_of_ble_eq_true rfl), (Nat.le_of_ble_eq_true rfl)⟩ (Nat.le_of_ble_eq_true rfl) (fun r108 g108 hp108 => ?_)
      obtain ⟨rfl, rfl⟩ := hp108
      exact hR dX4_count_111 (cgX_r (by unfold x_count; rw [hw]; rfl) rfl SC.rfl)
  · rw [Bool.not_eq_true] at hw
    refine j_tsOut 1 112 C dX4_count_1 (ts_out hw (by decide)) (by decide) ?_
    refine j_al0 112 C dX4_count_112 ?_
    refine j_ldc 113 C dX4_count_113 cs_X4_57 ?_
    refine j_vi 115 C dX4_count_115 mv_X4_finding lk_X4_58 (c_X4_finding (f := 0) (by decide) (by decide)) rc_x rfl rfl ⟨(Nat.le_of_ble_eq_true rfl), (Nat.le_of_ble_eq_true rfl)⟩ (Nat.le_of_ble_eq_true rfl) (fun r115 g115 hp115 => ?_)
    obtain ⟨rfl, rfl⟩ := hp115
    exact hR dX4_count_118 (cgX_f (f := 0) (by simp [x_count, hw]) (by decide) (by decide) SC.rfl)
set_option maxRecDepth 20000 in
theorem c_X4_status {G : GT} {g : Mem} (hS : SI (g 0)) {T : Nat} (hT : g 0 1 = nI T) (hTb : T ≤ 31000) (hH : HI g) {w : Int32} : Cti G yX4_status cX4_status 4 .int 1 22 [.ref (xo G), .int w] g (fun r g' => cgX (x_status w g) g r g') := by
  refine ent_i (by decide) (Nat.le_of_ble_eq_true rfl) [some (.ref (xo G)), some (.int w), none, none] rfl ?_
  intro X C hR
  have C : CX X G RX4 cX4_status 4 1 22 := C
  refine j_il1 0 C dX4_status_0 ?_
  refine j_iconst 1 C dX4_status_1 ic_m1 ?_
  refine j_icne 2 32 C dX4_status_2 (by decide) (fun c2 => ?_) (fun c2 => ?_)
  · refine j_il1 32 C dX4_status_32 ?_
    refine j_iconst 33 C dX4_status_33 ic_0 ?_
    refine j_bipush 34 C dX4_status_34 bp_6 ?_
    refine j_si 36 C dX4_status_36 ms_X4_within lk_X4_99 (c_X4_within) rfl rfl ⟨(Nat.le_of_ble_eq_true rfl), (Nat.le_of_ble_eq_true rfl)⟩ (Nat.le_of_ble_eq_true rfl) (fun r36 g36 hp36 => ?_)
    obtain ⟨rfl, rfl⟩ := hp36
    refine j_ifeq 39 51 C dX4_status_39 (by decide) (fun c39 => ?_) (fun c39 => ?_)
    · have v39 := bi_0 c39
      refine j_al0 51 C dX4_status_51 ?_
      refine j_ldc 52 C dX4_status_52 cs_X4_57 ?_
      refine j_vi 54 C dX4_status_54 mv_X4_finding lk_X4_58 (c_X4_finding (f := 0) (by decide) (by decide)) rc_x rfl rfl ⟨(Nat.le_of_ble_eq_true rfl), (Nat.le_of_ble_eq_true rfl)⟩ (Nat.le_of_ble_eq_true rfl) (fun r54 g54 hp54 => ?_)
      obtain ⟨rfl, rfl⟩ := hp54
      exact hR dX4_status_57 (cgX_f (f := 0) (by simp [x_status, c2, v39]) (by decide) (by decide) SC.rfl)
    · have v39 := bi_n c39
      obtain ⟨N, hN, rfl⟩ := inr_nat (n := 6) (by decide) v39
      refine j_al0 42 C dX4_status_42 ?_
      refine jg_X4_38 43 C dX4_status_43 ?_
      refine j_il1 46 C dX4_status_46 ?_
      refine jl_fa 47 (by omega) C dX4_status_47 ?_
      refine j_goto 48 57 C dX4_status_48 (by decide) ?_
      exact hR dX4_status_57 (cgX_r (by simp [x_status, c2, v39, cl_nI (show N < 2 ^ 31 by omega)]) rfl SC.rfl)
  · subst c2
    have loop : ∀ n k, k + n = 7 → J X G 4 g 9 [some (.ref (xo G)), some (.int (-1)), some (.int (sI (g 10) k)), some (.int (nI k))] [] := by
      intro n
      induction n with
      | zero =>
        intro k hk
        obtain rfl : k = 7 := by omega
        refine j_il3 9 C dX4_status_9 ?_
        refine j_bipush 10 C dX4_status_10 bp_7 ?_
        refine j_icge 12 30 C dX4_status_12 (by decide) (fun c12 => ?_) (fun c12 => ?_)
        · refine j_il2 30 C dX4_status_30 ?_
          exact hR dX4_status_31 (cgX_r (if_pos rfl) rfl SC.rfl)
        · exact absurd (nI_le (Nat.le_refl _) (by decide)) c12
      | succ n ih =>
        intro k hk
        refine j_il3 9 C dX4_status_9 ?_
        refine j_bipush 10 C dX4_status_10 bp_7 ?_
        refine j_icge 12 30 C dX4_status_12 (by decide) (fun c12 => ?_) (fun c12 => ?_)
        · exact absurd c12 (nI_ge (a := k) (b := 7) (by omega) (by decide))
        · refine j_il2 15 C dX4_status_15 ?_
          refine j_al0 16 C dX4_status_16 ?_
          refine jg_X4_38 17 C dX4_status_17 ?_
          refine j_il3 20 C dX4_status_20 ?_
          refine jl_fa 21 (by omega) C dX4_status_21 ?_
          refine j_iadd 22 C dX4_status_22 ?_
          refine j_is2 23 C dX4_status_23 rfl (Nat.le_of_ble_eq_true rfl) ?_
          refine j_inc3 24 C dX4_status_24 rfl (nI_inc _) (Nat.le_of_ble_eq_true rfl) ?_
          refine j_goto 27 9 C dX4_status_27 (by decide) ?_
          exact ih (k + 1) (by omega)
    refine j_iconst 5 C dX4_status_5 ic_0 ?_
    refine j_is2 6 C dX4_status_6 rfl (Nat.le_of_ble_eq_true rfl) ?_
    refine j_iconst 7 C dX4_status_7 ic_0 ?_
    refine j_is3 8 C dX4_status_8 rfl (Nat.le_of_ble_eq_true rfl) ?_
    exact loop 7 0 rfl
set_option maxRecDepth 20000 in
theorem c_X4_wipe {G : GT} {g : Mem} (hS : SI (g 0)) {T : Nat} (hT : g 0 1 = nI T) (hTb : T ≤ 31000) (hH : HI g) : Cti G yX4_wipe cX4_wipe 1 .int 1 21 [.ref (xo G)] g (fun r g' => cgX (x_wipe g) g r g') := by
  refine ent_i (by decide) (Nat.le_of_ble_eq_true rfl) [some (.ref (xo G))] rfl ?_
  intro X C hR
  have C : CX X G RX4 cX4_wipe 1 1 21 := C
  refine j_al0 0 C dX4_wipe_0 ?_
  refine jg_X4_28 1 C dX4_wipe_1 ?_
  refine j_vi 4 C dX4_wipe_4 mv_X3_empty lk_X4_217 (c_X3_empty) rc_t rfl rfl ⟨(Nat.le_of_ble_eq_true rfl), (Nat.le_of_ble_eq_true rfl)⟩ (Nat.le_of_ble_eq_true rfl) (fun r4 g4 hp4 => ?_)
  obtain ⟨rfl, rfl⟩ := hp4
  exact hR dX4_wipe_7 (cgX_r rfl rfl SC.rfl)
