set_option maxRecDepth 20000 in
theorem c_X5_feed {G : GT} {g : Mem} {m : Nat} (hm : g 22 1 = nI m) (hm120 : m ≤ 120) {b n : Int32} : Cti G yX5_feed cX5_feed 4 .int 1 25 [.ref (mo G), .int b, .int n] g (fun r g' => cgM (m_feed b n g) g r g') := by
  refine ent_i (by decide) (Nat.le_of_ble_eq_true rfl) [some (.ref (mo G)), some (.int b), some (.int n), none] rfl ?_
  intro X C hR
  have C : CX X G RX5 cX5_feed 4 1 25 := C
  refine j_il2 0 C dX5_feed_0 ?_
  refine j_i2l 1 C dX5_feed_1 ?_
  refine j_lconst 2 C dX5_feed_2 lc_1 ?_
  refine j_ldc2 3 C dX5_feed_3 cl_X5_115 ?_
  refine j_si 6 C dX5_feed_6 ms_X5_isIn lk_X5_56 (c_X5_isIn (lo := 1) (hi := 4) (by decide) (by decide)) rfl rfl ⟨(Nat.le_of_ble_eq_true rfl), (Nat.le_of_ble_eq_true rfl)⟩ (Nat.le_of_ble_eq_true rfl) (fun r6 g6 hp6 => ?_)
  obtain ⟨rfl, rfl⟩ := hp6
  refine j_ifne 9 19 C dX5_feed_9 (by decide) (fun c9 => ?_) (fun c9 => ?_)
  · have v9 := bi_n c9
    obtain ⟨N, hN1, hN, rfl⟩ := inr_1 (n := 4) (by decide) v9
    have hcm : cl (g 22 1) = m := by rw [hm]; exact cl_nI (by omega)
    refine j_al0 19 C dX5_feed_19 ?_
    refine jg_X5_212 20 C dX5_feed_20 ?_
    refine j_il2 23 C dX5_feed_23 ?_
    refine j_iadd 24 C dX5_feed_24 ?_
    refine j_top (nI (m + N)) (by rw [hm]; exact nI_add m N) ?_
    refine j_bipush 25 C dX5_feed_25 bp_120 ?_
    refine j_icle 27 37 C dX5_feed_27 (by decide) (fun c27 => ?_) (fun c27 => ?_)
    · have h1 : ¬ 120 < g 22 1 + nI N := by rw [hm, nI_add]; exact Int32.not_lt.mpr c27
      have h120 : m + N ≤ 120 := Nat.le_of_not_lt (fun q => absurd c27 (Int32.not_le.mpr (nI_lt (a := 120) (b := m + N) q (by omega))))
      have loop : ∀ i q, q + i = m + N → ∀ R : Row, apm R b q i = (apm (g 17) b m N) → J X G 4 (ub (ub g 17 R) 22 (upd (g 22) 1 (nI q))) 41 [some (.ref (mo G)), some (.int (b)), some (.int (nI N)), some (.int (nI i - 1))] [] := by
        intro i
        induction i with
        | zero =>
          intro q hq R hR2
          obtain rfl : q = m + N := by omega
          have hR2 : R = (apm (g 17) b m N) := hR2
          subst hR2
          refine j_il3 41 C dX5_feed_41 ?_
          refine j_iflt 42 80 C dX5_feed_42 (by decide) (fun c42 => ?_) (fun c42 => ?_)
          · refine j_al0 80 C dX5_feed_80 ?_
            refine jg_X5_212 81 C dX5_feed_81 ?_
            refine j_top (nI (m + N)) (by rw [ub_s, upd_s]) ?_
            exact hR dX5_feed_84 (cgM_r (v := nI (m + N)) (by unfold m_feed; rw [v9, if_neg h1, hcm, cl_nI (show N < 2 ^ 31 by omega), hm, nI_add]; rfl) rfl SC.rfl)
          · exact absurd (by decide) c42
        | succ i ih =>
          intro q hq R hR2
          rw [nI_pred]
          refine j_il3 41 C dX5_feed_41 ?_
          refine j_iflt 42 80 C dX5_feed_42 (by decide) (fun c42 => ?_) (fun c42 => ?_)
          · exact absurd c42 (nI_pos (by omega))
          · refine j_al0 45 C dX5_feed_45 ?_
            refine jg_X5_25 46 C dX5_feed_46 ?_
            refine j_al0 49 C dX5_feed_49 ?_
            refine jg_X5_212 50 C dX5_feed_50 ?_
            refine j_top (nI q) (by rw [ub_s, upd_s]) ?_
            refine j_il1 53 C dX5_feed_53 ?_
            refine j_bipush 54 C dX5_feed_54 bp_8 ?_
            refine j_il3 56 C dX5_feed_56 ?_
            refine j_imul 57 C dX5_feed_57 ?_
            refine j_ishr 58 C dX5_feed_58 ?_
            refine j_sipush 59 C dX5_feed_59 sq_255 ?_
            refine j_iand 62 C dX5_feed_62 ?_
            refine js_A5 63 (by omega) C dX5_feed_63 ?_
            rw [ub_n (b' := 17) (b := 22) (by decide), ub_s, ub_comm (show (22 : Nat) ≠ 17 by decide), ub_ub]
            refine j_al0 64 C dX5_feed_64 ?_
            refine j_dup 65 C dX5_feed_65 rfl ?_
            refine jg_X5_212 66 C dX5_feed_66 ?_
            refine j_top (nI q) (by rw [ub_s, upd_s]) ?_
            refine j_iconst 69 C dX5_feed_69 ic_1 ?_
            refine j_iadd 70 C dX5_feed_70 ?_
            refine j_top (nI (q + 1)) (nI_succ q).symm ?_
            refine jp_X5_212 71 C dX5_feed_71 ?_
            rw [ub_ub, ub_s, upd_upd]
            refine j_inc3 74 C dX5_feed_74 rfl (x_m1 _) (Nat.le_of_ble_eq_true rfl) ?_
            refine j_goto 77 41 C dX5_feed_77 (by decide) ?_
            exact ih (q + 1) (by omega) _ hR2
      refine j_il2 37 C dX5_feed_37 ?_
      refine j_iconst 38 C dX5_feed_38 ic_1 ?_
      refine j_isub 39 C dX5_feed_39 ?_
      refine j_is3 40 C dX5_feed_40 rfl (Nat.le_of_ble_eq_true rfl) ?_
      have h9 := loop N m rfl (g 17) rfl
      rw [ub_id, upd_id (f := g 22) hm, ub_id] at h9
      exact h9
    · have h1 : 120 < g 22 1 + nI N := by rw [hm, nI_add]; exact Int32.not_le.mp c27
      refine j_al0 30 C dX5_feed_30 ?_
      refine j_ldc 31 C dX5_feed_31 cs_X5_89 ?_
      refine j_vi 33 C dX5_feed_33 mv_X5_finds lk_X5_46 (c_X5_finds (f := 1) (by decide) (by decide)) rc_m rfl rfl ⟨(Nat.le_of_ble_eq_true rfl), (Nat.le_of_ble_eq_true rfl)⟩ (Nat.le_of_ble_eq_true rfl) (fun r33 g33 hp33 => ?_)
      obtain ⟨rfl, rfl⟩ := hp33
      exact hR dX5_feed_36 (cgM_f (f := 1) (by unfold m_feed; rw [v9, if_pos h1]; rfl) (by decide) (by decide) SC.rfl)
  · have v9 := bi_0 c9
    refine j_al0 12 C dX5_feed_12 ?_
    refine j_ldc 13 C dX5_feed_13 cs_X5_40 ?_
    refine j_vi 15 C dX5_feed_15 mv_X5_finds lk_X5_46 (c_X5_finds (f := 0) (by decide) (by decide)) rc_m rfl rfl ⟨(Nat.le_of_ble_eq_true rfl), (Nat.le_of_ble_eq_true rfl)⟩ (Nat.le_of_ble_eq_true rfl) (fun r15 g15 hp15 => ?_)
    obtain ⟨rfl, rfl⟩ := hp15
    exact hR dX5_feed_18 (cgM_f (f := 0) (by simp [m_feed, v9]) (by decide) (by decide) SC.rfl)
set_option maxRecDepth 20000 in
theorem c_X5_copy {G : GT} {g : Mem} (hS : SI (g 12)) (hZ : HZ g) {s f t u n : Int32} : Cti G yX5_copy cX5_copy 10 .int 1 21 [.ref (mo G), .int s, .int f, .int t, .int u, .int n] g (fun r g' => cgM (m_copy s f t u n g) g r g') := by
  refine ent_i (by decide) (Nat.le_of_ble_eq_true rfl) [some (.ref (mo G)), some (.int s), some (.int f), some (.int t), some (.int u), some (.int n), none, none, none, none] rfl ?_
  intro X C hR
  have C : CX X G RX5 cX5_copy 10 1 21 := C
  refine j_il1 0 C dX5_copy_0 ?_
  refine j_si 1 C dX5_copy_1 ms_X5_isSheet lk_X5_297 (c_X5_isSheet) rfl rfl ⟨(Nat.le_of_ble_eq_true rfl), (Nat.le_of_ble_eq_true rfl)⟩ (Nat.le_of_ble_eq_true rfl) (fun r1 g1 hp1 => ?_)
  obtain ⟨rfl, rfl⟩ := hp1
  refine j_ifeq 4 14 C dX5_copy_4 (by decide) (fun c4 => ?_) (fun c4 => ?_)
  · have v4 := bi_0 c4
    refine j_al0 14 C dX5_copy_14 ?_
    refine j_ldc 15 C dX5_copy_15 cs_X5_40 ?_
    refine j_vi 17 C dX5_copy_17 mv_X5_finds lk_X5_46 (c_X5_finds (f := 0) (by decide) (by decide)) rc_m rfl rfl ⟨(Nat.le_of_ble_eq_true rfl), (Nat.le_of_ble_eq_true rfl)⟩ (Nat.le_of_ble_eq_true rfl) (fun r17 g17 hp17 => ?_)
    obtain ⟨rfl, rfl⟩ := hp17
    exact hR dX5_copy_20 (cgM_f (f := 0) (by simp [m_copy, v4]) (by decide) (by decide) SC.rfl)
  · have v4 := bi_n c4
    refine j_il3 7 C dX5_copy_7 ?_
    refine j_si 8 C dX5_copy_8 ms_X5_isSheet lk_X5_297 (c_X5_isSheet) rfl rfl ⟨(Nat.le_of_ble_eq_true rfl), (Nat.le_of_ble_eq_true rfl)⟩ (Nat.le_of_ble_eq_true rfl) (fun r8 g8 hp8 => ?_)
    obtain ⟨rfl, rfl⟩ := hp8
    refine j_ifne 11 21 C dX5_copy_11 (by decide) (fun c11 => ?_) (fun c11 => ?_)
    · have v11 := bi_n c11
      obtain ⟨Q, hQ, rfl⟩ := inr_nat (n := 3) (by decide) v4
      obtain ⟨V, hV, rfl⟩ := inr_nat (n := 3) (by decide) v11
      obtain ⟨-, Z, hZ4, hz⟩ := hZ Q (by omega)
      obtain ⟨-, Y, hY4, hy⟩ := hZ V (by omega)
      refine j_al0 21 C dX5_copy_21 ?_
      refine jg_X5_28 22 C dX5_copy_22 ?_
      refine j_il1 25 C dX5_copy_25 ?_
      refine jl_A6 26 (by omega) C dX5_copy_26 ?_
      refine j_iflt 27 39 C dX5_copy_27 (by decide) (fun c27 => ?_) (fun c27 => ?_)
      · refine j_al0 39 C dX5_copy_39 ?_
        refine j_ldcw 40 C dX5_copy_40 cs_X5_292 ?_
        refine j_vi 43 C dX5_copy_43 mv_X5_finds lk_X5_46 (c_X5_finds (f := 5) (by decide) (by decide)) rc_m rfl rfl ⟨(Nat.le_of_ble_eq_true rfl), (Nat.le_of_ble_eq_true rfl)⟩ (Nat.le_of_ble_eq_true rfl) (fun r43 g43 hp43 => ?_)
        obtain ⟨rfl, rfl⟩ := hp43
        exact hR dX5_copy_46 (cgM_f (f := 5) (by unfold m_copy; rw [v4, v11, cl_nI (show Q < 2 ^ 31 by omega), cl_nI (show V < 2 ^ 31 by omega), if_pos (Or.inl c27)]; rfl) (by decide) (by decide) SC.rfl)
      · refine j_al0 30 C dX5_copy_30 ?_
        refine jg_X5_28 31 C dX5_copy_31 ?_
        refine j_il3 34 C dX5_copy_34 ?_
        refine jl_A6 35 (by omega) C dX5_copy_35 ?_
        refine j_ifge 36 47 C dX5_copy_36 (by decide) (fun c36 => ?_) (fun c36 => ?_)
        · have hm : ¬ (g 18 Q < 0 ∨ g 18 V < 0) := fun q => q.elim c27 (Int32.not_lt.mpr c36)
          refine j_al0 47 C dX5_copy_47 ?_
          refine jg_X5_28 48 C dX5_copy_48 ?_
          refine j_il1 51 C dX5_copy_51 ?_
          refine jl_A6 52 (by omega) C dX5_copy_52 ?_
          refine j_al0 53 C dX5_copy_53 ?_
          refine jg_X5_28 54 C dX5_copy_54 ?_
          refine j_il3 57 C dX5_copy_57 ?_
          refine jl_A6 58 (by omega) C dX5_copy_58 ?_
          refine j_iceq 59 70 C dX5_copy_59 (by decide) (fun c59 => ?_) (fun c59 => ?_)
          · refine j_il2 70 C dX5_copy_70 ?_
            refine j_iflt 71 111 C dX5_copy_71 (by decide) (fun c71 => ?_) (fun c71 => ?_)
            · refine j_al0 111 C dX5_copy_111 ?_
              refine j_ldc 112 C dX5_copy_112 cs_X5_40 ?_
              refine j_vi 114 C dX5_copy_114 mv_X5_finds lk_X5_46 (c_X5_finds (f := 0) (by decide) (by decide)) rc_m rfl rfl ⟨(Nat.le_of_ble_eq_true rfl), (Nat.le_of_ble_eq_true rfl)⟩ (Nat.le_of_ble_eq_true rfl) (fun r114 g114 hp114 => ?_)
              obtain ⟨rfl, rfl⟩ := hp114
              exact hR dX5_copy_117 (cgM_f (f := 0) (by unfold m_copy; rw [v4, v11, cl_nI (show Q < 2 ^ 31 by omega), cl_nI (show V < 2 ^ 31 by omega), if_neg hm, if_neg (Decidable.not_not.mpr c59), hz, hy, run_f (z := nI Z) (n := n) (Or.inl c71)]; rfl) (by decide) (by decide) SC.rfl)
            · refine j_il4 74 C dX5_copy_74 ?_
              refine j_iflt 76 111 C dX5_copy_76 (by decide) (fun c76 => ?_) (fun c76 => ?_)
              · refine j_al0 111 C dX5_copy_111 ?_
                refine j_ldc 112 C dX5_copy_112 cs_X5_40 ?_
                refine j_vi 114 C dX5_copy_114 mv_X5_finds lk_X5_46 (c_X5_finds (f := 0) (by decide) (by decide)) rc_m rfl rfl ⟨(Nat.le_of_ble_eq_true rfl), (Nat.le_of_ble_eq_true rfl)⟩ (Nat.le_of_ble_eq_true rfl) (fun r114 g114 hp114 => ?_)
                obtain ⟨rfl, rfl⟩ := hp114
                exact hR dX5_copy_117 (cgM_f (f := 0) (by unfold m_copy; rw [v4, v11, cl_nI (show Q < 2 ^ 31 by omega), cl_nI (show V < 2 ^ 31 by omega), if_neg hm, if_neg (Decidable.not_not.mpr c59), hz, hy, run_f (z := nI Y) (n := n) (Or.inl c76), Bool.and_false]; rfl) (by decide) (by decide) SC.rfl)
              · refine j_il5 79 C dX5_copy_79 ?_
                refine j_iflt 81 111 C dX5_copy_81 (by decide) (fun c81 => ?_) (fun c81 => ?_)
                · refine j_al0 111 C dX5_copy_111 ?_
                  refine j_ldc 112 C dX5_copy_112 cs_X5_40 ?_
                  refine j_vi 114 C dX5_copy_114 mv_X5_finds lk_X5_46 (c_X5_finds (f := 0) (by decide) (by decide)) rc_m rfl rfl ⟨(Nat.le_of_ble_eq_true rfl), (Nat.le_of_ble_eq_true rfl)⟩ (Nat.le_of_ble_eq_true rfl) (fun r114 g114 hp114 => ?_)
                  obtain ⟨rfl, rfl⟩ := hp114
                  exact hR dX5_copy_117 (cgM_f (f := 0) (by unfold m_copy; rw [v4, v11, cl_nI (show Q < 2 ^ 31 by omega), cl_nI (show V < 2 ^ 31 by omega), if_neg hm, if_neg (Decidable.not_not.mpr c59), hz, hy, run_f (z := nI Z) (f := f) (Or.inr c81)]; rfl) (by decide) (by decide) SC.rfl)
                · refine j_il5 84 C dX5_copy_84 ?_
                  refine j_al0 86 C dX5_copy_86 ?_
                  refine jg_X5_31 87 C dX5_copy_87 ?_
                  refine j_il1 90 C dX5_copy_90 ?_
                  refine jl_A7 91 (by omega) C dX5_copy_91 ?_
                  refine j_top (nI Z) hz ?_
                  refine j_il2 92 C dX5_copy_92 ?_
                  refine j_isub 93 C dX5_copy_93 ?_
                  refine j_icgt 94 111 C dX5_copy_94 (by decide) (fun c94 => ?_) (fun c94 => ?_)
                  · have e1 : run (nI Z) f n = false := by cases z : run (nI Z) f n with | false => rfl | true => exact absurd ((run_ref hZ4 c71 c81).mp z) (Int32.not_le.mpr c94)
                    refine j_al0 111 C dX5_copy_111 ?_
                    refine j_ldc 112 C dX5_copy_112 cs_X5_40 ?_
                    refine j_vi 114 C dX5_copy_114 mv_X5_finds lk_X5_46 (c_X5_finds (f := 0) (by decide) (by decide)) rc_m rfl rfl ⟨(Nat.le_of_ble_eq_true rfl), (Nat.le_of_ble_eq_true rfl)⟩ (Nat.le_of_ble_eq_true rfl) (fun r114 g114 hp114 => ?_)
                    obtain ⟨rfl, rfl⟩ := hp114
                    exact hR dX5_copy_117 (cgM_f (f := 0) (by unfold m_copy; rw [v4, v11, cl_nI (show Q < 2 ^ 31 by omega), cl_nI (show V < 2 ^ 31 by omega), if_neg hm, if_neg (Decidable.not_not.mpr c59), hz, hy, e1]; rfl) (by decide) (by decide) SC.rfl)
                  · refine j_il5 97 C dX5_copy_97 ?_
                    refine j_al0 99 C dX5_copy_99 ?_
                    refine jg_X5_31 100 C dX5_copy_100 ?_
                    refine j_il3 103 C dX5_copy_103 ?_
                    refine jl_A7 104 (by omega) C dX5_copy_104 ?_
                    refine j_top (nI Y) hy ?_
                    refine j_il4 105 C dX5_copy_105 ?_
                    refine j_isub 107 C dX5_copy_107 ?_
                    refine j_icle 108 118 C dX5_copy_108 (by decide) (fun c108 => ?_) (fun c108 => ?_)
                    · have r1 := (run_ref hZ4 c71 c81).mpr (Int32.not_lt.mp c94)
                      have r2 := (run_ref hY4 c76 c81).mpr c108
                      obtain ⟨F, N, hFN, rfl, rfl⟩ := run_nat hZ4 r1
                      obtain ⟨U, N2, hUN, rfl, eN⟩ := run_nat hY4 r2
                      obtain rfl : N = N2 := (nI_eq (by omega) (by omega)).mp eN
                      by_cases hab : (40 * Q + F) < (40 * V + U)
                      · have loop : ∀ r j, j + r = N → ∀ o9 : Option Value, J X G 10 (ub g 20 (cpn (g 20) (40 * Q + F) (40 * V + U) r N)) 138 [some (.ref (mo G)), some (.int (nI Q)), some (.int (nI F)), some (.int (nI V)), some (.int (nI U)), some (.int (nI N)), some (.int (nI (40 * Q + F))), some (.int (nI (40 * V + U))), some (.int (nI j)), o9] [] := by
                          intro r
                          induction r with
                          | zero =>
                            intro j hj o9
                            obtain rfl : N = j := by omega
                            refine j_il8 138 C dX5_copy_138 ?_
                            refine j_il5 140 C dX5_copy_140 ?_
                            refine j_icge 142 192 C dX5_copy_142 (by decide) (fun c142 => ?_) (fun c142 => ?_)
                            · refine j_il5 192 C dX5_copy_192 ?_
                              exact hR dX5_copy_194 (cgM_r (by unfold m_copy; rw [v4, v11, cl_nI (show Q < 2 ^ 31 by omega), cl_nI (show V < 2 ^ 31 by omega), if_neg hm, if_neg (Decidable.not_not.mpr c59), hz, hy, r1, r2, cl_nI (show F < 2 ^ 31 by omega), cl_nI (show U < 2 ^ 31 by omega), cl_nI (show N < 2 ^ 31 by omega)]; rfl) rfl SC.rfl)
                            · exact absurd (nI_le (Nat.le_refl _) (by omega)) c142
                          | succ r ih =>
                            intro j hj o9
                            refine j_il8 138 C dX5_copy_138 ?_
                            refine j_il5 140 C dX5_copy_140 ?_
                            refine j_icge 142 192 C dX5_copy_142 (by decide) (fun c142 => ?_) (fun c142 => ?_)
                            · exact absurd c142 (nI_ge (a := j) (b := N) (by omega) (by omega))
                            · refine j_il6 145 C dX5_copy_145 ?_
                              refine j_il7 147 C dX5_copy_147 ?_
                              refine j_icge 149 162 C dX5_copy_149 (by decide) (fun c149 => ?_) (fun c149 => ?_)
                              · exact absurd c149 (nI_ge hab (by omega))
                              · refine j_il5 152 C dX5_copy_152 ?_
                                refine j_iconst 154 C dX5_copy_154 ic_1 ?_
                                refine j_isub 155 C dX5_copy_155 ?_
                                refine j_il8 156 C dX5_copy_156 ?_
                                refine j_isub 158 C dX5_copy_158 ?_
                                refine j_top (nI r) (by rw [show N = (j + r) + 1 by omega, nI_pred, pk_sub (by omega)]; congr 1; omega) ?_
                                refine j_goto 159 164 C dX5_copy_159 (by decide) ?_
                                refine j_is9 164 C dX5_copy_164 rfl (Nat.le_of_ble_eq_true rfl) ?_
                                refine j_al0 166 C dX5_copy_166 ?_
                                refine jg_X5_34 167 C dX5_copy_167 ?_
                                refine j_il7 170 C dX5_copy_170 ?_
                                refine j_il9 172 C dX5_copy_172 ?_
                                refine j_iadd 174 C dX5_copy_174 ?_
                                refine j_top (nI ((40 * V + U) + r)) (nI_add _ _) ?_
                                refine j_al0 175 C dX5_copy_175 ?_
                                refine jg_X5_34 176 C dX5_copy_176 ?_
                                refine j_il6 179 C dX5_copy_179 ?_
                                refine j_il9 181 C dX5_copy_181 ?_
                                refine j_iadd 183 C dX5_copy_183 ?_
                                refine j_top (nI ((40 * Q + F) + r)) (nI_add _ _) ?_
                                refine jl_A8 184 (by omega) C dX5_copy_184 ?_
                                rw [ub_s]
                                refine js_A8 185 (by omega) C dX5_copy_185 ?_
                                rw [ub_ub, ub_s, cpn_dn hab (by omega)]
                                refine j_inc8 186 C dX5_copy_186 rfl (nI_inc _) (Nat.le_of_ble_eq_true rfl) ?_
                                refine j_goto 189 138 C dX5_copy_189 (by decide) ?_
                                exact ih (j + 1) (by omega) _
                        refine j_bipush 118 C dX5_copy_118 bp_40 ?_
                        refine j_il1 120 C dX5_copy_120 ?_
                        refine j_imul 121 C dX5_copy_121 ?_
                        refine j_il2 122 C dX5_copy_122 ?_
                        refine j_iadd 123 C dX5_copy_123 ?_
                        refine j_top (nI (40 * Q + F)) (ix_n Q F) ?_
                        refine j_is6 124 C dX5_copy_124 rfl (Nat.le_of_ble_eq_true rfl) ?_
                        refine j_bipush 126 C dX5_copy_126 bp_40 ?_
                        refine j_il3 128 C dX5_copy_128 ?_
                        refine j_imul 129 C dX5_copy_129 ?_
                        refine j_il4 130 C dX5_copy_130 ?_
                        refine j_iadd 132 C dX5_copy_132 ?_
                        refine j_top (nI (40 * V + U)) (ix_n V U) ?_
                        refine j_is7 133 C dX5_copy_133 rfl (Nat.le_of_ble_eq_true rfl) ?_
                        refine j_iconst 135 C dX5_copy_135 ic_0 ?_
                        refine j_is8 136 C dX5_copy_136 rfl (Nat.le_of_ble_eq_true rfl) ?_
                        have h9 := loop N 0 (Nat.zero_add N) none
                        rw [cpn_0, ub_id] at h9
                        exact h9
                      · have loop : ∀ r j, j + r = N → ∀ o9 : Option Value, J X G 10 (ub g 20 (cpn (g 20) (40 * Q + F) (40 * V + U) 0 j)) 138 [some (.ref (mo G)), some (.int (nI Q)), some (.int (nI F)), some (.int (nI V)), some (.int (nI U)), some (.int (nI N)), some (.int (nI (40 * Q + F))), some (.int (nI (40 * V + U))), some (.int (nI j)), o9] [] := by
                          intro r
                          induction r with
                          | zero =>
                            intro j hj o9
                            obtain rfl : N = j := by omega
                            refine j_il8 138 C dX5_copy_138 ?_
                            refine j_il5 140 C dX5_copy_140 ?_
                            refine j_icge 142 192 C dX5_copy_142 (by decide) (fun c142 => ?_) (fun c142 => ?_)
                            · refine j_il5 192 C dX5_copy_192 ?_
                              exact hR dX5_copy_194 (cgM_r (by unfold m_copy; rw [v4, v11, cl_nI (show Q < 2 ^ 31 by omega), cl_nI (show V < 2 ^ 31 by omega), if_neg hm, if_neg (Decidable.not_not.mpr c59), hz, hy, r1, r2, cl_nI (show F < 2 ^ 31 by omega), cl_nI (show U < 2 ^ 31 by omega), cl_nI (show N < 2 ^ 31 by omega)]; rfl) rfl SC.rfl)
                            · exact absurd (nI_le (Nat.le_refl _) (by omega)) c142
                          | succ r ih =>
                            intro j hj o9
                            refine j_il8 138 C dX5_copy_138 ?_
                            refine j_il5 140 C dX5_copy_140 ?_
                            refine j_icge 142 192 C dX5_copy_142 (by decide) (fun c142 => ?_) (fun c142 => ?_)
                            · exact absurd c142 (nI_ge (a := j) (b := N) (by omega) (by omega))
                            · refine j_il6 145 C dX5_copy_145 ?_
                              refine j_il7 147 C dX5_copy_147 ?_
                              refine j_icge 149 162 C dX5_copy_149 (by decide) (fun c149 => ?_) (fun c149 => ?_)
                              · refine j_il8 162 C dX5_copy_162 ?_
                                refine j_is9 164 C dX5_copy_164 rfl (Nat.le_of_ble_eq_true rfl) ?_
                                refine j_al0 166 C dX5_copy_166 ?_
                                refine jg_X5_34 167 C dX5_copy_167 ?_
                                refine j_il7 170 C dX5_copy_170 ?_
                                refine j_il9 172 C dX5_copy_172 ?_
                                refine j_iadd 174 C dX5_copy_174 ?_
                                refine j_top (nI ((40 * V + U) + j)) (nI_add _ _) ?_
                                refine j_al0 175 C dX5_copy_175 ?_
                                refine jg_X5_34 176 C dX5_copy_176 ?_
                                refine j_il6 179 C dX5_copy_179 ?_
                                refine j_il9 181 C dX5_copy_181 ?_
                                refine j_iadd 183 C dX5_copy_183 ?_
                                refine j_top (nI ((40 * Q + F) + j)) (nI_add _ _) ?_
                                refine jl_A8 184 (by omega) C dX5_copy_184 ?_
                                rw [ub_s]
                                refine js_A8 185 (by omega) C dX5_copy_185 ?_
                                rw [ub_ub, ub_s, cpn_up (Nat.le_of_not_lt hab)]
                                refine j_inc8 186 C dX5_copy_186 rfl (nI_inc _) (Nat.le_of_ble_eq_true rfl) ?_
                                refine j_goto 189 138 C dX5_copy_189 (by decide) ?_
                                exact ih (j + 1) (by omega) _
                              · exact absurd (nI_le (Nat.le_of_not_lt hab) (by omega)) c149
                        refine j_bipush 118 C dX5_copy_118 bp_40 ?_
                        refine j_il1 120 C dX5_copy_120 ?_
                        refine j_imul 121 C dX5_copy_121 ?_
                        refine j_il2 122 C dX5_copy_122 ?_
                        refine j_iadd 123 C dX5_copy_123 ?_
                        refine j_top (nI (40 * Q + F)) (ix_n Q F) ?_
                        refine j_is6 124 C dX5_copy_124 rfl (Nat.le_of_ble_eq_true rfl) ?_
                        refine j_bipush 126 C dX5_copy_126 bp_40 ?_
                        refine j_il3 128 C dX5_copy_128 ?_
                        refine j_imul 129 C dX5_copy_129 ?_
                        refine j_il4 130 C dX5_copy_130 ?_
                        refine j_iadd 132 C dX5_copy_132 ?_
                        refine j_top (nI (40 * V + U)) (ix_n V U) ?_
                        refine j_is7 133 C dX5_copy_133 rfl (Nat.le_of_ble_eq_true rfl) ?_
                        refine j_iconst 135 C dX5_copy_135 ic_0 ?_
                        refine j_is8 136 C dX5_copy_136 rfl (Nat.le_of_ble_eq_true rfl) ?_
                        have h9 := loop N 0 (Nat.zero_add N) none
                        rw [cpn_0, ub_id] at h9
                        exact h9
                    · have e2 : run (nI Y) u n = false := by cases z : run (nI Y) u n with | false => rfl | true => exact absurd ((run_ref hY4 c76 c81).mp z) (c108)
                      refine j_al0 111 C dX5_copy_111 ?_
                      refine j_ldc 112 C dX5_copy_112 cs_X5_40 ?_
                      refine j_vi 114 C dX5_copy_114 mv_X5_finds lk_X5_46 (c_X5_finds (f := 0) (by decide) (by decide)) rc_m rfl rfl ⟨(Nat.le_of_ble_eq_true rfl), (Nat.le_of_ble_eq_true rfl)⟩ (Nat.le_of_ble_eq_true rfl) (fun r114 g114 hp114 => ?_)
                      obtain ⟨rfl, rfl⟩ := hp114
                      exact hR dX5_copy_117 (cgM_f (f := 0) (by unfold m_copy; rw [v4, v11, cl_nI (show Q < 2 ^ 31 by omega), cl_nI (show V < 2 ^ 31 by omega), if_neg hm, if_neg (Decidable.not_not.mpr c59), hz, hy, e2, Bool.and_false]; rfl) (by decide) (by decide) SC.rfl)
          · refine j_al0 62 C dX5_copy_62 ?_
            refine j_ldcw 63 C dX5_copy_63 cs_X5_296 ?_
            refine j_vi 66 C dX5_copy_66 mv_X5_finds lk_X5_46 (c_X5_finds (f := 2) (by decide) (by decide)) rc_m rfl rfl ⟨(Nat.le_of_ble_eq_true rfl), (Nat.le_of_ble_eq_true rfl)⟩ (Nat.le_of_ble_eq_true rfl) (fun r66 g66 hp66 => ?_)
            obtain ⟨rfl, rfl⟩ := hp66
            exact hR dX5_copy_69 (cgM_f (f := 2) (by unfold m_copy; rw [v4, v11, cl_nI (show Q < 2 ^ 31 by omega), cl_nI (show V < 2 ^ 31 by omega), if_neg hm, if_pos c59]; rfl) (by decide) (by decide) SC.rfl)
        · refine j_al0 39 C dX5_copy_39 ?_
          refine j_ldcw 40 C dX5_copy_40 cs_X5_292 ?_
          refine j_vi 43 C dX5_copy_43 mv_X5_finds lk_X5_46 (c_X5_finds (f := 5) (by decide) (by decide)) rc_m rfl rfl ⟨(Nat.le_of_ble_eq_true rfl), (Nat.le_of_ble_eq_true rfl)⟩ (Nat.le_of_ble_eq_true rfl) (fun r43 g43 hp43 => ?_)
          obtain ⟨rfl, rfl⟩ := hp43
          exact hR dX5_copy_46 (cgM_f (f := 5) (by unfold m_copy; rw [v4, v11, cl_nI (show Q < 2 ^ 31 by omega), cl_nI (show V < 2 ^ 31 by omega), if_pos (Or.inr (Int32.not_le.mp c36))]; rfl) (by decide) (by decide) SC.rfl)
    · have v11 := bi_0 c11
      refine j_al0 14 C dX5_copy_14 ?_
      refine j_ldc 15 C dX5_copy_15 cs_X5_40 ?_
      refine j_vi 17 C dX5_copy_17 mv_X5_finds lk_X5_46 (c_X5_finds (f := 0) (by decide) (by decide)) rc_m rfl rfl ⟨(Nat.le_of_ble_eq_true rfl), (Nat.le_of_ble_eq_true rfl)⟩ (Nat.le_of_ble_eq_true rfl) (fun r17 g17 hp17 => ?_)
      obtain ⟨rfl, rfl⟩ := hp17
      exact hR dX5_copy_20 (cgM_f (f := 0) (by simp [m_copy, v4, v11]) (by decide) (by decide) SC.rfl)
