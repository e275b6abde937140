set_option maxRecDepth 20000 in
theorem c_X4_out {G : GT} {g : Mem} (hS : SI (g 0)) {T : Nat} (hT : g 0 1 = nI T) (hTb : T ≤ 31000) {p n : Int32} : Cti G yX4_out cX4_out 7 .int 6 143 [.ref (xo G), .int p, .int n] g (fun r g' => cpX (s_out p n (g 0)) g r g') := by
  refine ent_i (by decide) (Nat.le_of_ble_eq_true rfl) [some (.ref (xo G)), some (.int p), some (.int n), none, none, none, none] rfl ?_
  intro X C hR
  have C : CX X G RX4 cX4_out 7 6 143 := C
  obtain ⟨hM8, hM0⟩ := SI_cl0 hS
  refine j_il1 0 C dX4_out_0 ?_
  refine j_si 1 C dX4_out_1 ms_X4_isPage lk_X4_47 (c_X4_isPage) rfl rfl ⟨(Nat.le_of_ble_eq_true rfl), (Nat.le_of_ble_eq_true rfl)⟩ (Nat.le_of_ble_eq_true rfl) (fun r1 g1 hp1 => ?_)
  obtain ⟨rfl, rfl⟩ := hp1
  refine j_ifeq 4 17 C dX4_out_4 (by decide) (fun c4 => ?_) (fun c4 => ?_)
  · have v4 := bi_0 c4
    refine j_al0 17 C dX4_out_17 ?_
    refine j_ldc 18 C dX4_out_18 cs_X4_57 ?_
    refine j_vi 20 C dX4_out_20 mv_X4_finding lk_X4_58 (c_X4_finding (f := 0) (by decide) (by decide)) rc_x rfl rfl ⟨(Nat.le_of_ble_eq_true rfl), (Nat.le_of_ble_eq_true rfl)⟩ (Nat.le_of_ble_eq_true rfl) (fun r20 g20 hp20 => ?_)
    obtain ⟨rfl, rfl⟩ := hp20
    exact hR dX4_out_23 (cpX_f (f := 0) (by simp [s_out, v4]) (by decide) (by decide) SC.rfl)
  · have v4 := bi_n c4
    refine j_il2 7 C dX4_out_7 ?_
    refine j_iconst 8 C dX4_out_8 ic_0 ?_
    refine j_bipush 9 C dX4_out_9 bp_20 ?_
    refine j_si 11 C dX4_out_11 ms_X4_within lk_X4_99 (c_X4_within) rfl rfl ⟨(Nat.le_of_ble_eq_true rfl), (Nat.le_of_ble_eq_true rfl)⟩ (Nat.le_of_ble_eq_true rfl) (fun r11 g11 hp11 => ?_)
    obtain ⟨rfl, rfl⟩ := hp11
    refine j_ifne 14 24 C dX4_out_14 (by decide) (fun c14 => ?_) (fun c14 => ?_)
    · have v14 := bi_n c14
      obtain ⟨P, hP, rfl⟩ := inr_nat (n := 5) (by decide) v4
      obtain ⟨N, hN, rfl⟩ := inr_nat (n := 20) (by decide) v14
      have hP6 : P < 6 := by omega
      have hon : (onS (g 0) P) < 256 := Nat.lt_of_lt_of_le (onS_lt hS) (two_le hS)
      have inner : ∀ z, z < pcn (onS (g 0) P) → noB (g 0) P N z → (noB (g 0) P N (z + 1) → ∀ (E : Row) (o5 o6 : Option Value), J X G 7 (ub g 2 E) 36 [some (.ref (xo G)), some (.int (nI P)), some (.int (nI N)), some (.int (nI (onS (g 0) P))), some (.int (nI (z + 1))), o5, o6] []) → ∀ n s, s + n = (onS (g 0) P) → (∀ q, q < s → q &&& (onS (g 0) P) = q → pcn q = z → stay (g 0) P N q = false) → ∀ (E : Row) (o6 : Option Value), J X G 7 (ub g 2 E) 48 [some (.ref (xo G)), some (.int (nI P)), some (.int (nI N)), some (.int (nI (onS (g 0) P))), some (.int (nI z)), some (.int (nI s)), o6] [] := by
        intro z hz hB hx n
        induction n with
        | zero =>
          intro s hs hq E o6
          refine j_il5 48 C dX4_out_48 ?_
          refine j_il3 50 C dX4_out_50 ?_
          refine j_icge 51 105 C dX4_out_51 (by decide) (fun c51 => ?_) (fun c51 => ?_)
          · have hB2 : noB (g 0) P N (z + 1) := by
              intro q h1 h2 h3
              by_cases h4 : pcn q < z
              · exact hB q h1 h2 h4
              · obtain ⟨a1, a2, a3⟩ := pcn_sub h2 hon h1
                have h5 : q ≠ (onS (g 0) P) := fun e => by rw [e] at h3; omega
                exact hq q (by omega) h1 (by omega)
            refine j_inc4 105 C dX4_out_105 rfl (nI_inc _) (Nat.le_of_ble_eq_true rfl) ?_
            refine j_goto 108 36 C dX4_out_108 (by decide) ?_
            exact hx hB2 E _ o6
          · exact absurd (show nI (onS (g 0) P) ≤ nI s by rw [show s = (onS (g 0) P) by omega]; exact nI_le (Nat.le_refl _) (by omega)) c51
        | succ n ih =>
          intro s hs hq E o6
          refine j_il5 48 C dX4_out_48 ?_
          refine j_il3 50 C dX4_out_50 ?_
          refine j_icge 51 105 C dX4_out_51 (by decide) (fun c51 => ?_) (fun c51 => ?_)
          · exact absurd c51 (nI_ge (a := s) (b := (onS (g 0) P)) (by omega) (by omega))
          · refine j_il5 54 C dX4_out_54 ?_
            refine j_il3 56 C dX4_out_56 ?_
            refine j_iconst 57 C dX4_out_57 ic_m1 ?_
            refine j_ixor 58 C dX4_out_58 ?_
            refine j_iand 59 C dX4_out_59 ?_
            refine j_ifne 60 77 C dX4_out_60 (by decide) (fun c60 => ?_) (fun c60 => ?_)
            · refine j_iconst 77 C dX4_out_77 ic_0 ?_
              refine j_is6 78 C dX4_out_78 rfl (Nat.le_of_ble_eq_true rfl) ?_
              refine j_il6 80 C dX4_out_80 ?_
              refine j_ifeq 82 99 C dX4_out_82 (by decide) (fun c82 => ?_) (fun c82 => ?_)
              · have hq2 : ∀ q, q < s + 1 → q &&& (onS (g 0) P) = q → pcn q = z → stay (g 0) P N q = false := by
                  intro q h1 h2 h3
                  by_cases h4 : q = s
                  · subst h4; exact absurd ((sub_bit hon (by omega)).mpr h2) c60
                  · exact hq q (by omega) h2 h3
                refine j_inc5 99 C dX4_out_99 rfl (nI_inc _) (Nat.le_of_ble_eq_true rfl) ?_
                refine j_goto 102 48 C dX4_out_102 (by decide) ?_
                exact ih (s + 1) (by omega) hq2 E _
              · exact absurd rfl c82
            · refine j_il5 63 C dX4_out_63 ?_
              refine j_si 65 C dX4_out_65 ms_J6_bitCount_0f7a4 lk_X4_175 (c_J6_bitCount_0f7a4) rfl rfl ⟨(Nat.le_of_ble_eq_true rfl), (Nat.le_of_ble_eq_true rfl)⟩ (Nat.le_of_ble_eq_true rfl) (fun r65 g65 hp65 => ?_)
              obtain ⟨hr65, rfl⟩ := hp65
              rw [bcnt_nat _ (by omega)] at hr65
              subst hr65
              refine j_il4 68 C dX4_out_68 ?_
              refine j_icne 70 77 C dX4_out_70 (by decide) (fun c70 => ?_) (fun c70 => ?_)
              · refine j_iconst 77 C dX4_out_77 ic_0 ?_
                refine j_is6 78 C dX4_out_78 rfl (Nat.le_of_ble_eq_true rfl) ?_
                refine j_il6 80 C dX4_out_80 ?_
                refine j_ifeq 82 99 C dX4_out_82 (by decide) (fun c82 => ?_) (fun c82 => ?_)
                · have hq2 : ∀ q, q < s + 1 → q &&& (onS (g 0) P) = q → pcn q = z → stay (g 0) P N q = false := by
                    intro q h1 h2 h3
                    by_cases h4 : q = s
                    · subst h4; exact absurd (show nI (pcn q) = nI z by rw [h3]) c70
                    · exact hq q (by omega) h2 h3
                  refine j_inc5 99 C dX4_out_99 rfl (nI_inc _) (Nat.le_of_ble_eq_true rfl) ?_
                  refine j_goto 102 48 C dX4_out_102 (by decide) ?_
                  exact ih (s + 1) (by omega) hq2 E _
                · exact absurd rfl c82
              · refine j_iconst 73 C dX4_out_73 ic_1 ?_
                refine j_goto 74 78 C dX4_out_74 (by decide) ?_
                refine j_is6 78 C dX4_out_78 rfl (Nat.le_of_ble_eq_true rfl) ?_
                refine j_il6 80 C dX4_out_80 ?_
                refine j_ifeq 82 99 C dX4_out_82 (by decide) (fun c82 => ?_) (fun c82 => ?_)
                · exact absurd c82 (by decide)
                · refine j_al0 85 C dX4_out_85 ?_
                  refine j_il5 86 C dX4_out_86 ?_
                  refine j_il1 88 C dX4_out_88 ?_
                  refine j_il2 89 C dX4_out_89 ?_
                  refine j_vi 90 C dX4_out_90 mv_X4_staysWithout lk_X4_180 (c_X4_staysWithout (g := ub g 2 E) (O := s) (by rw [ub_n (by decide)]; exact hS) (by rw [ub_n (by decide)]; exact hT) (by omega) (by omega) hP6) rc_x rfl rfl ⟨(Nat.le_of_ble_eq_true rfl), (Nat.le_of_ble_eq_true rfl)⟩ (Nat.le_of_ble_eq_true rfl) (fun r90 g90 hp90 => ?_)
                  obtain ⟨hr90, rfl⟩ := hp90
                  rw [ub_n (b' := 0) (b := 2) (by decide)] at hr90
                  subst hr90
                  rw [ub_ub, ub_n (b' := 0) (b := 2) (by decide)]
                  refine j_ifeq 93 99 C dX4_out_93 (by decide) (fun c93 => ?_) (fun c93 => ?_)
                  · have e93 : stay (g 0) P N s = false := bi_0 c93
                    have hq2 : ∀ q, q < s + 1 → q &&& (onS (g 0) P) = q → pcn q = z → stay (g 0) P N q = false := by
                      intro q h1 h2 h3
                      by_cases h4 : q = s
                      · subst h4; exact e93
                      · exact hq q (by omega) h2 h3
                    refine j_inc5 99 C dX4_out_99 rfl (nI_inc _) (Nat.le_of_ble_eq_true rfl) ?_
                    refine j_goto 102 48 C dX4_out_102 (by decide) ?_
                    exact ih (s + 1) (by omega) hq2 _ _
                  · have e93 : stay (g 0) P N s = true := bi_n c93
                    have e70 : pcn s = z := (nI_eq (by have := pcn_le8 s; omega) (by have := pcn_le8 (onS (g 0) P); omega)).mp c70
                    have hsub := (sub_bit hon (by omega)).mp c60
                    have hbo := out_at hS hP6 hsub e93 (by rw [e70]; exact hB) (fun q h1 h2 h3 => hq q h1 h2 (h3.trans e70))
                    refine j_il5 96 C dX4_out_96 ?_
                    exact hR dX4_out_98 (cpX_q (by unfold s_out; rw [v4, v14, cl_nI (show P < 2 ^ 31 by omega), cl_nI (show N < 2 ^ 31 by omega)]; exact (if_pos rfl).trans (by rw [hbo]; rfl)) rfl (SC_ub (Or.inl rfl)))
      have outer : ∀ n z, z + n = pcn (onS (g 0) P) → noB (g 0) P N z → ∀ (E : Row) (o5 o6 : Option Value), J X G 7 (ub g 2 E) 36 [some (.ref (xo G)), some (.int (nI P)), some (.int (nI N)), some (.int (nI (onS (g 0) P))), some (.int (nI z)), o5, o6] [] := by
        intro n
        induction n with
        | zero =>
          intro z hz hB E o5 o6
          refine j_il4 36 C dX4_out_36 ?_
          refine j_il3 38 C dX4_out_38 ?_
          refine j_si 39 C dX4_out_39 ms_J6_bitCount_0f7a4 lk_X4_175 (c_J6_bitCount_0f7a4) rfl rfl ⟨(Nat.le_of_ble_eq_true rfl), (Nat.le_of_ble_eq_true rfl)⟩ (Nat.le_of_ble_eq_true rfl) (fun r39 g39 hp39 => ?_)
          obtain ⟨hr39, rfl⟩ := hp39
          rw [bcnt_nat _ hon] at hr39
          subst hr39
          refine j_icge 42 111 C dX4_out_42 (by decide) (fun c42 => ?_) (fun c42 => ?_)
          · have hbo := out_at (N := N) hS hP6 (Nat.and_self (onS (g 0) P)) (stay_on hS hP6) (by rw [show pcn (onS (g 0) P) = z by omega]; exact hB) (fun q h1 h2 h3 => absurd ((pcn_sub (by omega) hon h2).2.2 h3) (by omega))
            refine j_il3 111 C dX4_out_111 ?_
            exact hR dX4_out_112 (cpX_q (by unfold s_out; rw [v4, v14, cl_nI (show P < 2 ^ 31 by omega), cl_nI (show N < 2 ^ 31 by omega)]; exact (if_pos rfl).trans (by rw [hbo]; rfl)) rfl (SC_ub (Or.inl rfl)))
          · exact absurd (show nI (pcn (onS (g 0) P)) ≤ nI z by rw [show z = pcn (onS (g 0) P) by omega]; exact nI_le (Nat.le_refl _) (by have := pcn_le8 (onS (g 0) P); omega)) c42
        | succ n ih =>
          intro z hz hB E o5 o6
          refine j_il4 36 C dX4_out_36 ?_
          refine j_il3 38 C dX4_out_38 ?_
          refine j_si 39 C dX4_out_39 ms_J6_bitCount_0f7a4 lk_X4_175 (c_J6_bitCount_0f7a4) rfl rfl ⟨(Nat.le_of_ble_eq_true rfl), (Nat.le_of_ble_eq_true rfl)⟩ (Nat.le_of_ble_eq_true rfl) (fun r39 g39 hp39 => ?_)
          obtain ⟨hr39, rfl⟩ := hp39
          rw [bcnt_nat _ hon] at hr39
          subst hr39
          refine j_icge 42 111 C dX4_out_42 (by decide) (fun c42 => ?_) (fun c42 => ?_)
          · exact absurd c42 (nI_ge (a := z) (b := pcn (onS (g 0) P)) (by omega) (by have := pcn_le8 (onS (g 0) P); omega))
          · refine j_iconst 45 C dX4_out_45 ic_0 ?_
            refine j_is5 46 C dX4_out_46 rfl (Nat.le_of_ble_eq_true rfl) ?_
            exact inner z (by omega) hB (fun hB2 => ih (z + 1) (by omega) hB2) (onS (g 0) P) 0 (Nat.zero_add _) (fun q hq => absurd hq (Nat.not_lt_zero q)) E o6
      refine j_al0 24 C dX4_out_24 ?_
      refine jg_X4_12 25 C dX4_out_25 ?_
      refine j_il1 28 C dX4_out_28 ?_
      refine j_vi 29 C dX4_out_29 mv_X0_mothsOn lk_X4_76 (c_X0_mothsOn lt4_0 hM8 hM0) (rc_d lt4_0) rfl rfl ⟨(Nat.le_of_ble_eq_true rfl), (Nat.le_of_ble_eq_true rfl)⟩ (Nat.le_of_ble_eq_true rfl) (fun r29 g29 hp29 => ?_)
      obtain ⟨hr29, rfl⟩ := hp29
      rw [bs_nat _ hM8] at hr29
      have hr29 : r29 = nI (onS (g 0) P) := hr29
      subst hr29
      refine j_is3 32 C dX4_out_32 rfl (Nat.le_of_ble_eq_true rfl) ?_
      refine j_iconst 33 C dX4_out_33 ic_0 ?_
      refine j_is4 34 C dX4_out_34 rfl (Nat.le_of_ble_eq_true rfl) ?_
      have h9 := outer (pcn (onS (g 0) P)) 0 (Nat.zero_add _) (fun q _ _ h => absurd h (Nat.not_lt_zero _)) (g 2) none none
      rw [ub_id] at h9
      exact h9
    · have v14 := bi_0 c14
      refine j_al0 17 C dX4_out_17 ?_
      refine j_ldc 18 C dX4_out_18 cs_X4_57 ?_
      refine j_vi 20 C dX4_out_20 mv_X4_finding lk_X4_58 (c_X4_finding (f := 0) (by decide) (by decide)) rc_x rfl rfl ⟨(Nat.le_of_ble_eq_true rfl), (Nat.le_of_ble_eq_true rfl)⟩ (Nat.le_of_ble_eq_true rfl) (fun r20 g20 hp20 => ?_)
      obtain ⟨rfl, rfl⟩ := hp20
      exact hR dX4_out_23 (cpX_f (f := 0) (by simp [s_out, v4, v14]) (by decide) (by decide) SC.rfl)
