set_option maxRecDepth 20000 in
theorem c_X5_load {G : GT} {g : Mem} (hS : SI (g 12)) (hZ : HZ g) {s : Int32} : Cti G yX5_load cX5_load 3 .int 2 41 [.ref (mo G), .int s] g (fun r g' => cgM (m_load s g) g r g') := by
  refine ent_i (by decide) (Nat.le_of_ble_eq_true rfl) [some (.ref (mo G)), some (.int s), none] rfl ?_
  intro X C hR
  have C : CX X G RX5 cX5_load 3 2 41 := C
  rcases wn_or s g with ⟨hs, hw⟩ | ⟨hs, hn, hw⟩ | ⟨Q, hQ, rfl, hn, hw⟩
  · refine j_al0 0 C dX5_load_0 ?_
    refine j_il1 1 C dX5_load_1 ?_
    refine j_vi 2 C dX5_load_2 mv_X5_wants lk_X5_197 (c_X5_wants) rc_m rfl rfl ⟨(Nat.le_of_ble_eq_true rfl), (Nat.le_of_ble_eq_true rfl)⟩ (Nat.le_of_ble_eq_true rfl) (fun r2 g2 hp2 => ?_)
    obtain ⟨rfl, rfl⟩ := hp2
    refine j_ifeq 5 18 C dX5_load_5 (by decide) (fun c5 => ?_) (fun c5 => ?_)
    · rw [hw] at c5
      exact absurd c5 (by decide)
    · refine j_al0 8 C dX5_load_8 ?_
      refine j_al0 9 C dX5_load_9 ?_
      refine j_il1 10 C dX5_load_10 ?_
      refine j_vi 11 C dX5_load_11 mv_X5_wants lk_X5_197 (c_X5_wants) rc_m rfl rfl ⟨(Nat.le_of_ble_eq_true rfl), (Nat.le_of_ble_eq_true rfl)⟩ (Nat.le_of_ble_eq_true rfl) (fun r11 g11 hp11 => ?_)
      obtain ⟨rfl, rfl⟩ := hp11
      refine j_vi 14 C dX5_load_14 mv_X5_finds lk_X5_46 (c_X5_finds (f := 0) (by decide) hw) rc_m rfl rfl ⟨(Nat.le_of_ble_eq_true rfl), (Nat.le_of_ble_eq_true rfl)⟩ (Nat.le_of_ble_eq_true rfl) (fun r14 g14 hp14 => ?_)
      obtain ⟨rfl, rfl⟩ := hp14
      rw [hw]
      exact hR dX5_load_17 (cgM_f (f := 0) (my_0 hs) (by decide) (by decide) SC.rfl)
  · refine j_al0 0 C dX5_load_0 ?_
    refine j_il1 1 C dX5_load_1 ?_
    refine j_vi 2 C dX5_load_2 mv_X5_wants lk_X5_197 (c_X5_wants) rc_m rfl rfl ⟨(Nat.le_of_ble_eq_true rfl), (Nat.le_of_ble_eq_true rfl)⟩ (Nat.le_of_ble_eq_true rfl) (fun r2 g2 hp2 => ?_)
    obtain ⟨rfl, rfl⟩ := hp2
    refine j_ifeq 5 18 C dX5_load_5 (by decide) (fun c5 => ?_) (fun c5 => ?_)
    · rw [hw] at c5
      exact absurd c5 (by decide)
    · refine j_al0 8 C dX5_load_8 ?_
      refine j_al0 9 C dX5_load_9 ?_
      refine j_il1 10 C dX5_load_10 ?_
      refine j_vi 11 C dX5_load_11 mv_X5_wants lk_X5_197 (c_X5_wants) rc_m rfl rfl ⟨(Nat.le_of_ble_eq_true rfl), (Nat.le_of_ble_eq_true rfl)⟩ (Nat.le_of_ble_eq_true rfl) (fun r11 g11 hp11 => ?_)
      obtain ⟨rfl, rfl⟩ := hp11
      refine j_vi 14 C dX5_load_14 mv_X5_finds lk_X5_46 (c_X5_finds (f := 5) (by decide) hw) rc_m rfl rfl ⟨(Nat.le_of_ble_eq_true rfl), (Nat.le_of_ble_eq_true rfl)⟩ (Nat.le_of_ble_eq_true rfl) (fun r14 g14 hp14 => ?_)
      obtain ⟨rfl, rfl⟩ := hp14
      rw [hw]
      exact hR dX5_load_17 (cgM_f (f := 5) (my_5 hs hn) (by decide) (by decide) SC.rfl)
  · obtain ⟨-, Z, hZ4, hz⟩ := hZ Q (by omega)
    have hsz : szM g Q = Z := by show cl (g 19 Q) = Z; rw [hz]; exact cl_nI (by omega)
    refine j_al0 0 C dX5_load_0 ?_
    refine j_il1 1 C dX5_load_1 ?_
    refine j_vi 2 C dX5_load_2 mv_X5_wants lk_X5_197 (c_X5_wants) rc_m rfl rfl ⟨(Nat.le_of_ble_eq_true rfl), (Nat.le_of_ble_eq_true rfl)⟩ (Nat.le_of_ble_eq_true rfl) (fun r2 g2 hp2 => ?_)
    obtain ⟨rfl, rfl⟩ := hp2
    refine j_ifeq 5 18 C dX5_load_5 (by decide) (fun c5 => ?_) (fun c5 => ?_)
    · have loop : ∀ n k, k + n = min Z 8 → cnt (fun i => inr ((nuM g Q) i) 0 9) 0 (min Z 8) = cnt (fun i => inr ((nuM g Q) i) 0 9) k (min Z 8 - k) → J X G 3 (ub g 12 (lds (g 12) (nuM g Q) k)) 20 [some (.ref (mo G)), some (.int (nI Q)), some (.int (nI k))] [] := by
        intro n
        induction n with
        | zero =>
          intro k hk hf
          have he : cnt (fun i => inr ((nuM g Q) i) 0 9) 0 (min Z 8) = k := by
            have hk2 : k = min Z 8 := by omega
            rw [hk2] at hf ⊢; exact cnt_e hf
          refine j_il2 20 C dX5_load_20 ?_
          refine j_al0 21 C dX5_load_21 ?_
          refine jg_X5_31 22 C dX5_load_22 ?_
          refine j_il1 25 C dX5_load_25 ?_
          refine jl_A7 26 (by omega) C dX5_load_26 ?_
          refine j_top (nI Z) (by rw [ub_n (by decide)]; exact hz) ?_
          refine j_icge 27 83 C dX5_load_27 (by decide) (fun c27 => ?_) (fun c27 => ?_)
          · refine j_il2 83 C dX5_load_83 ?_
            exact hR dX5_load_84 (cgM_r ((my_k hQ hn).trans (by rw [cl_nI (show Q < 2 ^ 31 by omega), hsz]; unfold ldc; rw [he])) rfl SC.rfl)
          · have hlt : k < Z := Nat.lt_of_not_le (fun q => c27 (nI_le q (by omega)))
            refine j_il2 30 C dX5_load_30 ?_
            refine j_bipush 31 C dX5_load_31 bp_8 ?_
            refine j_icge 33 83 C dX5_load_33 (by decide) (fun c33 => ?_) (fun c33 => ?_)
            · refine j_il2 83 C dX5_load_83 ?_
              exact hR dX5_load_84 (cgM_r ((my_k hQ hn).trans (by rw [cl_nI (show Q < 2 ^ 31 by omega), hsz]; unfold ldc; rw [he])) rfl SC.rfl)
            · exact absurd (nI_le (a := 8) (b := k) (by omega) (by omega)) c33
        | succ n ih =>
          intro k hk hf
          refine j_il2 20 C dX5_load_20 ?_
          refine j_al0 21 C dX5_load_21 ?_
          refine jg_X5_31 22 C dX5_load_22 ?_
          refine j_il1 25 C dX5_load_25 ?_
          refine jl_A7 26 (by omega) C dX5_load_26 ?_
          refine j_top (nI Z) (by rw [ub_n (by decide)]; exact hz) ?_
          refine j_icge 27 83 C dX5_load_27 (by decide) (fun c27 => ?_) (fun c27 => ?_)
          · exact absurd c27 (nI_ge (a := k) (b := Z) (by omega) (by omega))
          · refine j_il2 30 C dX5_load_30 ?_
            refine j_bipush 31 C dX5_load_31 bp_8 ?_
            refine j_icge 33 83 C dX5_load_33 (by decide) (fun c33 => ?_) (fun c33 => ?_)
            · exact absurd c33 (nI_ge (a := k) (b := 8) (by omega) (by decide))
            · refine j_al0 36 C dX5_load_36 ?_
              refine jg_X5_34 37 C dX5_load_37 ?_
              refine j_bipush 40 C dX5_load_40 bp_40 ?_
              refine j_il1 42 C dX5_load_42 ?_
              refine j_imul 43 C dX5_load_43 ?_
              refine j_il2 44 C dX5_load_44 ?_
              refine j_iadd 45 C dX5_load_45 ?_
              refine j_top (nI (40 * Q + k)) (ix_n Q k) ?_
              refine jl_A8 46 (by omega) C dX5_load_46 ?_
              refine j_top (nuM g Q k) (by rw [ub_n (by decide)]) ?_
              refine j_i2l 47 C dX5_load_47 ?_
              refine j_lconst 48 C dX5_load_48 lc_0 ?_
              refine j_ldc2 49 C dX5_load_49 cl_X5_54 ?_
              refine j_si 52 C dX5_load_52 ms_X5_isIn lk_X5_56 (c_X5_isIn (lo := 0) (hi := 9) (by decide) (by decide)) rfl rfl ⟨(Nat.le_of_ble_eq_true rfl), (Nat.le_of_ble_eq_true rfl)⟩ (Nat.le_of_ble_eq_true rfl) (fun r52 g52 hp52 => ?_)
              obtain ⟨rfl, rfl⟩ := hp52
              refine j_ifeq 55 83 C dX5_load_55 (by decide) (fun c55 => ?_) (fun c55 => ?_)
              · have v55 := bi_0 c55
                have he := cnt_s hf (by omega) v55
                refine j_il2 83 C dX5_load_83 ?_
                exact hR dX5_load_84 (cgM_r ((my_k hQ hn).trans (by rw [cl_nI (show Q < 2 ^ 31 by omega), hsz]; unfold ldc; rw [he])) rfl SC.rfl)
              · have v55 := bi_n c55
                have he := cnt_n hf (by omega) v55
                refine j_al0 58 C dX5_load_58 ?_
                refine jg_X5_7 59 C dX5_load_59 ?_
                refine j_iconst 62 C dX5_load_62 ic_3 ?_
                refine j_il2 63 C dX5_load_63 ?_
                refine j_iadd 64 C dX5_load_64 ?_
                refine j_top (nI (3 + (8 * 0 + k))) (by rw [show 8 * 0 + k = k by omega]; exact nI_add 3 k) ?_
                refine j_al0 65 C dX5_load_65 ?_
                refine jg_X5_34 66 C dX5_load_66 ?_
                refine j_bipush 69 C dX5_load_69 bp_40 ?_
                refine j_il1 71 C dX5_load_71 ?_
                refine j_imul 72 C dX5_load_72 ?_
                refine j_il2 73 C dX5_load_73 ?_
                refine j_iadd 74 C dX5_load_74 ?_
                refine j_top (nI (40 * Q + k)) (ix_n Q k) ?_
                refine jl_A8 75 (by omega) C dX5_load_75 ?_
                refine j_top (nuM g Q k) (by rw [ub_n (by decide)]) ?_
                refine js_A0 76 (by omega) C dX5_load_76 ?_
                rw [ub_ub, ub_s]
                refine j_inc2 77 C dX5_load_77 rfl (nI_inc _) (Nat.le_of_ble_eq_true rfl) ?_
                refine j_goto 80 20 C dX5_load_80 (by decide) ?_
                exact ih (k + 1) (by omega) he
      refine j_iconst 18 C dX5_load_18 ic_0 ?_
      refine j_is2 19 C dX5_load_19 rfl (Nat.le_of_ble_eq_true rfl) ?_
      have h9 := loop (min Z 8) 0 (Nat.zero_add _) rfl
      rw [show ub g 12 (lds (g 12) (nuM g Q) 0) = g from ub_id] at h9
      exact h9
    · exact absurd hw c5
set_option maxRecDepth 20000 in
theorem c_X5_judge {G : GT} {g : Mem} (hS : SI (g 12)) (hZ : HZ g) {s : Int32} : Cti G yX5_judge cX5_judge 3 .int 2 45 [.ref (mo G), .int s] g (fun r g' => cgM (m_judge s g) g r g') := by
  refine ent_i (by decide) (Nat.le_of_ble_eq_true rfl) [some (.ref (mo G)), some (.int s), none] rfl ?_
  intro X C hR
  have C : CX X G RX5 cX5_judge 3 2 45 := C
  rcases wn_or s g with ⟨hs, hw⟩ | ⟨hs, hn, hw⟩ | ⟨Q, hQ, rfl, hn, hw⟩
  · refine j_al0 0 C dX5_judge_0 ?_
    refine j_il1 1 C dX5_judge_1 ?_
    refine j_vi 2 C dX5_judge_2 mv_X5_wants lk_X5_197 (c_X5_wants) rc_m rfl rfl ⟨(Nat.le_of_ble_eq_true rfl), (Nat.le_of_ble_eq_true rfl)⟩ (Nat.le_of_ble_eq_true rfl) (fun r2 g2 hp2 => ?_)
    obtain ⟨rfl, rfl⟩ := hp2
    refine j_ifeq 5 18 C dX5_judge_5 (by decide) (fun c5 => ?_) (fun c5 => ?_)
    · rw [hw] at c5
      exact absurd c5 (by decide)
    · refine j_al0 8 C dX5_judge_8 ?_
      refine j_al0 9 C dX5_judge_9 ?_
      refine j_il1 10 C dX5_judge_10 ?_
      refine j_vi 11 C dX5_judge_11 mv_X5_wants lk_X5_197 (c_X5_wants) rc_m rfl rfl ⟨(Nat.le_of_ble_eq_true rfl), (Nat.le_of_ble_eq_true rfl)⟩ (Nat.le_of_ble_eq_true rfl) (fun r11 g11 hp11 => ?_)
      obtain ⟨rfl, rfl⟩ := hp11
      refine j_vi 14 C dX5_judge_14 mv_X5_finds lk_X5_46 (c_X5_finds (f := 0) (by decide) hw) rc_m rfl rfl ⟨(Nat.le_of_ble_eq_true rfl), (Nat.le_of_ble_eq_true rfl)⟩ (Nat.le_of_ble_eq_true rfl) (fun r14 g14 hp14 => ?_)
      obtain ⟨rfl, rfl⟩ := hp14
      rw [hw]
      exact hR dX5_judge_17 (cgM_f (f := 0) (my_0 hs) (by decide) (by decide) SC.rfl)
  · refine j_al0 0 C dX5_judge_0 ?_
    refine j_il1 1 C dX5_judge_1 ?_
    refine j_vi 2 C dX5_judge_2 mv_X5_wants lk_X5_197 (c_X5_wants) rc_m rfl rfl ⟨(Nat.le_of_ble_eq_true rfl), (Nat.le_of_ble_eq_true rfl)⟩ (Nat.le_of_ble_eq_true rfl) (fun r2 g2 hp2 => ?_)
    obtain ⟨rfl, rfl⟩ := hp2
    refine j_ifeq 5 18 C dX5_judge_5 (by decide) (fun c5 => ?_) (fun c5 => ?_)
    · rw [hw] at c5
      exact absurd c5 (by decide)
    · refine j_al0 8 C dX5_judge_8 ?_
      refine j_al0 9 C dX5_judge_9 ?_
      refine j_il1 10 C dX5_judge_10 ?_
      refine j_vi 11 C dX5_judge_11 mv_X5_wants lk_X5_197 (c_X5_wants) rc_m rfl rfl ⟨(Nat.le_of_ble_eq_true rfl), (Nat.le_of_ble_eq_true rfl)⟩ (Nat.le_of_ble_eq_true rfl) (fun r11 g11 hp11 => ?_)
      obtain ⟨rfl, rfl⟩ := hp11
      refine j_vi 14 C dX5_judge_14 mv_X5_finds lk_X5_46 (c_X5_finds (f := 5) (by decide) hw) rc_m rfl rfl ⟨(Nat.le_of_ble_eq_true rfl), (Nat.le_of_ble_eq_true rfl)⟩ (Nat.le_of_ble_eq_true rfl) (fun r14 g14 hp14 => ?_)
      obtain ⟨rfl, rfl⟩ := hp14
      rw [hw]
      exact hR dX5_judge_17 (cgM_f (f := 5) (my_5 hs hn) (by decide) (by decide) SC.rfl)
  · obtain ⟨-, Z, hZ4, hz⟩ := hZ Q (by omega)
    have hsz : szM g Q = Z := by show cl (g 19 Q) = Z; rw [hz]; exact cl_nI (by omega)
    refine j_al0 0 C dX5_judge_0 ?_
    refine j_il1 1 C dX5_judge_1 ?_
    refine j_vi 2 C dX5_judge_2 mv_X5_wants lk_X5_197 (c_X5_wants) rc_m rfl rfl ⟨(Nat.le_of_ble_eq_true rfl), (Nat.le_of_ble_eq_true rfl)⟩ (Nat.le_of_ble_eq_true rfl) (fun r2 g2 hp2 => ?_)
    obtain ⟨rfl, rfl⟩ := hp2
    refine j_ifeq 5 18 C dX5_judge_5 (by decide) (fun c5 => ?_) (fun c5 => ?_)
    · have loop : ∀ n k, k + n = Z → cnt (fun i => decide (i < 6) && decide ((nuM g Q) i = ss (g 12) i 8)) 0 Z = cnt (fun i => decide (i < 6) && decide ((nuM g Q) i = ss (g 12) i 8)) k (Z - k) → J X G 3 g 20 [some (.ref (mo G)), some (.int (nI Q)), some (.int (nI k))] [] := by
        intro n
        induction n with
        | zero =>
          intro k hk hf
          have hk2 : k = Z := by omega
          have he : cnt (fun i => decide (i < 6) && decide ((nuM g Q) i = ss (g 12) i 8)) 0 Z = k := by rw [hk2] at hf ⊢; exact cnt_e hf
          have hkz : ¬ k < Z := by omega
          refine j_il2 20 C dX5_judge_20 ?_
          refine j_al0 21 C dX5_judge_21 ?_
          refine jg_X5_31 22 C dX5_judge_22 ?_
          refine j_il1 25 C dX5_judge_25 ?_
          refine jl_A7 26 (by omega) C dX5_judge_26 ?_
          refine j_top (nI Z) hz ?_
          refine j_icge 27 61 C dX5_judge_27 (by decide) (fun c27 => ?_) (fun c27 => ?_)
          · refine j_il2 61 C dX5_judge_61 ?_
            refine j_al0 62 C dX5_judge_62 ?_
            refine jg_X5_31 63 C dX5_judge_63 ?_
            refine j_il1 66 C dX5_judge_66 ?_
            refine jl_A7 67 (by omega) C dX5_judge_67 ?_
            refine j_top (nI Z) hz ?_
            refine j_icge 68 77 C dX5_judge_68 (by decide) (fun c68 => ?_) (fun c68 => ?_)
            · refine j_iconst 77 C dX5_judge_77 ic_0 ?_
              exact hR dX5_judge_78 (cgM_r ((my_k hQ hn).trans (by rw [cl_nI (show Q < 2 ^ 31 by omega), hsz]; unfold jdr jdc; rw [he, if_neg hkz])) rfl SC.rfl)
            · exact absurd (nI_le (Nat.le_of_not_lt hkz) (by omega)) c68
          · exact absurd (nI_le (a := Z) (b := k) (by omega) (by omega)) c27
        | succ n ih =>
          intro k hk hf
          have hkz : k < Z := by omega
          refine j_il2 20 C dX5_judge_20 ?_
          refine j_al0 21 C dX5_judge_21 ?_
          refine jg_X5_31 22 C dX5_judge_22 ?_
          refine j_il1 25 C dX5_judge_25 ?_
          refine jl_A7 26 (by omega) C dX5_judge_26 ?_
          refine j_top (nI Z) hz ?_
          refine j_icge 27 61 C dX5_judge_27 (by decide) (fun c27 => ?_) (fun c27 => ?_)
          · exact absurd c27 (nI_ge (a := k) (b := Z) (by omega) (by omega))
          · refine j_il2 30 C dX5_judge_30 ?_
            refine j_bipush 31 C dX5_judge_31 bp_6 ?_
            refine j_icge 33 61 C dX5_judge_33 (by decide) (fun c33 => ?_) (fun c33 => ?_)
            · have h6 : ¬ k < 6 := fun q => nI_ge (a := k) (b := 6) q (by decide) c33
              have he := cnt_s hf hkz (show (decide (k < 6) && decide ((nuM g Q) k = ss (g 12) k 8)) = false by rw [decide_eq_false h6]; rfl)
              refine j_il2 61 C dX5_judge_61 ?_
              refine j_al0 62 C dX5_judge_62 ?_
              refine jg_X5_31 63 C dX5_judge_63 ?_
              refine j_il1 66 C dX5_judge_66 ?_
              refine jl_A7 67 (by omega) C dX5_judge_67 ?_
              refine j_top (nI Z) hz ?_
              refine j_icge 68 77 C dX5_judge_68 (by decide) (fun c68 => ?_) (fun c68 => ?_)
              · exact absurd c68 (nI_ge (a := k) (b := Z) hkz (by omega))
              · refine j_iconst 71 C dX5_judge_71 ic_1 ?_
                refine j_il2 72 C dX5_judge_72 ?_
                refine j_iadd 73 C dX5_judge_73 ?_
                refine j_goto 74 78 C dX5_judge_74 (by decide) ?_
                exact hR dX5_judge_78 (cgM_r ((my_k hQ hn).trans (by rw [cl_nI (show Q < 2 ^ 31 by omega), hsz]; unfold jdr jdc; rw [he, if_pos hkz])) (nI_add 1 k) SC.rfl)
            · have h6 : k < 6 := Nat.lt_of_not_le (fun q => c33 (nI_le (a := 6) (b := k) q (by omega)))
              refine j_al0 36 C dX5_judge_36 ?_
              refine jg_X5_34 37 C dX5_judge_37 ?_
              refine j_bipush 40 C dX5_judge_40 bp_40 ?_
              refine j_il1 42 C dX5_judge_42 ?_
              refine j_imul 43 C dX5_judge_43 ?_
              refine j_il2 44 C dX5_judge_44 ?_
              refine j_iadd 45 C dX5_judge_45 ?_
              refine j_top (nI (40 * Q + k)) (ix_n Q k) ?_
              refine jl_A8 46 (by omega) C dX5_judge_46 ?_
              refine j_al0 47 C dX5_judge_47 ?_
              refine j_il2 48 C dX5_judge_48 ?_
              refine j_vi 49 C dX5_judge_49 mv_X5_saysNow lk_X5_72 (c_X5_saysNow h6) rc_m rfl rfl ⟨(Nat.le_of_ble_eq_true rfl), (Nat.le_of_ble_eq_true rfl)⟩ (Nat.le_of_ble_eq_true rfl) (fun r49 g49 hp49 => ?_)
              obtain ⟨rfl, rfl⟩ := hp49
              refine j_icne 52 61 C dX5_judge_52 (by decide) (fun c52 => ?_) (fun c52 => ?_)
              · have he := cnt_s hf hkz (show (decide (k < 6) && decide ((nuM g Q) k = ss (g 12) k 8)) = false by rw [decide_eq_true h6, decide_eq_false c52]; rfl)
                refine j_il2 61 C dX5_judge_61 ?_
                refine j_al0 62 C dX5_judge_62 ?_
                refine jg_X5_31 63 C dX5_judge_63 ?_
                refine j_il1 66 C dX5_judge_66 ?_
                refine jl_A7 67 (by omega) C dX5_judge_67 ?_
                refine j_top (nI Z) hz ?_
                refine j_icge 68 77 C dX5_judge_68 (by decide) (fun c68 => ?_) (fun c68 => ?_)
                · exact absurd c68 (nI_ge (a := k) (b := Z) hkz (by omega))
                · refine j_iconst 71 C dX5_judge_71 ic_1 ?_
                  refine j_il2 72 C dX5_judge_72 ?_
                  refine j_iadd 73 C dX5_judge_73 ?_
                  refine j_goto 74 78 C dX5_judge_74 (by decide) ?_
                  exact hR dX5_judge_78 (cgM_r ((my_k hQ hn).trans (by rw [cl_nI (show Q < 2 ^ 31 by omega), hsz]; unfold jdr jdc; rw [he, if_pos hkz])) (nI_add 1 k) SC.rfl)
              · have he := cnt_n hf hkz (show (decide (k < 6) && decide ((nuM g Q) k = ss (g 12) k 8)) = true by rw [decide_eq_true h6, decide_eq_true c52]; rfl)
                refine j_inc2 55 C dX5_judge_55 rfl (nI_inc _) (Nat.le_of_ble_eq_true rfl) ?_
                refine j_goto 58 20 C dX5_judge_58 (by decide) ?_
                exact ih (k + 1) (by omega) he
      refine j_iconst 18 C dX5_judge_18 ic_0 ?_
      refine j_is2 19 C dX5_judge_19 rfl (Nat.le_of_ble_eq_true rfl) ?_
      exact loop Z 0 (Nat.zero_add _) rfl
    · exact absurd hw c5
set_option maxRecDepth 20000 in
theorem c_X5_isTold {G : GT} {g : Mem} (hS : SI (g 12)) {Q Z P N : Nat} (hQ : Q ≤ 3) (hZ4 : Z ≤ 40) (hz : g 19 Q = nI Z) (hP : P < 6) (hN : N < 1000) : Cti G yX5_isTold cX5_isTold 7 .boolean 6 140 [.ref (mo G), .int (nI Q), .int (nI P), .int (nI N)] g (fun r g' => r = bi (al (told (nuM g Q) (ngs (g 12) 0 N) P) (min Z 8)) ∧ g' = ub g 15 (g 12)) := by
  refine ent_z (by decide) (Nat.le_of_ble_eq_true rfl) [some (.ref (mo G)), some (.int (nI Q)), some (.int (nI P)), some (.int (nI N)), none, none, none] rfl ?_
  intro X C hR
  have C : CX X G RX5 cX5_isTold 7 6 140 := C
  have hQ3 : Q < 4 := by omega
  have loop : ∀ n k, k + n = min Z 8 → ∀ o6 : Option Value, J X G 7 (ub (ub g 15 (g 12)) 12 (ngs (g 12) 0 N)) 22 [some (.ref (mo G)), some (.int (nI Q)), some (.int (nI P)), some (.int (nI N)), some (.int (bi (al (told (nuM g Q) (ngs (g 12) 0 N) P) k))), some (.int (nI k)), o6] [] := by
    intro n
    induction n with
    | zero =>
      intro k hk o6
      refine j_il5 22 C dX5_isTold_22 ?_
      refine j_al0 24 C dX5_isTold_24 ?_
      refine jg_X5_31 25 C dX5_isTold_25 ?_
      refine j_il1 28 C dX5_isTold_28 ?_
      refine jl_A7 29 (by omega) C dX5_isTold_29 ?_
      refine j_top (nI Z) (by rw [ub_n (by decide), ub_n (by decide)]; exact hz) ?_
      refine j_icge 30 88 C dX5_isTold_30 (by decide) (fun c30 => ?_) (fun c30 => ?_)
      · obtain rfl : k = min Z 8 := by omega
        refine j_al0 88 C dX5_isTold_88 ?_
        refine jg_X5_19 89 C dX5_isTold_89 ?_
        refine j_al0 92 C dX5_isTold_92 ?_
        refine jg_X5_7 93 C dX5_isTold_93 ?_
        refine j_sv 96 C dX5_isTold_96 ms_X5_copyRow lk_X5_160 (c_X5_copyRow (i := 3) (j := 0) (by decide) (by decide) (by decide)) rfl rfl ⟨(Nat.le_of_ble_eq_true rfl), (Nat.le_of_ble_eq_true rfl)⟩ (Nat.le_of_ble_eq_true rfl) (fun g96 hp96 => ?_)
        have hp96 := hp96.trans rs15
        subst hp96
        refine j_il4 99 C dX5_isTold_99 ?_
        exact hR dX5_isTold_101 (by unfold bi; split <;> first | exact Or.inl rfl | exact Or.inr rfl) ⟨rfl, rfl⟩
      · have hlt : k < Z := Nat.lt_of_not_le (fun q => c30 (nI_le q (by omega)))
        refine j_il5 33 C dX5_isTold_33 ?_
        refine j_bipush 35 C dX5_isTold_35 bp_8 ?_
        refine j_icge 37 88 C dX5_isTold_37 (by decide) (fun c37 => ?_) (fun c37 => ?_)
        · obtain rfl : k = min Z 8 := by omega
          refine j_al0 88 C dX5_isTold_88 ?_
          refine jg_X5_19 89 C dX5_isTold_89 ?_
          refine j_al0 92 C dX5_isTold_92 ?_
          refine jg_X5_7 93 C dX5_isTold_93 ?_
          refine j_sv 96 C dX5_isTold_96 ms_X5_copyRow lk_X5_160 (c_X5_copyRow (i := 3) (j := 0) (by decide) (by decide) (by decide)) rfl rfl ⟨(Nat.le_of_ble_eq_true rfl), (Nat.le_of_ble_eq_true rfl)⟩ (Nat.le_of_ble_eq_true rfl) (fun g96 hp96 => ?_)
          have hp96 := hp96.trans rs15
          subst hp96
          refine j_il4 99 C dX5_isTold_99 ?_
          exact hR dX5_isTold_101 (by unfold bi; split <;> first | exact Or.inl rfl | exact Or.inr rfl) ⟨rfl, rfl⟩
        · exact absurd (nI_le (a := 8) (b := k) (by omega) (by omega)) c37
    | succ n ih =>
      intro k hk o6
      refine j_il5 22 C dX5_isTold_22 ?_
      refine j_al0 24 C dX5_isTold_24 ?_
      refine jg_X5_31 25 C dX5_isTold_25 ?_
      refine j_il1 28 C dX5_isTold_28 ?_
      refine jl_A7 29 (by omega) C dX5_isTold_29 ?_
      refine j_top (nI Z) (by rw [ub_n (by decide), ub_n (by decide)]; exact hz) ?_
      refine j_icge 30 88 C dX5_isTold_30 (by decide) (fun c30 => ?_) (fun c30 => ?_)
      · exact absurd c30 (nI_ge (a := k) (b := Z) (by omega) (by omega))
      · refine j_il5 33 C dX5_isTold_33 ?_
        refine j_bipush 35 C dX5_isTold_35 bp_8 ?_
        refine j_icge 37 88 C dX5_isTold_37 (by decide) (fun c37 => ?_) (fun c37 => ?_)
        · exact absurd c37 (nI_ge (a := k) (b := 8) (by omega) (by decide))
        · refine j_al0 40 C dX5_isTold_40 ?_
          refine jg_X5_34 41 C dX5_isTold_41 ?_
          refine j_bipush 44 C dX5_isTold_44 bp_40 ?_
          refine j_il1 46 C dX5_isTold_46 ?_
          refine j_imul 47 C dX5_isTold_47 ?_
          refine j_il5 48 C dX5_isTold_48 ?_
          refine j_iadd 50 C dX5_isTold_50 ?_
          refine j_top (nI (40 * Q + k)) (ix_n Q k) ?_
          refine jl_A8 51 (by omega) C dX5_isTold_51 ?_
          refine j_top (nuM g Q k) (by rw [ub_n (by decide), ub_n (by decide)]) ?_
          refine j_is6 52 C dX5_isTold_52 rfl (Nat.le_of_ble_eq_true rfl) ?_
          refine j_il4 54 C dX5_isTold_54 ?_
          refine j_il6 56 C dX5_isTold_56 ?_
          refine j_iconst 58 C dX5_isTold_58 ic_m1 ?_
          refine j_iceq 59 74 C dX5_isTold_59 (by decide) (fun c59 => ?_) (fun c59 => ?_)
          · refine j_iconst 74 C dX5_isTold_74 ic_1 ?_
            refine j_goto 75 79 C dX5_isTold_75 (by decide) ?_
            refine j_iand 79 C dX5_isTold_79 ?_
            refine j_top (bi (al (told (nuM g Q) (ngs (g 12) 0 N) P) (k + 1))) (by show bi _ &&& bi true = bi (al (told (nuM g Q) (ngs (g 12) 0 N) P) k && decide (nuM g Q k = -1 ∨ nuM g Q k = wd (ngs (g 12) 0 N) P k)); rw [bi_and, decide_eq_true (Or.inl c59)]) ?_
            refine j_is4 80 C dX5_isTold_80 rfl (Nat.le_of_ble_eq_true rfl) ?_
            refine j_inc5 82 C dX5_isTold_82 rfl (nI_inc _) (Nat.le_of_ble_eq_true rfl) ?_
            refine j_goto 85 22 C dX5_isTold_85 (by decide) ?_
            exact ih (k + 1) (by omega) _
          · refine j_il6 62 C dX5_isTold_62 ?_
            refine j_al0 64 C dX5_isTold_64 ?_
            refine j_il2 65 C dX5_isTold_65 ?_
            refine j_il5 66 C dX5_isTold_66 ?_
            refine j_vi 68 C dX5_isTold_68 mv_X5_wordAt lk_X5_64 (c_X5_wordAt hP (by omega)) rc_m rfl rfl ⟨(Nat.le_of_ble_eq_true rfl), (Nat.le_of_ble_eq_true rfl)⟩ (Nat.le_of_ble_eq_true rfl) (fun r68 g68 hp68 => ?_)
            obtain ⟨hr68, rfl⟩ := hp68
            rw [ub_s] at hr68
            subst hr68
            refine j_icne 71 78 C dX5_isTold_71 (by decide) (fun c71 => ?_) (fun c71 => ?_)
            · refine j_iconst 78 C dX5_isTold_78 ic_0 ?_
              refine j_iand 79 C dX5_isTold_79 ?_
              refine j_top (bi (al (told (nuM g Q) (ngs (g 12) 0 N) P) (k + 1))) (by show bi _ &&& bi false = bi (al (told (nuM g Q) (ngs (g 12) 0 N) P) k && decide (nuM g Q k = -1 ∨ nuM g Q k = wd (ngs (g 12) 0 N) P k)); rw [bi_and, decide_eq_false (fun q => q.elim c59 c71)]) ?_
              refine j_is4 80 C dX5_isTold_80 rfl (Nat.le_of_ble_eq_true rfl) ?_
              refine j_inc5 82 C dX5_isTold_82 rfl (nI_inc _) (Nat.le_of_ble_eq_true rfl) ?_
              refine j_goto 85 22 C dX5_isTold_85 (by decide) ?_
              exact ih (k + 1) (by omega) _
            · refine j_iconst 74 C dX5_isTold_74 ic_1 ?_
              refine j_goto 75 79 C dX5_isTold_75 (by decide) ?_
              refine j_iand 79 C dX5_isTold_79 ?_
              refine j_top (bi (al (told (nuM g Q) (ngs (g 12) 0 N) P) (k + 1))) (by show bi _ &&& bi true = bi (al (told (nuM g Q) (ngs (g 12) 0 N) P) k && decide (nuM g Q k = -1 ∨ nuM g Q k = wd (ngs (g 12) 0 N) P k)); rw [bi_and, decide_eq_true (Or.inr c71)]) ?_
              refine j_is4 80 C dX5_isTold_80 rfl (Nat.le_of_ble_eq_true rfl) ?_
              refine j_inc5 82 C dX5_isTold_82 rfl (nI_inc _) (Nat.le_of_ble_eq_true rfl) ?_
              refine j_goto 85 22 C dX5_isTold_85 (by decide) ?_
              exact ih (k + 1) (by omega) _
  refine j_al0 0 C dX5_isTold_0 ?_
  refine jg_X5_7 1 C dX5_isTold_1 ?_
  refine j_al0 4 C dX5_isTold_4 ?_
  refine jg_X5_19 5 C dX5_isTold_5 ?_
  refine j_sv 8 C dX5_isTold_8 ms_X5_copyRow lk_X5_160 (c_X5_copyRow (i := 0) (j := 3) (by decide) (by decide) (by decide)) rfl rfl ⟨(Nat.le_of_ble_eq_true rfl), (Nat.le_of_ble_eq_true rfl)⟩ (Nat.le_of_ble_eq_true rfl) (fun g8 hp8 => ?_)
  have hp8 : g8 = ub g 15 (g 12) := hp8
  subst hp8
  refine j_al0 11 C dX5_isTold_11 ?_
  refine j_il3 12 C dX5_isTold_12 ?_
  refine j_vv 13 C dX5_isTold_13 mv_X5_goes lk_X5_139 (c_X5_goes (by rw [ub_n (by decide)]; exact hS) (by omega)) rc_m rfl rfl ⟨(Nat.le_of_ble_eq_true rfl), (Nat.le_of_ble_eq_true rfl)⟩ (Nat.le_of_ble_eq_true rfl) (fun g13 hp13 => ?_)
  obtain rfl := hp13
  rw [ub_n (b' := 12) (b := 15) (by decide)]
  refine j_iconst 16 C dX5_isTold_16 ic_1 ?_
  refine j_is4 17 C dX5_isTold_17 rfl (Nat.le_of_ble_eq_true rfl) ?_
  refine j_iconst 19 C dX5_isTold_19 ic_0 ?_
  refine j_is5 20 C dX5_isTold_20 rfl (Nat.le_of_ble_eq_true rfl) ?_
  exact loop (min Z 8) 0 (Nat.zero_add _) none
set_option maxRecDepth 20000 in
theorem c_X5_isFedSo {G : GT} {g : Mem} (hS : SI (g 12)) {Q Z M : Nat} (hQ : Q ≤ 3) (hZ4 : Z ≤ 40) (hz : g 19 Q = nI Z) (hM : M < 8) : Cti G yX5_isFedSo cX5_isFedSo 6 .boolean 5 118 [.ref (mo G), .int (nI Q), .int (nI M)] g (fun r g' => r = bi (al (fedt (nuM g Q) (g 12) M) Z) ∧ g' = ub g 15 (g 12)) := by
  refine ent_z (by decide) (Nat.le_of_ble_eq_true rfl) [some (.ref (mo G)), some (.int (nI Q)), some (.int (nI M)), none, none, none] rfl ?_
  intro X C hR
  have C : CX X G RX5 cX5_isFedSo 6 5 118 := C
  have hQ3 : Q < 4 := by omega
  have loop : ∀ n k, k + n = Z → ∀ o5 : Option Value, J X G 6 (ub (ub g 15 (g 12)) 12 (ngs (g 12) 0 k)) 16 [some (.ref (mo G)), some (.int (nI Q)), some (.int (nI M)), some (.int (bi (al (fedt (nuM g Q) (g 12) M) k))), some (.int (nI k)), o5] [] := by
    intro n
    induction n with
    | zero =>
      intro k hk o5
      obtain rfl : Z = k := by omega
      refine j_il4 16 C dX5_isFedSo_16 ?_
      refine j_al0 18 C dX5_isFedSo_18 ?_
      refine jg_X5_31 19 C dX5_isFedSo_19 ?_
      refine j_il1 22 C dX5_isFedSo_22 ?_
      refine jl_A7 23 (by omega) C dX5_isFedSo_23 ?_
      refine j_top (nI Z) (by rw [ub_n (by decide), ub_n (by decide)]; exact hz) ?_
      refine j_icge 24 79 C dX5_isFedSo_24 (by decide) (fun c24 => ?_) (fun c24 => ?_)
      · refine j_al0 79 C dX5_isFedSo_79 ?_
        refine jg_X5_19 80 C dX5_isFedSo_80 ?_
        refine j_al0 83 C dX5_isFedSo_83 ?_
        refine jg_X5_7 84 C dX5_isFedSo_84 ?_
        refine j_sv 87 C dX5_isFedSo_87 ms_X5_copyRow lk_X5_160 (c_X5_copyRow (i := 3) (j := 0) (by decide) (by decide) (by decide)) rfl rfl ⟨(Nat.le_of_ble_eq_true rfl), (Nat.le_of_ble_eq_true rfl)⟩ (Nat.le_of_ble_eq_true rfl) (fun g87 hp87 => ?_)
        have hp87 := hp87.trans rs15
        subst hp87
        refine j_il3 90 C dX5_isFedSo_90 ?_
        exact hR dX5_isFedSo_91 (by unfold bi; split <;> first | exact Or.inl rfl | exact Or.inr rfl) ⟨rfl, rfl⟩
      · exact absurd (nI_le (Nat.le_refl _) (by omega)) c24
    | succ n ih =>
      intro k hk o5
      refine j_il4 16 C dX5_isFedSo_16 ?_
      refine j_al0 18 C dX5_isFedSo_18 ?_
      refine jg_X5_31 19 C dX5_isFedSo_19 ?_
      refine j_il1 22 C dX5_isFedSo_22 ?_
      refine jl_A7 23 (by omega) C dX5_isFedSo_23 ?_
      refine j_top (nI Z) (by rw [ub_n (by decide), ub_n (by decide)]; exact hz) ?_
      refine j_icge 24 79 C dX5_isFedSo_24 (by decide) (fun c24 => ?_) (fun c24 => ?_)
      · exact absurd c24 (nI_ge (a := k) (b := Z) (by omega) (by omega))
      · refine j_il3 27 C dX5_isFedSo_27 ?_
        refine j_ifeq 28 79 C dX5_isFedSo_28 (by decide) (fun c28 => ?_) (fun c28 => ?_)
        · have v28 := bi_0 c28
          rw [v28]
          refine j_al0 79 C dX5_isFedSo_79 ?_
          refine jg_X5_19 80 C dX5_isFedSo_80 ?_
          refine j_al0 83 C dX5_isFedSo_83 ?_
          refine jg_X5_7 84 C dX5_isFedSo_84 ?_
          refine j_sv 87 C dX5_isFedSo_87 ms_X5_copyRow lk_X5_160 (c_X5_copyRow (i := 3) (j := 0) (by decide) (by decide) (by decide)) rfl rfl ⟨(Nat.le_of_ble_eq_true rfl), (Nat.le_of_ble_eq_true rfl)⟩ (Nat.le_of_ble_eq_true rfl) (fun g87 hp87 => ?_)
          have hp87 := hp87.trans rs15
          subst hp87
          refine j_il3 90 C dX5_isFedSo_90 ?_
          exact hR dX5_isFedSo_91 (by unfold bi; split <;> first | exact Or.inl rfl | exact Or.inr rfl) ⟨by rw [al_mono v28 (show k ≤ Z by omega)], rfl⟩
        · have v28 := bi_n c28
          refine j_al0 31 C dX5_isFedSo_31 ?_
          refine jg_X5_34 32 C dX5_isFedSo_32 ?_
          refine j_bipush 35 C dX5_isFedSo_35 bp_40 ?_
          refine j_il1 37 C dX5_isFedSo_37 ?_
          refine j_imul 38 C dX5_isFedSo_38 ?_
          refine j_il4 39 C dX5_isFedSo_39 ?_
          refine j_iadd 41 C dX5_isFedSo_41 ?_
          refine j_top (nI (40 * Q + k)) (ix_n Q k) ?_
          refine jl_A8 42 (by omega) C dX5_isFedSo_42 ?_
          refine j_top (nuM g Q k) (by rw [ub_n (by decide), ub_n (by decide)]) ?_
          refine j_is5 43 C dX5_isFedSo_43 rfl (Nat.le_of_ble_eq_true rfl) ?_
          refine j_il5 45 C dX5_isFedSo_45 ?_
          refine j_iconst 47 C dX5_isFedSo_47 ic_m1 ?_
          refine j_iceq 48 62 C dX5_isFedSo_48 (by decide) (fun c48 => ?_) (fun c48 => ?_)
          · refine j_iconst 62 C dX5_isFedSo_62 ic_1 ?_
            refine j_goto 63 67 C dX5_isFedSo_63 (by decide) ?_
            refine j_top (bi (al (fedt (nuM g Q) (g 12) M) (k + 1))) (by show bi true = bi (al (fedt (nuM g Q) (g 12) M) k && decide (nuM g Q k = -1 ∨ nuM g Q k = tr (ngs (g 12) 0 k) M 3)); rw [v28, decide_eq_true (Or.inl c48)]; rfl) ?_
            refine j_is3 67 C dX5_isFedSo_67 rfl (Nat.le_of_ble_eq_true rfl) ?_
            refine j_al0 68 C dX5_isFedSo_68 ?_
            refine j_iconst 69 C dX5_isFedSo_69 ic_0 ?_
            refine j_vv 70 C dX5_isFedSo_70 mv_X5_nightBut lk_X5_131 (c_X5_nightBut (O := 0) (by rw [ub_s]; exact ngs_SI hS) (by decide)) rc_m rfl rfl ⟨(Nat.le_of_ble_eq_true rfl), (Nat.le_of_ble_eq_true rfl)⟩ (Nat.le_of_ble_eq_true rfl) (fun g70 hp70 => ?_)
            obtain rfl := hp70
            rw [ub_ub, ub_s, show ng (ngs (g 12) 0 k) 0 = ngs (g 12) 0 (k + 1) from rfl]
            refine j_inc4 73 C dX5_isFedSo_73 rfl (nI_inc _) (Nat.le_of_ble_eq_true rfl) ?_
            refine j_goto 76 16 C dX5_isFedSo_76 (by decide) ?_
            exact ih (k + 1) (by omega) _
          · refine j_il5 51 C dX5_isFedSo_51 ?_
            refine j_al0 53 C dX5_isFedSo_53 ?_
            refine j_il2 54 C dX5_isFedSo_54 ?_
            refine j_iconst 55 C dX5_isFedSo_55 ic_3 ?_
            refine j_vi 56 C dX5_isFedSo_56 mv_X5_its lk_X5_67 (c_X5_its (W := 3) hM (by decide)) rc_m rfl rfl ⟨(Nat.le_of_ble_eq_true rfl), (Nat.le_of_ble_eq_true rfl)⟩ (Nat.le_of_ble_eq_true rfl) (fun r56 g56 hp56 => ?_)
            obtain ⟨hr56, rfl⟩ := hp56
            rw [ub_s] at hr56
            subst hr56
            refine j_icne 59 66 C dX5_isFedSo_59 (by decide) (fun c59 => ?_) (fun c59 => ?_)
            · refine j_iconst 66 C dX5_isFedSo_66 ic_0 ?_
              refine j_top (bi (al (fedt (nuM g Q) (g 12) M) (k + 1))) (by show bi false = bi (al (fedt (nuM g Q) (g 12) M) k && decide (nuM g Q k = -1 ∨ nuM g Q k = tr (ngs (g 12) 0 k) M 3)); rw [v28, decide_eq_false (fun q => q.elim c48 c59)]; rfl) ?_
              refine j_is3 67 C dX5_isFedSo_67 rfl (Nat.le_of_ble_eq_true rfl) ?_
              refine j_al0 68 C dX5_isFedSo_68 ?_
              refine j_iconst 69 C dX5_isFedSo_69 ic_0 ?_
              refine j_vv 70 C dX5_isFedSo_70 mv_X5_nightBut lk_X5_131 (c_X5_nightBut (O := 0) (by rw [ub_s]; exact ngs_SI hS) (by decide)) rc_m rfl rfl ⟨(Nat.le_of_ble_eq_true rfl), (Nat.le_of_ble_eq_true rfl)⟩ (Nat.le_of_ble_eq_true rfl) (fun g70 hp70 => ?_)
              obtain rfl := hp70
              rw [ub_ub, ub_s, show ng (ngs (g 12) 0 k) 0 = ngs (g 12) 0 (k + 1) from rfl]
              refine j_inc4 73 C dX5_isFedSo_73 rfl (nI_inc _) (Nat.le_of_ble_eq_true rfl) ?_
              refine j_goto 76 16 C dX5_isFedSo_76 (by decide) ?_
              exact ih (k + 1) (by omega) _
            · refine j_iconst 62 C dX5_isFedSo_62 ic_1 ?_
              refine j_goto 63 67 C dX5_isFedSo_63 (by decide) ?_
              refine j_top (bi (al (fedt (nuM g Q) (g 12) M) (k + 1))) (by show bi true = bi (al (fedt (nuM g Q) (g 12) M) k && decide (nuM g Q k = -1 ∨ nuM g Q k = tr (ngs (g 12) 0 k) M 3)); rw [v28, decide_eq_true (Or.inr c59)]; rfl) ?_
              refine j_is3 67 C dX5_isFedSo_67 rfl (Nat.le_of_ble_eq_true rfl) ?_
              refine j_al0 68 C dX5_isFedSo_68 ?_
              refine j_iconst 69 C dX5_isFedSo_69 ic_0 ?_
              refine j_vv 70 C dX5_isFedSo_70 mv_X5_nightBut lk_X5_131 (c_X5_nightBut (O := 0) (by rw [ub_s]; exact ngs_SI hS) (by decide)) rc_m rfl rfl ⟨(Nat.le_of_ble_eq_true rfl), (Nat.le_of_ble_eq_true rfl)⟩ (Nat.le_of_ble_eq_true rfl) (fun g70 hp70 => ?_)
              obtain rfl := hp70
              rw [ub_ub, ub_s, show ng (ngs (g 12) 0 k) 0 = ngs (g 12) 0 (k + 1) from rfl]
              refine j_inc4 73 C dX5_isFedSo_73 rfl (nI_inc _) (Nat.le_of_ble_eq_true rfl) ?_
              refine j_goto 76 16 C dX5_isFedSo_76 (by decide) ?_
              exact ih (k + 1) (by omega) _
  refine j_al0 0 C dX5_isFedSo_0 ?_
  refine jg_X5_7 1 C dX5_isFedSo_1 ?_
  refine j_al0 4 C dX5_isFedSo_4 ?_
  refine jg_X5_19 5 C dX5_isFedSo_5 ?_
  refine j_sv 8 C dX5_isFedSo_8 ms_X5_copyRow lk_X5_160 (c_X5_copyRow (i := 0) (j := 3) (by decide) (by decide) (by decide)) rfl rfl ⟨(Nat.le_of_ble_eq_true rfl), (Nat.le_of_ble_eq_true rfl)⟩ (Nat.le_of_ble_eq_true rfl) (fun g8 hp8 => ?_)
  have hp8 : g8 = ub g 15 (g 12) := hp8
  subst hp8
  refine j_iconst 11 C dX5_isFedSo_11 ic_1 ?_
  refine j_is3 12 C dX5_isFedSo_12 rfl (Nat.le_of_ble_eq_true rfl) ?_
  refine j_iconst 13 C dX5_isFedSo_13 ic_0 ?_
  refine j_is4 14 C dX5_isFedSo_14 rfl (Nat.le_of_ble_eq_true rfl) ?_
  have h9 := loop Z 0 (Nat.zero_add _) none
  rw [show ub (ub g 15 (g 12)) 12 (ngs (g 12) 0 0) = ub g 15 (g 12) from b15] at h9
  exact h9
set_option maxRecDepth 20000 in
theorem c_X5_count {G : GT} {g : Mem} (hS : SI (g 12)) {w : Int32} : Cti G yX5_count cX5_count 4 .int 3 67 [.ref (mo G), .int w] g (fun r g' => cgM (m_count w g) g r g') := by
  refine ent_i (by decide) (Nat.le_of_ble_eq_true rfl) [some (.ref (mo G)), some (.int w), none, none] rfl ?_
  intro X C hR
  have C : CX X G RX5 cX5_count 4 3 67 := C
  obtain ⟨hM8, hM0⟩ := SI_cl0 hS
  by_cases hw : inr w 0 7 = true
  · obtain ⟨W, hW, rfl⟩ := inr_nat (n := 7) (by decide) hw
    have hW8 : W < 8 := by omega
    match W, hW8 with
    | 0, _ =>
      refine j_iconst 0 C dX5_count_0 ic_0 ?_
      refine j_is2 1 C dX5_count_1 rfl (Nat.le_of_ble_eq_true rfl) ?_
      refine j_il1 2 C dX5_count_2 ?_
      refine j_tsIn 3 48 (off := 45) C dX5_count_3 (by decide) (by decide) (by decide) (by decide) ?_
      refine j_al0 48 C dX5_count_48 ?_
      refine jg_X5_7 49 C dX5_count_49 ?_
      refine j_iconst 52 C dX5_count_52 ic_1 ?_
      refine j_top (nI (1)) rfl ?_
      refine jl_A0 53 (by omega) C dX5_count_53 ?_
      exact hR dX5_count_54 (cgM_r (by unfold m_count; rw [hw]; rfl) rfl SC.rfl)
    | 1, _ =>
      refine j_iconst 0 C dX5_count_0 ic_0 ?_
      refine j_is2 1 C dX5_count_1 rfl (Nat.le_of_ble_eq_true rfl) ?_
      refine j_il1 2 C dX5_count_2 ?_
      refine j_tsIn 3 55 (off := 52) C dX5_count_3 (by decide) (by decide) (by decide) (by decide) ?_
      refine j_al0 55 C dX5_count_55 ?_
      refine jg_X5_7 56 C dX5_count_56 ?_
      refine j_iconst 59 C dX5_count_59 ic_0 ?_
      refine j_top (nI (0)) rfl ?_
      refine jl_A0 60 (by omega) C dX5_count_60 ?_
      exact hR dX5_count_61 (cgM_r (by unfold m_count; rw [hw]; rfl) rfl SC.rfl)
    | 2, _ =>
      refine j_iconst 0 C dX5_count_0 ic_0 ?_
      refine j_is2 1 C dX5_count_1 rfl (Nat.le_of_ble_eq_true rfl) ?_
      refine j_il1 2 C dX5_count_2 ?_
      refine j_tsIn 3 62 (off := 59) C dX5_count_3 (by decide) (by decide) (by decide) (by decide) ?_
      refine j_al0 62 C dX5_count_62 ?_
      refine j_vi 63 C dX5_count_63 mv_X5_holes lk_X5_142 (c_X5_holes) rc_m rfl rfl ⟨(Nat.le_of_ble_eq_true rfl), (Nat.le_of_ble_eq_true rfl)⟩ (Nat.le_of_ble_eq_true rfl) (fun r63 g63 hp63 => ?_)
      obtain ⟨rfl, rfl⟩ := hp63
      exact hR dX5_count_66 (cgM_r (by unfold m_count; rw [hw]; rfl) rfl SC.rfl)
    | 3, _ =>
      refine j_iconst 0 C dX5_count_0 ic_0 ?_
      refine j_is2 1 C dX5_count_1 rfl (Nat.le_of_ble_eq_true rfl) ?_
      refine j_il1 2 C dX5_count_2 ?_
      refine j_tsIn 3 67 (off := 64) C dX5_count_3 (by decide) (by decide) (by decide) (by decide) ?_
      refine j_al0 67 C dX5_count_67 ?_
      refine j_vi 68 C dX5_count_68 mv_X5_fedAll lk_X5_149 (c_X5_fedAll hM8 hM0) rc_m rfl rfl ⟨(Nat.le_of_ble_eq_true rfl), (Nat.le_of_ble_eq_true rfl)⟩ (Nat.le_of_ble_eq_true rfl) (fun r68 g68 hp68 => ?_)
      obtain ⟨rfl, rfl⟩ := hp68
      exact hR dX5_count_71 (cgM_r (by unfold m_count; rw [hw]; rfl) rfl SC.rfl)
    | 4, _ =>
      refine j_iconst 0 C dX5_count_0 ic_0 ?_
      refine j_is2 1 C dX5_count_1 rfl (Nat.le_of_ble_eq_true rfl) ?_
      refine j_il1 2 C dX5_count_2 ?_
      refine j_tsIn 3 72 (off := 69) C dX5_count_3 (by decide) (by decide) (by decide) (by decide) ?_
      refine j_al0 72 C dX5_count_72 ?_
      refine j_vi 73 C dX5_count_73 mv_X5_saysAll lk_X5_146 (c_X5_saysAll) rc_m rfl rfl ⟨(Nat.le_of_ble_eq_true rfl), (Nat.le_of_ble_eq_true rfl)⟩ (Nat.le_of_ble_eq_true rfl) (fun r73 g73 hp73 => ?_)
      obtain ⟨rfl, rfl⟩ := hp73
      exact hR dX5_count_76 (cgM_r (by unfold m_count; rw [hw]; rfl) rfl SC.rfl)
    | 5, _ =>
      refine j_iconst 0 C dX5_count_0 ic_0 ?_
      refine j_is2 1 C dX5_count_1 rfl (Nat.le_of_ble_eq_true rfl) ?_
      refine j_il1 2 C dX5_count_2 ?_
      refine j_tsIn 3 77 (off := 74) C dX5_count_3 (by decide) (by decide) (by decide) (by decide) ?_
      refine j_al0 77 C dX5_count_77 ?_
      refine jg_X5_212 78 C dX5_count_78 ?_
      exact hR dX5_count_81 (cgM_r (by unfold m_count; rw [hw]; rfl) rfl SC.rfl)
    | 6, _ =>
      refine j_iconst 0 C dX5_count_0 ic_0 ?_
      refine j_is2 1 C dX5_count_1 rfl (Nat.le_of_ble_eq_true rfl) ?_
      refine j_il1 2 C dX5_count_2 ?_
      refine j_tsIn 3 82 (off := 79) C dX5_count_3 (by decide) (by decide) (by decide) (by decide) ?_
      refine j_al0 82 C dX5_count_82 ?_
      refine jg_X5_7 83 C dX5_count_83 ?_
      refine j_iconst 86 C dX5_count_86 ic_2 ?_
      refine j_top (nI (2)) rfl ?_
      refine jl_A0 87 (by omega) C dX5_count_87 ?_
      exact hR dX5_count_88 (cgM_r (by unfold m_count; rw [hw]; rfl) rfl SC.rfl)
    | 7, _ =>
      refine j_iconst 0 C dX5_count_0 ic_0 ?_
      refine j_is2 1 C dX5_count_1 rfl (Nat.le_of_ble_eq_true rfl) ?_
      refine j_il1 2 C dX5_count_2 ?_
      refine j_tsIn 3 89 (off := 86) C dX5_count_3 (by decide) (by decide) (by decide) (by decide) ?_
      have loop : ∀ n k, k + n = 10 → J X G 4 g 91 [some (.ref (mo G)), some (.int (nI 7)), some (.int (nI (ct (fun i => decide (¬ g 12 (83 + i) = -1)) k))), some (.int (nI k))] [] := by
        intro n
        induction n with
        | zero =>
          intro k hk
          obtain rfl : k = 10 := by omega
          refine j_il3 91 C dX5_count_91 ?_
          refine j_bipush 92 C dX5_count_92 bp_10 ?_
          refine j_icge 94 123 C dX5_count_94 (by decide) (fun c94 => ?_) (fun c94 => ?_)
          · refine j_il2 123 C dX5_count_123 ?_
            exact hR dX5_count_124 (cgM_r (by unfold m_count; rw [hw]; rfl) rfl SC.rfl)
          · exact absurd (nI_le (Nat.le_refl _) (by decide)) c94
        | succ n ih =>
          intro k hk
          refine j_il3 91 C dX5_count_91 ?_
          refine j_bipush 92 C dX5_count_92 bp_10 ?_
          refine j_icge 94 123 C dX5_count_94 (by decide) (fun c94 => ?_) (fun c94 => ?_)
          · exact absurd c94 (nI_ge (a := k) (b := 10) (by omega) (by decide))
          · refine j_il2 97 C dX5_count_97 ?_
            refine j_al0 98 C dX5_count_98 ?_
            refine jg_X5_7 99 C dX5_count_99 ?_
            refine j_bipush 102 C dX5_count_102 bp_83 ?_
            refine j_il3 104 C dX5_count_104 ?_
            refine j_iadd 105 C dX5_count_105 ?_
            refine j_top (nI (83 + k)) (nI_add 83 k) ?_
            refine jl_A0 106 (by omega) C dX5_count_106 ?_
            refine j_ifge 107 114 C dX5_count_107 (by decide) (fun c107 => ?_) (fun c107 => ?_)
            · have e : ct (fun i => decide (¬ g 12 (83 + i) = -1)) (k + 1) = ct (fun i => decide (¬ g 12 (83 + i) = -1)) k + 1 := if_pos (decide_eq_true (p := ¬ g 12 (83 + k) = -1) (fun z => by rw [z] at c107; exact absurd c107 (by decide)))
              refine j_iconst 114 C dX5_count_114 ic_1 ?_
              refine j_iadd 115 C dX5_count_115 ?_
              refine j_top (nI (ct (fun i => decide (¬ g 12 (83 + i) = -1)) (k + 1))) (by rw [e]; exact (nI_succ _).symm) ?_
              refine j_is2 116 C dX5_count_116 rfl (Nat.le_of_ble_eq_true rfl) ?_
              refine j_inc3 117 C dX5_count_117 rfl (nI_inc _) (Nat.le_of_ble_eq_true rfl) ?_
              refine j_goto 120 91 C dX5_count_120 (by decide) ?_
              exact ih (k + 1) (by omega)
            · have e : ct (fun i => decide (¬ g 12 (83 + i) = -1)) (k + 1) = ct (fun i => decide (¬ g 12 (83 + i) = -1)) k := if_neg (fun q => absurd ((hS.2.2.2 k (by omega)).resolve_right (fun ⟨m, hm, z⟩ => c107 (by rw [z]; exact nI_pos' (by omega)))) (of_decide_eq_true (p := ¬ g 12 (83 + k) = -1) q))
              refine j_iconst 110 C dX5_count_110 ic_0 ?_
              refine j_goto 111 115 C dX5_count_111 (by decide) ?_
              refine j_iadd 115 C dX5_count_115 ?_
              refine j_top (nI (ct (fun i => decide (¬ g 12 (83 + i) = -1)) (k + 1))) (by rw [e]; exact Int32.add_zero _) ?_
              refine j_is2 116 C dX5_count_116 rfl (Nat.le_of_ble_eq_true rfl) ?_
              refine j_inc3 117 C dX5_count_117 rfl (nI_inc _) (Nat.le_of_ble_eq_true rfl) ?_
              refine j_goto 120 91 C dX5_count_120 (by decide) ?_
              exact ih (k + 1) (by omega)
      refine j_iconst 89 C dX5_count_89 ic_0 ?_
      refine j_is3 90 C dX5_count_90 rfl (Nat.le_of_ble_eq_true rfl) ?_
      exact loop 10 0 rfl
  · rw [Bool.not_eq_true] at hw
    refine j_iconst 0 C dX5_count_0 ic_0 ?_
    refine j_is2 1 C dX5_count_1 rfl (Nat.le_of_ble_eq_true rfl) ?_
    refine j_il1 2 C dX5_count_2 ?_
    refine j_tsOut 3 125 C dX5_count_3 (ts_out hw (by decide)) (by decide) ?_
    refine j_al0 125 C dX5_count_125 ?_
    refine j_ldc 126 C dX5_count_126 cs_X5_40 ?_
    refine j_vi 128 C dX5_count_128 mv_X5_finds lk_X5_46 (c_X5_finds (f := 0) (by decide) (by decide)) rc_m rfl rfl ⟨(Nat.le_of_ble_eq_true rfl), (Nat.le_of_ble_eq_true rfl)⟩ (Nat.le_of_ble_eq_true rfl) (fun r128 g128 hp128 => ?_)
    obtain ⟨rfl, rfl⟩ := hp128
    exact hR dX5_count_131 (cgM_f (f := 0) (by simp [m_count, hw]) (by decide) (by decide) SC.rfl)
