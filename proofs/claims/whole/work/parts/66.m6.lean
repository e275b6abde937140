theorem bp_83 : (Int8.ofInt (83)).toInt32 = 83 := by decide
theorem shl1 : ∀ M, M ≤ 8 → (1 : Int32) <<< (nI M &&& 31) = nI (2 ^ M) := by
  have h : ∀ M, M < 9 → (1 : Int32) <<< (nI M &&& 31) = nI (2 ^ M) := by decide +kernel
  exact fun M hM => h M (by omega)
theorem bo_y {f : Nat → Bool} {k : Nat} (h1 : ∀ b, bo f k = some b → pcn k < pcn b) (h2 : f k = true) : bo f (k + 1) = some k := by
  unfold bo
  cases e : bo f k with
  | none => simp [h2]
  | some b => simp [h2, h1 b e]
theorem bo_n1 {f : Nat → Bool} {k b : Nat} (h : bo f k = some b) (h1 : ¬ pcn k < pcn b) : bo f (k + 1) = bo f k := by
  show (if (match bo f k with | none => true | some b => decide (pcn k < pcn b)) && f k then some k else bo f k) = _
  rw [h]; simp [h1]
theorem bo_n2 {f : Nat → Bool} {k : Nat} (h : f k = false) : bo f (k + 1) = bo f k := by
  show (if (match bo f k with | none => true | some b => decide (pcn k < pcn b)) && f k then some k else bo f k) = _
  rw [h, Bool.and_false]; rfl
set_option maxRecDepth 20000 in
theorem c_X5_stays {G : GT} {g : Mem} (hS : SI (g 12)) {P N O : Nat} (hP : P < 6) (hN : N < 1000) (hO : O < 256) : Cti G yX5_stays cX5_stays 6 .boolean 5 118 [.ref (mo G), .int (nI P), .int (nI N), .int (nI O)] g (fun r g' => r = bi (stay (g 12) P N O) ∧ g' = ub g 15 (g 12)) := by
  refine ent_z (by decide) (Nat.le_of_ble_eq_true rfl) [some (.ref (mo G)), some (.int (nI P)), some (.int (nI N)), some (.int (nI O)), none, none] rfl ?_
  intro X C hR
  have C : CX X G RX5 cX5_stays 6 5 118 := C
  have l2 : ∀ n k, k + n = 8 → J X G 6 (ub (ub g 15 (g 12)) 12 (ngs (g 12) O N)) 37 [some (.ref (mo G)), some (.int (nI P)), some (.int (nI N)), some (.int (nI O)), some (.int (bi (al (pE (ngs (g 12) O N) (g 12) P) k))), some (.int (nI k))] [] := by
    intro n
    induction n with
    | zero =>
      intro k hk
      obtain rfl : k = 8 := by omega
      refine j_il5 37 C dX5_stays_37 ?_
      refine j_bipush 39 C dX5_stays_39 bp_8 ?_
      refine j_icge 41 84 C dX5_stays_41 (by decide) (fun c41 => ?_) (fun c41 => ?_)
      · refine j_al0 84 C dX5_stays_84 ?_
        refine jg_X5_19 85 C dX5_stays_85 ?_
        refine j_al0 88 C dX5_stays_88 ?_
        refine jg_X5_7 89 C dX5_stays_89 ?_
        refine j_sv 92 C dX5_stays_92 ms_X5_copyRow lk_X5_160 (c_X5_copyRow (i := 3) (j := 0) (by decide) (by decide) (by decide)) rfl rfl ⟨(Nat.le_of_ble_eq_true rfl), (Nat.le_of_ble_eq_true rfl)⟩ (Nat.le_of_ble_eq_true rfl) (fun g92 hp92 => ?_)
        have hp92 := hp92.trans rs15
        subst hp92
        refine j_il4 95 C dX5_stays_95 ?_
        exact hR dX5_stays_97 (by unfold bi; split <;> first | exact Or.inl rfl | exact Or.inr rfl) ⟨rfl, rfl⟩
      · exact absurd (nI_le (Nat.le_refl _) (by decide)) c41
    | succ n ih =>
      intro k hk
      refine j_il5 37 C dX5_stays_37 ?_
      refine j_bipush 39 C dX5_stays_39 bp_8 ?_
      refine j_icge 41 84 C dX5_stays_41 (by decide) (fun c41 => ?_) (fun c41 => ?_)
      · exact absurd c41 (nI_ge (a := k) (b := 8) (by omega) (by decide))
      · refine j_il4 44 C dX5_stays_44 ?_
        refine j_al0 46 C dX5_stays_46 ?_
        refine j_il1 47 C dX5_stays_47 ?_
        refine j_il5 48 C dX5_stays_48 ?_
        refine j_vi 50 C dX5_stays_50 mv_X5_wordAt lk_X5_64 (c_X5_wordAt hP (by omega)) rc_m rfl rfl ⟨(Nat.le_of_ble_eq_true rfl), (Nat.le_of_ble_eq_true rfl)⟩ (Nat.le_of_ble_eq_true rfl) (fun r50 g50 hp50 => ?_)
        obtain ⟨hr50, rfl⟩ := hp50
        rw [ub_s] at hr50
        subst hr50
        refine j_al0 53 C dX5_stays_53 ?_
        refine jg_X5_19 54 C dX5_stays_54 ?_
        refine j_iconst 57 C dX5_stays_57 ic_3 ?_
        refine j_bipush 58 C dX5_stays_58 bp_8 ?_
        refine j_il1 60 C dX5_stays_60 ?_
        refine j_imul 61 C dX5_stays_61 ?_
        refine j_iadd 62 C dX5_stays_62 ?_
        refine j_il5 63 C dX5_stays_63 ?_
        refine j_iadd 65 C dX5_stays_65 ?_
        refine j_top (nI (3 + (8 * P + k))) (ix_wa P k) ?_
        refine jl_A3 66 (by omega) C dX5_stays_66 ?_
        refine j_top (wd (g 12) P k) (by rw [ub_n (by decide), ub_s]; rfl) ?_
        refine j_icne 67 74 C dX5_stays_67 (by decide) (fun c67 => ?_) (fun c67 => ?_)
        · refine j_iconst 74 C dX5_stays_74 ic_0 ?_
          refine j_iand 75 C dX5_stays_75 ?_
          refine j_top (bi (al (pE (ngs (g 12) O N) (g 12) P) (k + 1))) (by show bi _ &&& bi false = bi (al (pE (ngs (g 12) O N) (g 12) P) k && decide (wd (ngs (g 12) O N) P k = wd (g 12) P k)); rw [bi_and, decide_eq_false c67]) ?_
          refine j_is4 76 C dX5_stays_76 rfl (Nat.le_of_ble_eq_true rfl) ?_
          refine j_inc5 78 C dX5_stays_78 rfl (nI_inc _) (Nat.le_of_ble_eq_true rfl) ?_
          refine j_goto 81 37 C dX5_stays_81 (by decide) ?_
          exact ih (k + 1) (by omega)
        · refine j_iconst 70 C dX5_stays_70 ic_1 ?_
          refine j_goto 71 75 C dX5_stays_71 (by decide) ?_
          refine j_iand 75 C dX5_stays_75 ?_
          refine j_top (bi (al (pE (ngs (g 12) O N) (g 12) P) (k + 1))) (by show bi _ &&& bi true = bi (al (pE (ngs (g 12) O N) (g 12) P) k && decide (wd (ngs (g 12) O N) P k = wd (g 12) P k)); rw [bi_and, decide_eq_true c67]) ?_
          refine j_is4 76 C dX5_stays_76 rfl (Nat.le_of_ble_eq_true rfl) ?_
          refine j_inc5 78 C dX5_stays_78 rfl (nI_inc _) (Nat.le_of_ble_eq_true rfl) ?_
          refine j_goto 81 37 C dX5_stays_81 (by decide) ?_
          exact ih (k + 1) (by omega)
  have l1 : ∀ n k, k + n = N → J X G 6 (ub (ub g 15 (g 12)) 12 (ngs (g 12) O k)) 14 [some (.ref (mo G)), some (.int (nI P)), some (.int (nI N)), some (.int (nI O)), some (.int (nI k)), none] [] := by
    intro n
    induction n with
    | zero =>
      intro k hk
      obtain rfl : N = k := by omega
      refine j_il4 14 C dX5_stays_14 ?_
      refine j_il2 16 C dX5_stays_16 ?_
      refine j_icge 17 31 C dX5_stays_17 (by decide) (fun c17 => ?_) (fun c17 => ?_)
      · refine j_iconst 31 C dX5_stays_31 ic_1 ?_
        refine j_is4 32 C dX5_stays_32 rfl (Nat.le_of_ble_eq_true rfl) ?_
        refine j_iconst 34 C dX5_stays_34 ic_0 ?_
        refine j_is5 35 C dX5_stays_35 rfl (Nat.le_of_ble_eq_true rfl) ?_
        exact l2 8 0 rfl
      · exact absurd (nI_le (Nat.le_refl _) (by omega)) c17
    | succ n ih =>
      intro k hk
      refine j_il4 14 C dX5_stays_14 ?_
      refine j_il2 16 C dX5_stays_16 ?_
      refine j_icge 17 31 C dX5_stays_17 (by decide) (fun c17 => ?_) (fun c17 => ?_)
      · exact absurd c17 (nI_ge (a := k) (b := N) (by omega) (by omega))
      · refine j_al0 20 C dX5_stays_20 ?_
        refine j_il3 21 C dX5_stays_21 ?_
        refine j_vv 22 C dX5_stays_22 mv_X5_nightBut lk_X5_131 (c_X5_nightBut (O := O) (by rw [ub_s]; exact ngs_SI hS) hO) rc_m rfl rfl ⟨(Nat.le_of_ble_eq_true rfl), (Nat.le_of_ble_eq_true rfl)⟩ (Nat.le_of_ble_eq_true rfl) (fun g22 hp22 => ?_)
        obtain rfl := hp22
        rw [ub_ub, ub_s, show ng (ngs (g 12) O k) O = ngs (g 12) O (k + 1) from rfl]
        refine j_inc4 25 C dX5_stays_25 rfl (nI_inc _) (Nat.le_of_ble_eq_true rfl) ?_
        refine j_goto 28 14 C dX5_stays_28 (by decide) ?_
        exact ih (k + 1) (by omega)
  refine j_al0 0 C dX5_stays_0 ?_
  refine jg_X5_7 1 C dX5_stays_1 ?_
  refine j_al0 4 C dX5_stays_4 ?_
  refine jg_X5_19 5 C dX5_stays_5 ?_
  refine j_sv 8 C dX5_stays_8 ms_X5_copyRow lk_X5_160 (c_X5_copyRow (i := 0) (j := 3) (by decide) (by decide) (by decide)) rfl rfl ⟨(Nat.le_of_ble_eq_true rfl), (Nat.le_of_ble_eq_true rfl)⟩ (Nat.le_of_ble_eq_true rfl) (fun g8 hp8 => ?_)
  have hp8 : g8 = ub g 15 (g 12) := hp8
  subst hp8
  refine j_iconst 11 C dX5_stays_11 ic_0 ?_
  refine j_is4 12 C dX5_stays_12 rfl (Nat.le_of_ble_eq_true rfl) ?_
  have h9 := l1 N 0 (Nat.zero_add N)
  rw [show ub (ub g 15 (g 12)) 12 (ngs (g 12) O 0) = ub g 15 (g 12) from b15] at h9
  exact h9
set_option maxRecDepth 20000 in
theorem c_X5_out {G : GT} {g : Mem} (hS : SI (g 12)) {T : Nat} (hT : g 12 1 = nI T) (hTb : T ≤ 31000) {p n : Int32} : Cti G yX5_out cX5_out 5 .int 6 143 [.ref (mo G), .int p, .int n] g (fun r g' => cpM (s_out p n (g 12)) g r g') := by
  refine ent_i (by decide) (Nat.le_of_ble_eq_true rfl) [some (.ref (mo G)), some (.int p), some (.int n), none, none] rfl ?_
  intro X C hR
  have C : CX X G RX5 cX5_out 5 6 143 := C
  obtain ⟨hM8, hM0⟩ := SI_cl0 hS
  refine j_il1 0 C dX5_out_0 ?_
  refine j_si 1 C dX5_out_1 ms_X5_isPage lk_X5_41 (c_X5_isPage) rfl rfl ⟨(Nat.le_of_ble_eq_true rfl), (Nat.le_of_ble_eq_true rfl)⟩ (Nat.le_of_ble_eq_true rfl) (fun r1 g1 hp1 => ?_)
  obtain ⟨rfl, rfl⟩ := hp1
  refine j_ifeq 4 19 C dX5_out_4 (by decide) (fun c4 => ?_) (fun c4 => ?_)
  · have v4 := bi_0 c4
    refine j_al0 19 C dX5_out_19 ?_
    refine j_ldc 20 C dX5_out_20 cs_X5_40 ?_
    refine j_vi 22 C dX5_out_22 mv_X5_finds lk_X5_46 (c_X5_finds (f := 0) (by decide) (by decide)) rc_m rfl rfl ⟨(Nat.le_of_ble_eq_true rfl), (Nat.le_of_ble_eq_true rfl)⟩ (Nat.le_of_ble_eq_true rfl) (fun r22 g22 hp22 => ?_)
    obtain ⟨rfl, rfl⟩ := hp22
    exact hR dX5_out_25 (cpM_f (f := 0) (by simp [s_out, v4]) (by decide) (by decide) SC.rfl)
  · have v4 := bi_n c4
    refine j_il2 7 C dX5_out_7 ?_
    refine j_i2l 8 C dX5_out_8 ?_
    refine j_lconst 9 C dX5_out_9 lc_0 ?_
    refine j_ldc2 10 C dX5_out_10 cl_X5_192 ?_
    refine j_si 13 C dX5_out_13 ms_X5_isIn lk_X5_56 (c_X5_isIn (lo := 0) (hi := 20) (by decide) (by decide)) rfl rfl ⟨(Nat.le_of_ble_eq_true rfl), (Nat.le_of_ble_eq_true rfl)⟩ (Nat.le_of_ble_eq_true rfl) (fun r13 g13 hp13 => ?_)
    obtain ⟨rfl, rfl⟩ := hp13
    refine j_ifne 16 26 C dX5_out_16 (by decide) (fun c16 => ?_) (fun c16 => ?_)
    · have v16 := bi_n c16
      obtain ⟨P, hP, rfl⟩ := inr_nat (n := 5) (by decide) v4
      obtain ⟨N, hN, rfl⟩ := inr_nat (n := 20) (by decide) v16
      have h256 : 2 ^ cl (g 12 0) ≤ 256 := two_le hS
      generalize hMM : cl (g 12 0) = M at hM8 hM0 h256
      have loop : ∀ n k, k + n = 2 ^ M → ∀ E : Row, J X G 5 (ub g 15 E) 31 [some (.ref (mo G)), some (.int (nI P)), some (.int (nI N)), some (.int (oI (bo (stay (g 12) P N) k))), some (.int (nI k))] [] := by
        intro n
        induction n with
        | zero =>
          intro k hk E
          obtain rfl : 2 ^ M = k := by omega
          refine j_il4 31 C dX5_out_31 ?_
          refine j_iconst 33 C dX5_out_33 ic_1 ?_
          refine j_al0 34 C dX5_out_34 ?_
          refine jg_X5_7 35 C dX5_out_35 ?_
          refine j_iconst 38 C dX5_out_38 ic_0 ?_
          refine j_top (nI (0)) rfl ?_
          refine jl_A0 39 (by omega) C dX5_out_39 ?_
          refine j_top (nI M) (by rw [ub_n (by decide)]; exact hM0) ?_
          refine j_ishl 40 C dX5_out_40 ?_
          refine j_top (nI (2 ^ M)) (shl1 M hM8) ?_
          refine j_icge 41 84 C dX5_out_41 (by decide) (fun c41 => ?_) (fun c41 => ?_)
          · refine j_il3 84 C dX5_out_84 ?_
            exact hR dX5_out_85 (cpM_q (by unfold s_out; rw [v4, v16, hMM, cl_nI (show P < 2 ^ 31 by omega), cl_nI (show N < 2 ^ 31 by omega)]; rfl) rfl SC_15)
          · exact absurd (nI_le (Nat.le_refl _) (by omega)) c41
        | succ n ih =>
          intro k hk E
          refine j_il4 31 C dX5_out_31 ?_
          refine j_iconst 33 C dX5_out_33 ic_1 ?_
          refine j_al0 34 C dX5_out_34 ?_
          refine jg_X5_7 35 C dX5_out_35 ?_
          refine j_iconst 38 C dX5_out_38 ic_0 ?_
          refine j_top (nI (0)) rfl ?_
          refine jl_A0 39 (by omega) C dX5_out_39 ?_
          refine j_top (nI M) (by rw [ub_n (by decide)]; exact hM0) ?_
          refine j_ishl 40 C dX5_out_40 ?_
          refine j_top (nI (2 ^ M)) (shl1 M hM8) ?_
          refine j_icge 41 84 C dX5_out_41 (by decide) (fun c41 => ?_) (fun c41 => ?_)
          · exact absurd c41 (nI_ge (a := k) (b := 2 ^ M) (by omega) (by omega))
          · cases hbk : bo (stay (g 12) P N) k with
            | none =>
              refine j_il3 44 C dX5_out_44 ?_
              refine j_iflt 45 60 C dX5_out_45 (by decide) (fun c45 => ?_) (fun c45 => ?_)
              · refine j_al0 60 C dX5_out_60 ?_
                refine j_il1 61 C dX5_out_61 ?_
                refine j_il2 62 C dX5_out_62 ?_
                refine j_il4 63 C dX5_out_63 ?_
                refine j_vi 65 C dX5_out_65 mv_X5_stays lk_X5_194 (c_X5_stays (g := ub g 15 E) (O := k) (by rw [ub_n (by decide)]; exact hS) (by omega) (by omega) (by omega)) rc_m rfl rfl ⟨(Nat.le_of_ble_eq_true rfl), (Nat.le_of_ble_eq_true rfl)⟩ (Nat.le_of_ble_eq_true rfl) (fun r65 g65 hp65 => ?_)
                obtain ⟨hr65, rfl⟩ := hp65
                rw [ub_n (b' := 12) (b := 15) (by decide)] at hr65
                subst hr65
                rw [ub_ub]
                refine j_ifeq 68 76 C dX5_out_68 (by decide) (fun c68 => ?_) (fun c68 => ?_)
                · have e68 : stay (g 12) P N k = false := bi_0 c68
                  have e := bo_n2 (f := (stay (g 12) P N)) e68
                  refine j_il3 76 C dX5_out_76 ?_
                  rw [← hbk, ← e]
                  refine j_is3 77 C dX5_out_77 rfl (Nat.le_of_ble_eq_true rfl) ?_
                  refine j_inc4 78 C dX5_out_78 rfl (nI_inc _) (Nat.le_of_ble_eq_true rfl) ?_
                  refine j_goto 81 31 C dX5_out_81 (by decide) ?_
                  exact ih (k + 1) (by omega) _
                · have e68 : stay (g 12) P N k = true := bi_n c68
                  have e := bo_y (f := (stay (g 12) P N)) (k := k) (fun b hb => by rw [hbk] at hb; cases hb) e68
                  refine j_il4 71 C dX5_out_71 ?_
                  refine j_goto 73 77 C dX5_out_73 (by decide) ?_
                  refine j_top (oI (bo (stay (g 12) P N) (k + 1))) (by rw [e]; rfl) ?_
                  refine j_is3 77 C dX5_out_77 rfl (Nat.le_of_ble_eq_true rfl) ?_
                  refine j_inc4 78 C dX5_out_78 rfl (nI_inc _) (Nat.le_of_ble_eq_true rfl) ?_
                  refine j_goto 81 31 C dX5_out_81 (by decide) ?_
                  exact ih (k + 1) (by omega) _
              · exact absurd m1_lt c45
            | some b =>
              have hb := (bo_min (f := (stay (g 12) P N)) (n := k)).2 b hbk
              have hb1 := hb.1
              refine j_il3 44 C dX5_out_44 ?_
              refine j_iflt 45 60 C dX5_out_45 (by decide) (fun c45 => ?_) (fun c45 => ?_)
              · exact absurd c45 (nI_n0 (by omega))
              · refine j_il4 48 C dX5_out_48 ?_
                refine j_si 50 C dX5_out_50 ms_X5_many lk_X5_78 (c_X5_many (show k < 256 by omega)) rfl rfl ⟨(Nat.le_of_ble_eq_true rfl), (Nat.le_of_ble_eq_true rfl)⟩ (Nat.le_of_ble_eq_true rfl) (fun r50 g50 hp50 => ?_)
                obtain ⟨rfl, rfl⟩ := hp50
                refine j_il3 53 C dX5_out_53 ?_
                refine j_si 54 C dX5_out_54 ms_X5_many lk_X5_78 (c_X5_many (show b < 256 by omega)) rfl rfl ⟨(Nat.le_of_ble_eq_true rfl), (Nat.le_of_ble_eq_true rfl)⟩ (Nat.le_of_ble_eq_true rfl) (fun r54 g54 hp54 => ?_)
                obtain ⟨rfl, rfl⟩ := hp54
                refine j_icge 57 76 C dX5_out_57 (by decide) (fun c57 => ?_) (fun c57 => ?_)
                · have e := bo_n1 (f := (stay (g 12) P N)) hbk (fun q => absurd c57 (nI_ge q (by have := pcn_le8 b; omega)))
                  refine j_il3 76 C dX5_out_76 ?_
                  rw [← hbk, ← e]
                  refine j_is3 77 C dX5_out_77 rfl (Nat.le_of_ble_eq_true rfl) ?_
                  refine j_inc4 78 C dX5_out_78 rfl (nI_inc _) (Nat.le_of_ble_eq_true rfl) ?_
                  refine j_goto 81 31 C dX5_out_81 (by decide) ?_
                  exact ih (k + 1) (by omega) _
                · refine j_al0 60 C dX5_out_60 ?_
                  refine j_il1 61 C dX5_out_61 ?_
                  refine j_il2 62 C dX5_out_62 ?_
                  refine j_il4 63 C dX5_out_63 ?_
                  refine j_vi 65 C dX5_out_65 mv_X5_stays lk_X5_194 (c_X5_stays (g := ub g 15 E) (O := k) (by rw [ub_n (by decide)]; exact hS) (by omega) (by omega) (by omega)) rc_m rfl rfl ⟨(Nat.le_of_ble_eq_true rfl), (Nat.le_of_ble_eq_true rfl)⟩ (Nat.le_of_ble_eq_true rfl) (fun r65 g65 hp65 => ?_)
                  obtain ⟨hr65, rfl⟩ := hp65
                  rw [ub_n (b' := 12) (b := 15) (by decide)] at hr65
                  subst hr65
                  rw [ub_ub]
                  refine j_ifeq 68 76 C dX5_out_68 (by decide) (fun c68 => ?_) (fun c68 => ?_)
                  · have e68 : stay (g 12) P N k = false := bi_0 c68
                    have e := bo_n2 (f := (stay (g 12) P N)) e68
                    refine j_il3 76 C dX5_out_76 ?_
                    rw [← hbk, ← e]
                    refine j_is3 77 C dX5_out_77 rfl (Nat.le_of_ble_eq_true rfl) ?_
                    refine j_inc4 78 C dX5_out_78 rfl (nI_inc _) (Nat.le_of_ble_eq_true rfl) ?_
                    refine j_goto 81 31 C dX5_out_81 (by decide) ?_
                    exact ih (k + 1) (by omega) _
                  · have e68 : stay (g 12) P N k = true := bi_n c68
                    have e := bo_y (f := (stay (g 12) P N)) (k := k) (fun b2 hb2 => by rw [hbk] at hb2; cases hb2; exact Nat.lt_of_not_le (fun q => c57 (nI_le q (by have := pcn_le8 k; omega)))) e68
                    refine j_il4 71 C dX5_out_71 ?_
                    refine j_goto 73 77 C dX5_out_73 (by decide) ?_
                    refine j_top (oI (bo (stay (g 12) P N) (k + 1))) (by rw [e]; rfl) ?_
                    refine j_is3 77 C dX5_out_77 rfl (Nat.le_of_ble_eq_true rfl) ?_
                    refine j_inc4 78 C dX5_out_78 rfl (nI_inc _) (Nat.le_of_ble_eq_true rfl) ?_
                    refine j_goto 81 31 C dX5_out_81 (by decide) ?_
                    exact ih (k + 1) (by omega) _
      refine j_iconst 26 C dX5_out_26 ic_m1 ?_
      refine j_is3 27 C dX5_out_27 rfl (Nat.le_of_ble_eq_true rfl) ?_
      refine j_iconst 28 C dX5_out_28 ic_0 ?_
      refine j_is4 29 C dX5_out_29 rfl (Nat.le_of_ble_eq_true rfl) ?_
      have h9 := loop (2 ^ M) 0 (Nat.zero_add _) (g 15)
      rw [ub_id] at h9
      exact h9
    · have v16 := bi_0 c16
      refine j_al0 19 C dX5_out_19 ?_
      refine j_ldc 20 C dX5_out_20 cs_X5_40 ?_
      refine j_vi 22 C dX5_out_22 mv_X5_finds lk_X5_46 (c_X5_finds (f := 0) (by decide) (by decide)) rc_m rfl rfl ⟨(Nat.le_of_ble_eq_true rfl), (Nat.le_of_ble_eq_true rfl)⟩ (Nat.le_of_ble_eq_true rfl) (fun r22 g22 hp22 => ?_)
      obtain ⟨rfl, rfl⟩ := hp22
      exact hR dX5_out_25 (cpM_f (f := 0) (by simp [s_out, v4, v16]) (by decide) (by decide) SC.rfl)
set_option maxRecDepth 20000 in
theorem c_X5_draw {G : GT} {g : Mem} : Cti G yX5_draw cX5_draw 1 .int 0 0 [.ref (mo G)] g (fun r g' => r = nI (dn (dz (g 12 2))) ∧ g' = ub g 12 (upd (g 12) 2 (dz (g 12 2)))) := by
  refine ent_i (by decide) (Nat.le_of_ble_eq_true rfl) [some (.ref (mo G))] rfl ?_
  intro X C hR
  have C : CX X G RX5 cX5_draw 1 0 0 := C
  refine j_al0 0 C dX5_draw_0 ?_
  refine jg_X5_7 1 C dX5_draw_1 ?_
  refine j_iconst 4 C dX5_draw_4 ic_2 ?_
  refine j_al0 5 C dX5_draw_5 ?_
  refine jg_X5_7 6 C dX5_draw_6 ?_
  refine j_iconst 9 C dX5_draw_9 ic_2 ?_
  refine j_top (nI (2)) rfl ?_
  refine jl_A0 10 (by omega) C dX5_draw_10 ?_
  refine j_ldc 11 C dX5_draw_11 cs_X5_206 ?_
  refine j_imul 13 C dX5_draw_13 ?_
  refine j_sipush 14 C dX5_draw_14 sq_12345 ?_
  refine j_iadd 17 C dX5_draw_17 ?_
  refine j_top2 (nI (2)) rfl ?_
  refine js_A0 18 (by omega) C dX5_draw_18 ?_
  refine j_al0 19 C dX5_draw_19 ?_
  refine jg_X5_7 20 C dX5_draw_20 ?_
  refine j_iconst 23 C dX5_draw_23 ic_2 ?_
  refine j_top (nI (2)) rfl ?_
  refine jl_A0 24 (by omega) C dX5_draw_24 ?_
  refine j_top (dz (g 12 2)) (by rw [ub_s, upd_s]; rfl) ?_
  refine j_bipush 25 C dX5_draw_25 bp_8 ?_
  refine j_iushr 27 C dX5_draw_27 rfl ?_
  refine j_top (nI (dn (dz (g 12 2)))) (ush_8 _) ?_
  exact hR dX5_draw_28 ⟨rfl, rfl⟩
set_option maxRecDepth 20000 in
theorem c_X5_lights {G : GT} {g : Mem} (hS : SI (g 12)) {T : Nat} (hT : g 12 1 = nI T) (hTb : T ≤ 31000) {n : Int32} : Cti G yX5_lights cX5_lights 5 .int 5 118 [.ref (mo G), .int n] g (fun r g' => cpM (s_lights n (g 12)) g r g') := by
  refine ent_i (by decide) (Nat.le_of_ble_eq_true rfl) [some (.ref (mo G)), some (.int n), none, none, none] rfl ?_
  intro X C hR
  have C : CX X G RX5 cX5_lights 5 5 118 := C
  refine j_il1 0 C dX5_lights_0 ?_
  refine j_i2l 1 C dX5_lights_1 ?_
  refine j_lconst 2 C dX5_lights_2 lc_1 ?_
  refine j_ldc2 3 C dX5_lights_3 cl_X5_192 ?_
  refine j_si 6 C dX5_lights_6 ms_X5_isIn lk_X5_56 (c_X5_isIn (lo := 1) (hi := 20) (by decide) (by decide)) rfl rfl ⟨(Nat.le_of_ble_eq_true rfl), (Nat.le_of_ble_eq_true rfl)⟩ (Nat.le_of_ble_eq_true rfl) (fun r6 g6 hp6 => ?_)
  obtain ⟨rfl, rfl⟩ := hp6
  refine j_ifne 9 19 C dX5_lights_9 (by decide) (fun c9 => ?_) (fun c9 => ?_)
  · have v9 := bi_n c9
    obtain ⟨N0, hN01, hN0, eN0⟩ := inr_1 (n := 20) (by decide) v9
    refine j_al0 19 C dX5_lights_19 ?_
    refine jg_X5_7 20 C dX5_lights_20 ?_
    refine j_iconst 23 C dX5_lights_23 ic_1 ?_
    refine j_top (nI (1)) rfl ?_
    refine jl_A0 24 (by omega) C dX5_lights_24 ?_
    refine j_il1 25 C dX5_lights_25 ?_
    refine j_iadd 26 C dX5_lights_26 ?_
    refine j_ldc 27 C dX5_lights_27 cs_X5_137 ?_
    refine j_icle 29 39 C dX5_lights_29 (by decide) (fun c29 => ?_) (fun c29 => ?_)
    · obtain ⟨N, hN1, hN, rfl⟩ := inr_1 (n := 20) (by decide) v9
      obtain ⟨hM8, hM0⟩ := SI_cl0 hS
      have loop : ∀ n k, k + n = N → ∀ o3 o4 : Option Value, J X G 5 (ub g 12 (lts (g 12) k)) 41 [some (.ref (mo G)), some (.int (nI N)), some (.int (nI k)), o3, o4] [] := by
        intro n
        induction n with
        | zero =>
          intro k hk o3 o4
          obtain rfl : N = k := by omega
          refine j_il2 41 C dX5_lights_41 ?_
          refine j_il1 42 C dX5_lights_42 ?_
          refine j_icge 43 94 C dX5_lights_43 (by decide) (fun c43 => ?_) (fun c43 => ?_)
          · refine j_al0 94 C dX5_lights_94 ?_
            refine j_vi 95 C dX5_lights_95 mv_X5_holes lk_X5_142 (c_X5_holes) rc_m rfl rfl ⟨(Nat.le_of_ble_eq_true rfl), (Nat.le_of_ble_eq_true rfl)⟩ (Nat.le_of_ble_eq_true rfl) (fun r95 g95 hp95 => ?_)
            obtain ⟨hr95, rfl⟩ := hp95
            rw [ub_s] at hr95
            subst hr95
            exact hR dX5_lights_98 (cpM_r (by simp [s_lights, v9, cl_nI (show N < 2 ^ 31 by omega)]) rfl SC.rfl)
          · exact absurd (nI_le (Nat.le_refl _) (by omega)) c43
        | succ n ih =>
          intro k hk o3 o4
          have hSk : SI (lts (g 12) k) := lts_SI hS
          have hLk := SI_lgt hSk
          have d1 := dn_lt (dz ((lts (g 12) k) 2))
          have d2 := dn_lt (dz (dz ((lts (g 12) k) 2)))
          refine j_il2 41 C dX5_lights_41 ?_
          refine j_il1 42 C dX5_lights_42 ?_
          refine j_icge 43 94 C dX5_lights_43 (by decide) (fun c43 => ?_) (fun c43 => ?_)
          · exact absurd c43 (nI_ge (a := k) (b := N) (by omega) (by omega))
          · refine j_al0 46 C dX5_lights_46 ?_
            refine j_vi 47 C dX5_lights_47 mv_X5_draw lk_X5_207 (c_X5_draw) rc_m rfl rfl ⟨(Nat.le_of_ble_eq_true rfl), (Nat.le_of_ble_eq_true rfl)⟩ (Nat.le_of_ble_eq_true rfl) (fun r47 g47 hp47 => ?_)
            obtain ⟨hr47, rfl⟩ := hp47
            rw [ub_s] at hr47
            subst hr47
            rw [ub_ub, ub_s]
            refine j_bipush 50 C dX5_lights_50 bp_8 ?_
            refine j_irem 52 C dX5_lights_52 (by decide) ?_
            refine j_top (nI (dn (dz ((lts (g 12) k) 2)) % 8)) (pk_rem (by omega) (by decide) (by decide)) ?_
            refine j_is3 53 C dX5_lights_53 rfl (Nat.le_of_ble_eq_true rfl) ?_
            refine j_al0 54 C dX5_lights_54 ?_
            refine j_vi 55 C dX5_lights_55 mv_X5_draw lk_X5_207 (c_X5_draw) rc_m rfl rfl ⟨(Nat.le_of_ble_eq_true rfl), (Nat.le_of_ble_eq_true rfl)⟩ (Nat.le_of_ble_eq_true rfl) (fun r55 g55 hp55 => ?_)
            obtain ⟨hr55, rfl⟩ := hp55
            rw [ub_s, upd_s] at hr55
            subst hr55
            rw [ub_ub, ub_s, upd_s, upd_upd]
            refine j_bipush 58 C dX5_lights_58 bp_6 ?_
            refine j_irem 60 C dX5_lights_60 (by decide) ?_
            refine j_top (nI (dn (dz (dz ((lts (g 12) k) 2))) % 6)) (pk_rem (by omega) (by decide) (by decide)) ?_
            refine j_is4 61 C dX5_lights_61 rfl (Nat.le_of_ble_eq_true rfl) ?_
            refine j_al0 63 C dX5_lights_63 ?_
            refine j_il3 64 C dX5_lights_64 ?_
            refine j_vi 65 C dX5_lights_65 mv_X5_isMoth lk_X5_112 (c_X5_isMoth (by rw [ub_s]; exact (SI_upd hSk (Or.inr rfl)).1)) rc_m rfl rfl ⟨(Nat.le_of_ble_eq_true rfl), (Nat.le_of_ble_eq_true rfl)⟩ (Nat.le_of_ble_eq_true rfl) (fun r65 g65 hp65 => ?_)
            obtain ⟨hr65, rfl⟩ := hp65
            rw [ub_s] at hr65
            subst hr65
            refine j_ifeq 68 83 C dX5_lights_68 (by decide) (fun c68 => ?_) (fun c68 => ?_)
            · have v68 := bi_0 c68
              have hn : ¬ (dn (dz ((lts (g 12) k) 2)) % 8) < cl ((lts (g 12) k) 0) := fun q => by
                rw [isM_of (S := (upd (lts (g 12) k) 2 (dz (dz ((lts (g 12) k) 2))))) (M := cl ((lts (g 12) k) 0)) (by rw [upd_n (by decide)]; exact (SI_cl0 hSk).2) (SI_cl0 hSk).1 q] at v68; cases v68
              have e : lgt (lts (g 12) k) = (upd (lts (g 12) k) 2 (dz (dz ((lts (g 12) k) 2)))) := if_neg hn
              rw [← e]
              refine j_al0 83 C dX5_lights_83 ?_
              refine j_iconst 84 C dX5_lights_84 ic_0 ?_
              refine j_vv 85 C dX5_lights_85 mv_X5_nightBut lk_X5_131 (c_X5_nightBut (O := 0) (by rw [ub_s]; exact hLk) (by decide)) rc_m rfl rfl ⟨(Nat.le_of_ble_eq_true rfl), (Nat.le_of_ble_eq_true rfl)⟩ (Nat.le_of_ble_eq_true rfl) (fun g85 hp85 => ?_)
              obtain rfl := hp85
              rw [ub_ub, ub_s, show ng (lgt (lts (g 12) k)) 0 = lts (g 12) (k + 1) from rfl]
              refine j_inc2 88 C dX5_lights_88 rfl (nI_inc _) (Nat.le_of_ble_eq_true rfl) ?_
              refine j_goto 91 41 C dX5_lights_91 (by decide) ?_
              exact ih (k + 1) (by omega) _ _
            · have v68 := bi_n c68
              have hy : (dn (dz ((lts (g 12) k) 2)) % 8) < cl ((lts (g 12) k) 0) := by
                obtain ⟨j, hj, ej⟩ := isM_nat (S := (upd (lts (g 12) k) 2 (dz (dz ((lts (g 12) k) 2))))) (M := cl ((lts (g 12) k) 0)) (by rw [upd_n (by decide)]; exact (SI_cl0 hSk).2) (SI_cl0 hSk).1 v68
                have := (nI_eq (by omega) (by have := (SI_cl0 hSk).1; omega)).mp ej
                omega
              have h8 := (SI_cl0 hSk).1
              have e : lgt (lts (g 12) k) = upd (upd (lts (g 12) k) 2 (dz (dz ((lts (g 12) k) 2)))) (51 + (4 * (dn (dz ((lts (g 12) k) 2)) % 8) + 1)) (nI (dn (dz (dz ((lts (g 12) k) 2))) % 6)) := if_pos hy
              refine j_al0 71 C dX5_lights_71 ?_
              refine jg_X5_7 72 C dX5_lights_72 ?_
              refine j_il3 75 C dX5_lights_75 ?_
              refine j_iconst 76 C dX5_lights_76 ic_1 ?_
              refine j_si 77 C dX5_lights_77 ms_X5_at lk_X5_84 (c_X5_at (W := 1)) rfl rfl ⟨(Nat.le_of_ble_eq_true rfl), (Nat.le_of_ble_eq_true rfl)⟩ (Nat.le_of_ble_eq_true rfl) (fun r77 g77 hp77 => ?_)
              obtain ⟨rfl, rfl⟩ := hp77
              refine j_il4 80 C dX5_lights_80 ?_
              refine js_A0 82 (by omega) C dX5_lights_82 ?_
              rw [ub_ub, ub_s, ← e]
              refine j_al0 83 C dX5_lights_83 ?_
              refine j_iconst 84 C dX5_lights_84 ic_0 ?_
              refine j_vv 85 C dX5_lights_85 mv_X5_nightBut lk_X5_131 (c_X5_nightBut (O := 0) (by rw [ub_s]; exact hLk) (by decide)) rc_m rfl rfl ⟨(Nat.le_of_ble_eq_true rfl), (Nat.le_of_ble_eq_true rfl)⟩ (Nat.le_of_ble_eq_true rfl) (fun g85 hp85 => ?_)
              obtain rfl := hp85
              rw [ub_ub, ub_s, show ng (lgt (lts (g 12) k)) 0 = lts (g 12) (k + 1) from rfl]
              refine j_inc2 88 C dX5_lights_88 rfl (nI_inc _) (Nat.le_of_ble_eq_true rfl) ?_
              refine j_goto 91 41 C dX5_lights_91 (by decide) ?_
              exact ih (k + 1) (by omega) _ _
      refine j_iconst 39 C dX5_lights_39 ic_0 ?_
      refine j_is2 40 C dX5_lights_40 rfl (Nat.le_of_ble_eq_true rfl) ?_
      have h9 := loop N 0 (Nat.zero_add N) none none
      rw [show ub g 12 (lts (g 12) 0) = g from ub_id] at h9
      exact h9
    · exact absurd (show g 12 1 + n ≤ 99999 by rw [eN0, hT, nI_add]; exact nI_le (b := 99999) (by omega) (by decide)) c29
  · have v9 := bi_0 c9
    refine j_al0 12 C dX5_lights_12 ?_
    refine j_ldc 13 C dX5_lights_13 cs_X5_40 ?_
    refine j_vi 15 C dX5_lights_15 mv_X5_finds lk_X5_46 (c_X5_finds (f := 0) (by decide) (by decide)) rc_m rfl rfl ⟨(Nat.le_of_ble_eq_true rfl), (Nat.le_of_ble_eq_true rfl)⟩ (Nat.le_of_ble_eq_true rfl) (fun r15 g15 hp15 => ?_)
    obtain ⟨rfl, rfl⟩ := hp15
    exact hR dX5_lights_18 (cpM_f (f := 0) (by simp [s_lights, v9]) (by decide) (by decide) SC.rfl)
set_option maxRecDepth 20000 in
theorem c_X5_seed {G : GT} {g : Mem} (hS : SI (g 12)) {T : Nat} (hT : g 12 1 = nI T) (hTb : T ≤ 31000) {v : Int32} : Cti G yX5_seed cX5_seed 2 .int 1 23 [.ref (mo G), .int v] g (fun r g' => cpM (s_seed v (g 12)) g r g') := by
  refine ent_i (by decide) (Nat.le_of_ble_eq_true rfl) [some (.ref (mo G)), some (.int v)] rfl ?_
  intro X C hR
  have C : CX X G RX5 cX5_seed 2 1 23 := C
  refine j_al0 0 C dX5_seed_0 ?_
  refine j_iconst 1 C dX5_seed_1 ic_2 ?_
  refine j_il1 2 C dX5_seed_2 ?_
  refine j_vi 3 C dX5_seed_3 mv_X5_becomes lk_X5_60 (c_X5_becomes (i := 2) (by decide)) rc_m rfl rfl ⟨(Nat.le_of_ble_eq_true rfl), (Nat.le_of_ble_eq_true rfl)⟩ (Nat.le_of_ble_eq_true rfl) (fun r3 g3 hp3 => ?_)
  obtain ⟨rfl, rfl⟩ := hp3
  exact hR dX5_seed_6 (cpM_r rfl rfl SC.rfl)
set_option maxRecDepth 20000 in
theorem c_X5_hold {G : GT} {g : Mem} (hS : SI (g 12)) {T : Nat} (hT : g 12 1 = nI T) (hTb : T ≤ 31000) {s m : Int32} : Cti G yX5_hold cX5_hold 3 .int 1 25 [.ref (mo G), .int s, .int m] g (fun r g' => cpM (s_hold s m (g 12)) g r g') := by
  refine ent_i (by decide) (Nat.le_of_ble_eq_true rfl) [some (.ref (mo G)), some (.int s), some (.int m)] rfl ?_
  intro X C hR
  have C : CX X G RX5 cX5_hold 3 1 25 := C
  refine j_il1 0 C dX5_hold_0 ?_
  refine j_i2l 1 C dX5_hold_1 ?_
  refine j_lconst 2 C dX5_hold_2 lc_0 ?_
  refine j_ldc2 3 C dX5_hold_3 cl_X5_54 ?_
  refine j_si 6 C dX5_hold_6 ms_X5_isIn lk_X5_56 (c_X5_isIn (lo := 0) (hi := 9) (by decide) (by decide)) rfl rfl ⟨(Nat.le_of_ble_eq_true rfl), (Nat.le_of_ble_eq_true rfl)⟩ (Nat.le_of_ble_eq_true rfl) (fun r6 g6 hp6 => ?_)
  obtain ⟨rfl, rfl⟩ := hp6
  refine j_ifeq 9 25 C dX5_hold_9 (by decide) (fun c9 => ?_) (fun c9 => ?_)
  · have v9 := bi_0 c9
    refine j_al0 25 C dX5_hold_25 ?_
    refine j_ldc 26 C dX5_hold_26 cs_X5_40 ?_
    refine j_vi 28 C dX5_hold_28 mv_X5_finds lk_X5_46 (c_X5_finds (f := 0) (by decide) (by decide)) rc_m rfl rfl ⟨(Nat.le_of_ble_eq_true rfl), (Nat.le_of_ble_eq_true rfl)⟩ (Nat.le_of_ble_eq_true rfl) (fun r28 g28 hp28 => ?_)
    obtain ⟨rfl, rfl⟩ := hp28
    exact hR dX5_hold_31 (cpM_f (f := 0) (by simp [s_hold, v9]) (by decide) (by decide) SC.rfl)
  · have v9 := bi_n c9
    refine j_il2 12 C dX5_hold_12 ?_
    refine j_iconst 13 C dX5_hold_13 ic_m1 ?_
    refine j_iceq 14 32 C dX5_hold_14 (by decide) (fun c14 => ?_) (fun c14 => ?_)
    · obtain ⟨Q, hQ, rfl⟩ := inr_nat (n := 9) (by decide) v9
      refine j_al0 32 C dX5_hold_32 ?_
      refine jg_X5_7 33 C dX5_hold_33 ?_
      refine j_bipush 36 C dX5_hold_36 bp_83 ?_
      refine j_il1 38 C dX5_hold_38 ?_
      refine j_iadd 39 C dX5_hold_39 ?_
      refine j_il2 40 C dX5_hold_40 ?_
      refine j_top2 (nI (83 + Q)) (nI_add 83 Q) ?_
      refine js_A0 41 (by omega) C dX5_hold_41 ?_
      refine j_iconst 42 C dX5_hold_42 ic_1 ?_
      exact hR dX5_hold_43 (cpM_r (by simp [s_hold, v9, c14, cl_nI (show Q < 2 ^ 31 by omega)]) rfl SC.rfl)
    · refine j_al0 17 C dX5_hold_17 ?_
      refine j_il2 18 C dX5_hold_18 ?_
      refine j_vi 19 C dX5_hold_19 mv_X5_isMoth lk_X5_112 (c_X5_isMoth hS.1) rc_m rfl rfl ⟨(Nat.le_of_ble_eq_true rfl), (Nat.le_of_ble_eq_true rfl)⟩ (Nat.le_of_ble_eq_true rfl) (fun r19 g19 hp19 => ?_)
      obtain ⟨rfl, rfl⟩ := hp19
      refine j_ifne 22 32 C dX5_hold_22 (by decide) (fun c22 => ?_) (fun c22 => ?_)
      · have v22 := bi_n c22
        obtain ⟨Q, hQ, rfl⟩ := inr_nat (n := 9) (by decide) v9
        refine j_al0 32 C dX5_hold_32 ?_
        refine jg_X5_7 33 C dX5_hold_33 ?_
        refine j_bipush 36 C dX5_hold_36 bp_83 ?_
        refine j_il1 38 C dX5_hold_38 ?_
        refine j_iadd 39 C dX5_hold_39 ?_
        refine j_il2 40 C dX5_hold_40 ?_
        refine j_top2 (nI (83 + Q)) (nI_add 83 Q) ?_
        refine js_A0 41 (by omega) C dX5_hold_41 ?_
        refine j_iconst 42 C dX5_hold_42 ic_1 ?_
        exact hR dX5_hold_43 (cpM_r (by simp [s_hold, v9, c14, v22, cl_nI (show Q < 2 ^ 31 by omega)]) rfl SC.rfl)
      · have v22 := bi_0 c22
        refine j_al0 25 C dX5_hold_25 ?_
        refine j_ldc 26 C dX5_hold_26 cs_X5_40 ?_
        refine j_vi 28 C dX5_hold_28 mv_X5_finds lk_X5_46 (c_X5_finds (f := 0) (by decide) (by decide)) rc_m rfl rfl ⟨(Nat.le_of_ble_eq_true rfl), (Nat.le_of_ble_eq_true rfl)⟩ (Nat.le_of_ble_eq_true rfl) (fun r28 g28 hp28 => ?_)
        obtain ⟨rfl, rfl⟩ := hp28
        exact hR dX5_hold_31 (cpM_f (f := 0) (by simp [s_hold, v9, c14, v22]) (by decide) (by decide) SC.rfl)
set_option maxRecDepth 20000 in
theorem c_X5_isUnder {G : GT} {g : Mem} (K U : Nat) (hK : K < 7) (hU : U < 7) : Cti G yX5_isUnder cX5_isUnder 2 .boolean 0 0 [.int (nI K), .int (nI U)] g (fun r g' => r = bi (isk K U) ∧ g = g') := by
  refine ent_z (by decide) (Nat.le_of_ble_eq_true rfl) [some (.int (nI K)), some (.int (nI U))] rfl ?_
  intro X C hR
  have C : CX X G RX5 cX5_isUnder 2 0 0 := C
  refine j_il1 0 C dX5_isUnder_0 ?_
  refine j_ifeq 1 45 C dX5_isUnder_1 (by decide) (fun c1 => ?_) (fun c1 => ?_)
  · refine j_iconst 45 C dX5_isUnder_45 ic_1 ?_
    refine j_goto 46 50 C dX5_isUnder_46 (by decide) ?_
    exact hR dX5_isUnder_50 (by first | exact Or.inl rfl | exact Or.inr rfl) ⟨by have h1 : U = 0 := (nI_eq (a := U) (b := 0) (by omega) (by omega)).mp c1; rw [isk_ref K hK U hU]; first | exact (if_pos (by simp only [Bool.or_eq_true, Bool.and_eq_true, decide_eq_true_eq]; omega)).symm | exact (if_neg (by simp only [Bool.or_eq_true, Bool.and_eq_true, decide_eq_true_eq]; omega)).symm, rfl⟩
  · refine j_il0 4 C dX5_isUnder_4 ?_
    refine j_il1 5 C dX5_isUnder_5 ?_
    refine j_iceq 6 45 C dX5_isUnder_6 (by decide) (fun c6 => ?_) (fun c6 => ?_)
    · refine j_iconst 45 C dX5_isUnder_45 ic_1 ?_
      refine j_goto 46 50 C dX5_isUnder_46 (by decide) ?_
      exact hR dX5_isUnder_50 (by first | exact Or.inl rfl | exact Or.inr rfl) ⟨by have h1 : ¬ U = 0 := fun z => c1 (congrArg nI z); have h6 : K = U := (nI_eq (a := K) (b := U) (by omega) (by omega)).mp c6; rw [isk_ref K hK U hU]; first | exact (if_pos (by simp only [Bool.or_eq_true, Bool.and_eq_true, decide_eq_true_eq]; omega)).symm | exact (if_neg (by simp only [Bool.or_eq_true, Bool.and_eq_true, decide_eq_true_eq]; omega)).symm, rfl⟩
    · refine j_il1 9 C dX5_isUnder_9 ?_
      refine j_iconst 10 C dX5_isUnder_10 ic_2 ?_
      refine j_icne 11 24 C dX5_isUnder_11 (by decide) (fun c11 => ?_) (fun c11 => ?_)
      · refine j_il1 24 C dX5_isUnder_24 ?_
        refine j_iconst 25 C dX5_isUnder_25 ic_3 ?_
        refine j_icne 26 34 C dX5_isUnder_26 (by decide) (fun c26 => ?_) (fun c26 => ?_)
        · refine j_il1 34 C dX5_isUnder_34 ?_
          refine j_iconst 35 C dX5_isUnder_35 ic_1 ?_
          refine j_icne 36 49 C dX5_isUnder_36 (by decide) (fun c36 => ?_) (fun c36 => ?_)
          · refine j_iconst 49 C dX5_isUnder_49 ic_0 ?_
            exact hR dX5_isUnder_50 (by first | exact Or.inl rfl | exact Or.inr rfl) ⟨by have h1 : ¬ U = 0 := fun z => c1 (congrArg nI z); have h6 : ¬ K = U := fun z => c6 (congrArg nI z); have h11 : ¬ U = 2 := fun z => c11 (congrArg nI z); have h26 : ¬ U = 3 := fun z => c26 (congrArg nI z); have h36 : ¬ U = 1 := fun z => c36 (congrArg nI z); rw [isk_ref K hK U hU]; first | exact (if_pos (by simp only [Bool.or_eq_true, Bool.and_eq_true, decide_eq_true_eq]; omega)).symm | exact (if_neg (by simp only [Bool.or_eq_true, Bool.and_eq_true, decide_eq_true_eq]; omega)).symm, rfl⟩
          · refine j_il0 39 C dX5_isUnder_39 ?_
            refine j_bipush 40 C dX5_isUnder_40 bp_6 ?_
            refine j_icne 42 49 C dX5_isUnder_42 (by decide) (fun c42 => ?_) (fun c42 => ?_)
            · refine j_iconst 49 C dX5_isUnder_49 ic_0 ?_
              exact hR dX5_isUnder_50 (by first | exact Or.inl rfl | exact Or.inr rfl) ⟨by have h1 : ¬ U = 0 := fun z => c1 (congrArg nI z); have h6 : ¬ K = U := fun z => c6 (congrArg nI z); have h11 : ¬ U = 2 := fun z => c11 (congrArg nI z); have h26 : ¬ U = 3 := fun z => c26 (congrArg nI z); have h36 : U = 1 := (nI_eq (a := U) (b := 1) (by omega) (by omega)).mp c36; have h42 : ¬ K = 6 := fun z => c42 (congrArg nI z); rw [isk_ref K hK U hU]; first | exact (if_pos (by simp only [Bool.or_eq_true, Bool.and_eq_true, decide_eq_true_eq]; omega)).symm | exact (if_neg (by simp only [Bool.or_eq_true, Bool.and_eq_true, decide_eq_true_eq]; omega)).symm, rfl⟩
            · refine j_iconst 45 C dX5_isUnder_45 ic_1 ?_
              refine j_goto 46 50 C dX5_isUnder_46 (by decide) ?_
              exact hR dX5_isUnder_50 (by first | exact Or.inl rfl | exact Or.inr rfl) ⟨by have h1 : ¬ U = 0 := fun z => c1 (congrArg nI z); have h6 : ¬ K = U := fun z => c6 (congrArg nI z); have h11 : ¬ U = 2 := fun z => c11 (congrArg nI z); have h26 : ¬ U = 3 := fun z => c26 (congrArg nI z); have h36 : U = 1 := (nI_eq (a := U) (b := 1) (by omega) (by omega)).mp c36; have h42 : K = 6 := (nI_eq (a := K) (b := 6) (by omega) (by omega)).mp c42; rw [isk_ref K hK U hU]; first | exact (if_pos (by simp only [Bool.or_eq_true, Bool.and_eq_true, decide_eq_true_eq]; omega)).symm | exact (if_neg (by simp only [Bool.or_eq_true, Bool.and_eq_true, decide_eq_true_eq]; omega)).symm, rfl⟩
        · refine j_il0 29 C dX5_isUnder_29 ?_
          refine j_iconst 30 C dX5_isUnder_30 ic_4 ?_
          refine j_iceq 31 45 C dX5_isUnder_31 (by decide) (fun c31 => ?_) (fun c31 => ?_)
          · refine j_iconst 45 C dX5_isUnder_45 ic_1 ?_
            refine j_goto 46 50 C dX5_isUnder_46 (by decide) ?_
            exact hR dX5_isUnder_50 (by first | exact Or.inl rfl | exact Or.inr rfl) ⟨by have h1 : ¬ U = 0 := fun z => c1 (congrArg nI z); have h6 : ¬ K = U := fun z => c6 (congrArg nI z); have h11 : ¬ U = 2 := fun z => c11 (congrArg nI z); have h26 : U = 3 := (nI_eq (a := U) (b := 3) (by omega) (by omega)).mp c26; have h31 : K = 4 := (nI_eq (a := K) (b := 4) (by omega) (by omega)).mp c31; rw [isk_ref K hK U hU]; first | exact (if_pos (by simp only [Bool.or_eq_true, Bool.and_eq_true, decide_eq_true_eq]; omega)).symm | exact (if_neg (by simp only [Bool.or_eq_true, Bool.and_eq_true, decide_eq_true_eq]; omega)).symm, rfl⟩
          · refine j_il1 34 C dX5_isUnder_34 ?_
            refine j_iconst 35 C dX5_isUnder_35 ic_1 ?_
            refine j_icne 36 49 C dX5_isUnder_36 (by decide) (fun c36 => ?_) (fun c36 => ?_)
            · refine j_iconst 49 C dX5_isUnder_49 ic_0 ?_
              exact hR dX5_isUnder_50 (by first | exact Or.inl rfl | exact Or.inr rfl) ⟨by have h1 : ¬ U = 0 := fun z => c1 (congrArg nI z); have h6 : ¬ K = U := fun z => c6 (congrArg nI z); have h11 : ¬ U = 2 := fun z => c11 (congrArg nI z); have h26 : U = 3 := (nI_eq (a := U) (b := 3) (by omega) (by omega)).mp c26; have h31 : ¬ K = 4 := fun z => c31 (congrArg nI z); have h36 : ¬ U = 1 := fun z => c36 (congrArg nI z); rw [isk_ref K hK U hU]; first | exact (if_pos (by simp only [Bool.or_eq_true, Bool.and_eq_true, decide_eq_true_eq]; omega)).symm | exact (if_neg (by simp only [Bool.or_eq_true, Bool.and_eq_true, decide_eq_true_eq]; omega)).symm, rfl⟩
            · refine j_il0 39 C dX5_isUnder_39 ?_
              refine j_bipush 40 C dX5_isUnder_40 bp_6 ?_
              refine j_icne 42 49 C dX5_isUnder_42 (by decide) (fun c42 => ?_) (fun c42 => ?_)
              · refine j_iconst 49 C dX5_isUnder_49 ic_0 ?_
                exact hR dX5_isUnder_50 (by first | exact Or.inl rfl | exact Or.inr rfl) ⟨by have h1 : ¬ U = 0 := fun z => c1 (congrArg nI z); have h6 : ¬ K = U := fun z => c6 (congrArg nI z); have h11 : ¬ U = 2 := fun z => c11 (congrArg nI z); have h26 : U = 3 := (nI_eq (a := U) (b := 3) (by omega) (by omega)).mp c26; have h31 : ¬ K = 4 := fun z => c31 (congrArg nI z); have h36 : U = 1 := (nI_eq (a := U) (b := 1) (by omega) (by omega)).mp c36; have h42 : ¬ K = 6 := fun z => c42 (congrArg nI z); rw [isk_ref K hK U hU]; first | exact (if_pos (by simp only [Bool.or_eq_true, Bool.and_eq_true, decide_eq_true_eq]; omega)).symm | exact (if_neg (by simp only [Bool.or_eq_true, Bool.and_eq_true, decide_eq_true_eq]; omega)).symm, rfl⟩
              · refine j_iconst 45 C dX5_isUnder_45 ic_1 ?_
                refine j_goto 46 50 C dX5_isUnder_46 (by decide) ?_
                exact hR dX5_isUnder_50 (by first | exact Or.inl rfl | exact Or.inr rfl) ⟨by have h1 : ¬ U = 0 := fun z => c1 (congrArg nI z); have h6 : ¬ K = U := fun z => c6 (congrArg nI z); have h11 : ¬ U = 2 := fun z => c11 (congrArg nI z); have h26 : U = 3 := (nI_eq (a := U) (b := 3) (by omega) (by omega)).mp c26; have h31 : ¬ K = 4 := fun z => c31 (congrArg nI z); have h36 : U = 1 := (nI_eq (a := U) (b := 1) (by omega) (by omega)).mp c36; have h42 : K = 6 := (nI_eq (a := K) (b := 6) (by omega) (by omega)).mp c42; rw [isk_ref K hK U hU]; first | exact (if_pos (by simp only [Bool.or_eq_true, Bool.and_eq_true, decide_eq_true_eq]; omega)).symm | exact (if_neg (by simp only [Bool.or_eq_true, Bool.and_eq_true, decide_eq_true_eq]; omega)).symm, rfl⟩
      · refine j_il0 14 C dX5_isUnder_14 ?_
        refine j_iconst 15 C dX5_isUnder_15 ic_3 ?_
        refine j_iceq 16 45 C dX5_isUnder_16 (by decide) (fun c16 => ?_) (fun c16 => ?_)
        · refine j_iconst 45 C dX5_isUnder_45 ic_1 ?_
          refine j_goto 46 50 C dX5_isUnder_46 (by decide) ?_
          exact hR dX5_isUnder_50 (by first | exact Or.inl rfl | exact Or.inr rfl) ⟨by have h1 : ¬ U = 0 := fun z => c1 (congrArg nI z); have h6 : ¬ K = U := fun z => c6 (congrArg nI z); have h11 : U = 2 := (nI_eq (a := U) (b := 2) (by omega) (by omega)).mp c11; have h16 : K = 3 := (nI_eq (a := K) (b := 3) (by omega) (by omega)).mp c16; rw [isk_ref K hK U hU]; first | exact (if_pos (by simp only [Bool.or_eq_true, Bool.and_eq_true, decide_eq_true_eq]; omega)).symm | exact (if_neg (by simp only [Bool.or_eq_true, Bool.and_eq_true, decide_eq_true_eq]; omega)).symm, rfl⟩
        · refine j_il0 19 C dX5_isUnder_19 ?_
          refine j_iconst 20 C dX5_isUnder_20 ic_4 ?_
          refine j_iceq 21 45 C dX5_isUnder_21 (by decide) (fun c21 => ?_) (fun c21 => ?_)
          · refine j_iconst 45 C dX5_isUnder_45 ic_1 ?_
            refine j_goto 46 50 C dX5_isUnder_46 (by decide) ?_
            exact hR dX5_isUnder_50 (by first | exact Or.inl rfl | exact Or.inr rfl) ⟨by have h1 : ¬ U = 0 := fun z => c1 (congrArg nI z); have h6 : ¬ K = U := fun z => c6 (congrArg nI z); have h11 : U = 2 := (nI_eq (a := U) (b := 2) (by omega) (by omega)).mp c11; have h16 : ¬ K = 3 := fun z => c16 (congrArg nI z); have h21 : K = 4 := (nI_eq (a := K) (b := 4) (by omega) (by omega)).mp c21; rw [isk_ref K hK U hU]; first | exact (if_pos (by simp only [Bool.or_eq_true, Bool.and_eq_true, decide_eq_true_eq]; omega)).symm | exact (if_neg (by simp only [Bool.or_eq_true, Bool.and_eq_true, decide_eq_true_eq]; omega)).symm, rfl⟩
          · refine j_il1 24 C dX5_isUnder_24 ?_
            refine j_iconst 25 C dX5_isUnder_25 ic_3 ?_
            refine j_icne 26 34 C dX5_isUnder_26 (by decide) (fun c26 => ?_) (fun c26 => ?_)
            · refine j_il1 34 C dX5_isUnder_34 ?_
              refine j_iconst 35 C dX5_isUnder_35 ic_1 ?_
              refine j_icne 36 49 C dX5_isUnder_36 (by decide) (fun c36 => ?_) (fun c36 => ?_)
              · refine j_iconst 49 C dX5_isUnder_49 ic_0 ?_
                exact hR dX5_isUnder_50 (by first | exact Or.inl rfl | exact Or.inr rfl) ⟨by have h1 : ¬ U = 0 := fun z => c1 (congrArg nI z); have h6 : ¬ K = U := fun z => c6 (congrArg nI z); have h11 : U = 2 := (nI_eq (a := U) (b := 2) (by omega) (by omega)).mp c11; have h16 : ¬ K = 3 := fun z => c16 (congrArg nI z); have h21 : ¬ K = 4 := fun z => c21 (congrArg nI z); have h26 : ¬ U = 3 := fun z => c26 (congrArg nI z); have h36 : ¬ U = 1 := fun z => c36 (congrArg nI z); rw [isk_ref K hK U hU]; first | exact (if_pos (by simp only [Bool.or_eq_true, Bool.and_eq_true, decide_eq_true_eq]; omega)).symm | exact (if_neg (by simp only [Bool.or_eq_true, Bool.and_eq_true, decide_eq_true_eq]; omega)).symm, rfl⟩
              · refine j_il0 39 C dX5_isUnder_39 ?_
                refine j_bipush 40 C dX5_isUnder_40 bp_6 ?_
                refine j_icne 42 49 C dX5_isUnder_42 (by decide) (fun c42 => ?_) (fun c42 => ?_)
                · refine j_iconst 49 C dX5_isUnder_49 ic_0 ?_
                  exact hR dX5_isUnder_50 (by first | exact Or.inl rfl | exact Or.inr rfl) ⟨by have h1 : ¬ U = 0 := fun z => c1 (congrArg nI z); have h6 : ¬ K = U := fun z => c6 (congrArg nI z); have h11 : U = 2 := (nI_eq (a := U) (b := 2) (by omega) (by omega)).mp c11; have h16 : ¬ K = 3 := fun z => c16 (congrArg nI z); have h21 : ¬ K = 4 := fun z => c21 (congrArg nI z); have h26 : ¬ U = 3 := fun z => c26 (congrArg nI z); have h36 : U = 1 := (nI_eq (a := U) (b := 1) (by omega) (by omega)).mp c36; have h42 : ¬ K = 6 := fun z => c42 (congrArg nI z); rw [isk_ref K hK U hU]; first | exact (if_pos (by simp only [Bool.or_eq_true, Bool.and_eq_true, decide_eq_true_eq]; omega)).symm | exact (if_neg (by simp only [Bool.or_eq_true, Bool.and_eq_true, decide_eq_true_eq]; omega)).symm, rfl⟩
                · refine j_iconst 45 C dX5_isUnder_45 ic_1 ?_
                  refine j_goto 46 50 C dX5_isUnder_46 (by decide) ?_
                  exact hR dX5_isUnder_50 (by first | exact Or.inl rfl | exact Or.inr rfl) ⟨by have h1 : ¬ U = 0 := fun z => c1 (congrArg nI z); have h6 : ¬ K = U := fun z => c6 (congrArg nI z); have h11 : U = 2 := (nI_eq (a := U) (b := 2) (by omega) (by omega)).mp c11; have h16 : ¬ K = 3 := fun z => c16 (congrArg nI z); have h21 : ¬ K = 4 := fun z => c21 (congrArg nI z); have h26 : ¬ U = 3 := fun z => c26 (congrArg nI z); have h36 : U = 1 := (nI_eq (a := U) (b := 1) (by omega) (by omega)).mp c36; have h42 : K = 6 := (nI_eq (a := K) (b := 6) (by omega) (by omega)).mp c42; rw [isk_ref K hK U hU]; first | exact (if_pos (by simp only [Bool.or_eq_true, Bool.and_eq_true, decide_eq_true_eq]; omega)).symm | exact (if_neg (by simp only [Bool.or_eq_true, Bool.and_eq_true, decide_eq_true_eq]; omega)).symm, rfl⟩
            · refine j_il0 29 C dX5_isUnder_29 ?_
              refine j_iconst 30 C dX5_isUnder_30 ic_4 ?_
              refine j_iceq 31 45 C dX5_isUnder_31 (by decide) (fun c31 => ?_) (fun c31 => ?_)
              · refine j_iconst 45 C dX5_isUnder_45 ic_1 ?_
                refine j_goto 46 50 C dX5_isUnder_46 (by decide) ?_
                exact hR dX5_isUnder_50 (by first | exact Or.inl rfl | exact Or.inr rfl) ⟨by have h1 : ¬ U = 0 := fun z => c1 (congrArg nI z); have h6 : ¬ K = U := fun z => c6 (congrArg nI z); have h11 : U = 2 := (nI_eq (a := U) (b := 2) (by omega) (by omega)).mp c11; have h16 : ¬ K = 3 := fun z => c16 (congrArg nI z); have h21 : ¬ K = 4 := fun z => c21 (congrArg nI z); have h26 : U = 3 := (nI_eq (a := U) (b := 3) (by omega) (by omega)).mp c26; have h31 : K = 4 := (nI_eq (a := K) (b := 4) (by omega) (by omega)).mp c31; rw [isk_ref K hK U hU]; first | exact (if_pos (by simp only [Bool.or_eq_true, Bool.and_eq_true, decide_eq_true_eq]; omega)).symm | exact (if_neg (by simp only [Bool.or_eq_true, Bool.and_eq_true, decide_eq_true_eq]; omega)).symm, rfl⟩
              · refine j_il1 34 C dX5_isUnder_34 ?_
                refine j_iconst 35 C dX5_isUnder_35 ic_1 ?_
                refine j_icne 36 49 C dX5_isUnder_36 (by decide) (fun c36 => ?_) (fun c36 => ?_)
                · refine j_iconst 49 C dX5_isUnder_49 ic_0 ?_
                  exact hR dX5_isUnder_50 (by first | exact Or.inl rfl | exact Or.inr rfl) ⟨by have h1 : ¬ U = 0 := fun z => c1 (congrArg nI z); have h6 : ¬ K = U := fun z => c6 (congrArg nI z); have h11 : U = 2 := (nI_eq (a := U) (b := 2) (by omega) (by omega)).mp c11; have h16 : ¬ K = 3 := fun z => c16 (congrArg nI z); have h21 : ¬ K = 4 := fun z => c21 (congrArg nI z); have h26 : U = 3 := (nI_eq (a := U) (b := 3) (by omega) (by omega)).mp c26; have h31 : ¬ K = 4 := fun z => c31 (congrArg nI z); have h36 : ¬ U = 1 := fun z => c36 (congrArg nI z); rw [isk_ref K hK U hU]; first | exact (if_pos (by simp only [Bool.or_eq_true, Bool.and_eq_true, decide_eq_true_eq]; omega)).symm | exact (if_neg (by simp only [Bool.or_eq_true, Bool.and_eq_true, decide_eq_true_eq]; omega)).symm, rfl⟩
                · refine j_il0 39 C dX5_isUnder_39 ?_
                  refine j_bipush 40 C dX5_isUnder_40 bp_6 ?_
                  refine j_icne 42 49 C dX5_isUnder_42 (by decide) (fun c42 => ?_) (fun c42 => ?_)
                  · refine j_iconst 49 C dX5_isUnder_49 ic_0 ?_
                    exact hR dX5_isUnder_50 (by first | exact Or.inl rfl | exact Or.inr rfl) ⟨by have h1 : ¬ U = 0 := fun z => c1 (congrArg nI z); have h6 : ¬ K = U := fun z => c6 (congrArg nI z); have h11 : U = 2 := (nI_eq (a := U) (b := 2) (by omega) (by omega)).mp c11; have h16 : ¬ K = 3 := fun z => c16 (congrArg nI z); have h21 : ¬ K = 4 := fun z => c21 (congrArg nI z); have h26 : U = 3 := (nI_eq (a := U) (b := 3) (by omega) (by omega)).mp c26; have h31 : ¬ K = 4 := fun z => c31 (congrArg nI z); have h36 : U = 1 := (nI_eq (a := U) (b := 1) (by omega) (by omega)).mp c36; have h42 : ¬ K = 6 := fun z => c42 (congrArg nI z); rw [isk_ref K hK U hU]; first | exact (if_pos (by simp only [Bool.or_eq_true, Bool.and_eq_true, decide_eq_true_eq]; omega)).symm | exact (if_neg (by simp only [Bool.or_eq_true, Bool.and_eq_true, decide_eq_true_eq]; omega)).symm, rfl⟩
                  · refine j_iconst 45 C dX5_isUnder_45 ic_1 ?_
                    refine j_goto 46 50 C dX5_isUnder_46 (by decide) ?_
                    exact hR dX5_isUnder_50 (by first | exact Or.inl rfl | exact Or.inr rfl) ⟨by have h1 : ¬ U = 0 := fun z => c1 (congrArg nI z); have h6 : ¬ K = U := fun z => c6 (congrArg nI z); have h11 : U = 2 := (nI_eq (a := U) (b := 2) (by omega) (by omega)).mp c11; have h16 : ¬ K = 3 := fun z => c16 (congrArg nI z); have h21 : ¬ K = 4 := fun z => c21 (congrArg nI z); have h26 : U = 3 := (nI_eq (a := U) (b := 3) (by omega) (by omega)).mp c26; have h31 : ¬ K = 4 := fun z => c31 (congrArg nI z); have h36 : U = 1 := (nI_eq (a := U) (b := 1) (by omega) (by omega)).mp c36; have h42 : K = 6 := (nI_eq (a := K) (b := 6) (by omega) (by omega)).mp c42; rw [isk_ref K hK U hU]; first | exact (if_pos (by simp only [Bool.or_eq_true, Bool.and_eq_true, decide_eq_true_eq]; omega)).symm | exact (if_neg (by simp only [Bool.or_eq_true, Bool.and_eq_true, decide_eq_true_eq]; omega)).symm, rfl⟩
set_option maxRecDepth 20000 in
theorem c_X5_as {G : GT} {g : Mem} (hS : SI (g 12)) {T : Nat} (hT : g 12 1 = nI T) (hTb : T ≤ 31000) {s k : Int32} : Cti G yX5_as cX5_as 4 .int 1 25 [.ref (mo G), .int s, .int k] g (fun r g' => cpM (s_as s k (g 12)) g r g') := by
  refine ent_i (by decide) (Nat.le_of_ble_eq_true rfl) [some (.ref (mo G)), some (.int s), some (.int k), none] rfl ?_
  intro X C hR
  have C : CX X G RX5 cX5_as 4 1 25 := C
  refine j_il1 0 C dX5_as_0 ?_
  refine j_i2l 1 C dX5_as_1 ?_
  refine j_lconst 2 C dX5_as_2 lc_0 ?_
  refine j_ldc2 3 C dX5_as_3 cl_X5_54 ?_
  refine j_si 6 C dX5_as_6 ms_X5_isIn lk_X5_56 (c_X5_isIn (lo := 0) (hi := 9) (by decide) (by decide)) rfl rfl ⟨(Nat.le_of_ble_eq_true rfl), (Nat.le_of_ble_eq_true rfl)⟩ (Nat.le_of_ble_eq_true rfl) (fun r6 g6 hp6 => ?_)
  obtain ⟨rfl, rfl⟩ := hp6
  refine j_ifeq 9 24 C dX5_as_9 (by decide) (fun c9 => ?_) (fun c9 => ?_)
  · have v9 := bi_0 c9
    refine j_al0 24 C dX5_as_24 ?_
    refine j_ldc 25 C dX5_as_25 cs_X5_40 ?_
    refine j_vi 27 C dX5_as_27 mv_X5_finds lk_X5_46 (c_X5_finds (f := 0) (by decide) (by decide)) rc_m rfl rfl ⟨(Nat.le_of_ble_eq_true rfl), (Nat.le_of_ble_eq_true rfl)⟩ (Nat.le_of_ble_eq_true rfl) (fun r27 g27 hp27 => ?_)
    obtain ⟨rfl, rfl⟩ := hp27
    exact hR dX5_as_30 (cpM_f (f := 0) (by simp [s_as, v9]) (by decide) (by decide) SC.rfl)
  · have v9 := bi_n c9
    refine j_il2 12 C dX5_as_12 ?_
    refine j_i2l 13 C dX5_as_13 ?_
    refine j_lconst 14 C dX5_as_14 lc_0 ?_
    refine j_ldc2 15 C dX5_as_15 cl_X5_87 ?_
    refine j_si 18 C dX5_as_18 ms_X5_isIn lk_X5_56 (c_X5_isIn (lo := 0) (hi := 6) (by decide) (by decide)) rfl rfl ⟨(Nat.le_of_ble_eq_true rfl), (Nat.le_of_ble_eq_true rfl)⟩ (Nat.le_of_ble_eq_true rfl) (fun r18 g18 hp18 => ?_)
    obtain ⟨rfl, rfl⟩ := hp18
    refine j_ifne 21 31 C dX5_as_21 (by decide) (fun c21 => ?_) (fun c21 => ?_)
    · have v21 := bi_n c21
      obtain ⟨Q, hQ, rfl⟩ := inr_nat (n := 9) (by decide) v9
      obtain ⟨U, hU, rfl⟩ := inr_nat (n := 6) (by decide) v21
      refine j_al0 31 C dX5_as_31 ?_
      refine jg_X5_7 32 C dX5_as_32 ?_
      refine j_bipush 35 C dX5_as_35 bp_83 ?_
      refine j_il1 37 C dX5_as_37 ?_
      refine j_iadd 38 C dX5_as_38 ?_
      refine j_top (nI (83 + Q)) (nI_add 83 Q) ?_
      refine jl_A0 39 (by omega) C dX5_as_39 ?_
      refine j_is3 40 C dX5_as_40 rfl (Nat.le_of_ble_eq_true rfl) ?_
      refine j_il3 41 C dX5_as_41 ?_
      refine j_ifge 42 53 C dX5_as_42 (by decide) (fun c42 => ?_) (fun c42 => ?_)
      · have c42n : ¬ g 12 (83 + Q) = -1 := fun z => by rw [z] at c42; exact absurd c42 (by decide)
        obtain ⟨M, hM, eM⟩ : ∃ m, m < 8 ∧ g 12 (83 + Q) = nI m := (hS.2.2.2 Q (by omega)).resolve_left c42n
        obtain ⟨⟨K, hK, eK⟩, -⟩ := hS.2.2.1 M hM
        refine j_al0 53 C dX5_as_53 ?_
        refine j_il3 54 C dX5_as_54 ?_
        refine j_top (nI M) eM ?_
        refine j_iconst 55 C dX5_as_55 ic_0 ?_
        refine j_vi 56 C dX5_as_56 mv_X5_its lk_X5_67 (c_X5_its (W := 0) hM (by decide)) rc_m rfl rfl ⟨(Nat.le_of_ble_eq_true rfl), (Nat.le_of_ble_eq_true rfl)⟩ (Nat.le_of_ble_eq_true rfl) (fun r56 g56 hp56 => ?_)
        obtain ⟨hr56, rfl⟩ := hp56
        rw [eK] at hr56
        subst hr56
        refine j_il2 59 C dX5_as_59 ?_
        refine j_si 60 C dX5_as_60 ms_X5_isUnder lk_X5_293 (c_X5_isUnder K U hK (by omega)) rfl rfl ⟨(Nat.le_of_ble_eq_true rfl), (Nat.le_of_ble_eq_true rfl)⟩ (Nat.le_of_ble_eq_true rfl) (fun r60 g60 hp60 => ?_)
        obtain ⟨rfl, rfl⟩ := hp60
        refine j_ifeq 63 70 C dX5_as_63 (by decide) (fun c63 => ?_) (fun c63 => ?_)
        · have v63 := bi_0 c63
          refine j_al0 70 C dX5_as_70 ?_
          refine j_ldcw 71 C dX5_as_71 cs_X5_296 ?_
          refine j_vi 74 C dX5_as_74 mv_X5_finds lk_X5_46 (c_X5_finds (f := 2) (by decide) (by decide)) rc_m rfl rfl ⟨(Nat.le_of_ble_eq_true rfl), (Nat.le_of_ble_eq_true rfl)⟩ (Nat.le_of_ble_eq_true rfl) (fun r74 g74 hp74 => ?_)
          obtain ⟨rfl, rfl⟩ := hp74
          exact hR dX5_as_77 (cpM_f (f := 2) (by unfold s_as; rw [v9, v21, cl_nI (show Q < 2 ^ 31 by omega), eM, cl_nI (show M < 2 ^ 31 by omega), eK, cl_nI (show K < 2 ^ 31 by omega), cl_nI (show U < 2 ^ 31 by omega), if_neg (nI_nm1 (show M < 2 ^ 31 by omega)), v63]; rfl) (by decide) (by decide) SC.rfl)
        · have v63 := bi_n c63
          refine j_il3 66 C dX5_as_66 ?_
          refine j_goto 67 77 C dX5_as_67 (by decide) ?_
          exact hR dX5_as_77 (cpM_q (by unfold s_as; rw [v9, v21, cl_nI (show Q < 2 ^ 31 by omega), eM, cl_nI (show M < 2 ^ 31 by omega), eK, cl_nI (show K < 2 ^ 31 by omega), cl_nI (show U < 2 ^ 31 by omega), if_neg (nI_nm1 (show M < 2 ^ 31 by omega)), v63]; rfl) eM SC.rfl)
      · refine j_al0 45 C dX5_as_45 ?_
        refine j_ldcw 46 C dX5_as_46 cs_X5_292 ?_
        refine j_vi 49 C dX5_as_49 mv_X5_finds lk_X5_46 (c_X5_finds (f := 5) (by decide) (by decide)) rc_m rfl rfl ⟨(Nat.le_of_ble_eq_true rfl), (Nat.le_of_ble_eq_true rfl)⟩ (Nat.le_of_ble_eq_true rfl) (fun r49 g49 hp49 => ?_)
        obtain ⟨rfl, rfl⟩ := hp49
        exact hR dX5_as_52 (cpM_f (f := 5) (by unfold s_as; rw [v9, v21, cl_nI (show Q < 2 ^ 31 by omega), if_pos (show g 12 (83 + Q) = -1 from (hS.2.2.2 Q (by omega)).resolve_right (fun ⟨m, hm, z⟩ => c42 (by rw [z]; exact nI_pos' (by omega))))]; rfl) (by decide) (by decide) SC.rfl)
    · have v21 := bi_0 c21
      refine j_al0 24 C dX5_as_24 ?_
      refine j_ldc 25 C dX5_as_25 cs_X5_40 ?_
      refine j_vi 27 C dX5_as_27 mv_X5_finds lk_X5_46 (c_X5_finds (f := 0) (by decide) (by decide)) rc_m rfl rfl ⟨(Nat.le_of_ble_eq_true rfl), (Nat.le_of_ble_eq_true rfl)⟩ (Nat.le_of_ble_eq_true rfl) (fun r27 g27 hp27 => ?_)
      obtain ⟨rfl, rfl⟩ := hp27
      exact hR dX5_as_30 (cpM_f (f := 0) (by simp [s_as, v9, v21]) (by decide) (by decide) SC.rfl)
