theorem nu_e {g : Mem} {A R : Row} {Q : Nat} : nuM (ub (ub g 15 A) 12 R) Q = nuM g Q := by
  funext i
  show ub (ub g 15 A) 12 R 20 _ = _
  rw [ub_n (by decide), ub_n (by decide)]
theorem run_ref {f n : Int32} {z : Nat} (hz : z ≤ 40) (hf : ¬ f < 0) (hn : ¬ n < 0) : run (nI z) f n = true ↔ n ≤ nI z - f := by
  have hf := Int32.le_iff_toInt_le.mp (Int32.not_lt.mp hf)
  have hn := Int32.le_iff_toInt_le.mp (Int32.not_lt.mp hn)
  rw [Int32.toInt_zero] at hf hn
  have e : ∀ x : Int32, 0 ≤ x.toInt → (nI z - x).toInt = (z : Int) - x.toInt := by
    intro x hx
    rw [Int32.toInt_sub, nI_toInt (by omega)]
    have := Int32.toInt_lt x
    exact Int.bmod_eq_of_le (by omega) (by omega)
  unfold run
  rw [decide_eq_true_iff, Int32.le_iff_toInt_le, Int32.le_iff_toInt_le, Int32.le_iff_toInt_le, Int32.le_iff_toInt_le, Int32.toInt_zero, e f hf, e n hn]
  omega
theorem run_f {z f n : Int32} (h : f < 0 ∨ n < 0) : run z f n = false := by
  apply decide_eq_false
  rintro ⟨h1, h2, -⟩
  rcases h with h | h
  · exact absurd h1 (Int32.not_le.mpr h)
  · exact absurd h2 (Int32.not_le.mpr h)
def cpn (R : Row) (a b lo hi : Nat) : Row := fun i => if b + lo ≤ i ∧ i < b + hi then R (a + (i - b)) else R i
theorem cpn_0 {R : Row} {a b k : Nat} : cpn R a b k k = R := by funext i; exact if_neg (by omega)
theorem cpn_up {R : Row} {a b k : Nat} (h : b ≤ a) : upd (cpn R a b 0 k) (b + k) (cpn R a b 0 k (a + k)) = cpn R a b 0 (k + 1) := by
  have e : cpn R a b 0 k (a + k) = R (a + k) := if_neg (by omega)
  rw [e]
  funext i
  by_cases q : i = b + k
  · subst q; rw [upd_s]; unfold cpn; rw [if_pos (by omega)]; congr 1; omega
  · rw [upd_n q]; unfold cpn
    by_cases q2 : b + 0 ≤ i ∧ i < b + k
    · rw [if_pos q2, if_pos (by omega)]
    · rw [if_neg q2, if_neg (by omega)]
theorem cpn_dn {R : Row} {a b k N : Nat} (h : a < b) (hk : k < N) : upd (cpn R a b (k + 1) N) (b + k) (cpn R a b (k + 1) N (a + k)) = cpn R a b k N := by
  have e : cpn R a b (k + 1) N (a + k) = R (a + k) := if_neg (by omega)
  rw [e]
  funext i
  by_cases q : i = b + k
  · subst q; rw [upd_s]; unfold cpn; rw [if_pos (by omega)]; congr 1; omega
  · rw [upd_n q]; unfold cpn
    by_cases q2 : b + (k + 1) ≤ i ∧ i < b + N
    · rw [if_pos q2, if_pos (by omega)]
    · rw [if_neg q2, if_neg (by omega)]
def m_copy (s f t u n : Int32) (g : Mem) : AnM := if inr s 0 3 && inr t 0 3 then (if g 18 (cl s) < 0 ∨ g 18 (cl t) < 0 then .inl 5 else if ¬ g 18 (cl s) = g 18 (cl t) then .inl 2 else if run (g 19 (cl s)) f n && run (g 19 (cl t)) u n then .inr (n, ub g 20 (cpn (g 20) (40 * cl s + cl f) (40 * cl t + cl u) 0 (cl n))) else .inl 0) else .inl 0
set_option maxRecDepth 20000 in
theorem c_X5_fits {G : GT} {g : Mem} (hS : SI (g 12)) (hZ : HZ g) {s p k0 n : Int32} : Cti G yX5_fits cX5_fits 10 .int 7 166 [.ref (mo G), .int s, .int p, .int k0, .int n] g (fun r g' => cgM (m_fits s p k0 n g) g r g') := by
  refine ent_i (by decide) (Nat.le_of_ble_eq_true rfl) [some (.ref (mo G)), some (.int s), some (.int p), some (.int k0), some (.int n), none, none, none, none, none] rfl ?_
  intro X C hR
  have C : CX X G RX5 cX5_fits 10 7 166 := C
  rcases wn_or s g with ⟨hs, hw⟩ | ⟨hs, hn, hw⟩ | ⟨Q, hQ, rfl, hn, hw⟩
  · refine j_al0 0 C dX5_fits_0 ?_
    refine j_il1 1 C dX5_fits_1 ?_
    refine j_vi 2 C dX5_fits_2 mv_X5_wants lk_X5_197 (c_X5_wants) rc_m rfl rfl ⟨(Nat.le_of_ble_eq_true rfl), (Nat.le_of_ble_eq_true rfl)⟩ (Nat.le_of_ble_eq_true rfl) (fun r2 g2 hp2 => ?_)
    obtain ⟨rfl, rfl⟩ := hp2
    refine j_ifeq 5 16 C dX5_fits_5 (by decide) (fun c5 => ?_) (fun c5 => ?_)
    · rw [hw] at c5
      exact absurd c5 (by decide)
    · refine j_al0 8 C dX5_fits_8 ?_
      refine j_il1 9 C dX5_fits_9 ?_
      refine j_vi 10 C dX5_fits_10 mv_X5_wants lk_X5_197 (c_X5_wants) rc_m rfl rfl ⟨(Nat.le_of_ble_eq_true rfl), (Nat.le_of_ble_eq_true rfl)⟩ (Nat.le_of_ble_eq_true rfl) (fun r10 g10 hp10 => ?_)
      obtain ⟨rfl, rfl⟩ := hp10
      refine j_goto 13 43 C dX5_fits_13 (by decide) ?_
      rw [hw]
      refine j_is5 43 C dX5_fits_43 rfl (Nat.le_of_ble_eq_true rfl) ?_
      refine j_il5 45 C dX5_fits_45 ?_
      refine j_ifeq 47 57 C dX5_fits_47 (by decide) (fun c47 => ?_) (fun c47 => ?_)
      · exact absurd c47 (by decide)
      · refine j_al0 50 C dX5_fits_50 ?_
        refine j_il5 51 C dX5_fits_51 ?_
        refine j_vi 53 C dX5_fits_53 mv_X5_finds lk_X5_46 (c_X5_finds (f := 0) (by decide) (by decide)) rc_m rfl rfl ⟨(Nat.le_of_ble_eq_true rfl), (Nat.le_of_ble_eq_true rfl)⟩ (Nat.le_of_ble_eq_true rfl) (fun r53 g53 hp53 => ?_)
        obtain ⟨rfl, rfl⟩ := hp53
        exact hR dX5_fits_56 (cgM_f (f := 0) (my_0 hs) (by decide) (by decide) SC.rfl)
  · refine j_al0 0 C dX5_fits_0 ?_
    refine j_il1 1 C dX5_fits_1 ?_
    refine j_vi 2 C dX5_fits_2 mv_X5_wants lk_X5_197 (c_X5_wants) rc_m rfl rfl ⟨(Nat.le_of_ble_eq_true rfl), (Nat.le_of_ble_eq_true rfl)⟩ (Nat.le_of_ble_eq_true rfl) (fun r2 g2 hp2 => ?_)
    obtain ⟨rfl, rfl⟩ := hp2
    refine j_ifeq 5 16 C dX5_fits_5 (by decide) (fun c5 => ?_) (fun c5 => ?_)
    · rw [hw] at c5
      exact absurd c5 (by decide)
    · refine j_al0 8 C dX5_fits_8 ?_
      refine j_il1 9 C dX5_fits_9 ?_
      refine j_vi 10 C dX5_fits_10 mv_X5_wants lk_X5_197 (c_X5_wants) rc_m rfl rfl ⟨(Nat.le_of_ble_eq_true rfl), (Nat.le_of_ble_eq_true rfl)⟩ (Nat.le_of_ble_eq_true rfl) (fun r10 g10 hp10 => ?_)
      obtain ⟨rfl, rfl⟩ := hp10
      refine j_goto 13 43 C dX5_fits_13 (by decide) ?_
      rw [hw]
      refine j_is5 43 C dX5_fits_43 rfl (Nat.le_of_ble_eq_true rfl) ?_
      refine j_il5 45 C dX5_fits_45 ?_
      refine j_ifeq 47 57 C dX5_fits_47 (by decide) (fun c47 => ?_) (fun c47 => ?_)
      · exact absurd c47 (by decide)
      · refine j_al0 50 C dX5_fits_50 ?_
        refine j_il5 51 C dX5_fits_51 ?_
        refine j_vi 53 C dX5_fits_53 mv_X5_finds lk_X5_46 (c_X5_finds (f := 5) (by decide) (by decide)) rc_m rfl rfl ⟨(Nat.le_of_ble_eq_true rfl), (Nat.le_of_ble_eq_true rfl)⟩ (Nat.le_of_ble_eq_true rfl) (fun r53 g53 hp53 => ?_)
        obtain ⟨rfl, rfl⟩ := hp53
        exact hR dX5_fits_56 (cgM_f (f := 5) (my_5 hs hn) (by decide) (by decide) SC.rfl)
  · obtain ⟨-, Z, hZ4, hz⟩ := hZ Q (by omega)
    have hsz : szM g Q = Z := by show cl (g 19 Q) = Z; rw [hz]; exact cl_nI (by omega)
    refine j_al0 0 C dX5_fits_0 ?_
    refine j_il1 1 C dX5_fits_1 ?_
    refine j_vi 2 C dX5_fits_2 mv_X5_wants lk_X5_197 (c_X5_wants) rc_m rfl rfl ⟨(Nat.le_of_ble_eq_true rfl), (Nat.le_of_ble_eq_true rfl)⟩ (Nat.le_of_ble_eq_true rfl) (fun r2 g2 hp2 => ?_)
    obtain ⟨rfl, rfl⟩ := hp2
    refine j_ifeq 5 16 C dX5_fits_5 (by decide) (fun c5 => ?_) (fun c5 => ?_)
    · refine j_il2 16 C dX5_fits_16 ?_
      refine j_il3 17 C dX5_fits_17 ?_
      refine j_si 18 C dX5_fits_18 ms_X5_isPlace lk_X5_50 (c_X5_isPlace) rfl rfl ⟨(Nat.le_of_ble_eq_true rfl), (Nat.le_of_ble_eq_true rfl)⟩ (Nat.le_of_ble_eq_true rfl) (fun r18 g18 hp18 => ?_)
      obtain ⟨rfl, rfl⟩ := hp18
      refine j_ifeq 21 41 C dX5_fits_21 (by decide) (fun c21 => ?_) (fun c21 => ?_)
      · have v21 := bi_0 c21
        refine j_ldc 41 C dX5_fits_41 cs_X5_40 ?_
        refine j_is5 43 C dX5_fits_43 rfl (Nat.le_of_ble_eq_true rfl) ?_
        refine j_il5 45 C dX5_fits_45 ?_
        refine j_ifeq 47 57 C dX5_fits_47 (by decide) (fun c47 => ?_) (fun c47 => ?_)
        · exact absurd c47 (by decide)
        · refine j_al0 50 C dX5_fits_50 ?_
          refine j_il5 51 C dX5_fits_51 ?_
          refine j_vi 53 C dX5_fits_53 mv_X5_finds lk_X5_46 (c_X5_finds (f := 0) (by decide) (by decide)) rc_m rfl rfl ⟨(Nat.le_of_ble_eq_true rfl), (Nat.le_of_ble_eq_true rfl)⟩ (Nat.le_of_ble_eq_true rfl) (fun r53 g53 hp53 => ?_)
          obtain ⟨rfl, rfl⟩ := hp53
          exact hR dX5_fits_56 (cgM_f (f := 0) ((my_k hQ hn).trans (by rw [v21]; rfl)) (by decide) (by decide) SC.rfl)
      · have v21 := bi_n c21
        refine j_il4 24 C dX5_fits_24 ?_
        refine j_i2l 26 C dX5_fits_26 ?_
        refine j_lconst 27 C dX5_fits_27 lc_0 ?_
        refine j_ldc2 28 C dX5_fits_28 cl_X5_192 ?_
        refine j_si 31 C dX5_fits_31 ms_X5_isIn lk_X5_56 (c_X5_isIn (lo := 0) (hi := 20) (by decide) (by decide)) rfl rfl ⟨(Nat.le_of_ble_eq_true rfl), (Nat.le_of_ble_eq_true rfl)⟩ (Nat.le_of_ble_eq_true rfl) (fun r31 g31 hp31 => ?_)
        obtain ⟨rfl, rfl⟩ := hp31
        refine j_ifeq 34 41 C dX5_fits_34 (by decide) (fun c34 => ?_) (fun c34 => ?_)
        · have v34 := bi_0 c34
          refine j_ldc 41 C dX5_fits_41 cs_X5_40 ?_
          refine j_is5 43 C dX5_fits_43 rfl (Nat.le_of_ble_eq_true rfl) ?_
          refine j_il5 45 C dX5_fits_45 ?_
          refine j_ifeq 47 57 C dX5_fits_47 (by decide) (fun c47 => ?_) (fun c47 => ?_)
          · exact absurd c47 (by decide)
          · refine j_al0 50 C dX5_fits_50 ?_
            refine j_il5 51 C dX5_fits_51 ?_
            refine j_vi 53 C dX5_fits_53 mv_X5_finds lk_X5_46 (c_X5_finds (f := 0) (by decide) (by decide)) rc_m rfl rfl ⟨(Nat.le_of_ble_eq_true rfl), (Nat.le_of_ble_eq_true rfl)⟩ (Nat.le_of_ble_eq_true rfl) (fun r53 g53 hp53 => ?_)
            obtain ⟨rfl, rfl⟩ := hp53
            exact hR dX5_fits_56 (cgM_f (f := 0) ((my_k hQ hn).trans (by rw [v21, v34]; rfl)) (by decide) (by decide) SC.rfl)
        · have v34 := bi_n c34
          obtain ⟨w1, w2⟩ := and_tt v21
          obtain ⟨P, hP, rfl⟩ := inr_nat (n := 5) (by decide) w1
          obtain ⟨K, hK, rfl⟩ := inr_nat (n := 7) (by decide) w2
          obtain ⟨N, hN, rfl⟩ := inr_nat (n := 20) (by decide) v34
          have loop : ∀ n9 k, k + n9 = 10 → ∀ (A : Row) (y : Int32), J X G 10 (ub (ub g 15 A) 12 (upd (g 12) (3 + (8 * P + K)) y)) 82 [some (.ref (mo G)), some (.int (nI Q)), some (.int (nI P)), some (.int (nI K)), some (.int (nI N)), some (.int 0), some (.int (nI (3 + (8 * P + K)))), some (.int (g 12 (3 + (8 * P + K)))), some (.int (bs (fitv (g 12) (nuM g Q) Z P K N) k)), some (.int (nI k))] [] := by
            intro n9
            induction n9 with
            | zero =>
              intro k hk A y
              obtain rfl : k = 10 := by omega
              refine j_il9 82 C dX5_fits_82 ?_
              refine j_bipush 84 C dX5_fits_84 bp_9 ?_
              refine j_icgt 86 128 C dX5_fits_86 (by decide) (fun c86 => ?_) (fun c86 => ?_)
              · refine j_al0 128 C dX5_fits_128 ?_
                refine jg_X5_7 129 C dX5_fits_129 ?_
                refine j_il6 132 C dX5_fits_132 ?_
                refine j_il7 134 C dX5_fits_134 ?_
                refine js_A0 136 (by omega) C dX5_fits_136 ?_
                rw [ub_ub, ub_s, upd_upd, upd_id (f := g 12) (k := 3 + (8 * P + K)) (x := g 12 (3 + (8 * P + K))) rfl, b15]
                refine j_il8 137 C dX5_fits_137 ?_
                exact hR dX5_fits_139 (cgM_r ((my_k hQ hn).trans (by rw [v21, v34, cl_nI (show Q < 2 ^ 31 by omega), hsz, cl_nI (show P < 2 ^ 31 by omega), cl_nI (show K < 2 ^ 31 by omega), cl_nI (show N < 2 ^ 31 by omega)]; rfl)) rfl SC_15)
              · exact absurd (by decide) c86
            | succ n9 ih =>
              intro k hk A y
              have hSv : SI (upd (g 12) (3 + (8 * P + K)) (nI k)) := SI_wd hS (by omega) (by omega)
              refine j_il9 82 C dX5_fits_82 ?_
              refine j_bipush 84 C dX5_fits_84 bp_9 ?_
              refine j_icgt 86 128 C dX5_fits_86 (by decide) (fun c86 => ?_) (fun c86 => ?_)
              · exact absurd c86 (nI_nlt (a := 9) (b := k) (by omega) (by decide))
              · refine j_al0 89 C dX5_fits_89 ?_
                refine jg_X5_7 90 C dX5_fits_90 ?_
                refine j_il6 93 C dX5_fits_93 ?_
                refine j_il9 95 C dX5_fits_95 ?_
                refine js_A0 97 (by omega) C dX5_fits_97 ?_
                rw [ub_ub, ub_s, upd_upd]
                refine j_il8 98 C dX5_fits_98 ?_
                refine j_al0 100 C dX5_fits_100 ?_
                refine j_il1 101 C dX5_fits_101 ?_
                refine j_il2 102 C dX5_fits_102 ?_
                refine j_il4 103 C dX5_fits_103 ?_
                refine j_vi 105 C dX5_fits_105 mv_X5_isTold lk_X5_200 (c_X5_isTold (by rw [ub_s]; exact hSv) hQ hZ4 (by rw [ub_n (by decide), ub_n (by decide)]; exact hz) (by omega) (by omega)) rc_m rfl rfl ⟨(Nat.le_of_ble_eq_true rfl), (Nat.le_of_ble_eq_true rfl)⟩ (Nat.le_of_ble_eq_true rfl) (fun r105 g105 hp105 => ?_)
                obtain ⟨hr105, rfl⟩ := hp105
                rw [ub_s, nu_e] at hr105
                have hr105 : r105 = bi (fitv (g 12) (nuM g Q) Z P K N k) := hr105
                subst hr105
                rw [ub_s, b15s]
                refine j_ifeq 108 118 C dX5_fits_108 (by decide) (fun c108 => ?_) (fun c108 => ?_)
                · have e : bs (fitv (g 12) (nuM g Q) Z P K N) (k + 1) = bs (fitv (g 12) (nuM g Q) Z P K N) k ||| 0 := by rw [or_0]; exact if_neg (by rw [bi_0 c108]; decide)
                  refine j_iconst 118 C dX5_fits_118 ic_0 ?_
                  refine j_ior 119 C dX5_fits_119 ?_
                  rw [← e]
                  refine j_is8 120 C dX5_fits_120 rfl (Nat.le_of_ble_eq_true rfl) ?_
                  refine j_inc9 122 C dX5_fits_122 rfl (nI_inc _) (Nat.le_of_ble_eq_true rfl) ?_
                  refine j_goto 125 82 C dX5_fits_125 (by decide) ?_
                  exact ih (k + 1) (by omega) _ _
                · have e : bs (fitv (g 12) (nuM g Q) Z P K N) (k + 1) = bs (fitv (g 12) (nuM g Q) Z P K N) k ||| (1 <<< (nI k &&& 31)) := if_pos (bi_n c108)
                  refine j_iconst 111 C dX5_fits_111 ic_1 ?_
                  refine j_il9 112 C dX5_fits_112 ?_
                  refine j_ishl 114 C dX5_fits_114 ?_
                  refine j_goto 115 119 C dX5_fits_115 (by decide) ?_
                  refine j_ior 119 C dX5_fits_119 ?_
                  rw [← e]
                  refine j_is8 120 C dX5_fits_120 rfl (Nat.le_of_ble_eq_true rfl) ?_
                  refine j_inc9 122 C dX5_fits_122 rfl (nI_inc _) (Nat.le_of_ble_eq_true rfl) ?_
                  refine j_goto 125 82 C dX5_fits_125 (by decide) ?_
                  exact ih (k + 1) (by omega) _ _
          refine j_iconst 37 C dX5_fits_37 ic_0 ?_
          refine j_goto 38 43 C dX5_fits_38 (by decide) ?_
          refine j_is5 43 C dX5_fits_43 rfl (Nat.le_of_ble_eq_true rfl) ?_
          refine j_il5 45 C dX5_fits_45 ?_
          refine j_ifeq 47 57 C dX5_fits_47 (by decide) (fun c47 => ?_) (fun c47 => ?_)
          · refine j_iconst 57 C dX5_fits_57 ic_3 ?_
            refine j_bipush 58 C dX5_fits_58 bp_8 ?_
            refine j_il2 60 C dX5_fits_60 ?_
            refine j_imul 61 C dX5_fits_61 ?_
            refine j_iadd 62 C dX5_fits_62 ?_
            refine j_il3 63 C dX5_fits_63 ?_
            refine j_iadd 64 C dX5_fits_64 ?_
            refine j_top (nI (3 + (8 * P + K))) (ix_wa P K) ?_
            refine j_is6 65 C dX5_fits_65 rfl (Nat.le_of_ble_eq_true rfl) ?_
            refine j_al0 67 C dX5_fits_67 ?_
            refine jg_X5_7 68 C dX5_fits_68 ?_
            refine j_il6 71 C dX5_fits_71 ?_
            refine jl_A0 73 (by omega) C dX5_fits_73 ?_
            refine j_is7 74 C dX5_fits_74 rfl (Nat.le_of_ble_eq_true rfl) ?_
            refine j_iconst 76 C dX5_fits_76 ic_0 ?_
            refine j_is8 77 C dX5_fits_77 rfl (Nat.le_of_ble_eq_true rfl) ?_
            refine j_iconst 79 C dX5_fits_79 ic_0 ?_
            refine j_is9 80 C dX5_fits_80 rfl (Nat.le_of_ble_eq_true rfl) ?_
            have h9 := loop 10 0 rfl (g 15) (g 12 (3 + (8 * P + K)))
            rw [upd_id rfl, ub_id, ub_id] at h9
            exact h9
          · exact absurd rfl c47
    · exact absurd hw c5
set_option maxRecDepth 20000 in
theorem c_X5_kinds {G : GT} {g : Mem} (hS : SI (g 12)) (hZ : HZ g) {s m : Int32} : Cti G yX5_kinds cX5_kinds 7 .int 6 143 [.ref (mo G), .int s, .int m] g (fun r g' => cgM (m_kinds s m g) g r g') := by
  refine ent_i (by decide) (Nat.le_of_ble_eq_true rfl) [some (.ref (mo G)), some (.int s), some (.int m), none, none, none, none] rfl ?_
  intro X C hR
  have C : CX X G RX5 cX5_kinds 7 6 143 := C
  rcases wn_or s g with ⟨hs, hw⟩ | ⟨hs, hn, hw⟩ | ⟨Q, hQ, rfl, hn, hw⟩
  · refine j_al0 0 C dX5_kinds_0 ?_
    refine j_il1 1 C dX5_kinds_1 ?_
    refine j_vi 2 C dX5_kinds_2 mv_X5_wants lk_X5_197 (c_X5_wants) rc_m rfl rfl ⟨(Nat.le_of_ble_eq_true rfl), (Nat.le_of_ble_eq_true rfl)⟩ (Nat.le_of_ble_eq_true rfl) (fun r2 g2 hp2 => ?_)
    obtain ⟨rfl, rfl⟩ := hp2
    refine j_ifeq 5 16 C dX5_kinds_5 (by decide) (fun c5 => ?_) (fun c5 => ?_)
    · rw [hw] at c5
      exact absurd c5 (by decide)
    · refine j_al0 8 C dX5_kinds_8 ?_
      refine j_il1 9 C dX5_kinds_9 ?_
      refine j_vi 10 C dX5_kinds_10 mv_X5_wants lk_X5_197 (c_X5_wants) rc_m rfl rfl ⟨(Nat.le_of_ble_eq_true rfl), (Nat.le_of_ble_eq_true rfl)⟩ (Nat.le_of_ble_eq_true rfl) (fun r10 g10 hp10 => ?_)
      obtain ⟨rfl, rfl⟩ := hp10
      refine j_goto 13 30 C dX5_kinds_13 (by decide) ?_
      rw [hw]
      refine j_is3 30 C dX5_kinds_30 rfl (Nat.le_of_ble_eq_true rfl) ?_
      refine j_il3 31 C dX5_kinds_31 ?_
      refine j_ifeq 32 41 C dX5_kinds_32 (by decide) (fun c32 => ?_) (fun c32 => ?_)
      · exact absurd c32 (by decide)
      · refine j_al0 35 C dX5_kinds_35 ?_
        refine j_il3 36 C dX5_kinds_36 ?_
        refine j_vi 37 C dX5_kinds_37 mv_X5_finds lk_X5_46 (c_X5_finds (f := 0) (by decide) (by decide)) rc_m rfl rfl ⟨(Nat.le_of_ble_eq_true rfl), (Nat.le_of_ble_eq_true rfl)⟩ (Nat.le_of_ble_eq_true rfl) (fun r37 g37 hp37 => ?_)
        obtain ⟨rfl, rfl⟩ := hp37
        exact hR dX5_kinds_40 (cgM_f (f := 0) (my_0 hs) (by decide) (by decide) SC.rfl)
  · refine j_al0 0 C dX5_kinds_0 ?_
    refine j_il1 1 C dX5_kinds_1 ?_
    refine j_vi 2 C dX5_kinds_2 mv_X5_wants lk_X5_197 (c_X5_wants) rc_m rfl rfl ⟨(Nat.le_of_ble_eq_true rfl), (Nat.le_of_ble_eq_true rfl)⟩ (Nat.le_of_ble_eq_true rfl) (fun r2 g2 hp2 => ?_)
    obtain ⟨rfl, rfl⟩ := hp2
    refine j_ifeq 5 16 C dX5_kinds_5 (by decide) (fun c5 => ?_) (fun c5 => ?_)
    · rw [hw] at c5
      exact absurd c5 (by decide)
    · refine j_al0 8 C dX5_kinds_8 ?_
      refine j_il1 9 C dX5_kinds_9 ?_
      refine j_vi 10 C dX5_kinds_10 mv_X5_wants lk_X5_197 (c_X5_wants) rc_m rfl rfl ⟨(Nat.le_of_ble_eq_true rfl), (Nat.le_of_ble_eq_true rfl)⟩ (Nat.le_of_ble_eq_true rfl) (fun r10 g10 hp10 => ?_)
      obtain ⟨rfl, rfl⟩ := hp10
      refine j_goto 13 30 C dX5_kinds_13 (by decide) ?_
      rw [hw]
      refine j_is3 30 C dX5_kinds_30 rfl (Nat.le_of_ble_eq_true rfl) ?_
      refine j_il3 31 C dX5_kinds_31 ?_
      refine j_ifeq 32 41 C dX5_kinds_32 (by decide) (fun c32 => ?_) (fun c32 => ?_)
      · exact absurd c32 (by decide)
      · refine j_al0 35 C dX5_kinds_35 ?_
        refine j_il3 36 C dX5_kinds_36 ?_
        refine j_vi 37 C dX5_kinds_37 mv_X5_finds lk_X5_46 (c_X5_finds (f := 5) (by decide) (by decide)) rc_m rfl rfl ⟨(Nat.le_of_ble_eq_true rfl), (Nat.le_of_ble_eq_true rfl)⟩ (Nat.le_of_ble_eq_true rfl) (fun r37 g37 hp37 => ?_)
        obtain ⟨rfl, rfl⟩ := hp37
        exact hR dX5_kinds_40 (cgM_f (f := 5) (my_5 hs hn) (by decide) (by decide) SC.rfl)
  · obtain ⟨-, Z, hZ4, hz⟩ := hZ Q (by omega)
    have hsz : szM g Q = Z := by show cl (g 19 Q) = Z; rw [hz]; exact cl_nI (by omega)
    refine j_al0 0 C dX5_kinds_0 ?_
    refine j_il1 1 C dX5_kinds_1 ?_
    refine j_vi 2 C dX5_kinds_2 mv_X5_wants lk_X5_197 (c_X5_wants) rc_m rfl rfl ⟨(Nat.le_of_ble_eq_true rfl), (Nat.le_of_ble_eq_true rfl)⟩ (Nat.le_of_ble_eq_true rfl) (fun r2 g2 hp2 => ?_)
    obtain ⟨rfl, rfl⟩ := hp2
    refine j_ifeq 5 16 C dX5_kinds_5 (by decide) (fun c5 => ?_) (fun c5 => ?_)
    · refine j_al0 16 C dX5_kinds_16 ?_
      refine j_il2 17 C dX5_kinds_17 ?_
      refine j_vi 18 C dX5_kinds_18 mv_X5_isMoth lk_X5_112 (c_X5_isMoth hS.1) rc_m rfl rfl ⟨(Nat.le_of_ble_eq_true rfl), (Nat.le_of_ble_eq_true rfl)⟩ (Nat.le_of_ble_eq_true rfl) (fun r18 g18 hp18 => ?_)
      obtain ⟨rfl, rfl⟩ := hp18
      refine j_ifeq 21 28 C dX5_kinds_21 (by decide) (fun c21 => ?_) (fun c21 => ?_)
      · have v21 := bi_0 c21
        refine j_ldc 28 C dX5_kinds_28 cs_X5_40 ?_
        refine j_is3 30 C dX5_kinds_30 rfl (Nat.le_of_ble_eq_true rfl) ?_
        refine j_il3 31 C dX5_kinds_31 ?_
        refine j_ifeq 32 41 C dX5_kinds_32 (by decide) (fun c32 => ?_) (fun c32 => ?_)
        · exact absurd c32 (by decide)
        · refine j_al0 35 C dX5_kinds_35 ?_
          refine j_il3 36 C dX5_kinds_36 ?_
          refine j_vi 37 C dX5_kinds_37 mv_X5_finds lk_X5_46 (c_X5_finds (f := 0) (by decide) (by decide)) rc_m rfl rfl ⟨(Nat.le_of_ble_eq_true rfl), (Nat.le_of_ble_eq_true rfl)⟩ (Nat.le_of_ble_eq_true rfl) (fun r37 g37 hp37 => ?_)
          obtain ⟨rfl, rfl⟩ := hp37
          exact hR dX5_kinds_40 (cgM_f (f := 0) ((my_k hQ hn).trans (by rw [v21]; rfl)) (by decide) (by decide) SC.rfl)
      · have v21 := bi_n c21
        obtain ⟨hM8, hM0⟩ := SI_cl0 hS
        obtain ⟨M, hM, rfl⟩ := isM_nat hM0 hM8 v21
        have loop : ∀ n9 k, k + n9 = 7 → ∀ (A : Row) (y : Int32), J X G 7 (ub (ub g 15 A) 12 (upd (g 12) (51 + (4 * M + 0)) y)) 55 [some (.ref (mo G)), some (.int (nI Q)), some (.int (nI M)), some (.int 0), some (.int (tr (g 12) M 0)), some (.int (bs (kinv (g 12) (nuM g Q) Z M) k)), some (.int (nI k))] [] := by
          intro n9
          induction n9 with
          | zero =>
            intro k hk A y
            obtain rfl : k = 7 := by omega
            refine j_il6 55 C dX5_kinds_55 ?_
            refine j_bipush 57 C dX5_kinds_57 bp_6 ?_
            refine j_icgt 59 102 C dX5_kinds_59 (by decide) (fun c59 => ?_) (fun c59 => ?_)
            · refine j_al0 102 C dX5_kinds_102 ?_
              refine jg_X5_7 103 C dX5_kinds_103 ?_
              refine j_il2 106 C dX5_kinds_106 ?_
              refine j_iconst 107 C dX5_kinds_107 ic_0 ?_
              refine j_si 108 C dX5_kinds_108 ms_X5_at lk_X5_84 (c_X5_at (W := 0)) rfl rfl ⟨(Nat.le_of_ble_eq_true rfl), (Nat.le_of_ble_eq_true rfl)⟩ (Nat.le_of_ble_eq_true rfl) (fun r108 g108 hp108 => ?_)
              obtain ⟨rfl, rfl⟩ := hp108
              refine j_il4 111 C dX5_kinds_111 ?_
              refine js_A0 113 (by omega) C dX5_kinds_113 ?_
              rw [ub_ub, ub_s, upd_upd, upd_id (f := g 12) (k := 51 + (4 * M + 0)) (x := tr (g 12) M 0) rfl, b15]
              refine j_il5 114 C dX5_kinds_114 ?_
              exact hR dX5_kinds_116 (cgM_r ((my_k hQ hn).trans (by rw [v21, cl_nI (show Q < 2 ^ 31 by omega), hsz, cl_nI (show M < 2 ^ 31 by omega)]; rfl)) rfl SC_15)
            · exact absurd (by decide) c59
          | succ n9 ih =>
            intro k hk A y
            have hSv : SI (upd (g 12) (51 + (4 * M + 0)) (nI k)) := SI_tr hS (by omega) (by decide) (by show k ≤ 6; omega)
            refine j_il6 55 C dX5_kinds_55 ?_
            refine j_bipush 57 C dX5_kinds_57 bp_6 ?_
            refine j_icgt 59 102 C dX5_kinds_59 (by decide) (fun c59 => ?_) (fun c59 => ?_)
            · exact absurd c59 (nI_nlt (a := 6) (b := k) (by omega) (by decide))
            · refine j_al0 62 C dX5_kinds_62 ?_
              refine jg_X5_7 63 C dX5_kinds_63 ?_
              refine j_il2 66 C dX5_kinds_66 ?_
              refine j_iconst 67 C dX5_kinds_67 ic_0 ?_
              refine j_si 68 C dX5_kinds_68 ms_X5_at lk_X5_84 (c_X5_at (W := 0)) rfl rfl ⟨(Nat.le_of_ble_eq_true rfl), (Nat.le_of_ble_eq_true rfl)⟩ (Nat.le_of_ble_eq_true rfl) (fun r68 g68 hp68 => ?_)
              obtain ⟨rfl, rfl⟩ := hp68
              refine j_il6 71 C dX5_kinds_71 ?_
              refine js_A0 73 (by omega) C dX5_kinds_73 ?_
              rw [ub_ub, ub_s, upd_upd]
              refine j_il5 74 C dX5_kinds_74 ?_
              refine j_al0 76 C dX5_kinds_76 ?_
              refine j_il1 77 C dX5_kinds_77 ?_
              refine j_il2 78 C dX5_kinds_78 ?_
              refine j_vi 79 C dX5_kinds_79 mv_X5_isFedSo lk_X5_203 (c_X5_isFedSo (by rw [ub_s]; exact hSv) hQ hZ4 (by rw [ub_n (by decide), ub_n (by decide)]; exact hz) (by omega)) rc_m rfl rfl ⟨(Nat.le_of_ble_eq_true rfl), (Nat.le_of_ble_eq_true rfl)⟩ (Nat.le_of_ble_eq_true rfl) (fun r79 g79 hp79 => ?_)
              obtain ⟨hr79, rfl⟩ := hp79
              rw [ub_s, nu_e] at hr79
              have hr79 : r79 = bi (kinv (g 12) (nuM g Q) Z M k) := hr79
              subst hr79
              rw [ub_s, b15s]
              refine j_ifeq 82 92 C dX5_kinds_82 (by decide) (fun c82 => ?_) (fun c82 => ?_)
              · have e : bs (kinv (g 12) (nuM g Q) Z M) (k + 1) = bs (kinv (g 12) (nuM g Q) Z M) k ||| 0 := by rw [or_0]; exact if_neg (by rw [bi_0 c82]; decide)
                refine j_iconst 92 C dX5_kinds_92 ic_0 ?_
                refine j_ior 93 C dX5_kinds_93 ?_
                rw [← e]
                refine j_is5 94 C dX5_kinds_94 rfl (Nat.le_of_ble_eq_true rfl) ?_
                refine j_inc6 96 C dX5_kinds_96 rfl (nI_inc _) (Nat.le_of_ble_eq_true rfl) ?_
                refine j_goto 99 55 C dX5_kinds_99 (by decide) ?_
                exact ih (k + 1) (by omega) _ _
              · have e : bs (kinv (g 12) (nuM g Q) Z M) (k + 1) = bs (kinv (g 12) (nuM g Q) Z M) k ||| (1 <<< (nI k &&& 31)) := if_pos (bi_n c82)
                refine j_iconst 85 C dX5_kinds_85 ic_1 ?_
                refine j_il6 86 C dX5_kinds_86 ?_
                refine j_ishl 88 C dX5_kinds_88 ?_
                refine j_goto 89 93 C dX5_kinds_89 (by decide) ?_
                refine j_ior 93 C dX5_kinds_93 ?_
                rw [← e]
                refine j_is5 94 C dX5_kinds_94 rfl (Nat.le_of_ble_eq_true rfl) ?_
                refine j_inc6 96 C dX5_kinds_96 rfl (nI_inc _) (Nat.le_of_ble_eq_true rfl) ?_
                refine j_goto 99 55 C dX5_kinds_99 (by decide) ?_
                exact ih (k + 1) (by omega) _ _
        refine j_iconst 24 C dX5_kinds_24 ic_0 ?_
        refine j_goto 25 30 C dX5_kinds_25 (by decide) ?_
        refine j_is3 30 C dX5_kinds_30 rfl (Nat.le_of_ble_eq_true rfl) ?_
        refine j_il3 31 C dX5_kinds_31 ?_
        refine j_ifeq 32 41 C dX5_kinds_32 (by decide) (fun c32 => ?_) (fun c32 => ?_)
        · refine j_al0 41 C dX5_kinds_41 ?_
          refine j_il2 42 C dX5_kinds_42 ?_
          refine j_iconst 43 C dX5_kinds_43 ic_0 ?_
          refine j_vi 44 C dX5_kinds_44 mv_X5_its lk_X5_67 (c_X5_its (W := 0) (by omega) (by decide)) rc_m rfl rfl ⟨(Nat.le_of_ble_eq_true rfl), (Nat.le_of_ble_eq_true rfl)⟩ (Nat.le_of_ble_eq_true rfl) (fun r44 g44 hp44 => ?_)
          obtain ⟨rfl, rfl⟩ := hp44
          refine j_is4 47 C dX5_kinds_47 rfl (Nat.le_of_ble_eq_true rfl) ?_
          refine j_iconst 49 C dX5_kinds_49 ic_0 ?_
          refine j_is5 50 C dX5_kinds_50 rfl (Nat.le_of_ble_eq_true rfl) ?_
          refine j_iconst 52 C dX5_kinds_52 ic_0 ?_
          refine j_is6 53 C dX5_kinds_53 rfl (Nat.le_of_ble_eq_true rfl) ?_
          have h9 := loop 7 0 rfl (g 15) (g 12 (51 + (4 * M + 0)))
          rw [upd_id rfl, ub_id, ub_id] at h9
          exact h9
        · exact absurd rfl c32
    · exact absurd hw c5
