def cgK (n w : Int32) (g : Mem) (r : Int64) (g' : Mem) : Prop := if inr n 0 23 && inr w 0 1 then r = oddv (wrt (g 12)) (cl n) (cl w) ∧ SC g' g else r = (nLOW 0).toInt64 ∧ SC g' (FM g 0)
theorem pcn_nset6 (p : Nat → Bool) : nI (pcn (nset p 6)) = nI (ct p 6) := by
  rw [← bcnt_bs p (show 6 ≤ 8 by decide), bs_nat p (show 6 ≤ 8 by decide), bcnt_nat _ (Nat.lt_of_lt_of_le (nset_lt p 6) (by decide))]
/-- the greatest divisor by division, f steps at most -/
def eu : Nat → Int64 → Int64 → Int64
  | 0, a, _ => a
  | f + 1, a, b => if b = 0 then a else eu f b (a - a / b * b)
def eud : Nat → Int64 → Int64 → Bool
  | 0, _, _ => false
  | f + 1, a, b => if b = 0 then true else eud f b (a - a / b * b)
def eck (w n : Nat) : Bool := eud 90 (pwl 6 n) (pwl (Int64.ofNat w) n) && (decide (¬ eu 90 (pwl 6 n) (pwl (Int64.ofNat w) n) = 0) && (decide (pwl (Int64.ofNat w) n / eu 90 (pwl 6 n) (pwl (Int64.ofNat w) n) = oddv w n 0) && decide (pwl 6 n / eu 90 (pwl 6 n) (pwl (Int64.ofNat w) n) = oddv w n 1)))
theorem eck_all : ∀ w, w < 7 → ∀ n, n < 24 → eck w n = true := by decide +kernel
theorem eu_0 {f : Nat} {a : Int64} : eu (f + 1) a 0 = a := if_pos rfl
theorem eu_n {f : Nat} {a b : Int64} (h : ¬ b = 0) : eu (f + 1) a b = eu f b (a - a / b * b) := if_neg h
theorem eud_n {f : Nat} {a b : Int64} (h : ¬ b = 0) : eud (f + 1) a b = eud f b (a - a / b * b) := if_neg h
theorem lc0 {x : Int64} : lg_cmp x 0 = 0 ↔ x = 0 := lg_cmp_eq x 0
set_option maxRecDepth 20000 in
theorem c_X5_odds {G : GT} {g : Mem} (hS : SI (g 12)) {n w : Int32} : Ctl G yX5_odds cX5_odds 14 3 67 [.ref (mo G), .int n, .int w] g (fun r g' => cgK n w g r g') := by
  refine ent_l (by decide) (Nat.le_of_ble_eq_true rfl) [some (.ref (mo G)), some (.int n), some (.int w), none, none, none, none, none, none, none, none, none, none, none] rfl ?_
  intro X C hR
  have C : CX X G RX5 cX5_odds 14 3 67 := C
  refine j_il1 0 C dX5_odds_0 ?_
  refine j_i2l 1 C dX5_odds_1 ?_
  refine j_lconst 2 C dX5_odds_2 lc_0 ?_
  refine j_ldc2 3 C dX5_odds_3 cl_X5_210 ?_
  refine j_si 6 C dX5_odds_6 ms_X5_isIn lk_X5_56 (c_X5_isIn (lo := 0) (hi := 23) (by decide) (by decide)) rfl rfl ⟨(Nat.le_of_ble_eq_true rfl), (Nat.le_of_ble_eq_true rfl)⟩ (Nat.le_of_ble_eq_true rfl) (fun r6 g6 hp6 => ?_)
  obtain ⟨rfl, rfl⟩ := hp6
  refine j_ifeq 9 22 C dX5_odds_9 (by decide) (fun c9 => ?_) (fun c9 => ?_)
  · have v9 := bi_0 c9
    refine j_al0 22 C dX5_odds_22 ?_
    refine j_ldc 23 C dX5_odds_23 cs_X5_40 ?_
    refine j_vi 25 C dX5_odds_25 mv_X5_finds lk_X5_46 (c_X5_finds (f := 0) (by decide) (by decide)) rc_m rfl rfl ⟨(Nat.le_of_ble_eq_true rfl), (Nat.le_of_ble_eq_true rfl)⟩ (Nat.le_of_ble_eq_true rfl) (fun r25 g25 hp25 => ?_)
    obtain ⟨rfl, rfl⟩ := hp25
    refine j_i2l 28 C dX5_odds_28 ?_
    exact hR dX5_odds_29 (by unfold cgK; simp [v9, nLOW]; exact ⟨by decide, SC.rfl⟩)
  · have v9 := bi_n c9
    refine j_il2 12 C dX5_odds_12 ?_
    refine j_i2l 13 C dX5_odds_13 ?_
    refine j_lconst 14 C dX5_odds_14 lc_0 ?_
    refine j_lconst 15 C dX5_odds_15 lc_1 ?_
    refine j_si 16 C dX5_odds_16 ms_X5_isIn lk_X5_56 (c_X5_isIn (lo := 0) (hi := 1) (by decide) (by decide)) rfl rfl ⟨(Nat.le_of_ble_eq_true rfl), (Nat.le_of_ble_eq_true rfl)⟩ (Nat.le_of_ble_eq_true rfl) (fun r16 g16 hp16 => ?_)
    obtain ⟨rfl, rfl⟩ := hp16
    refine j_ifne 19 30 C dX5_odds_19 (by decide) (fun c19 => ?_) (fun c19 => ?_)
    · have v19 := bi_n c19
      obtain ⟨N, hN, rfl⟩ := inr_nat (n := 23) (by decide) v9
      obtain ⟨K, hK, rfl⟩ := inr_nat (n := 1) (by decide) v19
      have hct : ct (bare (g 12)) 6 ≤ 6 := ct_le
      have hw7 : wrt (g 12) < 7 := by unfold wrt; omega
      have hek := eck_all _ hw7 N (by omega)
      unfold eck at hek
      obtain ⟨e1, hek⟩ := and_tt hek
      obtain ⟨e2, hek⟩ := and_tt hek
      obtain ⟨e3, e4⟩ := and_tt hek
      have e2 := of_decide_eq_true e2
      have e3 := of_decide_eq_true e3
      have e4 := of_decide_eq_true e4
      generalize hD : eu 90 (pwl 6 N) (pwl (Int64.ofNat (wrt (g 12))) N) = D at e2 e3 e4
      have l2 : ∀ f a b, eud f a b = true → eu f a b = D → ∀ o12 o13 : Option Value, J X G 14 g 83 [some (.ref (mo G)), some (.int (nI N)), some (.int (nI K)), some (.long (pwl (Int64.ofNat (wrt (g 12))) N)), none, some (.long (pwl 6 N)), none, some (.int (nI (wrt (g 12)))), some (.long (a)), none, some (.long (b)), none, o12, o13] [] := by
        intro f
        induction f with
        | zero => intro a b h; cases h
        | succ f ih =>
          intro a b hd hE o12 o13
          refine j_ll10 83 C dX5_odds_83 ?_
          refine j_lconst 85 C dX5_odds_85 lc_0 ?_
          refine j_lcmp 86 C dX5_odds_86 ?_
          refine j_ifeq 87 108 C dX5_odds_87 (by decide) (fun c87 => ?_) (fun c87 => ?_)
          · have z : b = 0 := lc0.mp c87
            rw [z] at hE
            have e9 : a = D := by rw [← hE]; exact eu_0.symm
            rw [e9]
            refine j_il2 108 C dX5_odds_108 ?_
            refine j_ifne 109 119 C dX5_odds_109 (by decide) (fun c109 => ?_) (fun c109 => ?_)
            · have hK1 : K = 1 := by
                have : ¬ K = 0 := fun q => c109 (by rw [q]; rfl)
                omega
              skip
              refine j_ll5 119 C dX5_odds_119 ?_
              refine j_ll8 121 C dX5_odds_121 ?_
              refine j_ldiv 123 C dX5_odds_123 e2 ?_
              exact hR dX5_odds_124 (by unfold cgK; rw [v9, v19, cl_nI (show N < 2 ^ 31 by omega), cl_nI (show K < 2 ^ 31 by omega), hK1]; show _ ∧ _; exact ⟨e4, SC.rfl⟩)
            · have hK0 : K = 0 := (nI_eq (b := 0) (by omega) (by omega)).mp c109
              skip
              refine j_ll3 112 C dX5_odds_112 ?_
              refine j_ll8 113 C dX5_odds_113 ?_
              refine j_ldiv 115 C dX5_odds_115 e2 ?_
              refine j_goto 116 124 C dX5_odds_116 (by decide) ?_
              exact hR dX5_odds_124 (by unfold cgK; rw [v9, v19, cl_nI (show N < 2 ^ 31 by omega), cl_nI (show K < 2 ^ 31 by omega), hK0]; show _ ∧ _; exact ⟨e3, SC.rfl⟩)
          · have z : ¬ b = 0 := fun q => c87 (lc0.mpr q)
            rw [eud_n z] at hd
            rw [eu_n z] at hE
            refine j_ll8 90 C dX5_odds_90 ?_
            refine j_ll10 92 C dX5_odds_92 ?_
            refine j_lrem 94 C dX5_odds_94 z ?_
            refine j_ls12 95 C dX5_odds_95 rfl (Nat.le_of_ble_eq_true rfl) ?_
            refine j_ll10 97 C dX5_odds_97 ?_
            refine j_ls8 99 C dX5_odds_99 rfl (Nat.le_of_ble_eq_true rfl) ?_
            refine j_ll12 101 C dX5_odds_101 ?_
            refine j_ls10 103 C dX5_odds_103 rfl (Nat.le_of_ble_eq_true rfl) ?_
            refine j_goto 105 83 C dX5_odds_105 (by decide) ?_
            exact ih b _ hd hE _ _
      have loop : ∀ n k, k + n = N → J X G 14 g 50 [some (.ref (mo G)), some (.int (nI N)), some (.int (nI K)), some (.long (pwl (Int64.ofNat (wrt (g 12))) k)), none, some (.long (pwl 6 k)), none, some (.int (nI (wrt (g 12)))), some (.int (nI k)), none, none, none, none, none] [] := by
        intro n
        induction n with
        | zero =>
          intro k hk
          obtain rfl : N = k := by omega
          refine j_il8 50 C dX5_odds_50 ?_
          refine j_il1 52 C dX5_odds_52 ?_
          refine j_icge 53 76 C dX5_odds_53 (by decide) (fun c53 => ?_) (fun c53 => ?_)
          · refine j_ll5 76 C dX5_odds_76 ?_
            refine j_ls8 78 C dX5_odds_78 rfl (Nat.le_of_ble_eq_true rfl) ?_
            refine j_ll3 80 C dX5_odds_80 ?_
            refine j_ls10 81 C dX5_odds_81 rfl (Nat.le_of_ble_eq_true rfl) ?_
            exact l2 90 _ _ e1 hD none none
          · exact absurd (nI_le (Nat.le_refl _) (by omega)) c53
        | succ n ih =>
          intro k hk
          refine j_il8 50 C dX5_odds_50 ?_
          refine j_il1 52 C dX5_odds_52 ?_
          refine j_icge 53 76 C dX5_odds_53 (by decide) (fun c53 => ?_) (fun c53 => ?_)
          · exact absurd c53 (nI_ge (a := k) (b := N) (by omega) (by omega))
          · refine j_ll3 56 C dX5_odds_56 ?_
            refine j_il7 57 C dX5_odds_57 ?_
            refine j_i2l 59 C dX5_odds_59 ?_
            rw [i2l_7 _ hw7]
            refine j_lmul 60 C dX5_odds_60 ?_
            refine j_ls3 61 C dX5_odds_61 rfl (Nat.le_of_ble_eq_true rfl) ?_
            refine j_ll5 62 C dX5_odds_62 ?_
            refine j_ldc2 64 C dX5_odds_64 cl_X5_87 ?_
            refine j_lmul 67 C dX5_odds_67 ?_
            refine j_ls5 68 C dX5_odds_68 rfl (Nat.le_of_ble_eq_true rfl) ?_
            refine j_inc8 70 C dX5_odds_70 rfl (nI_inc _) (Nat.le_of_ble_eq_true rfl) ?_
            refine j_goto 73 50 C dX5_odds_73 (by decide) ?_
            exact ih (k + 1) (by omega)
      refine j_lconst 30 C dX5_odds_30 lc_1 ?_
      refine j_ls3 31 C dX5_odds_31 rfl (Nat.le_of_ble_eq_true rfl) ?_
      refine j_lconst 32 C dX5_odds_32 lc_1 ?_
      refine j_ls5 33 C dX5_odds_33 rfl (Nat.le_of_ble_eq_true rfl) ?_
      refine j_bipush 35 C dX5_odds_35 bp_6 ?_
      refine j_al0 37 C dX5_odds_37 ?_
      refine j_vi 38 C dX5_odds_38 mv_X5_barePages lk_X5_155 (c_X5_barePages hS.2.1) rc_m rfl rfl ⟨(Nat.le_of_ble_eq_true rfl), (Nat.le_of_ble_eq_true rfl)⟩ (Nat.le_of_ble_eq_true rfl) (fun r38 g38 hp38 => ?_)
      obtain ⟨hr38, rfl⟩ := hp38
      rw [bs_nat _ (show 6 ≤ 8 by decide)] at hr38
      subst hr38
      refine j_si 41 C dX5_odds_41 ms_X5_many lk_X5_78 (c_X5_many (Nat.lt_of_lt_of_le (nset_lt _ 6) (by decide))) rfl rfl ⟨(Nat.le_of_ble_eq_true rfl), (Nat.le_of_ble_eq_true rfl)⟩ (Nat.le_of_ble_eq_true rfl) (fun r41 g41 hp41 => ?_)
      obtain ⟨hr41, rfl⟩ := hp41
      rw [pcn_nset6] at hr41
      subst hr41
      refine j_isub 44 C dX5_odds_44 ?_
      refine j_top (nI (wrt (g 12))) (pk_sub (a := 6) hct) ?_
      refine j_is7 45 C dX5_odds_45 rfl (Nat.le_of_ble_eq_true rfl) ?_
      refine j_iconst 47 C dX5_odds_47 ic_0 ?_
      refine j_is8 48 C dX5_odds_48 rfl (Nat.le_of_ble_eq_true rfl) ?_
      exact loop N 0 (Nat.zero_add N)
    · have v19 := bi_0 c19
      refine j_al0 22 C dX5_odds_22 ?_
      refine j_ldc 23 C dX5_odds_23 cs_X5_40 ?_
      refine j_vi 25 C dX5_odds_25 mv_X5_finds lk_X5_46 (c_X5_finds (f := 0) (by decide) (by decide)) rc_m rfl rfl ⟨(Nat.le_of_ble_eq_true rfl), (Nat.le_of_ble_eq_true rfl)⟩ (Nat.le_of_ble_eq_true rfl) (fun r25 g25 hp25 => ?_)
      obtain ⟨rfl, rfl⟩ := hp25
      refine j_i2l 28 C dX5_odds_28 ?_
      exact hR dX5_odds_29 (by unfold cgK; simp [v9, v19, nLOW]; exact ⟨by decide, SC.rfl⟩)
