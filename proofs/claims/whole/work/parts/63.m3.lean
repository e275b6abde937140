theorem and_tt {a b : Bool} (h : (a && b) = true) : a = true ∧ b = true := by
  cases a with
  | false => cases h
  | true => exact ⟨rfl, h⟩
theorem bi_and (a b : Bool) : bi a &&& bi b = bi (a && b) := by cases a <;> cases b <;> decide
theorem pcn_nset (p : Nat → Bool) : nI (pcn (nset p 8)) = nI (ct p 8) := by
  rw [← bcnt_bs p (Nat.le_refl 8), bs_nat p (Nat.le_refl 8), bcnt_nat _ (nset_lt p 8)]
theorem ct_0 {p : Nat → Bool} {n : Nat} : decide (ct p n = 0) = al (fun k => !p k) n := by
  induction n with
  | zero => rfl
  | succ n ih =>
    unfold al ct
    rw [← ih]
    cases h : p n with
    | true => simp
    | false => simp
theorem alk_eq {S : Row} {A B : Nat} : decide (ct (pU S A B) 8 = 0) = al (fun k => decide (wd S A k = wd S B k)) 8 := by
  rw [ct_0]
  refine al_congr (fun k hk => ?_)
  unfold pU
  by_cases h : wd S A k = wd S B k
  · simp [h]
  · simp [h]
theorem sam_48 {S T : Row} : al (fun i => decide (T (3 + i) = S (3 + i))) 48 = sam S T := by
  have h : al (fun i => decide (T (3 + i) = S (3 + i))) 48 = true ↔ sam S T = true := by
    unfold sam
    rw [al_iff, al_iff]
    constructor
    · intro h p hp
      rw [al_iff]
      intro k hk
      have := of_decide_eq_true (h (8 * p + k) (by omega))
      exact decide_eq_true this.symm
    · intro h i hi
      have h1 := al_iff.mp (h (i / 8) (by omega)) (i % 8) (by omega)
      have h1 := of_decide_eq_true h1
      unfold wd at h1
      rw [show 8 * (i / 8) + i % 8 = i by omega] at h1
      exact decide_eq_true h1.symm
  cases a : sam S T with
  | true => exact h.mpr a
  | false =>
    cases b : al (fun i => decide (T (3 + i) = S (3 + i))) 48 with
    | true => rw [h.mp b] at a; cases a
    | false => rfl
theorem rs15 {g : Mem} {R : Row} : ub (ub (ub g 15 (g 12)) 12 R) 12 (ub (ub g 15 (g 12)) 12 R 15) = ub g 15 (g 12) := by
  rw [ub_ub, ub_n (show (15 : Nat) ≠ 12 by decide), ub_s]
  have h : g 12 = ub g 15 (g 12) 12 := (ub_n (by decide)).symm
  exact (congrArg (ub (ub g 15 (g 12)) 12) h).trans ub_id
def MR (g : Mem) (W R : Row) : Mem := ub (ub (ub g 15 (g 12)) 21 W) 12 R
theorem MR_0 {g : Mem} : ub g 15 (g 12) = MR g (g 21) (g 12) := by
  unfold MR
  rw [show ub (ub g 15 (g 12)) 21 (g 21) = ub g 15 (g 12) from (congrArg _ (ub_n (g := g) (S := g 12) (show (21 : Nat) ≠ 15 by decide)).symm).trans ub_id]
  exact ((congrArg _ (ub_n (g := g) (S := g 12) (show (12 : Nat) ≠ 15 by decide)).symm).trans ub_id).symm
theorem MR_12 {g : Mem} {W R : Row} : MR g W R 12 = R := ub_s
theorem MR_s {g : Mem} {W W2 R R2 : Row} : ub (ub (MR g W R) 21 W2) 12 R2 = MR g W2 R2 := by
  unfold MR
  rw [ub_comm (show (12 : Nat) ≠ 21 by decide), ub_ub, ub_ub]
theorem MR_r {g : Mem} {W R : Row} : ub (MR g W R) 12 (MR g W R 15) = ub (ub g 15 (g 12)) 21 W := by
  have e : MR g W R 15 = ub (ub g 15 (g 12)) 21 W 12 := by
    unfold MR
    rw [ub_n (by decide), ub_n (by decide), ub_s, ub_n (by decide), ub_n (by decide)]
  rw [e]; unfold MR; rw [ub_ub]; exact ub_id
theorem SC_15 {g : Mem} {A : Row} : SC (ub g 15 A) g := SC_ub (Or.inr (Or.inr (Or.inr (Or.inl rfl))))
theorem SC_1521 {g : Mem} {A W : Row} : SC (ub (ub g 15 A) 21 W) g := (SC_ub (Or.inr (Or.inr (Or.inr (Or.inr rfl))))).trans SC_15
set_option maxRecDepth 20000 in
theorem c_X5_word {G : GT} {g : Mem} (hS : SI (g 12)) {T : Nat} (hT : g 12 1 = nI T) (hTb : T ≤ 31000) {p k v : Int32} : Cti G yX5_word cX5_word 4 .int 2 41 [.ref (mo G), .int p, .int k, .int v] g (fun r g' => cpM (s_word p k v (g 12)) g r g') := by
  refine ent_i (by decide) (Nat.le_of_ble_eq_true rfl) [some (.ref (mo G)), some (.int p), some (.int k), some (.int v)] rfl ?_
  intro X C hR
  have C : CX X G RX5 cX5_word 4 2 41 := C
  refine j_il1 0 C dX5_word_0 ?_
  refine j_il2 1 C dX5_word_1 ?_
  refine j_si 2 C dX5_word_2 ms_X5_isPlace lk_X5_50 (c_X5_isPlace) rfl rfl ⟨(Nat.le_of_ble_eq_true rfl), (Nat.le_of_ble_eq_true rfl)⟩ (Nat.le_of_ble_eq_true rfl) (fun r2 g2 hp2 => ?_)
  obtain ⟨rfl, rfl⟩ := hp2
  refine j_ifeq 5 36 C dX5_word_5 (by decide) (fun c5 => ?_) (fun c5 => ?_)
  · have v5 := bi_0 c5
    refine j_al0 36 C dX5_word_36 ?_
    refine j_ldc 37 C dX5_word_37 cs_X5_40 ?_
    refine j_vi 39 C dX5_word_39 mv_X5_finds lk_X5_46 (c_X5_finds (f := 0) (by decide) (by decide)) rc_m rfl rfl ⟨(Nat.le_of_ble_eq_true rfl), (Nat.le_of_ble_eq_true rfl)⟩ (Nat.le_of_ble_eq_true rfl) (fun r39 g39 hp39 => ?_)
    obtain ⟨rfl, rfl⟩ := hp39
    exact hR dX5_word_42 (cpM_f (f := 0) (by simp [s_word, v5]) (by decide) (by decide) SC.rfl)
  · have v5 := bi_n c5
    refine j_il3 8 C dX5_word_8 ?_
    refine j_i2l 9 C dX5_word_9 ?_
    refine j_lconst 10 C dX5_word_10 lc_0 ?_
    refine j_ldc2 11 C dX5_word_11 cl_X5_54 ?_
    refine j_si 14 C dX5_word_14 ms_X5_isIn lk_X5_56 (c_X5_isIn (lo := 0) (hi := 9) (by decide) (by decide)) rfl rfl ⟨(Nat.le_of_ble_eq_true rfl), (Nat.le_of_ble_eq_true rfl)⟩ (Nat.le_of_ble_eq_true rfl) (fun r14 g14 hp14 => ?_)
    obtain ⟨rfl, rfl⟩ := hp14
    refine j_ifeq 17 36 C dX5_word_17 (by decide) (fun c17 => ?_) (fun c17 => ?_)
    · have v17 := bi_0 c17
      refine j_al0 36 C dX5_word_36 ?_
      refine j_ldc 37 C dX5_word_37 cs_X5_40 ?_
      refine j_vi 39 C dX5_word_39 mv_X5_finds lk_X5_46 (c_X5_finds (f := 0) (by decide) (by decide)) rc_m rfl rfl ⟨(Nat.le_of_ble_eq_true rfl), (Nat.le_of_ble_eq_true rfl)⟩ (Nat.le_of_ble_eq_true rfl) (fun r39 g39 hp39 => ?_)
      obtain ⟨rfl, rfl⟩ := hp39
      exact hR dX5_word_42 (cpM_f (f := 0) (by simp [s_word, v5, v17]) (by decide) (by decide) SC.rfl)
    · have v17 := bi_n c17
      obtain ⟨w1, w2⟩ := and_tt v5
      obtain ⟨P, hP, rfl⟩ := inr_nat (n := 5) (by decide) w1
      obtain ⟨K, hK, rfl⟩ := inr_nat (n := 7) (by decide) w2
      refine j_al0 20 C dX5_word_20 ?_
      refine j_iconst 21 C dX5_word_21 ic_3 ?_
      refine j_bipush 22 C dX5_word_22 bp_8 ?_
      refine j_il1 24 C dX5_word_24 ?_
      refine j_imul 25 C dX5_word_25 ?_
      refine j_iadd 26 C dX5_word_26 ?_
      refine j_il2 27 C dX5_word_27 ?_
      refine j_iadd 28 C dX5_word_28 ?_
      refine j_top (nI (3 + (8 * P + K))) (ix_wa P K) ?_
      refine j_il3 29 C dX5_word_29 ?_
      refine j_vi 30 C dX5_word_30 mv_X5_becomes lk_X5_60 (c_X5_becomes (by omega)) rc_m rfl rfl ⟨(Nat.le_of_ble_eq_true rfl), (Nat.le_of_ble_eq_true rfl)⟩ (Nat.le_of_ble_eq_true rfl) (fun r30 g30 hp30 => ?_)
      obtain ⟨hr30, rfl⟩ := hp30
      have hr30 : r30 = wd (g 12) P K := hr30
      subst hr30
      refine j_goto 33 42 C dX5_word_33 (by decide) ?_
      exact hR dX5_word_42 (cpM_r (by simp [s_word, v5, v17, cl_nI (show P < 2 ^ 31 by omega), cl_nI (show K < 2 ^ 31 by omega)]) rfl SC.rfl)
set_option maxRecDepth 20000 in
theorem c_X5_reads {G : GT} {g : Mem} (hS : SI (g 12)) {T : Nat} (hT : g 12 1 = nI T) (hTb : T ≤ 31000) {p k : Int32} : Cti G yX5_reads cX5_reads 3 .int 2 41 [.ref (mo G), .int p, .int k] g (fun r g' => cpM (s_reads p k (g 12)) g r g') := by
  refine ent_i (by decide) (Nat.le_of_ble_eq_true rfl) [some (.ref (mo G)), some (.int p), some (.int k)] rfl ?_
  intro X C hR
  have C : CX X G RX5 cX5_reads 3 2 41 := C
  refine j_il1 0 C dX5_reads_0 ?_
  refine j_il2 1 C dX5_reads_1 ?_
  refine j_si 2 C dX5_reads_2 ms_X5_isPlace lk_X5_50 (c_X5_isPlace) rfl rfl ⟨(Nat.le_of_ble_eq_true rfl), (Nat.le_of_ble_eq_true rfl)⟩ (Nat.le_of_ble_eq_true rfl) (fun r2 g2 hp2 => ?_)
  obtain ⟨rfl, rfl⟩ := hp2
  refine j_ifeq 5 17 C dX5_reads_5 (by decide) (fun c5 => ?_) (fun c5 => ?_)
  · have v5 := bi_0 c5
    refine j_al0 17 C dX5_reads_17 ?_
    refine j_ldc 18 C dX5_reads_18 cs_X5_40 ?_
    refine j_vi 20 C dX5_reads_20 mv_X5_finds lk_X5_46 (c_X5_finds (f := 0) (by decide) (by decide)) rc_m rfl rfl ⟨(Nat.le_of_ble_eq_true rfl), (Nat.le_of_ble_eq_true rfl)⟩ (Nat.le_of_ble_eq_true rfl) (fun r20 g20 hp20 => ?_)
    obtain ⟨rfl, rfl⟩ := hp20
    exact hR dX5_reads_23 (cpM_f (f := 0) (by simp [s_reads, v5]) (by decide) (by decide) SC.rfl)
  · have v5 := bi_n c5
    obtain ⟨w1, w2⟩ := and_tt v5
    obtain ⟨P, hP, rfl⟩ := inr_nat (n := 5) (by decide) w1
    obtain ⟨K, hK, rfl⟩ := inr_nat (n := 7) (by decide) w2
    refine j_al0 8 C dX5_reads_8 ?_
    refine j_il1 9 C dX5_reads_9 ?_
    refine j_il2 10 C dX5_reads_10 ?_
    refine j_vi 11 C dX5_reads_11 mv_X5_wordAt lk_X5_64 (c_X5_wordAt (by omega) (by omega)) rc_m rfl rfl ⟨(Nat.le_of_ble_eq_true rfl), (Nat.le_of_ble_eq_true rfl)⟩ (Nat.le_of_ble_eq_true rfl) (fun r11 g11 hp11 => ?_)
    obtain ⟨rfl, rfl⟩ := hp11
    refine j_goto 14 23 C dX5_reads_14 (by decide) ?_
    exact hR dX5_reads_23 (cpM_q (by simp [s_reads, v5, cl_nI (show P < 2 ^ 31 by omega), cl_nI (show K < 2 ^ 31 by omega)]) rfl SC.rfl)
set_option maxRecDepth 20000 in
theorem c_X5_page {G : GT} {g : Mem} (hS : SI (g 12)) {T : Nat} (hT : g 12 1 = nI T) (hTb : T ≤ 31000) {p w : Int32} : Cti G yX5_page cX5_page 3 .int 2 45 [.ref (mo G), .int p, .int w] g (fun r g' => cpM (s_page p w (g 12)) g r g') := by
  refine ent_i (by decide) (Nat.le_of_ble_eq_true rfl) [some (.ref (mo G)), some (.int p), some (.int w)] rfl ?_
  intro X C hR
  have C : CX X G RX5 cX5_page 3 2 45 := C
  refine j_il1 0 C dX5_page_0 ?_
  refine j_si 1 C dX5_page_1 ms_X5_isPage lk_X5_41 (c_X5_isPage) rfl rfl ⟨(Nat.le_of_ble_eq_true rfl), (Nat.le_of_ble_eq_true rfl)⟩ (Nat.le_of_ble_eq_true rfl) (fun r1 g1 hp1 => ?_)
  obtain ⟨rfl, rfl⟩ := hp1
  refine j_ifeq 4 19 C dX5_page_4 (by decide) (fun c4 => ?_) (fun c4 => ?_)
  · have v4 := bi_0 c4
    refine j_al0 19 C dX5_page_19 ?_
    refine j_ldc 20 C dX5_page_20 cs_X5_40 ?_
    refine j_vi 22 C dX5_page_22 mv_X5_finds lk_X5_46 (c_X5_finds (f := 0) (by decide) (by decide)) rc_m rfl rfl ⟨(Nat.le_of_ble_eq_true rfl), (Nat.le_of_ble_eq_true rfl)⟩ (Nat.le_of_ble_eq_true rfl) (fun r22 g22 hp22 => ?_)
    obtain ⟨rfl, rfl⟩ := hp22
    exact hR dX5_page_25 (cpM_f (f := 0) (by simp [s_page, v4]) (by decide) (by decide) SC.rfl)
  · have v4 := bi_n c4
    refine j_il2 7 C dX5_page_7 ?_
    refine j_i2l 8 C dX5_page_8 ?_
    refine j_lconst 9 C dX5_page_9 lc_0 ?_
    refine j_ldc2 10 C dX5_page_10 cl_X5_70 ?_
    refine j_si 13 C dX5_page_13 ms_X5_isIn lk_X5_56 (c_X5_isIn (lo := 0) (hi := 3) (by decide) (by decide)) rfl rfl ⟨(Nat.le_of_ble_eq_true rfl), (Nat.le_of_ble_eq_true rfl)⟩ (Nat.le_of_ble_eq_true rfl) (fun r13 g13 hp13 => ?_)
    obtain ⟨rfl, rfl⟩ := hp13
    refine j_ifne 16 26 C dX5_page_16 (by decide) (fun c16 => ?_) (fun c16 => ?_)
    · have v16 := bi_n c16
      obtain ⟨hM8, hM0⟩ := SI_cl0 hS
      obtain ⟨P, hP, rfl⟩ := inr_nat (n := 5) (by decide) v4
      obtain ⟨W, hW, rfl⟩ := inr_nat (n := 3) (by decide) v16
      have hW4 : W < 4 := by omega
      match W, hW4 with
      | 0, _ =>
        refine j_il2 26 C dX5_page_26 ?_
        refine j_ifne 27 38 C dX5_page_27 (by decide) (fun c27 => ?_) (fun c27 => ?_)
        · exact absurd rfl c27
        · refine j_al0 30 C dX5_page_30 ?_
          refine j_il1 31 C dX5_page_31 ?_
          refine j_vi 32 C dX5_page_32 mv_X5_saysNow lk_X5_72 (c_X5_saysNow (by omega)) rc_m rfl rfl ⟨(Nat.le_of_ble_eq_true rfl), (Nat.le_of_ble_eq_true rfl)⟩ (Nat.le_of_ble_eq_true rfl) (fun r32 g32 hp32 => ?_)
          obtain ⟨rfl, rfl⟩ := hp32
          refine j_goto 35 75 C dX5_page_35 (by decide) ?_
          exact hR dX5_page_75 (cpM_q (by unfold s_page; rw [v4, v16, cl_nI (show P < 2 ^ 31 by omega)]; rfl) rfl SC.rfl)
      | 1, _ =>
        refine j_il2 26 C dX5_page_26 ?_
        refine j_ifne 27 38 C dX5_page_27 (by decide) (fun c27 => ?_) (fun c27 => ?_)
        · refine j_il2 38 C dX5_page_38 ?_
          refine j_iconst 39 C dX5_page_39 ic_1 ?_
          refine j_icne 40 57 C dX5_page_40 (by decide) (fun c40 => ?_) (fun c40 => ?_)
          · exact absurd rfl c40
          · refine j_bipush 43 C dX5_page_43 bp_8 ?_
            refine j_al0 45 C dX5_page_45 ?_
            refine j_il1 46 C dX5_page_46 ?_
            refine j_vi 47 C dX5_page_47 mv_X5_whole lk_X5_75 (c_X5_whole (by omega) hS.2.1) rc_m rfl rfl ⟨(Nat.le_of_ble_eq_true rfl), (Nat.le_of_ble_eq_true rfl)⟩ (Nat.le_of_ble_eq_true rfl) (fun r47 g47 hp47 => ?_)
            obtain ⟨hr47, rfl⟩ := hp47
            rw [bs_nat _ (Nat.le_refl 8)] at hr47
            subst hr47
            refine j_si 50 C dX5_page_50 ms_X5_many lk_X5_78 (c_X5_many (nset_lt _ 8)) rfl rfl ⟨(Nat.le_of_ble_eq_true rfl), (Nat.le_of_ble_eq_true rfl)⟩ (Nat.le_of_ble_eq_true rfl) (fun r50 g50 hp50 => ?_)
            obtain ⟨hr50, rfl⟩ := hp50
            rw [pcn_nset] at hr50
            subst hr50
            refine j_isub 53 C dX5_page_53 ?_
            refine j_top _ (hp_eq (g 12) P) ?_
            refine j_goto 54 75 C dX5_page_54 (by decide) ?_
            exact hR dX5_page_75 (cpM_q (by unfold s_page; rw [v4, v16, cl_nI (show P < 2 ^ 31 by omega)]; rfl) rfl SC.rfl)
        · exact absurd c27 (by decide)
      | 2, _ =>
        refine j_il2 26 C dX5_page_26 ?_
        refine j_ifne 27 38 C dX5_page_27 (by decide) (fun c27 => ?_) (fun c27 => ?_)
        · refine j_il2 38 C dX5_page_38 ?_
          refine j_iconst 39 C dX5_page_39 ic_1 ?_
          refine j_icne 40 57 C dX5_page_40 (by decide) (fun c40 => ?_) (fun c40 => ?_)
          · refine j_il2 57 C dX5_page_57 ?_
            refine j_iconst 58 C dX5_page_58 ic_2 ?_
            refine j_icne 59 70 C dX5_page_59 (by decide) (fun c59 => ?_) (fun c59 => ?_)
            · exact absurd rfl c59
            · refine j_al0 62 C dX5_page_62 ?_
              refine j_il1 63 C dX5_page_63 ?_
              refine j_vi 64 C dX5_page_64 mv_X5_there lk_X5_81 (c_X5_there hM8 hM0) rc_m rfl rfl ⟨(Nat.le_of_ble_eq_true rfl), (Nat.le_of_ble_eq_true rfl)⟩ (Nat.le_of_ble_eq_true rfl) (fun r64 g64 hp64 => ?_)
              obtain ⟨rfl, rfl⟩ := hp64
              refine j_goto 67 75 C dX5_page_67 (by decide) ?_
              exact hR dX5_page_75 (cpM_q (by unfold s_page; rw [v4, v16, cl_nI (show P < 2 ^ 31 by omega)]; rfl) rfl SC.rfl)
          · exact absurd c40 (by decide)
        · exact absurd c27 (by decide)
      | 3, _ =>
        refine j_il2 26 C dX5_page_26 ?_
        refine j_ifne 27 38 C dX5_page_27 (by decide) (fun c27 => ?_) (fun c27 => ?_)
        · refine j_il2 38 C dX5_page_38 ?_
          refine j_iconst 39 C dX5_page_39 ic_1 ?_
          refine j_icne 40 57 C dX5_page_40 (by decide) (fun c40 => ?_) (fun c40 => ?_)
          · refine j_il2 57 C dX5_page_57 ?_
            refine j_iconst 58 C dX5_page_58 ic_2 ?_
            refine j_icne 59 70 C dX5_page_59 (by decide) (fun c59 => ?_) (fun c59 => ?_)
            · refine j_al0 70 C dX5_page_70 ?_
              refine j_il1 71 C dX5_page_71 ?_
              refine j_vi 72 C dX5_page_72 mv_X5_whole lk_X5_75 (c_X5_whole (by omega) hS.2.1) rc_m rfl rfl ⟨(Nat.le_of_ble_eq_true rfl), (Nat.le_of_ble_eq_true rfl)⟩ (Nat.le_of_ble_eq_true rfl) (fun r72 g72 hp72 => ?_)
              obtain ⟨rfl, rfl⟩ := hp72
              exact hR dX5_page_75 (cpM_q (by unfold s_page; rw [v4, v16, cl_nI (show P < 2 ^ 31 by omega)]; rfl) rfl SC.rfl)
            · exact absurd c59 (by decide)
          · exact absurd c40 (by decide)
        · exact absurd c27 (by decide)
    · have v16 := bi_0 c16
      refine j_al0 19 C dX5_page_19 ?_
      refine j_ldc 20 C dX5_page_20 cs_X5_40 ?_
      refine j_vi 22 C dX5_page_22 mv_X5_finds lk_X5_46 (c_X5_finds (f := 0) (by decide) (by decide)) rc_m rfl rfl ⟨(Nat.le_of_ble_eq_true rfl), (Nat.le_of_ble_eq_true rfl)⟩ (Nat.le_of_ble_eq_true rfl) (fun r22 g22 hp22 => ?_)
      obtain ⟨rfl, rfl⟩ := hp22
      exact hR dX5_page_25 (cpM_f (f := 0) (by simp [s_page, v4, v16]) (by decide) (by decide) SC.rfl)
set_option maxRecDepth 20000 in
theorem c_X5_copied {G : GT} {g : Mem} (hS : SI (g 12)) {T : Nat} (hT : g 12 1 = nI T) (hTb : T ≤ 31000) {a b : Int32} : Cti G yX5_copied cX5_copied 5 .int 1 23 [.ref (mo G), .int a, .int b] g (fun r g' => cpM (s_copied a b (g 12)) g r g') := by
  refine ent_i (by decide) (Nat.le_of_ble_eq_true rfl) [some (.ref (mo G)), some (.int a), some (.int b), none, none] rfl ?_
  intro X C hR
  have C : CX X G RX5 cX5_copied 5 1 23 := C
  refine j_il1 0 C dX5_copied_0 ?_
  refine j_si 1 C dX5_copied_1 ms_X5_isPage lk_X5_41 (c_X5_isPage) rfl rfl ⟨(Nat.le_of_ble_eq_true rfl), (Nat.le_of_ble_eq_true rfl)⟩ (Nat.le_of_ble_eq_true rfl) (fun r1 g1 hp1 => ?_)
  obtain ⟨rfl, rfl⟩ := hp1
  refine j_ifeq 4 14 C dX5_copied_4 (by decide) (fun c4 => ?_) (fun c4 => ?_)
  · have v4 := bi_0 c4
    refine j_al0 14 C dX5_copied_14 ?_
    refine j_ldc 15 C dX5_copied_15 cs_X5_40 ?_
    refine j_vi 17 C dX5_copied_17 mv_X5_finds lk_X5_46 (c_X5_finds (f := 0) (by decide) (by decide)) rc_m rfl rfl ⟨(Nat.le_of_ble_eq_true rfl), (Nat.le_of_ble_eq_true rfl)⟩ (Nat.le_of_ble_eq_true rfl) (fun r17 g17 hp17 => ?_)
    obtain ⟨rfl, rfl⟩ := hp17
    exact hR dX5_copied_20 (cpM_f (f := 0) (by simp [s_copied, v4]) (by decide) (by decide) SC.rfl)
  · have v4 := bi_n c4
    refine j_il2 7 C dX5_copied_7 ?_
    refine j_si 8 C dX5_copied_8 ms_X5_isPage lk_X5_41 (c_X5_isPage) rfl rfl ⟨(Nat.le_of_ble_eq_true rfl), (Nat.le_of_ble_eq_true rfl)⟩ (Nat.le_of_ble_eq_true rfl) (fun r8 g8 hp8 => ?_)
    obtain ⟨rfl, rfl⟩ := hp8
    refine j_ifne 11 21 C dX5_copied_11 (by decide) (fun c11 => ?_) (fun c11 => ?_)
    · have v11 := bi_n c11
      obtain ⟨A, hA, rfl⟩ := inr_nat (n := 5) (by decide) v4
      obtain ⟨B, hB, rfl⟩ := inr_nat (n := 5) (by decide) v11
      have loop : ∀ n k, k + n = 8 → J X G 5 (ub g 12 (cpk (g 12) A B k)) 26 [some (.ref (mo G)), some (.int (nI A)), some (.int (nI B)), some (.int (nI (ct (pU (g 12) A B) k))), some (.int (nI k))] [] := by
        intro n
        induction n with
        | zero =>
          intro k hk
          obtain rfl : k = 8 := by omega
          refine j_il4 26 C dX5_copied_26 ?_
          refine j_bipush 28 C dX5_copied_28 bp_8 ?_
          refine j_icge 30 77 C dX5_copied_30 (by decide) (fun c30 => ?_) (fun c30 => ?_)
          · refine j_il3 77 C dX5_copied_77 ?_
            exact hR dX5_copied_78 (cpM_r (by unfold s_copied; rw [v4, v11, cl_nI (show A < 2 ^ 31 by omega), cl_nI (show B < 2 ^ 31 by omega)]; rfl) rfl SC.rfl)
          · exact absurd (nI_le (Nat.le_refl _) (by decide)) c30
        | succ n ih =>
          intro k hk
          refine j_il4 26 C dX5_copied_26 ?_
          refine j_bipush 28 C dX5_copied_28 bp_8 ?_
          refine j_icge 30 77 C dX5_copied_30 (by decide) (fun c30 => ?_) (fun c30 => ?_)
          · exact absurd c30 (nI_ge (a := k) (b := 8) (by omega) (by decide))
          · refine j_il3 33 C dX5_copied_33 ?_
            refine j_al0 34 C dX5_copied_34 ?_
            refine j_iconst 35 C dX5_copied_35 ic_3 ?_
            refine j_bipush 36 C dX5_copied_36 bp_8 ?_
            refine j_il2 38 C dX5_copied_38 ?_
            refine j_imul 39 C dX5_copied_39 ?_
            refine j_iadd 40 C dX5_copied_40 ?_
            refine j_il4 41 C dX5_copied_41 ?_
            refine j_iadd 43 C dX5_copied_43 ?_
            refine j_top (nI (3 + (8 * B + k))) (ix_wa B k) ?_
            refine j_al0 44 C dX5_copied_44 ?_
            refine j_il1 45 C dX5_copied_45 ?_
            refine j_il4 46 C dX5_copied_46 ?_
            refine j_vi 48 C dX5_copied_48 mv_X5_wordAt lk_X5_64 (c_X5_wordAt (by omega) (by omega)) rc_m rfl rfl ⟨(Nat.le_of_ble_eq_true rfl), (Nat.le_of_ble_eq_true rfl)⟩ (Nat.le_of_ble_eq_true rfl) (fun r48 g48 hp48 => ?_)
            obtain ⟨hr48, rfl⟩ := hp48
            rw [ub_s, cpk_F (by omega)] at hr48
            subst hr48
            refine j_vi 51 C dX5_copied_51 mv_X5_becomes lk_X5_60 (c_X5_becomes (by omega)) rc_m rfl rfl ⟨(Nat.le_of_ble_eq_true rfl), (Nat.le_of_ble_eq_true rfl)⟩ (Nat.le_of_ble_eq_true rfl) (fun r51 g51 hp51 => ?_)
            obtain ⟨hr51, rfl⟩ := hp51
            rw [ub_s, cpk_T] at hr51
            subst hr51
            rw [ub_ub, ub_s, cpk_s (by omega)]
            refine j_al0 54 C dX5_copied_54 ?_
            refine j_il1 55 C dX5_copied_55 ?_
            refine j_il4 56 C dX5_copied_56 ?_
            refine j_vi 58 C dX5_copied_58 mv_X5_wordAt lk_X5_64 (c_X5_wordAt (by omega) (by omega)) rc_m rfl rfl ⟨(Nat.le_of_ble_eq_true rfl), (Nat.le_of_ble_eq_true rfl)⟩ (Nat.le_of_ble_eq_true rfl) (fun r58 g58 hp58 => ?_)
            obtain ⟨hr58, rfl⟩ := hp58
            rw [ub_s, cpk_F1 (by omega)] at hr58
            subst hr58
            refine j_icne 61 68 C dX5_copied_61 (by decide) (fun c61 => ?_) (fun c61 => ?_)
            · have e : ct (pU (g 12) A B) (k + 1) = ct (pU (g 12) A B) k + 1 := if_pos (show pU (g 12) A B k = true from decide_eq_true (fun z => c61 z.symm))
              refine j_iconst 68 C dX5_copied_68 ic_1 ?_
              refine j_iadd 69 C dX5_copied_69 ?_
              refine j_top (nI (ct (pU (g 12) A B) (k + 1))) (by rw [e]; exact (nI_succ _).symm) ?_
              refine j_is3 70 C dX5_copied_70 rfl (Nat.le_of_ble_eq_true rfl) ?_
              refine j_inc4 71 C dX5_copied_71 rfl (nI_inc _) (Nat.le_of_ble_eq_true rfl) ?_
              refine j_goto 74 26 C dX5_copied_74 (by decide) ?_
              exact ih (k + 1) (by omega)
            · have e : ct (pU (g 12) A B) (k + 1) = ct (pU (g 12) A B) k := if_neg (fun q => absurd c61.symm (of_decide_eq_true (p := ¬ wd (g 12) A k = wd (g 12) B k) q))
              refine j_iconst 64 C dX5_copied_64 ic_0 ?_
              refine j_goto 65 69 C dX5_copied_65 (by decide) ?_
              refine j_iadd 69 C dX5_copied_69 ?_
              refine j_top (nI (ct (pU (g 12) A B) (k + 1))) (by rw [e]; exact Int32.add_zero _) ?_
              refine j_is3 70 C dX5_copied_70 rfl (Nat.le_of_ble_eq_true rfl) ?_
              refine j_inc4 71 C dX5_copied_71 rfl (nI_inc _) (Nat.le_of_ble_eq_true rfl) ?_
              refine j_goto 74 26 C dX5_copied_74 (by decide) ?_
              exact ih (k + 1) (by omega)
      refine j_iconst 21 C dX5_copied_21 ic_0 ?_
      refine j_is3 22 C dX5_copied_22 rfl (Nat.le_of_ble_eq_true rfl) ?_
      refine j_iconst 23 C dX5_copied_23 ic_0 ?_
      refine j_is4 24 C dX5_copied_24 rfl (Nat.le_of_ble_eq_true rfl) ?_
      have h9 := loop 8 0 rfl
      rw [cpk_0, ub_id] at h9
      exact h9
    · have v11 := bi_0 c11
      refine j_al0 14 C dX5_copied_14 ?_
      refine j_ldc 15 C dX5_copied_15 cs_X5_40 ?_
      refine j_vi 17 C dX5_copied_17 mv_X5_finds lk_X5_46 (c_X5_finds (f := 0) (by decide) (by decide)) rc_m rfl rfl ⟨(Nat.le_of_ble_eq_true rfl), (Nat.le_of_ble_eq_true rfl)⟩ (Nat.le_of_ble_eq_true rfl) (fun r17 g17 hp17 => ?_)
      obtain ⟨rfl, rfl⟩ := hp17
      exact hR dX5_copied_20 (cpM_f (f := 0) (by simp [s_copied, v4, v11]) (by decide) (by decide) SC.rfl)
set_option maxRecDepth 20000 in
theorem c_X5_comes {G : GT} {g : Mem} {M : Nat} (hM : M < 8) (hM0 : g 12 0 = nI M) {k p : Int32} : Ctv G yX5_comes cX5_comes 3 1 21 [.ref (mo G), .int k, .int p] g (fun g' => g' = ub g 12 (addm (g 12) M k p)) := by
  refine ent_v (by decide) (Nat.le_of_ble_eq_true rfl) [some (.ref (mo G)), some (.int k), some (.int p)] rfl ?_
  intro X C hR
  have C : CX X G RX5 cX5_comes 3 1 21 := C
  refine j_al0 0 C dX5_comes_0 ?_
  refine jg_X5_7 1 C dX5_comes_1 ?_
  refine j_al0 4 C dX5_comes_4 ?_
  refine jg_X5_7 5 C dX5_comes_5 ?_
  refine j_iconst 8 C dX5_comes_8 ic_0 ?_
  refine j_top (nI (0)) rfl ?_
  refine jl_A0 9 (by omega) C dX5_comes_9 ?_
  refine j_top (nI M) (by exact hM0) ?_
  refine j_iconst 10 C dX5_comes_10 ic_0 ?_
  refine j_si 11 C dX5_comes_11 ms_X5_at lk_X5_84 (c_X5_at (W := 0)) rfl rfl ⟨(Nat.le_of_ble_eq_true rfl), (Nat.le_of_ble_eq_true rfl)⟩ (Nat.le_of_ble_eq_true rfl) (fun r11 g11 hp11 => ?_)
  obtain ⟨rfl, rfl⟩ := hp11
  refine j_il1 14 C dX5_comes_14 ?_
  refine js_A0 15 (by omega) C dX5_comes_15 ?_
  refine j_al0 16 C dX5_comes_16 ?_
  refine jg_X5_7 17 C dX5_comes_17 ?_
  refine j_al0 20 C dX5_comes_20 ?_
  refine jg_X5_7 21 C dX5_comes_21 ?_
  refine j_iconst 24 C dX5_comes_24 ic_0 ?_
  refine j_top (nI (0)) rfl ?_
  refine jl_A0 25 (by omega) C dX5_comes_25 ?_
  refine j_top (nI M) (by rw [ub_s, upd_n (by omega)]; exact hM0) ?_
  refine j_iconst 26 C dX5_comes_26 ic_1 ?_
  refine j_si 27 C dX5_comes_27 ms_X5_at lk_X5_84 (c_X5_at (W := 1)) rfl rfl ⟨(Nat.le_of_ble_eq_true rfl), (Nat.le_of_ble_eq_true rfl)⟩ (Nat.le_of_ble_eq_true rfl) (fun r27 g27 hp27 => ?_)
  obtain ⟨rfl, rfl⟩ := hp27
  refine j_il2 30 C dX5_comes_30 ?_
  refine js_A0 31 (by omega) C dX5_comes_31 ?_
  rw [ub_ub, ub_s]
  refine j_al0 32 C dX5_comes_32 ?_
  refine jg_X5_7 33 C dX5_comes_33 ?_
  refine j_al0 36 C dX5_comes_36 ?_
  refine jg_X5_7 37 C dX5_comes_37 ?_
  refine j_iconst 40 C dX5_comes_40 ic_0 ?_
  refine j_top (nI (0)) rfl ?_
  refine jl_A0 41 (by omega) C dX5_comes_41 ?_
  refine j_top (nI M) (by rw [ub_s, upd_n (by omega), upd_n (by omega)]; exact hM0) ?_
  refine j_iconst 42 C dX5_comes_42 ic_2 ?_
  refine j_si 43 C dX5_comes_43 ms_X5_at lk_X5_84 (c_X5_at (W := 2)) rfl rfl ⟨(Nat.le_of_ble_eq_true rfl), (Nat.le_of_ble_eq_true rfl)⟩ (Nat.le_of_ble_eq_true rfl) (fun r43 g43 hp43 => ?_)
  obtain ⟨rfl, rfl⟩ := hp43
  refine j_iconst 46 C dX5_comes_46 ic_1 ?_
  refine js_A0 47 (by omega) C dX5_comes_47 ?_
  rw [ub_ub, ub_s]
  refine j_al0 48 C dX5_comes_48 ?_
  refine jg_X5_7 49 C dX5_comes_49 ?_
  refine j_al0 52 C dX5_comes_52 ?_
  refine jg_X5_7 53 C dX5_comes_53 ?_
  refine j_iconst 56 C dX5_comes_56 ic_0 ?_
  refine j_top (nI (0)) rfl ?_
  refine jl_A0 57 (by omega) C dX5_comes_57 ?_
  refine j_top (nI M) (by rw [ub_s, upd_n (by omega), upd_n (by omega), upd_n (by omega)]; exact hM0) ?_
  refine j_iconst 58 C dX5_comes_58 ic_3 ?_
  refine j_si 59 C dX5_comes_59 ms_X5_at lk_X5_84 (c_X5_at (W := 3)) rfl rfl ⟨(Nat.le_of_ble_eq_true rfl), (Nat.le_of_ble_eq_true rfl)⟩ (Nat.le_of_ble_eq_true rfl) (fun r59 g59 hp59 => ?_)
  obtain ⟨rfl, rfl⟩ := hp59
  refine j_iconst 62 C dX5_comes_62 ic_0 ?_
  refine js_A0 63 (by omega) C dX5_comes_63 ?_
  rw [ub_ub, ub_s]
  refine j_al0 64 C dX5_comes_64 ?_
  refine jg_X5_7 65 C dX5_comes_65 ?_
  refine j_iconst 68 C dX5_comes_68 ic_0 ?_
  refine j_top (nI 0) rfl ?_
  refine j_dup2 69 C dX5_comes_69 rfl rfl ?_
  refine jl_A0 70 (by omega) C dX5_comes_70 ?_
  refine j_top (nI M) (by rw [ub_s, upd_n (by omega), upd_n (by omega), upd_n (by omega), upd_n (by omega)]; exact hM0) ?_
  refine j_iconst 71 C dX5_comes_71 ic_1 ?_
  refine j_iadd 72 C dX5_comes_72 ?_
  refine j_top (nI (M + 1)) (nI_succ M).symm ?_
  refine js_A0 73 (by omega) C dX5_comes_73 ?_
  rw [ub_ub, ub_s]
  exact hR dX5_comes_74 rfl
set_option maxRecDepth 20000 in
theorem c_X5_moth {G : GT} {g : Mem} (hS : SI (g 12)) {T : Nat} (hT : g 12 1 = nI T) (hTb : T ≤ 31000) {k p : Int32} : Cti G yX5_moth cX5_moth 3 .int 2 43 [.ref (mo G), .int k, .int p] g (fun r g' => cpM (s_moth k p (g 12)) g r g') := by
  refine ent_i (by decide) (Nat.le_of_ble_eq_true rfl) [some (.ref (mo G)), some (.int k), some (.int p)] rfl ?_
  intro X C hR
  have C : CX X G RX5 cX5_moth 3 2 43 := C
  refine j_il1 0 C dX5_moth_0 ?_
  refine j_i2l 1 C dX5_moth_1 ?_
  refine j_lconst 2 C dX5_moth_2 lc_0 ?_
  refine j_ldc2 3 C dX5_moth_3 cl_X5_87 ?_
  refine j_si 6 C dX5_moth_6 ms_X5_isIn lk_X5_56 (c_X5_isIn (lo := 0) (hi := 6) (by decide) (by decide)) rfl rfl ⟨(Nat.le_of_ble_eq_true rfl), (Nat.le_of_ble_eq_true rfl)⟩ (Nat.le_of_ble_eq_true rfl) (fun r6 g6 hp6 => ?_)
  obtain ⟨rfl, rfl⟩ := hp6
  refine j_ifeq 9 19 C dX5_moth_9 (by decide) (fun c9 => ?_) (fun c9 => ?_)
  · have v9 := bi_0 c9
    refine j_al0 19 C dX5_moth_19 ?_
    refine j_ldc 20 C dX5_moth_20 cs_X5_40 ?_
    refine j_vi 22 C dX5_moth_22 mv_X5_finds lk_X5_46 (c_X5_finds (f := 0) (by decide) (by decide)) rc_m rfl rfl ⟨(Nat.le_of_ble_eq_true rfl), (Nat.le_of_ble_eq_true rfl)⟩ (Nat.le_of_ble_eq_true rfl) (fun r22 g22 hp22 => ?_)
    obtain ⟨rfl, rfl⟩ := hp22
    exact hR dX5_moth_25 (cpM_f (f := 0) (by simp [s_moth, v9]) (by decide) (by decide) SC.rfl)
  · have v9 := bi_n c9
    refine j_il2 12 C dX5_moth_12 ?_
    refine j_si 13 C dX5_moth_13 ms_X5_isPage lk_X5_41 (c_X5_isPage) rfl rfl ⟨(Nat.le_of_ble_eq_true rfl), (Nat.le_of_ble_eq_true rfl)⟩ (Nat.le_of_ble_eq_true rfl) (fun r13 g13 hp13 => ?_)
    obtain ⟨rfl, rfl⟩ := hp13
    refine j_ifne 16 26 C dX5_moth_16 (by decide) (fun c16 => ?_) (fun c16 => ?_)
    · have v16 := bi_n c16
      refine j_al0 26 C dX5_moth_26 ?_
      refine jg_X5_7 27 C dX5_moth_27 ?_
      refine j_iconst 30 C dX5_moth_30 ic_0 ?_
      refine j_top (nI (0)) rfl ?_
      refine jl_A0 31 (by omega) C dX5_moth_31 ?_
      refine j_bipush 32 C dX5_moth_32 bp_8 ?_
      refine j_icne 34 44 C dX5_moth_34 (by decide) (fun c34 => ?_) (fun c34 => ?_)
      · obtain ⟨hM8, hM0⟩ := SI_cl0 hS
        have hM7 : cl (g 12 0) < 8 := by
          rcases Nat.lt_or_eq_of_le hM8 with h | h
          · exact h
          · exact absurd (show g 12 0 = 8 by rw [hM0, h]; rfl) c34
        have h8 : ¬ 8 ≤ g 12 0 := by rw [hM0]; exact nI_ge (b := 8) hM7 (by decide)
        refine j_al0 44 C dX5_moth_44 ?_
        refine j_il1 45 C dX5_moth_45 ?_
        refine j_il2 46 C dX5_moth_46 ?_
        refine j_vv 47 C dX5_moth_47 mv_X5_comes lk_X5_90 (c_X5_comes hM7 hM0) rc_m rfl rfl ⟨(Nat.le_of_ble_eq_true rfl), (Nat.le_of_ble_eq_true rfl)⟩ (Nat.le_of_ble_eq_true rfl) (fun g47 hp47 => ?_)
        obtain rfl := hp47
        refine j_al0 50 C dX5_moth_50 ?_
        refine jg_X5_7 51 C dX5_moth_51 ?_
        refine j_iconst 54 C dX5_moth_54 ic_0 ?_
        refine j_top (nI (0)) rfl ?_
        refine jl_A0 55 (by omega) C dX5_moth_55 ?_
        refine j_top (nI (cl (g 12 0) + 1)) (by rw [ub_s]; rfl) ?_
        refine j_iconst 56 C dX5_moth_56 ic_1 ?_
        refine j_isub 57 C dX5_moth_57 ?_
        refine j_top (g 12 0) (by rw [nI_pred]; exact hM0.symm) ?_
        exact hR dX5_moth_58 (cpM_r (by unfold s_moth; rw [v9, v16]; exact (if_pos rfl).trans (if_neg h8)) rfl SC.rfl)
      · refine j_al0 37 C dX5_moth_37 ?_
        refine j_ldc 38 C dX5_moth_38 cs_X5_89 ?_
        refine j_vi 40 C dX5_moth_40 mv_X5_finds lk_X5_46 (c_X5_finds (f := 1) (by decide) (by decide)) rc_m rfl rfl ⟨(Nat.le_of_ble_eq_true rfl), (Nat.le_of_ble_eq_true rfl)⟩ (Nat.le_of_ble_eq_true rfl) (fun r40 g40 hp40 => ?_)
        obtain ⟨rfl, rfl⟩ := hp40
        exact hR dX5_moth_43 (cpM_f (f := 1) (by simp [s_moth, v9, v16, c34]) (by decide) (by decide) SC.rfl)
    · have v16 := bi_0 c16
      refine j_al0 19 C dX5_moth_19 ?_
      refine j_ldc 20 C dX5_moth_20 cs_X5_40 ?_
      refine j_vi 22 C dX5_moth_22 mv_X5_finds lk_X5_46 (c_X5_finds (f := 0) (by decide) (by decide)) rc_m rfl rfl ⟨(Nat.le_of_ble_eq_true rfl), (Nat.le_of_ble_eq_true rfl)⟩ (Nat.le_of_ble_eq_true rfl) (fun r22 g22 hp22 => ?_)
      obtain ⟨rfl, rfl⟩ := hp22
      exact hR dX5_moth_25 (cpM_f (f := 0) (by simp [s_moth, v9, v16]) (by decide) (by decide) SC.rfl)
set_option maxRecDepth 20000 in
theorem c_X5_of {G : GT} {g : Mem} (hS : SI (g 12)) {T : Nat} (hT : g 12 1 = nI T) (hTb : T ≤ 31000) {m w : Int32} : Cti G yX5_of cX5_of 3 .int 4 93 [.ref (mo G), .int m, .int w] g (fun r g' => cpM (s_of m w (g 12)) g r g') := by
  refine ent_i (by decide) (Nat.le_of_ble_eq_true rfl) [some (.ref (mo G)), some (.int m), some (.int w)] rfl ?_
  intro X C hR
  have C : CX X G RX5 cX5_of 3 4 93 := C
  refine j_al0 0 C dX5_of_0 ?_
  refine j_il1 1 C dX5_of_1 ?_
  refine j_vi 2 C dX5_of_2 mv_X5_isMoth lk_X5_112 (c_X5_isMoth hS.1) rc_m rfl rfl ⟨(Nat.le_of_ble_eq_true rfl), (Nat.le_of_ble_eq_true rfl)⟩ (Nat.le_of_ble_eq_true rfl) (fun r2 g2 hp2 => ?_)
  obtain ⟨rfl, rfl⟩ := hp2
  refine j_ifeq 5 20 C dX5_of_5 (by decide) (fun c5 => ?_) (fun c5 => ?_)
  · have v5 := bi_0 c5
    refine j_al0 20 C dX5_of_20 ?_
    refine j_ldc 21 C dX5_of_21 cs_X5_40 ?_
    refine j_vi 23 C dX5_of_23 mv_X5_finds lk_X5_46 (c_X5_finds (f := 0) (by decide) (by decide)) rc_m rfl rfl ⟨(Nat.le_of_ble_eq_true rfl), (Nat.le_of_ble_eq_true rfl)⟩ (Nat.le_of_ble_eq_true rfl) (fun r23 g23 hp23 => ?_)
    obtain ⟨rfl, rfl⟩ := hp23
    exact hR dX5_of_26 (cpM_f (f := 0) (by simp [s_of, v5]) (by decide) (by decide) SC.rfl)
  · have v5 := bi_n c5
    refine j_il2 8 C dX5_of_8 ?_
    refine j_i2l 9 C dX5_of_9 ?_
    refine j_lconst 10 C dX5_of_10 lc_0 ?_
    refine j_ldc2 11 C dX5_of_11 cl_X5_115 ?_
    refine j_si 14 C dX5_of_14 ms_X5_isIn lk_X5_56 (c_X5_isIn (lo := 0) (hi := 4) (by decide) (by decide)) rfl rfl ⟨(Nat.le_of_ble_eq_true rfl), (Nat.le_of_ble_eq_true rfl)⟩ (Nat.le_of_ble_eq_true rfl) (fun r14 g14 hp14 => ?_)
    obtain ⟨rfl, rfl⟩ := hp14
    refine j_ifne 17 27 C dX5_of_17 (by decide) (fun c17 => ?_) (fun c17 => ?_)
    · have v17 := bi_n c17
      obtain ⟨hM8, hM0⟩ := SI_cl0 hS
      obtain ⟨M, hM, rfl⟩ := isM_nat hM0 hM8 v5
      obtain ⟨W, hW, rfl⟩ := inr_nat (n := 4) (by decide) v17
      refine j_il2 27 C dX5_of_27 ?_
      refine j_iconst 28 C dX5_of_28 ic_4 ?_
      refine j_icge 29 41 C dX5_of_29 (by decide) (fun c29 => ?_) (fun c29 => ?_)
      · refine j_al0 41 C dX5_of_41 ?_
        refine j_il1 42 C dX5_of_42 ?_
        obtain rfl : W = 4 := Nat.le_antisymm hW (Nat.le_of_not_lt (fun q => nI_ge (b := 4) q (by decide) c29))
        refine j_vi 43 C dX5_of_43 mv_X5_bites lk_X5_117 (c_X5_bites hS (by omega)) rc_m rfl rfl ⟨(Nat.le_of_ble_eq_true rfl), (Nat.le_of_ble_eq_true rfl)⟩ (Nat.le_of_ble_eq_true rfl) (fun r43 g43 hp43 => ?_)
        obtain ⟨rfl, rfl⟩ := hp43
        exact hR dX5_of_46 (cpM_q (by unfold s_of; rw [v5, v17, if_pos (show nI 4 = 4 from rfl), cl_nI (show M < 2 ^ 31 by omega)]; rfl) rfl SC.rfl)
      · refine j_al0 32 C dX5_of_32 ?_
        refine j_il1 33 C dX5_of_33 ?_
        refine j_il2 34 C dX5_of_34 ?_
        have hW4 : W < 4 := Nat.lt_of_not_le (fun q => c29 (nI_le (a := 4) q (by omega)))
        refine j_vi 35 C dX5_of_35 mv_X5_its lk_X5_67 (c_X5_its (by omega) hW4) rc_m rfl rfl ⟨(Nat.le_of_ble_eq_true rfl), (Nat.le_of_ble_eq_true rfl)⟩ (Nat.le_of_ble_eq_true rfl) (fun r35 g35 hp35 => ?_)
        obtain ⟨rfl, rfl⟩ := hp35
        refine j_goto 38 46 C dX5_of_38 (by decide) ?_
        exact hR dX5_of_46 (cpM_q (by unfold s_of; rw [v5, v17, if_neg (show ¬ nI W = 4 from fun z => absurd ((nI_eq (b := 4) (by omega) (by decide)).mp z) (by omega)), cl_nI (show M < 2 ^ 31 by omega), cl_nI (show W < 2 ^ 31 by omega)]; rfl) rfl SC.rfl)
    · have v17 := bi_0 c17
      refine j_al0 20 C dX5_of_20 ?_
      refine j_ldc 21 C dX5_of_21 cs_X5_40 ?_
      refine j_vi 23 C dX5_of_23 mv_X5_finds lk_X5_46 (c_X5_finds (f := 0) (by decide) (by decide)) rc_m rfl rfl ⟨(Nat.le_of_ble_eq_true rfl), (Nat.le_of_ble_eq_true rfl)⟩ (Nat.le_of_ble_eq_true rfl) (fun r23 g23 hp23 => ?_)
      obtain ⟨rfl, rfl⟩ := hp23
      exact hR dX5_of_26 (cpM_f (f := 0) (by simp [s_of, v5, v17]) (by decide) (by decide) SC.rfl)
set_option maxRecDepth 20000 in
theorem c_X5_isFit {G : GT} {g : Mem} {w v : Int32} : Cti G yX5_isFit cX5_isFit 2 .boolean 1 25 [.int w, .int v] g (fun r g' => r = bi (inr w 0 3 && inr v (kLeast.getD (cl w) 0) (kMost.getD (cl w) 0)) ∧ g = g') := by
  refine ent_z (by decide) (Nat.le_of_ble_eq_true rfl) [some (.int w), some (.int v)] rfl ?_
  intro X C hR
  have C : CX X G RX5 cX5_isFit 2 1 25 := C
  by_cases hw : inr w 0 3 = true
  · obtain ⟨W, hW, rfl⟩ := inr_nat (n := 3) (by decide) hw
    have hW4 : W < 4 := by omega
    match W, hW4 with
    | 0, _ =>
      refine j_il0 0 C dX5_isFit_0 ?_
      refine j_tsIn 1 28 (off := 27) C dX5_isFit_1 (by decide) (by decide) (by decide) (by decide) ?_
      refine j_il1 28 C dX5_isFit_28 ?_
      refine j_i2l 29 C dX5_isFit_29 ?_
      refine j_lconst 30 C dX5_isFit_30 lc_0 ?_
      refine j_ldc2 31 C dX5_isFit_31 cl_X5_87 ?_
      refine j_si 34 C dX5_isFit_34 ms_X5_isIn lk_X5_56 (c_X5_isIn (lo := 0) (hi := 6) (by decide) (by decide)) rfl rfl ⟨(Nat.le_of_ble_eq_true rfl), (Nat.le_of_ble_eq_true rfl)⟩ (Nat.le_of_ble_eq_true rfl) (fun r34 g34 hp34 => ?_)
      obtain ⟨rfl, rfl⟩ := hp34
      exact hR dX5_isFit_37 (by unfold bi; split <;> first | exact Or.inl rfl | exact Or.inr rfl) ⟨rfl, rfl⟩
    | 1, _ =>
      refine j_il0 0 C dX5_isFit_0 ?_
      refine j_tsIn 1 38 (off := 37) C dX5_isFit_1 (by decide) (by decide) (by decide) (by decide) ?_
      refine j_il1 38 C dX5_isFit_38 ?_
      refine j_si 39 C dX5_isFit_39 ms_X5_isPage lk_X5_41 (c_X5_isPage) rfl rfl ⟨(Nat.le_of_ble_eq_true rfl), (Nat.le_of_ble_eq_true rfl)⟩ (Nat.le_of_ble_eq_true rfl) (fun r39 g39 hp39 => ?_)
      obtain ⟨rfl, rfl⟩ := hp39
      exact hR dX5_isFit_42 (by unfold bi; split <;> first | exact Or.inl rfl | exact Or.inr rfl) ⟨rfl, rfl⟩
    | 2, _ =>
      refine j_il0 0 C dX5_isFit_0 ?_
      refine j_tsIn 1 43 (off := 42) C dX5_isFit_1 (by decide) (by decide) (by decide) (by decide) ?_
      refine j_il1 43 C dX5_isFit_43 ?_
      refine j_i2l 44 C dX5_isFit_44 ?_
      refine j_lconst 45 C dX5_isFit_45 lc_1 ?_
      refine j_ldc2 46 C dX5_isFit_46 cl_X5_54 ?_
      refine j_si 49 C dX5_isFit_49 ms_X5_isIn lk_X5_56 (c_X5_isIn (lo := 1) (hi := 9) (by decide) (by decide)) rfl rfl ⟨(Nat.le_of_ble_eq_true rfl), (Nat.le_of_ble_eq_true rfl)⟩ (Nat.le_of_ble_eq_true rfl) (fun r49 g49 hp49 => ?_)
      obtain ⟨rfl, rfl⟩ := hp49
      exact hR dX5_isFit_52 (by unfold bi; split <;> first | exact Or.inl rfl | exact Or.inr rfl) ⟨rfl, rfl⟩
    | 3, _ =>
      refine j_il0 0 C dX5_isFit_0 ?_
      refine j_tsOut 1 53 C dX5_isFit_1 (by decide) (by decide) ?_
      refine j_il0 53 C dX5_isFit_53 ?_
      refine j_iconst 54 C dX5_isFit_54 ic_3 ?_
      refine j_icne 55 74 C dX5_isFit_55 (by decide) (fun c55 => ?_) (fun c55 => ?_)
      · exact absurd rfl c55
      · refine j_il1 58 C dX5_isFit_58 ?_
        refine j_i2l 59 C dX5_isFit_59 ?_
        refine j_lconst 60 C dX5_isFit_60 lc_0 ?_
        refine j_ldc2 61 C dX5_isFit_61 cl_X5_120 ?_
        refine j_si 64 C dX5_isFit_64 ms_X5_isIn lk_X5_56 (c_X5_isIn (lo := 0) (hi := 9999) (by decide) (by decide)) rfl rfl ⟨(Nat.le_of_ble_eq_true rfl), (Nat.le_of_ble_eq_true rfl)⟩ (Nat.le_of_ble_eq_true rfl) (fun r64 g64 hp64 => ?_)
        obtain ⟨rfl, rfl⟩ := hp64
        refine j_ifeq 67 74 C dX5_isFit_67 (by decide) (fun c67 => ?_) (fun c67 => ?_)
        · have v67 := bi_0 c67
          refine j_iconst 74 C dX5_isFit_74 ic_0 ?_
          exact hR dX5_isFit_75 (by first | exact Or.inl rfl | exact Or.inr rfl) ⟨by show _ = bi (inr v 0 9999); rw [v67]; rfl, rfl⟩
        · have v67 := bi_n c67
          refine j_iconst 70 C dX5_isFit_70 ic_1 ?_
          refine j_goto 71 75 C dX5_isFit_71 (by decide) ?_
          exact hR dX5_isFit_75 (by first | exact Or.inl rfl | exact Or.inr rfl) ⟨by show _ = bi (inr v 0 9999); rw [v67]; rfl, rfl⟩
  · rw [Bool.not_eq_true] at hw
    refine j_il0 0 C dX5_isFit_0 ?_
    refine j_tsOut 1 53 C dX5_isFit_1 (by rcases ts_out (n := 3) hw (by decide) with h | h; exact Or.inl h; exact Or.inr (by omega)) (by decide) ?_
    refine j_il0 53 C dX5_isFit_53 ?_
    refine j_iconst 54 C dX5_isFit_54 ic_3 ?_
    refine j_icne 55 74 C dX5_isFit_55 (by decide) (fun c55 => ?_) (fun c55 => ?_)
    · refine j_iconst 74 C dX5_isFit_74 ic_0 ?_
      exact hR dX5_isFit_75 (Or.inl rfl) ⟨by rw [hw]; rfl, rfl⟩
    · rw [c55] at hw
      exact absurd hw (by decide)
set_option maxRecDepth 20000 in
theorem c_X5_change {G : GT} {g : Mem} (hS : SI (g 12)) {T : Nat} (hT : g 12 1 = nI T) (hTb : T ≤ 31000) {m w v : Int32} : Cti G yX5_change cX5_change 4 .int 2 46 [.ref (mo G), .int m, .int w, .int v] g (fun r g' => cpM (s_change m w v (g 12)) g r g') := by
  refine ent_i (by decide) (Nat.le_of_ble_eq_true rfl) [some (.ref (mo G)), some (.int m), some (.int w), some (.int v)] rfl ?_
  intro X C hR
  have C : CX X G RX5 cX5_change 4 2 46 := C
  refine j_al0 0 C dX5_change_0 ?_
  refine j_il1 1 C dX5_change_1 ?_
  refine j_vi 2 C dX5_change_2 mv_X5_isMoth lk_X5_112 (c_X5_isMoth hS.1) rc_m rfl rfl ⟨(Nat.le_of_ble_eq_true rfl), (Nat.le_of_ble_eq_true rfl)⟩ (Nat.le_of_ble_eq_true rfl) (fun r2 g2 hp2 => ?_)
  obtain ⟨rfl, rfl⟩ := hp2
  refine j_ifeq 5 29 C dX5_change_5 (by decide) (fun c5 => ?_) (fun c5 => ?_)
  · have v5 := bi_0 c5
    refine j_al0 29 C dX5_change_29 ?_
    refine j_ldc 30 C dX5_change_30 cs_X5_40 ?_
    refine j_vi 32 C dX5_change_32 mv_X5_finds lk_X5_46 (c_X5_finds (f := 0) (by decide) (by decide)) rc_m rfl rfl ⟨(Nat.le_of_ble_eq_true rfl), (Nat.le_of_ble_eq_true rfl)⟩ (Nat.le_of_ble_eq_true rfl) (fun r32 g32 hp32 => ?_)
    obtain ⟨rfl, rfl⟩ := hp32
    exact hR dX5_change_35 (cpM_f (f := 0) (by unfold s_change; rw [Bool.and_assoc]; first | (rw [v5, v13]; rfl) | (rw [v5]; rfl)) (by decide) (by decide) SC.rfl)
  · have v5 := bi_n c5
    refine j_il2 8 C dX5_change_8 ?_
    refine j_il3 9 C dX5_change_9 ?_
    refine j_si 10 C dX5_change_10 ms_X5_isFit lk_X5_122 (c_X5_isFit) rfl rfl ⟨(Nat.le_of_ble_eq_true rfl), (Nat.le_of_ble_eq_true rfl)⟩ (Nat.le_of_ble_eq_true rfl) (fun r10 g10 hp10 => ?_)
    obtain ⟨rfl, rfl⟩ := hp10
    refine j_ifeq 13 29 C dX5_change_13 (by decide) (fun c13 => ?_) (fun c13 => ?_)
    · have v13 := bi_0 c13
      refine j_al0 29 C dX5_change_29 ?_
      refine j_ldc 30 C dX5_change_30 cs_X5_40 ?_
      refine j_vi 32 C dX5_change_32 mv_X5_finds lk_X5_46 (c_X5_finds (f := 0) (by decide) (by decide)) rc_m rfl rfl ⟨(Nat.le_of_ble_eq_true rfl), (Nat.le_of_ble_eq_true rfl)⟩ (Nat.le_of_ble_eq_true rfl) (fun r32 g32 hp32 => ?_)
      obtain ⟨rfl, rfl⟩ := hp32
      exact hR dX5_change_35 (cpM_f (f := 0) (by unfold s_change; rw [Bool.and_assoc]; first | (rw [v5, v13]; rfl) | (rw [v5]; rfl)) (by decide) (by decide) SC.rfl)
    · have v13 := bi_n c13
      obtain ⟨w1, w2⟩ := and_tt v13
      obtain ⟨hM8, hM0⟩ := SI_cl0 hS
      obtain ⟨M, hM, rfl⟩ := isM_nat hM0 hM8 v5
      obtain ⟨W, hW, rfl⟩ := inr_nat (n := 3) (by decide) w1
      refine j_al0 16 C dX5_change_16 ?_
      refine j_il1 17 C dX5_change_17 ?_
      refine j_il2 18 C dX5_change_18 ?_
      refine j_si 19 C dX5_change_19 ms_X5_at lk_X5_84 (c_X5_at) rfl rfl ⟨(Nat.le_of_ble_eq_true rfl), (Nat.le_of_ble_eq_true rfl)⟩ (Nat.le_of_ble_eq_true rfl) (fun r19 g19 hp19 => ?_)
      obtain ⟨rfl, rfl⟩ := hp19
      refine j_il3 22 C dX5_change_22 ?_
      refine j_vi 23 C dX5_change_23 mv_X5_becomes lk_X5_60 (c_X5_becomes (by omega)) rc_m rfl rfl ⟨(Nat.le_of_ble_eq_true rfl), (Nat.le_of_ble_eq_true rfl)⟩ (Nat.le_of_ble_eq_true rfl) (fun r23 g23 hp23 => ?_)
      obtain ⟨hr23, rfl⟩ := hp23
      have hr23 : r23 = tr (g 12) M W := hr23
      subst hr23
      refine j_goto 26 35 C dX5_change_26 (by decide) ?_
      exact hR dX5_change_35 (cpM_r (by unfold s_change; rw [Bool.and_assoc, v5, v13, cl_nI (show M < 2 ^ 31 by omega), cl_nI (show W < 2 ^ 31 by omega)]; rfl) rfl SC.rfl)
set_option maxRecDepth 20000 in
theorem c_X5_leaves {G : GT} {g : Mem} (hS : SI (g 12)) {T : Nat} (hT : g 12 1 = nI T) (hTb : T ≤ 31000) {m x w : Int32} : Cti G yX5_leaves cX5_leaves 4 .int 2 42 [.ref (mo G), .int m, .int x, .int w] g (fun r g' => cpM (s_leaves m x w (g 12)) g r g') := by
  refine ent_i (by decide) (Nat.le_of_ble_eq_true rfl) [some (.ref (mo G)), some (.int m), some (.int x), some (.int w)] rfl ?_
  intro X C hR
  have C : CX X G RX5 cX5_leaves 4 2 42 := C
  refine j_al0 0 C dX5_leaves_0 ?_
  refine j_il1 1 C dX5_leaves_1 ?_
  refine j_vi 2 C dX5_leaves_2 mv_X5_isMoth lk_X5_112 (c_X5_isMoth hS.1) rc_m rfl rfl ⟨(Nat.le_of_ble_eq_true rfl), (Nat.le_of_ble_eq_true rfl)⟩ (Nat.le_of_ble_eq_true rfl) (fun r2 g2 hp2 => ?_)
  obtain ⟨rfl, rfl⟩ := hp2
  refine j_ifeq 5 30 C dX5_leaves_5 (by decide) (fun c5 => ?_) (fun c5 => ?_)
  · have v5 := bi_0 c5
    refine j_al0 30 C dX5_leaves_30 ?_
    refine j_ldc 31 C dX5_leaves_31 cs_X5_40 ?_
    refine j_vi 33 C dX5_leaves_33 mv_X5_finds lk_X5_46 (c_X5_finds (f := 0) (by decide) (by decide)) rc_m rfl rfl ⟨(Nat.le_of_ble_eq_true rfl), (Nat.le_of_ble_eq_true rfl)⟩ (Nat.le_of_ble_eq_true rfl) (fun r33 g33 hp33 => ?_)
    obtain ⟨rfl, rfl⟩ := hp33
    exact hR dX5_leaves_36 (cpM_f (f := 0) (by simp [s_leaves, v5]) (by decide) (by decide) SC.rfl)
  · have v5 := bi_n c5
    refine j_il2 8 C dX5_leaves_8 ?_
    refine j_i2l 9 C dX5_leaves_9 ?_
    refine j_lconst 10 C dX5_leaves_10 lc_1 ?_
    refine j_ldc2 11 C dX5_leaves_11 cl_X5_54 ?_
    refine j_si 14 C dX5_leaves_14 ms_X5_isIn lk_X5_56 (c_X5_isIn (lo := 1) (hi := 9) (by decide) (by decide)) rfl rfl ⟨(Nat.le_of_ble_eq_true rfl), (Nat.le_of_ble_eq_true rfl)⟩ (Nat.le_of_ble_eq_true rfl) (fun r14 g14 hp14 => ?_)
    obtain ⟨rfl, rfl⟩ := hp14
    refine j_ifeq 17 30 C dX5_leaves_17 (by decide) (fun c17 => ?_) (fun c17 => ?_)
    · have v17 := bi_0 c17
      refine j_al0 30 C dX5_leaves_30 ?_
      refine j_ldc 31 C dX5_leaves_31 cs_X5_40 ?_
      refine j_vi 33 C dX5_leaves_33 mv_X5_finds lk_X5_46 (c_X5_finds (f := 0) (by decide) (by decide)) rc_m rfl rfl ⟨(Nat.le_of_ble_eq_true rfl), (Nat.le_of_ble_eq_true rfl)⟩ (Nat.le_of_ble_eq_true rfl) (fun r33 g33 hp33 => ?_)
      obtain ⟨rfl, rfl⟩ := hp33
      exact hR dX5_leaves_36 (cpM_f (f := 0) (by simp [s_leaves, v5, v17]) (by decide) (by decide) SC.rfl)
    · have v17 := bi_n c17
      refine j_il3 20 C dX5_leaves_20 ?_
      refine j_i2l 21 C dX5_leaves_21 ?_
      refine j_lconst 22 C dX5_leaves_22 lc_0 ?_
      refine j_lconst 23 C dX5_leaves_23 lc_1 ?_
      refine j_si 24 C dX5_leaves_24 ms_X5_isIn lk_X5_56 (c_X5_isIn (lo := 0) (hi := 1) (by decide) (by decide)) rfl rfl ⟨(Nat.le_of_ble_eq_true rfl), (Nat.le_of_ble_eq_true rfl)⟩ (Nat.le_of_ble_eq_true rfl) (fun r24 g24 hp24 => ?_)
      obtain ⟨rfl, rfl⟩ := hp24
      refine j_ifne 27 37 C dX5_leaves_27 (by decide) (fun c27 => ?_) (fun c27 => ?_)
      · have v27 := bi_n c27
        obtain ⟨hM8, hM0⟩ := SI_cl0 hS
        obtain ⟨M, hM, rfl⟩ := isM_nat hM0 hM8 v5
        obtain ⟨n, hn1, hn, rfl⟩ := inr_1 (n := 9) (by decide) v17
        obtain ⟨W, hW, rfl⟩ := inr_nat (n := 1) (by decide) v27
        obtain ⟨⟨K, hK, eK⟩, -⟩ := hS.2.2.1 M (by omega)
        refine j_il3 37 C dX5_leaves_37 ?_
        refine j_ifne 38 54 C dX5_leaves_38 (by decide) (fun c38 => ?_) (fun c38 => ?_)
        · refine j_al0 54 C dX5_leaves_54 ?_
          refine j_il1 55 C dX5_leaves_55 ?_
          refine j_iconst 56 C dX5_leaves_56 ic_0 ?_
          refine j_vi 57 C dX5_leaves_57 mv_X5_its lk_X5_67 (c_X5_its (W := 0) (by omega) (by decide)) rc_m rfl rfl ⟨(Nat.le_of_ble_eq_true rfl), (Nat.le_of_ble_eq_true rfl)⟩ (Nat.le_of_ble_eq_true rfl) (fun r57 g57 hp57 => ?_)
          obtain ⟨hr57, rfl⟩ := hp57
          rw [eK] at hr57
          subst hr57
          refine j_il2 60 C dX5_leaves_60 ?_
          refine j_si 61 C dX5_leaves_61 ms_X5_gainsBy lk_X5_128 (c_X5_gainsBy hK) rfl rfl ⟨(Nat.le_of_ble_eq_true rfl), (Nat.le_of_ble_eq_true rfl)⟩ (Nat.le_of_ble_eq_true rfl) (fun r61 g61 hp61 => ?_)
          obtain ⟨rfl, rfl⟩ := hp61
          exact hR dX5_leaves_64 (cpM_q (by unfold s_leaves; rw [v5, v17, v27, if_neg c38, cl_nI (show M < 2 ^ 31 by omega), eK, cl_nI (show K < 2 ^ 31 by omega)]; rfl) rfl SC.rfl)
        · refine j_al0 41 C dX5_leaves_41 ?_
          refine j_il1 42 C dX5_leaves_42 ?_
          refine j_iconst 43 C dX5_leaves_43 ic_0 ?_
          refine j_vi 44 C dX5_leaves_44 mv_X5_its lk_X5_67 (c_X5_its (W := 0) (by omega) (by decide)) rc_m rfl rfl ⟨(Nat.le_of_ble_eq_true rfl), (Nat.le_of_ble_eq_true rfl)⟩ (Nat.le_of_ble_eq_true rfl) (fun r44 g44 hp44 => ?_)
          obtain ⟨hr44, rfl⟩ := hp44
          rw [eK] at hr44
          subst hr44
          refine j_il2 47 C dX5_leaves_47 ?_
          refine j_si 48 C dX5_leaves_48 ms_X5_leavesBy lk_X5_125 (c_X5_leavesBy hK (by omega)) rfl rfl ⟨(Nat.le_of_ble_eq_true rfl), (Nat.le_of_ble_eq_true rfl)⟩ (Nat.le_of_ble_eq_true rfl) (fun r48 g48 hp48 => ?_)
          obtain ⟨rfl, rfl⟩ := hp48
          refine j_goto 51 64 C dX5_leaves_51 (by decide) ?_
          exact hR dX5_leaves_64 (cpM_q (by unfold s_leaves; rw [v5, v17, v27, if_pos c38, cl_nI (show M < 2 ^ 31 by omega), eK, cl_nI (show K < 2 ^ 31 by omega)]; rfl) rfl SC.rfl)
      · have v27 := bi_0 c27
        refine j_al0 30 C dX5_leaves_30 ?_
        refine j_ldc 31 C dX5_leaves_31 cs_X5_40 ?_
        refine j_vi 33 C dX5_leaves_33 mv_X5_finds lk_X5_46 (c_X5_finds (f := 0) (by decide) (by decide)) rc_m rfl rfl ⟨(Nat.le_of_ble_eq_true rfl), (Nat.le_of_ble_eq_true rfl)⟩ (Nat.le_of_ble_eq_true rfl) (fun r33 g33 hp33 => ?_)
        obtain ⟨rfl, rfl⟩ := hp33
        exact hR dX5_leaves_36 (cpM_f (f := 0) (by simp [s_leaves, v5, v17, v27]) (by decide) (by decide) SC.rfl)
set_option maxRecDepth 20000 in
theorem c_X5_go {G : GT} {g : Mem} (hS : SI (g 12)) {T : Nat} (hT : g 12 1 = nI T) (hTb : T ≤ 31000) {n : Int32} : Cti G yX5_go cX5_go 2 .int 6 140 [.ref (mo G), .int n] g (fun r g' => cpM (s_go n (g 12)) g r g') := by
  refine ent_i (by decide) (Nat.le_of_ble_eq_true rfl) [some (.ref (mo G)), some (.int n)] rfl ?_
  intro X C hR
  have C : CX X G RX5 cX5_go 2 6 140 := C
  refine j_il1 0 C dX5_go_0 ?_
  refine j_i2l 1 C dX5_go_1 ?_
  refine j_lconst 2 C dX5_go_2 lc_1 ?_
  refine j_ldc2 3 C dX5_go_3 cl_X5_135 ?_
  refine j_si 6 C dX5_go_6 ms_X5_isIn lk_X5_56 (c_X5_isIn (lo := 1) (hi := 60) (by decide) (by decide)) rfl rfl ⟨(Nat.le_of_ble_eq_true rfl), (Nat.le_of_ble_eq_true rfl)⟩ (Nat.le_of_ble_eq_true rfl) (fun r6 g6 hp6 => ?_)
  obtain ⟨rfl, rfl⟩ := hp6
  refine j_ifne 9 19 C dX5_go_9 (by decide) (fun c9 => ?_) (fun c9 => ?_)
  · have v9 := bi_n c9
    obtain ⟨N, hN1, hN, rfl⟩ := inr_1 (n := 60) (by decide) v9
    refine j_al0 19 C dX5_go_19 ?_
    refine jg_X5_7 20 C dX5_go_20 ?_
    refine j_iconst 23 C dX5_go_23 ic_1 ?_
    refine j_top (nI (1)) rfl ?_
    refine jl_A0 24 (by omega) C dX5_go_24 ?_
    refine j_il1 25 C dX5_go_25 ?_
    refine j_iadd 26 C dX5_go_26 ?_
    refine j_ldc 27 C dX5_go_27 cs_X5_137 ?_
    refine j_icle 29 39 C dX5_go_29 (by decide) (fun c29 => ?_) (fun c29 => ?_)
    · refine j_al0 39 C dX5_go_39 ?_
      refine j_il1 40 C dX5_go_40 ?_
      refine j_vv 41 C dX5_go_41 mv_X5_goes lk_X5_139 (c_X5_goes hS (by omega)) rc_m rfl rfl ⟨(Nat.le_of_ble_eq_true rfl), (Nat.le_of_ble_eq_true rfl)⟩ (Nat.le_of_ble_eq_true rfl) (fun g41 hp41 => ?_)
      obtain rfl := hp41
      refine j_al0 44 C dX5_go_44 ?_
      refine j_vi 45 C dX5_go_45 mv_X5_holes lk_X5_142 (c_X5_holes) rc_m rfl rfl ⟨(Nat.le_of_ble_eq_true rfl), (Nat.le_of_ble_eq_true rfl)⟩ (Nat.le_of_ble_eq_true rfl) (fun r45 g45 hp45 => ?_)
      obtain ⟨hr45, rfl⟩ := hp45
      rw [ub_s] at hr45
      subst hr45
      exact hR dX5_go_48 (cpM_r (by simp [s_go, v9, cl_nI (show N < 2 ^ 31 by omega)]) rfl SC.rfl)
    · exact absurd (show g 12 1 + nI N ≤ 99999 by rw [hT, nI_add]; exact nI_le (b := 99999) (by omega) (by decide)) c29
  · have v9 := bi_0 c9
    refine j_al0 12 C dX5_go_12 ?_
    refine j_ldc 13 C dX5_go_13 cs_X5_40 ?_
    refine j_vi 15 C dX5_go_15 mv_X5_finds lk_X5_46 (c_X5_finds (f := 0) (by decide) (by decide)) rc_m rfl rfl ⟨(Nat.le_of_ble_eq_true rfl), (Nat.le_of_ble_eq_true rfl)⟩ (Nat.le_of_ble_eq_true rfl) (fun r15 g15 hp15 => ?_)
    obtain ⟨rfl, rfl⟩ := hp15
    exact hR dX5_go_18 (cpM_f (f := 0) (by simp [s_go, v9]) (by decide) (by decide) SC.rfl)
