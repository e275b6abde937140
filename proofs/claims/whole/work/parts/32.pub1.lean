theorem ts_out {x : Int32} {n : Nat} (h : inr x 0 (nI n) = false) (hn : n < 2 ^ 31) : x.toInt < 0 ∨ (n : Int) < x.toInt := by
  have h := of_decide_eq_false h
  by_cases q : 0 ≤ x
  · right
    have q2 : ¬ x ≤ nI n := fun z => h ⟨q, z⟩
    rw [Int32.le_iff_toInt_le, nI_toInt hn] at q2
    omega
  · left
    rw [Int32.le_iff_toInt_le, Int32.toInt_zero] at q
    omega
set_option maxRecDepth 20000 in
theorem c_X4_word {G : GT} {g : Mem} (hS : SI (g 0)) {T : Nat} (hT : g 0 1 = nI T) (hTb : T ≤ 31000) {p k v : Int32} : Cti G yX4_word cX4_word 5 .int 2 42 [.ref (xo G), .int p, .int k, .int v] g (fun r g' => cpX (s_word p k v (g 0)) g r g') := by
  refine ent_i (by decide) (Nat.le_of_ble_eq_true rfl) [some (.ref (xo G)), some (.int p), some (.int k), some (.int v), none] rfl ?_
  intro X C hR
  have C : CX X G RX4 cX4_word 5 2 42 := C
  refine j_il1 0 C dX4_word_0 ?_
  refine j_si 1 C dX4_word_1 ms_X4_isPage lk_X4_47 (c_X4_isPage) rfl rfl ⟨(Nat.le_of_ble_eq_true rfl), (Nat.le_of_ble_eq_true rfl)⟩ (Nat.le_of_ble_eq_true rfl) (fun r1 g1 hp1 => ?_)
  obtain ⟨rfl, rfl⟩ := hp1
  refine j_ifeq 4 21 C dX4_word_4 (by decide) (fun c4 => ?_) (fun c4 => ?_)
  · have v4 := bi_0 c4
    refine j_al0 21 C dX4_word_21 ?_
    refine j_ldc 22 C dX4_word_22 cs_X4_57 ?_
    refine j_vi 24 C dX4_word_24 mv_X4_finding lk_X4_58 (c_X4_finding (f := 0) (by decide) (by decide)) rc_x rfl rfl ⟨(Nat.le_of_ble_eq_true rfl), (Nat.le_of_ble_eq_true rfl)⟩ (Nat.le_of_ble_eq_true rfl) (fun r24 g24 hp24 => ?_)
    obtain ⟨rfl, rfl⟩ := hp24
    exact hR dX4_word_27 (cpX_f (f := 0) (by simp [s_word, v4]) (by decide) (by decide) SC.rfl)
  · have v4 := bi_n c4
    refine j_il2 7 C dX4_word_7 ?_
    refine j_si 8 C dX4_word_8 ms_X4_isPlace lk_X4_51 (c_X4_isPlace) rfl rfl ⟨(Nat.le_of_ble_eq_true rfl), (Nat.le_of_ble_eq_true rfl)⟩ (Nat.le_of_ble_eq_true rfl) (fun r8 g8 hp8 => ?_)
    obtain ⟨rfl, rfl⟩ := hp8
    refine j_ifeq 11 21 C dX4_word_11 (by decide) (fun c11 => ?_) (fun c11 => ?_)
    · have v11 := bi_0 c11
      refine j_al0 21 C dX4_word_21 ?_
      refine j_ldc 22 C dX4_word_22 cs_X4_57 ?_
      refine j_vi 24 C dX4_word_24 mv_X4_finding lk_X4_58 (c_X4_finding (f := 0) (by decide) (by decide)) rc_x rfl rfl ⟨(Nat.le_of_ble_eq_true rfl), (Nat.le_of_ble_eq_true rfl)⟩ (Nat.le_of_ble_eq_true rfl) (fun r24 g24 hp24 => ?_)
      obtain ⟨rfl, rfl⟩ := hp24
      exact hR dX4_word_27 (cpX_f (f := 0) (by simp [s_word, v4, v11]) (by decide) (by decide) SC.rfl)
    · have v11 := bi_n c11
      refine j_il3 14 C dX4_word_14 ?_
      refine j_si 15 C dX4_word_15 ms_X4_isWord lk_X4_54 (c_X4_isWord) rfl rfl ⟨(Nat.le_of_ble_eq_true rfl), (Nat.le_of_ble_eq_true rfl)⟩ (Nat.le_of_ble_eq_true rfl) (fun r15 g15 hp15 => ?_)
      obtain ⟨rfl, rfl⟩ := hp15
      refine j_ifne 18 28 C dX4_word_18 (by decide) (fun c18 => ?_) (fun c18 => ?_)
      · have v18 := bi_n c18
        obtain ⟨P, hP, rfl⟩ := inr_nat (n := 5) (by decide) v4
        obtain ⟨K, hK, rfl⟩ := inr_nat (n := 7) (by decide) v11
        refine j_al0 28 C dX4_word_28 ?_
        refine jg_X4_12 29 C dX4_word_29 ?_
        refine j_il1 32 C dX4_word_32 ?_
        refine j_il2 33 C dX4_word_33 ?_
        refine j_vi 34 C dX4_word_34 mv_X0_wordAt lk_X4_62 (c_X0_wordAt lt4_0 (by omega) (by omega)) (rc_d lt4_0) rfl rfl ⟨(Nat.le_of_ble_eq_true rfl), (Nat.le_of_ble_eq_true rfl)⟩ (Nat.le_of_ble_eq_true rfl) (fun r34 g34 hp34 => ?_)
        obtain ⟨rfl, rfl⟩ := hp34
        refine j_is4 37 C dX4_word_37 rfl (Nat.le_of_ble_eq_true rfl) ?_
        refine j_al0 39 C dX4_word_39 ?_
        refine jg_X4_12 40 C dX4_word_40 ?_
        refine j_il1 43 C dX4_word_43 ?_
        refine j_il2 44 C dX4_word_44 ?_
        refine j_il3 45 C dX4_word_45 ?_
        refine j_vv 46 C dX4_word_46 mv_X0_setWord lk_X4_66 (c_X0_setWord lt4_0 (by omega) (by omega)) (rc_d lt4_0) rfl rfl ⟨(Nat.le_of_ble_eq_true rfl), (Nat.le_of_ble_eq_true rfl)⟩ (Nat.le_of_ble_eq_true rfl) (fun g46 hp46 => ?_)
        obtain rfl := hp46
        refine j_il4 49 C dX4_word_49 ?_
        exact hR dX4_word_51 (cpX_r (by simp [s_word, v4, v11, v18, cl_nI (show P < 2 ^ 31 by omega), cl_nI (show K < 2 ^ 31 by omega)]) rfl SC.rfl)
      · have v18 := bi_0 c18
        refine j_al0 21 C dX4_word_21 ?_
        refine j_ldc 22 C dX4_word_22 cs_X4_57 ?_
        refine j_vi 24 C dX4_word_24 mv_X4_finding lk_X4_58 (c_X4_finding (f := 0) (by decide) (by decide)) rc_x rfl rfl ⟨(Nat.le_of_ble_eq_true rfl), (Nat.le_of_ble_eq_true rfl)⟩ (Nat.le_of_ble_eq_true rfl) (fun r24 g24 hp24 => ?_)
        obtain ⟨rfl, rfl⟩ := hp24
        exact hR dX4_word_27 (cpX_f (f := 0) (by simp [s_word, v4, v11, v18]) (by decide) (by decide) SC.rfl)
set_option maxRecDepth 20000 in
theorem c_X4_reads {G : GT} {g : Mem} (hS : SI (g 0)) {T : Nat} (hT : g 0 1 = nI T) (hTb : T ≤ 31000) {p k : Int32} : Cti G yX4_reads cX4_reads 3 .int 2 42 [.ref (xo G), .int p, .int k] g (fun r g' => cpX (s_reads p k (g 0)) g r g') := by
  refine ent_i (by decide) (Nat.le_of_ble_eq_true rfl) [some (.ref (xo G)), some (.int p), some (.int k)] rfl ?_
  intro X C hR
  have C : CX X G RX4 cX4_reads 3 2 42 := C
  refine j_il1 0 C dX4_reads_0 ?_
  refine j_si 1 C dX4_reads_1 ms_X4_isPage lk_X4_47 (c_X4_isPage) rfl rfl ⟨(Nat.le_of_ble_eq_true rfl), (Nat.le_of_ble_eq_true rfl)⟩ (Nat.le_of_ble_eq_true rfl) (fun r1 g1 hp1 => ?_)
  obtain ⟨rfl, rfl⟩ := hp1
  refine j_ifeq 4 14 C dX4_reads_4 (by decide) (fun c4 => ?_) (fun c4 => ?_)
  · have v4 := bi_0 c4
    refine j_al0 14 C dX4_reads_14 ?_
    refine j_ldc 15 C dX4_reads_15 cs_X4_57 ?_
    refine j_vi 17 C dX4_reads_17 mv_X4_finding lk_X4_58 (c_X4_finding (f := 0) (by decide) (by decide)) rc_x rfl rfl ⟨(Nat.le_of_ble_eq_true rfl), (Nat.le_of_ble_eq_true rfl)⟩ (Nat.le_of_ble_eq_true rfl) (fun r17 g17 hp17 => ?_)
    obtain ⟨rfl, rfl⟩ := hp17
    exact hR dX4_reads_20 (cpX_f (f := 0) (by simp [s_reads, v4]) (by decide) (by decide) SC.rfl)
  · have v4 := bi_n c4
    refine j_il2 7 C dX4_reads_7 ?_
    refine j_si 8 C dX4_reads_8 ms_X4_isPlace lk_X4_51 (c_X4_isPlace) rfl rfl ⟨(Nat.le_of_ble_eq_true rfl), (Nat.le_of_ble_eq_true rfl)⟩ (Nat.le_of_ble_eq_true rfl) (fun r8 g8 hp8 => ?_)
    obtain ⟨rfl, rfl⟩ := hp8
    refine j_ifne 11 21 C dX4_reads_11 (by decide) (fun c11 => ?_) (fun c11 => ?_)
    · have v11 := bi_n c11
      obtain ⟨P, hP, rfl⟩ := inr_nat (n := 5) (by decide) v4
      obtain ⟨K, hK, rfl⟩ := inr_nat (n := 7) (by decide) v11
      refine j_al0 21 C dX4_reads_21 ?_
      refine jg_X4_12 22 C dX4_reads_22 ?_
      refine j_il1 25 C dX4_reads_25 ?_
      refine j_il2 26 C dX4_reads_26 ?_
      refine j_vi 27 C dX4_reads_27 mv_X0_wordAt lk_X4_62 (c_X0_wordAt lt4_0 (by omega) (by omega)) (rc_d lt4_0) rfl rfl ⟨(Nat.le_of_ble_eq_true rfl), (Nat.le_of_ble_eq_true rfl)⟩ (Nat.le_of_ble_eq_true rfl) (fun r27 g27 hp27 => ?_)
      obtain ⟨rfl, rfl⟩ := hp27
      exact hR dX4_reads_30 (cpX_q (by simp [s_reads, v4, v11, cl_nI (show P < 2 ^ 31 by omega), cl_nI (show K < 2 ^ 31 by omega)]) rfl SC.rfl)
    · have v11 := bi_0 c11
      refine j_al0 14 C dX4_reads_14 ?_
      refine j_ldc 15 C dX4_reads_15 cs_X4_57 ?_
      refine j_vi 17 C dX4_reads_17 mv_X4_finding lk_X4_58 (c_X4_finding (f := 0) (by decide) (by decide)) rc_x rfl rfl ⟨(Nat.le_of_ble_eq_true rfl), (Nat.le_of_ble_eq_true rfl)⟩ (Nat.le_of_ble_eq_true rfl) (fun r17 g17 hp17 => ?_)
      obtain ⟨rfl, rfl⟩ := hp17
      exact hR dX4_reads_20 (cpX_f (f := 0) (by simp [s_reads, v4, v11]) (by decide) (by decide) SC.rfl)
set_option maxRecDepth 20000 in
theorem c_X4_copied {G : GT} {g : Mem} (hS : SI (g 0)) {T : Nat} (hT : g 0 1 = nI T) (hTb : T ≤ 31000) {a b : Int32} : Cti G yX4_copied cX4_copied 3 .int 3 69 [.ref (xo G), .int a, .int b] g (fun r g' => cpX (s_copied a b (g 0)) g r g') := by
  refine ent_i (by decide) (Nat.le_of_ble_eq_true rfl) [some (.ref (xo G)), some (.int a), some (.int b)] rfl ?_
  intro X C hR
  have C : CX X G RX4 cX4_copied 3 3 69 := C
  refine j_il1 0 C dX4_copied_0 ?_
  refine j_si 1 C dX4_copied_1 ms_X4_isPage lk_X4_47 (c_X4_isPage) rfl rfl ⟨(Nat.le_of_ble_eq_true rfl), (Nat.le_of_ble_eq_true rfl)⟩ (Nat.le_of_ble_eq_true rfl) (fun r1 g1 hp1 => ?_)
  obtain ⟨rfl, rfl⟩ := hp1
  refine j_ifeq 4 14 C dX4_copied_4 (by decide) (fun c4 => ?_) (fun c4 => ?_)
  · have v4 := bi_0 c4
    refine j_al0 14 C dX4_copied_14 ?_
    refine j_ldc 15 C dX4_copied_15 cs_X4_57 ?_
    refine j_vi 17 C dX4_copied_17 mv_X4_finding lk_X4_58 (c_X4_finding (f := 0) (by decide) (by decide)) rc_x rfl rfl ⟨(Nat.le_of_ble_eq_true rfl), (Nat.le_of_ble_eq_true rfl)⟩ (Nat.le_of_ble_eq_true rfl) (fun r17 g17 hp17 => ?_)
    obtain ⟨rfl, rfl⟩ := hp17
    exact hR dX4_copied_20 (cpX_f (f := 0) (by simp [s_copied, v4]) (by decide) (by decide) SC.rfl)
  · have v4 := bi_n c4
    refine j_il2 7 C dX4_copied_7 ?_
    refine j_si 8 C dX4_copied_8 ms_X4_isPage lk_X4_47 (c_X4_isPage) rfl rfl ⟨(Nat.le_of_ble_eq_true rfl), (Nat.le_of_ble_eq_true rfl)⟩ (Nat.le_of_ble_eq_true rfl) (fun r8 g8 hp8 => ?_)
    obtain ⟨rfl, rfl⟩ := hp8
    refine j_ifne 11 21 C dX4_copied_11 (by decide) (fun c11 => ?_) (fun c11 => ?_)
    · have v11 := bi_n c11
      obtain ⟨A, hA, rfl⟩ := inr_nat (n := 5) (by decide) v4
      obtain ⟨B, hB, rfl⟩ := inr_nat (n := 5) (by decide) v11
      refine j_al0 21 C dX4_copied_21 ?_
      refine jg_X4_12 22 C dX4_copied_22 ?_
      refine j_il1 25 C dX4_copied_25 ?_
      refine j_il2 26 C dX4_copied_26 ?_
      refine j_vi 27 C dX4_copied_27 mv_X0_copyPage lk_X4_82 (c_X0_copyPage lt4_0 (by omega) (by omega)) (rc_d lt4_0) rfl rfl ⟨(Nat.le_of_ble_eq_true rfl), (Nat.le_of_ble_eq_true rfl)⟩ (Nat.le_of_ble_eq_true rfl) (fun r27 g27 hp27 => ?_)
      obtain ⟨rfl, rfl⟩ := hp27
      exact hR dX4_copied_30 (cpX_r (by simp [s_copied, v4, v11, cl_nI (show A < 2 ^ 31 by omega), cl_nI (show B < 2 ^ 31 by omega)]) rfl SC.rfl)
    · have v11 := bi_0 c11
      refine j_al0 14 C dX4_copied_14 ?_
      refine j_ldc 15 C dX4_copied_15 cs_X4_57 ?_
      refine j_vi 17 C dX4_copied_17 mv_X4_finding lk_X4_58 (c_X4_finding (f := 0) (by decide) (by decide)) rc_x rfl rfl ⟨(Nat.le_of_ble_eq_true rfl), (Nat.le_of_ble_eq_true rfl)⟩ (Nat.le_of_ble_eq_true rfl) (fun r17 g17 hp17 => ?_)
      obtain ⟨rfl, rfl⟩ := hp17
      exact hR dX4_copied_20 (cpX_f (f := 0) (by simp [s_copied, v4, v11]) (by decide) (by decide) SC.rfl)
set_option maxRecDepth 20000 in
theorem c_X4_moth {G : GT} {g : Mem} (hS : SI (g 0)) {T : Nat} (hT : g 0 1 = nI T) (hTb : T ≤ 31000) {k p : Int32} : Cti G yX4_moth cX4_moth 3 .int 2 46 [.ref (xo G), .int k, .int p] g (fun r g' => cpX (s_moth k p (g 0)) g r g') := by
  refine ent_i (by decide) (Nat.le_of_ble_eq_true rfl) [some (.ref (xo G)), some (.int k), some (.int p)] rfl ?_
  intro X C hR
  have C : CX X G RX4 cX4_moth 3 2 46 := C
  refine j_il1 0 C dX4_moth_0 ?_
  refine j_si 1 C dX4_moth_1 ms_X4_isKind lk_X4_85 (c_X4_isKind) rfl rfl ⟨(Nat.le_of_ble_eq_true rfl), (Nat.le_of_ble_eq_true rfl)⟩ (Nat.le_of_ble_eq_true rfl) (fun r1 g1 hp1 => ?_)
  obtain ⟨rfl, rfl⟩ := hp1
  refine j_ifeq 4 14 C dX4_moth_4 (by decide) (fun c4 => ?_) (fun c4 => ?_)
  · have v4 := bi_0 c4
    refine j_al0 14 C dX4_moth_14 ?_
    refine j_ldc 15 C dX4_moth_15 cs_X4_57 ?_
    refine j_vi 17 C dX4_moth_17 mv_X4_finding lk_X4_58 (c_X4_finding (f := 0) (by decide) (by decide)) rc_x rfl rfl ⟨(Nat.le_of_ble_eq_true rfl), (Nat.le_of_ble_eq_true rfl)⟩ (Nat.le_of_ble_eq_true rfl) (fun r17 g17 hp17 => ?_)
    obtain ⟨rfl, rfl⟩ := hp17
    exact hR dX4_moth_20 (cpX_f (f := 0) (by simp [s_moth, v4]) (by decide) (by decide) SC.rfl)
  · have v4 := bi_n c4
    refine j_il2 7 C dX4_moth_7 ?_
    refine j_si 8 C dX4_moth_8 ms_X4_isPage lk_X4_47 (c_X4_isPage) rfl rfl ⟨(Nat.le_of_ble_eq_true rfl), (Nat.le_of_ble_eq_true rfl)⟩ (Nat.le_of_ble_eq_true rfl) (fun r8 g8 hp8 => ?_)
    obtain ⟨rfl, rfl⟩ := hp8
    refine j_ifne 11 21 C dX4_moth_11 (by decide) (fun c11 => ?_) (fun c11 => ?_)
    · have v11 := bi_n c11
      refine j_al0 21 C dX4_moth_21 ?_
      refine jg_X4_12 22 C dX4_moth_22 ?_
      refine j_vi 25 C dX4_moth_25 mv_X0_isFull lk_X4_88 (c_X0_isFull lt4_0) (rc_d lt4_0) rfl rfl ⟨(Nat.le_of_ble_eq_true rfl), (Nat.le_of_ble_eq_true rfl)⟩ (Nat.le_of_ble_eq_true rfl) (fun r25 g25 hp25 => ?_)
      obtain ⟨rfl, rfl⟩ := hp25
      refine j_ifeq 28 38 C dX4_moth_28 (by decide) (fun c28 => ?_) (fun c28 => ?_)
      · have v28 := bi_0 c28
        have v28 := of_decide_eq_false v28
        obtain ⟨hM8, hM0⟩ := SI_cl0 hS
        have hM7 : cl (g 0 0) < 8 := Nat.lt_of_not_le (fun q => v28 (by rw [hM0]; exact nI_le q (by omega)))
        refine j_al0 38 C dX4_moth_38 ?_
        refine jg_X4_12 39 C dX4_moth_39 ?_
        refine j_il1 42 C dX4_moth_42 ?_
        refine j_il2 43 C dX4_moth_43 ?_
        refine j_vi 44 C dX4_moth_44 mv_X0_addMoth lk_X4_93 (c_X0_addMoth lt4_0 hM7 hM0) (rc_d lt4_0) rfl rfl ⟨(Nat.le_of_ble_eq_true rfl), (Nat.le_of_ble_eq_true rfl)⟩ (Nat.le_of_ble_eq_true rfl) (fun r44 g44 hp44 => ?_)
        obtain ⟨hr44, rfl⟩ := hp44
        rw [← hM0] at hr44
        subst hr44
        exact hR dX4_moth_47 (cpX_r (by simp [s_moth, v4, v11, v28]) rfl SC.rfl)
      · have v28 := bi_n c28
        have v28 := of_decide_eq_true v28
        refine j_al0 31 C dX4_moth_31 ?_
        refine j_ldc 32 C dX4_moth_32 cs_X4_92 ?_
        refine j_vi 34 C dX4_moth_34 mv_X4_finding lk_X4_58 (c_X4_finding (f := 1) (by decide) (by decide)) rc_x rfl rfl ⟨(Nat.le_of_ble_eq_true rfl), (Nat.le_of_ble_eq_true rfl)⟩ (Nat.le_of_ble_eq_true rfl) (fun r34 g34 hp34 => ?_)
        obtain ⟨rfl, rfl⟩ := hp34
        exact hR dX4_moth_37 (cpX_f (f := 1) (by simp [s_moth, v4, v11, v28]) (by decide) (by decide) SC.rfl)
    · have v11 := bi_0 c11
      refine j_al0 14 C dX4_moth_14 ?_
      refine j_ldc 15 C dX4_moth_15 cs_X4_57 ?_
      refine j_vi 17 C dX4_moth_17 mv_X4_finding lk_X4_58 (c_X4_finding (f := 0) (by decide) (by decide)) rc_x rfl rfl ⟨(Nat.le_of_ble_eq_true rfl), (Nat.le_of_ble_eq_true rfl)⟩ (Nat.le_of_ble_eq_true rfl) (fun r17 g17 hp17 => ?_)
      obtain ⟨rfl, rfl⟩ := hp17
      exact hR dX4_moth_20 (cpX_f (f := 0) (by simp [s_moth, v4, v11]) (by decide) (by decide) SC.rfl)
set_option maxHeartbeats 2000000 in
set_option maxRecDepth 20000 in
theorem c_X4_of {G : GT} {g : Mem} (hS : SI (g 0)) {T : Nat} (hT : g 0 1 = nI T) (hTb : T ≤ 31000) {m w : Int32} : Cti G yX4_of cX4_of 3 .int 3 70 [.ref (xo G), .int m, .int w] g (fun r g' => cpX (s_of m w (g 0)) g r g') := by
  refine ent_i (by decide) (Nat.le_of_ble_eq_true rfl) [some (.ref (xo G)), some (.int m), some (.int w)] rfl ?_
  intro X C hR
  have C : CX X G RX4 cX4_of 3 3 70 := C
  refine j_al0 0 C dX4_of_0 ?_
  refine j_il1 1 C dX4_of_1 ?_
  refine j_vi 2 C dX4_of_2 mv_X4_isMoth lk_X4_96 (c_X4_isMoth) rc_x rfl rfl ⟨(Nat.le_of_ble_eq_true rfl), (Nat.le_of_ble_eq_true rfl)⟩ (Nat.le_of_ble_eq_true rfl) (fun r2 g2 hp2 => ?_)
  obtain ⟨rfl, rfl⟩ := hp2
  refine j_ifeq 5 17 C dX4_of_5 (by decide) (fun c5 => ?_) (fun c5 => ?_)
  · have v5 := bi_0 c5
    refine j_al0 17 C dX4_of_17 ?_
    refine j_ldc 18 C dX4_of_18 cs_X4_57 ?_
    refine j_vi 20 C dX4_of_20 mv_X4_finding lk_X4_58 (c_X4_finding (f := 0) (by decide) (by decide)) rc_x rfl rfl ⟨(Nat.le_of_ble_eq_true rfl), (Nat.le_of_ble_eq_true rfl)⟩ (Nat.le_of_ble_eq_true rfl) (fun r20 g20 hp20 => ?_)
    obtain ⟨rfl, rfl⟩ := hp20
    exact hR dX4_of_23 (cpX_f (f := 0) (by simp [s_of, v5]) (by decide) (by decide) SC.rfl)
  · have v5 := bi_n c5
    refine j_il2 8 C dX4_of_8 ?_
    refine j_iconst 9 C dX4_of_9 ic_0 ?_
    refine j_iconst 10 C dX4_of_10 ic_4 ?_
    refine j_si 11 C dX4_of_11 ms_X4_within lk_X4_99 (c_X4_within) rfl rfl ⟨(Nat.le_of_ble_eq_true rfl), (Nat.le_of_ble_eq_true rfl)⟩ (Nat.le_of_ble_eq_true rfl) (fun r11 g11 hp11 => ?_)
    obtain ⟨rfl, rfl⟩ := hp11
    refine j_ifne 14 24 C dX4_of_14 (by decide) (fun c14 => ?_) (fun c14 => ?_)
    · have v14 := bi_n c14
      obtain ⟨hM8, hM0⟩ := SI_cl0 hS
      obtain ⟨M, hM, rfl⟩ := isM_nat hM0 hM8 v5
      obtain ⟨W, hW, rfl⟩ := inr_nat (n := 4) (by decide) v14
      refine j_il2 24 C dX4_of_24 ?_
      refine j_iconst 25 C dX4_of_25 ic_4 ?_
      refine j_icne 26 40 C dX4_of_26 (by decide) (fun c26 => ?_) (fun c26 => ?_)
      · refine j_al0 40 C dX4_of_40 ?_
        refine jg_X4_12 41 C dX4_of_41 ?_
        refine j_il1 44 C dX4_of_44 ?_
        refine j_il2 45 C dX4_of_45 ?_
        have hW4 : W < 4 := Nat.lt_of_not_le (fun q => c26 (by rw [show W = 4 by omega]; rfl))
        refine j_vi 46 C dX4_of_46 mv_X0_trait lk_X4_106 (c_X0_trait lt4_0 (by omega) hW4) (rc_d lt4_0) rfl rfl ⟨(Nat.le_of_ble_eq_true rfl), (Nat.le_of_ble_eq_true rfl)⟩ (Nat.le_of_ble_eq_true rfl) (fun r46 g46 hp46 => ?_)
        obtain ⟨rfl, rfl⟩ := hp46
        exact hR dX4_of_49 (cpX_q (by simp [s_of, v5, v14, c26, cl_nI (show M < 2 ^ 31 by omega), cl_nI (show W < 2 ^ 31 by omega), show inr 4 0 4 = true from by decide]) rfl SC.rfl)
      · refine j_al0 29 C dX4_of_29 ?_
        refine jg_X4_12 30 C dX4_of_30 ?_
        refine j_il1 33 C dX4_of_33 ?_
        refine j_vi 34 C dX4_of_34 mv_X0_bittenPlace lk_X4_103 (c_X0_bittenPlace lt4_0 (by omega) hS) (rc_d lt4_0) rfl rfl ⟨(Nat.le_of_ble_eq_true rfl), (Nat.le_of_ble_eq_true rfl)⟩ (Nat.le_of_ble_eq_true rfl) (fun r34 g34 hp34 => ?_)
        obtain ⟨rfl, rfl⟩ := hp34
        refine j_goto 37 49 C dX4_of_37 (by decide) ?_
        exact hR dX4_of_49 (cpX_q (by simp [s_of, v5, v14, c26, cl_nI (show M < 2 ^ 31 by omega), cl_nI (show W < 2 ^ 31 by omega), show inr 4 0 4 = true from by decide]) rfl SC.rfl)
    · have v14 := bi_0 c14
      refine j_al0 17 C dX4_of_17 ?_
      refine j_ldc 18 C dX4_of_18 cs_X4_57 ?_
      refine j_vi 20 C dX4_of_20 mv_X4_finding lk_X4_58 (c_X4_finding (f := 0) (by decide) (by decide)) rc_x rfl rfl ⟨(Nat.le_of_ble_eq_true rfl), (Nat.le_of_ble_eq_true rfl)⟩ (Nat.le_of_ble_eq_true rfl) (fun r20 g20 hp20 => ?_)
      obtain ⟨rfl, rfl⟩ := hp20
      exact hR dX4_of_23 (cpX_f (f := 0) (by simp [s_of, v5, v14]) (by decide) (by decide) SC.rfl)
set_option maxRecDepth 20000 in
theorem c_X4_change {G : GT} {g : Mem} (hS : SI (g 0)) {T : Nat} (hT : g 0 1 = nI T) (hTb : T ≤ 31000) {m w v : Int32} : Cti G yX4_change cX4_change 5 .int 2 43 [.ref (xo G), .int m, .int w, .int v] g (fun r g' => cpX (s_change m w v (g 0)) g r g') := by
  refine ent_i (by decide) (Nat.le_of_ble_eq_true rfl) [some (.ref (xo G)), some (.int m), some (.int w), some (.int v), none] rfl ?_
  intro X C hR
  have C : CX X G RX4 cX4_change 5 2 43 := C
  refine j_al0 0 C dX4_change_0 ?_
  refine j_il1 1 C dX4_change_1 ?_
  refine j_vi 2 C dX4_change_2 mv_X4_isMoth lk_X4_96 (c_X4_isMoth) rc_x rfl rfl ⟨(Nat.le_of_ble_eq_true rfl), (Nat.le_of_ble_eq_true rfl)⟩ (Nat.le_of_ble_eq_true rfl) (fun r2 g2 hp2 => ?_)
  obtain ⟨rfl, rfl⟩ := hp2
  refine j_ifeq 5 34 C dX4_change_5 (by decide) (fun c5 => ?_) (fun c5 => ?_)
  · have v5 := bi_0 c5
    refine j_al0 34 C dX4_change_34 ?_
    refine j_ldc 35 C dX4_change_35 cs_X4_57 ?_
    refine j_vi 37 C dX4_change_37 mv_X4_finding lk_X4_58 (c_X4_finding (f := 0) (by decide) (by decide)) rc_x rfl rfl ⟨(Nat.le_of_ble_eq_true rfl), (Nat.le_of_ble_eq_true rfl)⟩ (Nat.le_of_ble_eq_true rfl) (fun r37 g37 hp37 => ?_)
    obtain ⟨rfl, rfl⟩ := hp37
    exact hR dX4_change_40 (cpX_f (f := 0) (by simp [s_change, v5]) (by decide) (by decide) SC.rfl)
  · have v5 := bi_n c5
    refine j_il2 8 C dX4_change_8 ?_
    refine j_iconst 9 C dX4_change_9 ic_0 ?_
    refine j_iconst 10 C dX4_change_10 ic_3 ?_
    refine j_si 11 C dX4_change_11 ms_X4_within lk_X4_99 (c_X4_within) rfl rfl ⟨(Nat.le_of_ble_eq_true rfl), (Nat.le_of_ble_eq_true rfl)⟩ (Nat.le_of_ble_eq_true rfl) (fun r11 g11 hp11 => ?_)
    obtain ⟨rfl, rfl⟩ := hp11
    refine j_ifeq 14 34 C dX4_change_14 (by decide) (fun c14 => ?_) (fun c14 => ?_)
    · have v14 := bi_0 c14
      refine j_al0 34 C dX4_change_34 ?_
      refine j_ldc 35 C dX4_change_35 cs_X4_57 ?_
      refine j_vi 37 C dX4_change_37 mv_X4_finding lk_X4_58 (c_X4_finding (f := 0) (by decide) (by decide)) rc_x rfl rfl ⟨(Nat.le_of_ble_eq_true rfl), (Nat.le_of_ble_eq_true rfl)⟩ (Nat.le_of_ble_eq_true rfl) (fun r37 g37 hp37 => ?_)
      obtain ⟨rfl, rfl⟩ := hp37
      exact hR dX4_change_40 (cpX_f (f := 0) (by simp [s_change, v5, v14]) (by decide) (by decide) SC.rfl)
    · have v14 := bi_n c14
      obtain ⟨W, hW, rfl⟩ := inr_nat (n := 3) (by decide) v14
      refine j_il3 17 C dX4_change_17 ?_
      refine jgs_X4_109 18 C dX4_change_18 ?_
      refine j_il2 21 C dX4_change_21 ?_
      refine jl_st0 22 (by omega) C dX4_change_22 ?_
      refine jgs_X4_112 23 C dX4_change_23 ?_
      refine j_il2 26 C dX4_change_26 ?_
      refine jl_st1 27 (by omega) C dX4_change_27 ?_
      refine j_si 28 C dX4_change_28 ms_X4_within lk_X4_99 (c_X4_within) rfl rfl ⟨(Nat.le_of_ble_eq_true rfl), (Nat.le_of_ble_eq_true rfl)⟩ (Nat.le_of_ble_eq_true rfl) (fun r28 g28 hp28 => ?_)
      obtain ⟨rfl, rfl⟩ := hp28
      refine j_ifne 31 41 C dX4_change_31 (by decide) (fun c31 => ?_) (fun c31 => ?_)
      · have v31 := bi_n c31
        obtain ⟨hM8, hM0⟩ := SI_cl0 hS
        obtain ⟨M, hM, rfl⟩ := isM_nat hM0 hM8 v5
        refine j_al0 41 C dX4_change_41 ?_
        refine jg_X4_12 42 C dX4_change_42 ?_
        refine j_il1 45 C dX4_change_45 ?_
        refine j_il2 46 C dX4_change_46 ?_
        refine j_vi 47 C dX4_change_47 mv_X0_trait lk_X4_106 (c_X0_trait lt4_0 (by omega) (by omega)) (rc_d lt4_0) rfl rfl ⟨(Nat.le_of_ble_eq_true rfl), (Nat.le_of_ble_eq_true rfl)⟩ (Nat.le_of_ble_eq_true rfl) (fun r47 g47 hp47 => ?_)
        obtain ⟨rfl, rfl⟩ := hp47
        refine j_is4 50 C dX4_change_50 rfl (Nat.le_of_ble_eq_true rfl) ?_
        refine j_al0 52 C dX4_change_52 ?_
        refine jg_X4_12 53 C dX4_change_53 ?_
        refine j_il1 56 C dX4_change_56 ?_
        refine j_il2 57 C dX4_change_57 ?_
        refine j_il3 58 C dX4_change_58 ?_
        refine j_vv 59 C dX4_change_59 mv_X0_setTrait lk_X4_115 (c_X0_setTrait lt4_0 (by omega) (by omega)) (rc_d lt4_0) rfl rfl ⟨(Nat.le_of_ble_eq_true rfl), (Nat.le_of_ble_eq_true rfl)⟩ (Nat.le_of_ble_eq_true rfl) (fun g59 hp59 => ?_)
        obtain rfl := hp59
        refine j_il4 62 C dX4_change_62 ?_
        exact hR dX4_change_64 (cpX_r (by unfold s_change; rw [v5, v14, cl_nI (show W < 2 ^ 31 by omega), v31, cl_nI (show M < 2 ^ 31 by omega)]; rfl) rfl SC.rfl)
      · have v31 := bi_0 c31
        refine j_al0 34 C dX4_change_34 ?_
        refine j_ldc 35 C dX4_change_35 cs_X4_57 ?_
        refine j_vi 37 C dX4_change_37 mv_X4_finding lk_X4_58 (c_X4_finding (f := 0) (by decide) (by decide)) rc_x rfl rfl ⟨(Nat.le_of_ble_eq_true rfl), (Nat.le_of_ble_eq_true rfl)⟩ (Nat.le_of_ble_eq_true rfl) (fun r37 g37 hp37 => ?_)
        obtain ⟨rfl, rfl⟩ := hp37
        exact hR dX4_change_40 (cpX_f (f := 0) (by unfold s_change; rw [v5, v14, cl_nI (show W < 2 ^ 31 by omega), v31]; rfl) (by decide) (by decide) SC.rfl)
set_option maxHeartbeats 2000000 in
set_option maxRecDepth 20000 in
theorem c_X4_leaves {G : GT} {g : Mem} (hS : SI (g 0)) {T : Nat} (hT : g 0 1 = nI T) (hTb : T ≤ 31000) {m x w : Int32} : Cti G yX4_leaves cX4_leaves 5 .int 3 65 [.ref (xo G), .int m, .int x, .int w] g (fun r g' => cpX (s_leaves m x w (g 0)) g r g') := by
  refine ent_i (by decide) (Nat.le_of_ble_eq_true rfl) [some (.ref (xo G)), some (.int m), some (.int x), some (.int w), none] rfl ?_
  intro X C hR
  have C : CX X G RX4 cX4_leaves 5 3 65 := C
  refine j_al0 0 C dX4_leaves_0 ?_
  refine j_il1 1 C dX4_leaves_1 ?_
  refine j_vi 2 C dX4_leaves_2 mv_X4_isMoth lk_X4_96 (c_X4_isMoth) rc_x rfl rfl ⟨(Nat.le_of_ble_eq_true rfl), (Nat.le_of_ble_eq_true rfl)⟩ (Nat.le_of_ble_eq_true rfl) (fun r2 g2 hp2 => ?_)
  obtain ⟨rfl, rfl⟩ := hp2
  refine j_ifeq 5 27 C dX4_leaves_5 (by decide) (fun c5 => ?_) (fun c5 => ?_)
  · have v5 := bi_0 c5
    refine j_al0 27 C dX4_leaves_27 ?_
    refine j_ldc 28 C dX4_leaves_28 cs_X4_57 ?_
    refine j_vi 30 C dX4_leaves_30 mv_X4_finding lk_X4_58 (c_X4_finding (f := 0) (by decide) (by decide)) rc_x rfl rfl ⟨(Nat.le_of_ble_eq_true rfl), (Nat.le_of_ble_eq_true rfl)⟩ (Nat.le_of_ble_eq_true rfl) (fun r30 g30 hp30 => ?_)
    obtain ⟨rfl, rfl⟩ := hp30
    exact hR dX4_leaves_33 (cpX_f (f := 0) (by simp [s_leaves, v5]) (by decide) (by decide) SC.rfl)
  · have v5 := bi_n c5
    refine j_il2 8 C dX4_leaves_8 ?_
    refine j_iconst 9 C dX4_leaves_9 ic_1 ?_
    refine j_bipush 10 C dX4_leaves_10 bp_9 ?_
    refine j_si 12 C dX4_leaves_12 ms_X4_within lk_X4_99 (c_X4_within) rfl rfl ⟨(Nat.le_of_ble_eq_true rfl), (Nat.le_of_ble_eq_true rfl)⟩ (Nat.le_of_ble_eq_true rfl) (fun r12 g12 hp12 => ?_)
    obtain ⟨rfl, rfl⟩ := hp12
    refine j_ifeq 15 27 C dX4_leaves_15 (by decide) (fun c15 => ?_) (fun c15 => ?_)
    · have v15 := bi_0 c15
      refine j_al0 27 C dX4_leaves_27 ?_
      refine j_ldc 28 C dX4_leaves_28 cs_X4_57 ?_
      refine j_vi 30 C dX4_leaves_30 mv_X4_finding lk_X4_58 (c_X4_finding (f := 0) (by decide) (by decide)) rc_x rfl rfl ⟨(Nat.le_of_ble_eq_true rfl), (Nat.le_of_ble_eq_true rfl)⟩ (Nat.le_of_ble_eq_true rfl) (fun r30 g30 hp30 => ?_)
      obtain ⟨rfl, rfl⟩ := hp30
      exact hR dX4_leaves_33 (cpX_f (f := 0) (by simp [s_leaves, v5, v15]) (by decide) (by decide) SC.rfl)
    · have v15 := bi_n c15
      refine j_il3 18 C dX4_leaves_18 ?_
      refine j_iconst 19 C dX4_leaves_19 ic_0 ?_
      refine j_iconst 20 C dX4_leaves_20 ic_1 ?_
      refine j_si 21 C dX4_leaves_21 ms_X4_within lk_X4_99 (c_X4_within) rfl rfl ⟨(Nat.le_of_ble_eq_true rfl), (Nat.le_of_ble_eq_true rfl)⟩ (Nat.le_of_ble_eq_true rfl) (fun r21 g21 hp21 => ?_)
      obtain ⟨rfl, rfl⟩ := hp21
      refine j_ifne 24 34 C dX4_leaves_24 (by decide) (fun c24 => ?_) (fun c24 => ?_)
      · have v24 := bi_n c24
        obtain ⟨hM8, hM0⟩ := SI_cl0 hS
        obtain ⟨M, hM, rfl⟩ := isM_nat hM0 hM8 v5
        obtain ⟨W, hW, rfl⟩ := inr_nat (n := 1) (by decide) v24
        obtain ⟨⟨K, hK, eK⟩, -⟩ := hS.2.2.1 M (by omega)
        refine j_al0 34 C dX4_leaves_34 ?_
        refine jg_X4_12 35 C dX4_leaves_35 ?_
        refine j_il1 38 C dX4_leaves_38 ?_
        refine j_iconst 39 C dX4_leaves_39 ic_0 ?_
        refine j_vi 40 C dX4_leaves_40 mv_X0_trait lk_X4_106 (c_X0_trait (W := 0) lt4_0 (by omega) (by decide)) (rc_d lt4_0) rfl rfl ⟨(Nat.le_of_ble_eq_true rfl), (Nat.le_of_ble_eq_true rfl)⟩ (Nat.le_of_ble_eq_true rfl) (fun r40 g40 hp40 => ?_)
        obtain ⟨hr40, rfl⟩ := hp40
        rw [eK] at hr40
        subst hr40
        refine j_is4 43 C dX4_leaves_43 rfl (Nat.le_of_ble_eq_true rfl) ?_
        refine j_il3 45 C dX4_leaves_45 ?_
        refine j_ifne 46 58 C dX4_leaves_46 (by decide) (fun c46 => ?_) (fun c46 => ?_)
        · refine j_il4 58 C dX4_leaves_58 ?_
          refine j_il2 60 C dX4_leaves_60 ?_
          refine j_si 61 C dX4_leaves_61 ms_X1_gainBy lk_X4_123 (c_X1_gainBy hK) rfl rfl ⟨(Nat.le_of_ble_eq_true rfl), (Nat.le_of_ble_eq_true rfl)⟩ (Nat.le_of_ble_eq_true rfl) (fun r61 g61 hp61 => ?_)
          obtain ⟨rfl, rfl⟩ := hp61
          exact hR dX4_leaves_64 (cpX_q (by simp [s_leaves, v5, v15, v24, c46, eK, cl_nI (show M < 2 ^ 31 by omega), cl_nI (show W < 2 ^ 31 by omega), cl_nI (show K < 2 ^ 31 by omega), show inr 0 0 1 = true from by decide]) rfl SC.rfl)
        · refine j_il4 49 C dX4_leaves_49 ?_
          refine j_il2 51 C dX4_leaves_51 ?_
          refine j_si 52 C dX4_leaves_52 ms_X1_leftOf lk_X4_118 (c_X1_leftOf hK) rfl rfl ⟨(Nat.le_of_ble_eq_true rfl), (Nat.le_of_ble_eq_true rfl)⟩ (Nat.le_of_ble_eq_true rfl) (fun r52 g52 hp52 => ?_)
          obtain ⟨rfl, rfl⟩ := hp52
          refine j_goto 55 64 C dX4_leaves_55 (by decide) ?_
          exact hR dX4_leaves_64 (cpX_q (by simp [s_leaves, v5, v15, v24, c46, eK, cl_nI (show M < 2 ^ 31 by omega), cl_nI (show W < 2 ^ 31 by omega), cl_nI (show K < 2 ^ 31 by omega), show inr 0 0 1 = true from by decide]) rfl SC.rfl)
      · have v24 := bi_0 c24
        refine j_al0 27 C dX4_leaves_27 ?_
        refine j_ldc 28 C dX4_leaves_28 cs_X4_57 ?_
        refine j_vi 30 C dX4_leaves_30 mv_X4_finding lk_X4_58 (c_X4_finding (f := 0) (by decide) (by decide)) rc_x rfl rfl ⟨(Nat.le_of_ble_eq_true rfl), (Nat.le_of_ble_eq_true rfl)⟩ (Nat.le_of_ble_eq_true rfl) (fun r30 g30 hp30 => ?_)
        obtain ⟨rfl, rfl⟩ := hp30
        exact hR dX4_leaves_33 (cpX_f (f := 0) (by simp [s_leaves, v5, v15, v24]) (by decide) (by decide) SC.rfl)
