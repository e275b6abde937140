theorem bp_102 : (Int8.ofInt (102)).toInt32 = 102 := by decide
theorem bp_110 : (Int8.ofInt (110)).toInt32 = 110 := by decide
theorem p_tr_0 {B : Nat → Nat} {m k W lo hi M : Nat} {s : PS} : (p_tr B m k W lo hi M s).2.1 0 = s.1 0 := by
  unfold p_tr
  by_cases h : nmk B k s.2 = true
  · rw [if_pos h]
    by_cases h2 : okn (nx B m s.2) lo hi = true
    · rw [if_pos h2]; exact upd_n (by omega)
    · rw [if_neg h2]
  · rw [if_neg h]
theorem addm_0 {S : Row} {M : Nat} {k p : Int32} : addm S M k p 0 = nI (M + 1) := upd_s
set_option maxRecDepth 20000 in
theorem c_X5_mothHere {G : GT} {g : Mem} {B : Nat → Nat} {m : Nat} (hB : BYM (g 17) B m) {t : Tk} (hV : TKM (g 22) m t) (ht : TOK B m t) (hS : SI (g 12)) {K : Nat} (hK : K ≤ 6) : Cti G yX5_mothHere cX5_mothHere 2 .boolean 3 71 [.ref (mo G), .int (nI K)] g (fun r g' => PQ g m (p_moth B m K (g 12, t)) r g') := by
  refine ent_z (by decide) (Nat.le_of_ble_eq_true rfl) [some (.ref (mo G)), some (.int (nI K))] rfl ?_
  intro X C hR
  have C : CX X G RX5 cX5_mothHere 2 3 71 := C
  obtain ⟨hM8, hM0⟩ := SI_cl0 hS
  generalize hMM : cl (g 12 0) = M at hM8 hM0
  refine j_al0 0 C dX5_mothHere_0 ?_
  refine jg_X5_7 1 C dX5_mothHere_1 ?_
  refine j_iconst 4 C dX5_mothHere_4 ic_0 ?_
  refine j_top (nI (0)) rfl ?_
  refine jl_A0 5 (by omega) C dX5_mothHere_5 ?_
  refine j_bipush 6 C dX5_mothHere_6 bp_8 ?_
  refine j_icne 8 16 C dX5_mothHere_8 (by decide) (fun c8 => ?_) (fun c8 => ?_)
  · have hM : M < 8 := by
      rcases Nat.lt_or_eq_of_le hM8 with h | h
      · exact h
      · exact absurd (show g 12 0 = 8 by rw [hM0, h]; rfl) c8
    have hpm : p_moth B m K (g 12, t) = andp (andp (p_tr B m 2 1 0 5 M ((addm (g 12) M (nI K) 0), (nx B m t))) (p_tr B m 3 2 1 9 M)) (p_tr B m 4 3 0 999 M) := by unfold p_moth; rw [if_neg (show ¬ 8 ≤ cl (g 12 0) by omega)]; show andp (andp (p_tr B m 2 1 0 5 (cl (g 12 0)) (addm (g 12) (cl (g 12 0)) (nI K) 0, _)) (p_tr B m 3 2 1 9 (cl (g 12 0)))) _ = _; rw [hMM]
    have a0 : (addm (g 12) M (nI K) 0) 0 = nI (M + 1) := addm_0
    have ht1 := (nx_TOK ht).1
    have ht2 : TOK B m (p_tr B m 2 1 0 5 M ((addm (g 12) M (nI K) 0), (nx B m t))).2.2 := (p_tr_G (b := 0) (s := ((addm (g 12) M (nI K) 0), (nx B m t))) ⟨ht1, Nat.zero_le _⟩).1
    have ht3 : TOK B m (p_tr B m 3 2 1 9 M (p_tr B m 2 1 0 5 M ((addm (g 12) M (nI K) 0), (nx B m t))).2).2.2 := (p_tr_G (b := 0) (s := (p_tr B m 2 1 0 5 M ((addm (g 12) M (nI K) 0), (nx B m t))).2) ⟨ht2, Nat.zero_le _⟩).1
    refine j_al0 16 C dX5_mothHere_16 ?_
    refine j_il1 17 C dX5_mothHere_17 ?_
    refine j_iconst 18 C dX5_mothHere_18 ic_0 ?_
    refine j_vv 19 C dX5_mothHere_19 mv_X5_comes lk_X5_90 (c_X5_comes hM hM0) rc_m rfl rfl ⟨(Nat.le_of_ble_eq_true rfl), (Nat.le_of_ble_eq_true rfl)⟩ (Nat.le_of_ble_eq_true rfl) (fun g19 hp19 => ?_)
    obtain rfl := hp19
    refine j_al0 22 C dX5_mothHere_22 ?_
    refine j_vv 23 C dX5_mothHere_23 mv_X5_nextToken lk_X5_261 (c_X5_nextToken (by rw [ub_n (by decide)]; exact hB) (by rw [ub_n (by decide)]; exact hV.1) ht.2.1 (by rw [ub_n (by decide)]; exact hV.2.2.2.1)) rc_m rfl rfl ⟨(Nat.le_of_ble_eq_true rfl), (Nat.le_of_ble_eq_true rfl)⟩ (Nat.le_of_ble_eq_true rfl) (fun g23 hp23 => ?_)
    obtain ⟨V1, rfl, hV1, k1, k16⟩ := hp23
    have hV1 : TKM V1 m (nx B m t) := hV1
    rw [ub_n (show (22 : Nat) ≠ 12 by decide)] at k1
    refine j_al0 26 C dX5_mothHere_26 ?_
    refine j_al0 27 C dX5_mothHere_27 ?_
    refine j_bipush 28 C dX5_mothHere_28 bp_111 ?_
    refine j_bipush 30 C dX5_mothHere_30 bp_110 ?_
    refine j_vi 32 C dX5_mothHere_32 mv_X5_isTwo lk_X5_267 (c_X5_isTwo (g := MM3 g (addm (g 12) M (nI K) 0) V1) (t := (nx B m t)) (by rw [m3_17]; exact hB) (by rw [m3_22]; exact hV1) ht1 (k := 2) (by decide) (by decide) (by decide) (by decide)) rc_m rfl rfl ⟨(Nat.le_of_ble_eq_true rfl), (Nat.le_of_ble_eq_true rfl)⟩ (Nat.le_of_ble_eq_true rfl) (fun r32 g32 hp32 => ?_)
    obtain ⟨rfl, rfl⟩ := hp32
    refine j_iconst 35 C dX5_mothHere_35 ic_1 ?_
    refine j_iconst 36 C dX5_mothHere_36 ic_0 ?_
    refine j_iconst 37 C dX5_mothHere_37 ic_5 ?_
    refine j_vi 38 C dX5_mothHere_38 mv_X5_perhaps lk_X5_270 (c_X5_perhaps (g := MM3 g (addm (g 12) M (nI K) 0) V1) (t := (nx B m t)) (by rw [m3_17]; exact hB) (by rw [m3_22]; exact hV1) ht1 (fl := nmk B 2 (nx B m t)) (k := 2) (W := 1) (lo := 0) (hi := 5) (M := M) rfl (by decide) (by decide) (by decide) hM (by rw [m3_12]; exact a0)) rc_m rfl rfl ⟨(Nat.le_of_ble_eq_true rfl), (Nat.le_of_ble_eq_true rfl)⟩ (Nat.le_of_ble_eq_true rfl) (fun r38 g38 hp38 => ?_)
    rw [m3_12] at hp38
    obtain ⟨rfl, R2, V2, rfl, hR2, hV2, k2, k26⟩ := hp38
    rw [m3_22] at k2
    rw [m3_m3]
    have k2 : V2 0 = g 22 0 := k2.trans k1
    refine j_ifeq 41 112 C dX5_mothHere_41 (by decide) (fun c41 => ?_) (fun c41 => ?_)
    · have q1 := bi_0 c41
      have hp : p_moth B m K (g 12, t) = (p_tr B m 2 1 0 5 M ((addm (g 12) M (nI K) 0), (nx B m t))) := by rw [hpm, andp_f q1, andp_f q1]
      refine j_iconst 112 C dX5_mothHere_112 ic_0 ?_
      exact hR dX5_mothHere_113 (Or.inl rfl) (by rw [hp]; exact ⟨(by rw [q1]; rfl), R2, V2, rfl, hR2, hV2, k2, k26⟩)
    · have q1 := bi_n c41
      obtain rfl := hR2 q1
      refine j_al0 44 C dX5_mothHere_44 ?_
      refine j_al0 45 C dX5_mothHere_45 ?_
      refine j_bipush 46 C dX5_mothHere_46 bp_116 ?_
      refine j_bipush 48 C dX5_mothHere_48 bp_97 ?_
      refine j_bipush 50 C dX5_mothHere_50 bp_115 ?_
      refine j_bipush 52 C dX5_mothHere_52 bp_116 ?_
      refine j_bipush 54 C dX5_mothHere_54 bp_101 ?_
      refine j_vi 56 C dX5_mothHere_56 mv_X5_isFive lk_X5_253 (c_X5_isFive (g := MM3 g (p_tr B m 2 1 0 5 M ((addm (g 12) M (nI K) 0), (nx B m t))).2.1 V2) (t := (p_tr B m 2 1 0 5 M ((addm (g 12) M (nI K) 0), (nx B m t))).2.2) (by rw [m3_17]; exact hB) (by rw [m3_22]; exact hV2) ht2 (k := 3) (by decide) (by decide) (by decide) (by decide) (by decide) (by decide) (by decide)) rc_m rfl rfl ⟨(Nat.le_of_ble_eq_true rfl), (Nat.le_of_ble_eq_true rfl)⟩ (Nat.le_of_ble_eq_true rfl) (fun r56 g56 hp56 => ?_)
      obtain ⟨rfl, rfl⟩ := hp56
      refine j_iconst 59 C dX5_mothHere_59 ic_2 ?_
      refine j_iconst 60 C dX5_mothHere_60 ic_1 ?_
      refine j_bipush 61 C dX5_mothHere_61 bp_9 ?_
      refine j_vi 63 C dX5_mothHere_63 mv_X5_perhaps lk_X5_270 (c_X5_perhaps (g := MM3 g (p_tr B m 2 1 0 5 M ((addm (g 12) M (nI K) 0), (nx B m t))).2.1 V2) (t := (p_tr B m 2 1 0 5 M ((addm (g 12) M (nI K) 0), (nx B m t))).2.2) (by rw [m3_17]; exact hB) (by rw [m3_22]; exact hV2) ht2 (fl := nmk B 3 (p_tr B m 2 1 0 5 M ((addm (g 12) M (nI K) 0), (nx B m t))).2.2) (k := 3) (W := 2) (lo := 1) (hi := 9) (M := M) rfl (by decide) (by decide) (by decide) hM (by rw [m3_12]; exact p_tr_0.trans a0)) rc_m rfl rfl ⟨(Nat.le_of_ble_eq_true rfl), (Nat.le_of_ble_eq_true rfl)⟩ (Nat.le_of_ble_eq_true rfl) (fun r63 g63 hp63 => ?_)
      rw [m3_12] at hp63
      obtain ⟨rfl, R3, V3, rfl, hR3, hV3, k3, k36⟩ := hp63
      rw [m3_22] at k3
      rw [m3_m3]
      have k3 : V3 0 = g 22 0 := k3.trans k2
      refine j_ifeq 66 112 C dX5_mothHere_66 (by decide) (fun c66 => ?_) (fun c66 => ?_)
      · have q2 := bi_0 c66
        have hp : p_moth B m K (g 12, t) = (p_tr B m 3 2 1 9 M (p_tr B m 2 1 0 5 M ((addm (g 12) M (nI K) 0), (nx B m t))).2) := by rw [hpm, andp_t q1, andp_f q2]
        refine j_iconst 112 C dX5_mothHere_112 ic_0 ?_
        exact hR dX5_mothHere_113 (Or.inl rfl) (by rw [hp]; exact ⟨(by rw [q2]; rfl), R3, V3, rfl, hR3, hV3, k3, k36⟩)
      · have q2 := bi_n c66
        obtain rfl := hR3 q2
        have hc4 : nmk B 4 (p_tr B m 3 2 1 9 M (p_tr B m 2 1 0 5 M ((addm (g 12) M (nI K) 0), (nx B m t))).2).2.2 = (iw (p_tr B m 3 2 1 9 M (p_tr B m 2 1 0 5 M ((addm (g 12) M (nI K) 0), (nx B m t))).2).2.2 3 && h3 B m (p_tr B m 3 2 1 9 M (p_tr B m 2 1 0 5 M ((addm (g 12) M (nI K) 0), (nx B m t))).2).2.2.2.1 0 102 101 100) := by
          rw [nmk_iw (fun j hj => (hB.2 j hj).1) ht3 (by decide) (show sl 4 = 3 by decide), al3]
          rfl
        refine j_al0 69 C dX5_mothHere_69 ?_
        refine j_al0 70 C dX5_mothHere_70 ?_
        refine j_iconst 71 C dX5_mothHere_71 ic_3 ?_
        refine j_vi 72 C dX5_mothHere_72 mv_X5_isWord lk_X5_240 (c_X5_isWord (g := MM3 g (p_tr B m 3 2 1 9 M (p_tr B m 2 1 0 5 M ((addm (g 12) M (nI K) 0), (nx B m t))).2).2.1 V3) (t := (p_tr B m 3 2 1 9 M (p_tr B m 2 1 0 5 M ((addm (g 12) M (nI K) 0), (nx B m t))).2).2.2) (by rw [m3_17]; exact hB) (by rw [m3_22]; exact hV3) ht3 (n := 3) (by decide)) rc_m rfl rfl ⟨(Nat.le_of_ble_eq_true rfl), (Nat.le_of_ble_eq_true rfl)⟩ (Nat.le_of_ble_eq_true rfl) (fun r72 g72 hp72 => ?_)
        obtain ⟨rfl, rfl⟩ := hp72
        refine j_ifeq 75 96 C dX5_mothHere_75 (by decide) (fun c75 => ?_) (fun c75 => ?_)
        · have v75 := bi_0 c75
          refine j_iconst 96 C dX5_mothHere_96 ic_0 ?_
          refine j_iconst 97 C dX5_mothHere_97 ic_3 ?_
          refine j_iconst 98 C dX5_mothHere_98 ic_0 ?_
          refine j_sipush 99 C dX5_mothHere_99 sq_999 ?_
          refine j_vi 102 C dX5_mothHere_102 mv_X5_perhaps lk_X5_270 (c_X5_perhaps (g := MM3 g (p_tr B m 3 2 1 9 M (p_tr B m 2 1 0 5 M ((addm (g 12) M (nI K) 0), (nx B m t))).2).2.1 V3) (t := (p_tr B m 3 2 1 9 M (p_tr B m 2 1 0 5 M ((addm (g 12) M (nI K) 0), (nx B m t))).2).2.2) (fl := false) (k := 4) (W := 3) (lo := 0) (hi := 999) (M := M) (by rw [m3_17]; exact hB) (by rw [m3_22]; exact hV3) ht3 (by rw [hc4, v75]; rfl) (by decide) (by decide) (by decide) hM (by rw [m3_12]; exact p_tr_0.trans (p_tr_0.trans a0))) rc_m rfl rfl ⟨(Nat.le_of_ble_eq_true rfl), (Nat.le_of_ble_eq_true rfl)⟩ (Nat.le_of_ble_eq_true rfl) (fun r102 g102 hp102 => ?_)
          rw [m3_12] at hp102
          obtain ⟨rfl, R4, V4, rfl, hR4, hV4, k4, k46⟩ := hp102
          rw [m3_22] at k4
          rw [m3_m3]
          have k4 : V4 0 = g 22 0 := k4.trans k3
          refine j_ifeq 105 112 C dX5_mothHere_105 (by decide) (fun c105 => ?_) (fun c105 => ?_)
          · have hp : p_moth B m K (g 12, t) = (p_tr B m 4 3 0 999 M (p_tr B m 3 2 1 9 M (p_tr B m 2 1 0 5 M ((addm (g 12) M (nI K) 0), (nx B m t))).2).2) := by rw [hpm, andp_t q1, andp_t q2]
            have q3 := bi_0 c105
            refine j_iconst 112 C dX5_mothHere_112 ic_0 ?_
            exact hR dX5_mothHere_113 (Or.inl rfl) (by rw [hp]; exact ⟨(by rw [q3]; rfl), R4, V4, rfl, hR4, hV4, k4, k46⟩)
          · have hp : p_moth B m K (g 12, t) = (p_tr B m 4 3 0 999 M (p_tr B m 3 2 1 9 M (p_tr B m 2 1 0 5 M ((addm (g 12) M (nI K) 0), (nx B m t))).2).2) := by rw [hpm, andp_t q1, andp_t q2]
            have q3 := bi_n c105
            refine j_iconst 108 C dX5_mothHere_108 ic_1 ?_
            refine j_goto 109 113 C dX5_mothHere_109 (by decide) ?_
            exact hR dX5_mothHere_113 (Or.inr rfl) (by rw [hp]; exact ⟨(by rw [q3]; rfl), R4, V4, rfl, hR4, hV4, k4, k46⟩)
        · have v75 := bi_n c75
          refine j_al0 78 C dX5_mothHere_78 ?_
          refine j_iconst 79 C dX5_mothHere_79 ic_0 ?_
          refine j_bipush 80 C dX5_mothHere_80 bp_102 ?_
          refine j_bipush 82 C dX5_mothHere_82 bp_101 ?_
          refine j_bipush 84 C dX5_mothHere_84 bp_100 ?_
          refine j_vi 86 C dX5_mothHere_86 mv_X5_has3 lk_X5_243 (c_X5_has3 (g := MM3 g (p_tr B m 3 2 1 9 M (p_tr B m 2 1 0 5 M ((addm (g 12) M (nI K) 0), (nx B m t))).2).2.1 V3) (t := (p_tr B m 3 2 1 9 M (p_tr B m 2 1 0 5 M ((addm (g 12) M (nI K) 0), (nx B m t))).2).2.2) (by rw [m3_17]; exact hB) (by rw [m3_22]; exact hV3) ht3 (o := 0) (by decide)) rc_m rfl rfl ⟨(Nat.le_of_ble_eq_true rfl), (Nat.le_of_ble_eq_true rfl)⟩ (Nat.le_of_ble_eq_true rfl) (fun r86 g86 hp86 => ?_)
          obtain ⟨rfl, rfl⟩ := hp86
          refine j_ifeq 89 96 C dX5_mothHere_89 (by decide) (fun c89 => ?_) (fun c89 => ?_)
          · have v89 := bi_0 c89
            refine j_iconst 96 C dX5_mothHere_96 ic_0 ?_
            refine j_iconst 97 C dX5_mothHere_97 ic_3 ?_
            refine j_iconst 98 C dX5_mothHere_98 ic_0 ?_
            refine j_sipush 99 C dX5_mothHere_99 sq_999 ?_
            refine j_vi 102 C dX5_mothHere_102 mv_X5_perhaps lk_X5_270 (c_X5_perhaps (g := MM3 g (p_tr B m 3 2 1 9 M (p_tr B m 2 1 0 5 M ((addm (g 12) M (nI K) 0), (nx B m t))).2).2.1 V3) (t := (p_tr B m 3 2 1 9 M (p_tr B m 2 1 0 5 M ((addm (g 12) M (nI K) 0), (nx B m t))).2).2.2) (fl := false) (k := 4) (W := 3) (lo := 0) (hi := 999) (M := M) (by rw [m3_17]; exact hB) (by rw [m3_22]; exact hV3) ht3 (by rw [hc4, v75, v89]; rfl) (by decide) (by decide) (by decide) hM (by rw [m3_12]; exact p_tr_0.trans (p_tr_0.trans a0))) rc_m rfl rfl ⟨(Nat.le_of_ble_eq_true rfl), (Nat.le_of_ble_eq_true rfl)⟩ (Nat.le_of_ble_eq_true rfl) (fun r102 g102 hp102 => ?_)
            rw [m3_12] at hp102
            obtain ⟨rfl, R4, V4, rfl, hR4, hV4, k4, k46⟩ := hp102
            rw [m3_22] at k4
            rw [m3_m3]
            have k4 : V4 0 = g 22 0 := k4.trans k3
            refine j_ifeq 105 112 C dX5_mothHere_105 (by decide) (fun c105 => ?_) (fun c105 => ?_)
            · have hp : p_moth B m K (g 12, t) = (p_tr B m 4 3 0 999 M (p_tr B m 3 2 1 9 M (p_tr B m 2 1 0 5 M ((addm (g 12) M (nI K) 0), (nx B m t))).2).2) := by rw [hpm, andp_t q1, andp_t q2]
              have q3 := bi_0 c105
              refine j_iconst 112 C dX5_mothHere_112 ic_0 ?_
              exact hR dX5_mothHere_113 (Or.inl rfl) (by rw [hp]; exact ⟨(by rw [q3]; rfl), R4, V4, rfl, hR4, hV4, k4, k46⟩)
            · have hp : p_moth B m K (g 12, t) = (p_tr B m 4 3 0 999 M (p_tr B m 3 2 1 9 M (p_tr B m 2 1 0 5 M ((addm (g 12) M (nI K) 0), (nx B m t))).2).2) := by rw [hpm, andp_t q1, andp_t q2]
              have q3 := bi_n c105
              refine j_iconst 108 C dX5_mothHere_108 ic_1 ?_
              refine j_goto 109 113 C dX5_mothHere_109 (by decide) ?_
              exact hR dX5_mothHere_113 (Or.inr rfl) (by rw [hp]; exact ⟨(by rw [q3]; rfl), R4, V4, rfl, hR4, hV4, k4, k46⟩)
          · have v89 := bi_n c89
            refine j_iconst 92 C dX5_mothHere_92 ic_1 ?_
            refine j_goto 93 97 C dX5_mothHere_93 (by decide) ?_
            refine j_iconst 97 C dX5_mothHere_97 ic_3 ?_
            refine j_iconst 98 C dX5_mothHere_98 ic_0 ?_
            refine j_sipush 99 C dX5_mothHere_99 sq_999 ?_
            refine j_vi 102 C dX5_mothHere_102 mv_X5_perhaps lk_X5_270 (c_X5_perhaps (g := MM3 g (p_tr B m 3 2 1 9 M (p_tr B m 2 1 0 5 M ((addm (g 12) M (nI K) 0), (nx B m t))).2).2.1 V3) (t := (p_tr B m 3 2 1 9 M (p_tr B m 2 1 0 5 M ((addm (g 12) M (nI K) 0), (nx B m t))).2).2.2) (fl := true) (k := 4) (W := 3) (lo := 0) (hi := 999) (M := M) (by rw [m3_17]; exact hB) (by rw [m3_22]; exact hV3) ht3 (by rw [hc4, v75, v89]; rfl) (by decide) (by decide) (by decide) hM (by rw [m3_12]; exact p_tr_0.trans (p_tr_0.trans a0))) rc_m rfl rfl ⟨(Nat.le_of_ble_eq_true rfl), (Nat.le_of_ble_eq_true rfl)⟩ (Nat.le_of_ble_eq_true rfl) (fun r102 g102 hp102 => ?_)
            rw [m3_12] at hp102
            obtain ⟨rfl, R4, V4, rfl, hR4, hV4, k4, k46⟩ := hp102
            rw [m3_22] at k4
            rw [m3_m3]
            have k4 : V4 0 = g 22 0 := k4.trans k3
            refine j_ifeq 105 112 C dX5_mothHere_105 (by decide) (fun c105 => ?_) (fun c105 => ?_)
            · have hp : p_moth B m K (g 12, t) = (p_tr B m 4 3 0 999 M (p_tr B m 3 2 1 9 M (p_tr B m 2 1 0 5 M ((addm (g 12) M (nI K) 0), (nx B m t))).2).2) := by rw [hpm, andp_t q1, andp_t q2]
              have q3 := bi_0 c105
              refine j_iconst 112 C dX5_mothHere_112 ic_0 ?_
              exact hR dX5_mothHere_113 (Or.inl rfl) (by rw [hp]; exact ⟨(by rw [q3]; rfl), R4, V4, rfl, hR4, hV4, k4, k46⟩)
            · have hp : p_moth B m K (g 12, t) = (p_tr B m 4 3 0 999 M (p_tr B m 3 2 1 9 M (p_tr B m 2 1 0 5 M ((addm (g 12) M (nI K) 0), (nx B m t))).2).2) := by rw [hpm, andp_t q1, andp_t q2]
              have q3 := bi_n c105
              refine j_iconst 108 C dX5_mothHere_108 ic_1 ?_
              refine j_goto 109 113 C dX5_mothHere_109 (by decide) ?_
              exact hR dX5_mothHere_113 (Or.inr rfl) (by rw [hp]; exact ⟨(by rw [q3]; rfl), R4, V4, rfl, hR4, hV4, k4, k46⟩)
  · have h8 : M = 8 := (nI_eq (a := M) (b := 8) (by omega) (by decide)).mp (hM0.symm.trans c8)
    have hp : p_moth B m K (g 12, t) = (false, (g 12, t)) := by unfold p_moth; exact if_pos (by show 8 ≤ cl (g 12 0); omega)
    refine j_al0 11 C dX5_mothHere_11 ?_
    refine j_vi 12 C dX5_mothHere_12 mv_X5_fails lk_X5_247 (c_X5_fails) rc_m rfl rfl ⟨(Nat.le_of_ble_eq_true rfl), (Nat.le_of_ble_eq_true rfl)⟩ (Nat.le_of_ble_eq_true rfl) (fun r12 g12 hp12 => ?_)
    obtain ⟨rfl, rfl⟩ := hp12
    exact hR dX5_mothHere_15 (Or.inl rfl) (by rw [hp]; exact ⟨rfl, g 12, upd (g 22) 6 (g 22 3), m3_o, fun z => (by cases z), TKM_6 hV, upd_n (by decide), fun _ => upd_s.trans hV.2.2.1⟩)
