theorem bp_60 : (Int8.ofInt (60)).toInt32 = 60 := by decide
theorem bp_100 : (Int8.ofInt (100)).toInt32 = 100 := by decide
theorem sq_200 : (Int16.ofInt (200)).toInt32 = 200 := by decide
theorem sq_324 : (Int16.ofInt (324)).toInt32 = 324 := by decide
set_option maxRecDepth 20000 in
theorem c_X4_page {G : GT} {g : Mem} (hS : SI (g 0)) {T : Nat} (hT : g 0 1 = nI T) (hTb : T ≤ 31000) {p w : Int32} : Cti G yX4_page cX4_page 3 .int 3 66 [.ref (xo G), .int p, .int w] g (fun r g' => cpX (s_page p w (g 0)) g r g') := by
  refine ent_i (by decide) (Nat.le_of_ble_eq_true rfl) [some (.ref (xo G)), some (.int p), some (.int w)] rfl ?_
  intro X C hR
  have C : CX X G RX4 cX4_page 3 3 66 := C
  refine j_il1 0 C dX4_page_0 ?_
  refine j_si 1 C dX4_page_1 ms_X4_isPage lk_X4_47 (c_X4_isPage) rfl rfl ⟨(Nat.le_of_ble_eq_true rfl), (Nat.le_of_ble_eq_true rfl)⟩ (Nat.le_of_ble_eq_true rfl) (fun r1 g1 hp1 => ?_)
  obtain ⟨rfl, rfl⟩ := hp1
  refine j_ifne 4 14 C dX4_page_4 (by decide) (fun c4 => ?_) (fun c4 => ?_)
  · have v4 := bi_n c4
    obtain ⟨hM8, hM0⟩ := SI_cl0 hS
    obtain ⟨P, hP, rfl⟩ := inr_nat (n := 5) (by decide) v4
    refine j_il2 14 C dX4_page_14 ?_
    by_cases hw : inr w 0 3 = true
    · obtain ⟨W, hW, rfl⟩ := inr_nat (n := 3) (by decide) hw
      rcases (show W = 0 ∨ W = 1 ∨ W = 2 ∨ W = 3 by omega) with rfl | rfl | rfl | rfl
      · refine j_tsIn 15 44 (off := 29) C dX4_page_15 (by decide) (by decide) (by decide) (by decide) ?_
        refine j_al0 44 C dX4_page_44 ?_
        refine jg_X4_12 45 C dX4_page_45 ?_
        refine j_il1 48 C dX4_page_48 ?_
        refine j_vi 49 C dX4_page_49 mv_X0_saidBy lk_X4_70 (c_X0_saidBy lt4_0 (by omega)) (rc_d lt4_0) rfl rfl ⟨(Nat.le_of_ble_eq_true rfl), (Nat.le_of_ble_eq_true rfl)⟩ (Nat.le_of_ble_eq_true rfl) (fun r49 g49 hp49 => ?_)
        obtain ⟨rfl, rfl⟩ := hp49
        exact hR dX4_page_52 (cpX_q (by unfold s_page; rw [v4, hw, cl_nI (show P < 2 ^ 31 by omega)]; rfl) rfl SC.rfl)
      · refine j_tsIn 15 53 (off := 38) C dX4_page_15 (by decide) (by decide) (by decide) (by decide) ?_
        refine j_al0 53 C dX4_page_53 ?_
        refine jg_X4_12 54 C dX4_page_54 ?_
        refine j_il1 57 C dX4_page_57 ?_
        refine j_vi 58 C dX4_page_58 mv_X0_holesOf lk_X4_73 (c_X0_holesOf lt4_0 (by omega)) (rc_d lt4_0) rfl rfl ⟨(Nat.le_of_ble_eq_true rfl), (Nat.le_of_ble_eq_true rfl)⟩ (Nat.le_of_ble_eq_true rfl) (fun r58 g58 hp58 => ?_)
        obtain ⟨rfl, rfl⟩ := hp58
        exact hR dX4_page_61 (cpX_q (by unfold s_page; rw [v4, hw, cl_nI (show P < 2 ^ 31 by omega)]; rfl) rfl SC.rfl)
      · refine j_tsIn 15 62 (off := 47) C dX4_page_15 (by decide) (by decide) (by decide) (by decide) ?_
        refine j_al0 62 C dX4_page_62 ?_
        refine jg_X4_12 63 C dX4_page_63 ?_
        refine j_il1 66 C dX4_page_66 ?_
        refine j_vi 67 C dX4_page_67 mv_X0_mothsOn lk_X4_76 (c_X0_mothsOn lt4_0 hM8 hM0) (rc_d lt4_0) rfl rfl ⟨(Nat.le_of_ble_eq_true rfl), (Nat.le_of_ble_eq_true rfl)⟩ (Nat.le_of_ble_eq_true rfl) (fun r67 g67 hp67 => ?_)
        obtain ⟨rfl, rfl⟩ := hp67
        exact hR dX4_page_70 (cpX_q (by unfold s_page; rw [v4, hw, cl_nI (show P < 2 ^ 31 by omega)]; rfl) rfl SC.rfl)
      · refine j_tsIn 15 71 (off := 56) C dX4_page_15 (by decide) (by decide) (by decide) (by decide) ?_
        refine j_al0 71 C dX4_page_71 ?_
        refine jg_X4_12 72 C dX4_page_72 ?_
        refine j_il1 75 C dX4_page_75 ?_
        refine j_vi 76 C dX4_page_76 mv_X0_placesWithWords lk_X4_79 (c_X0_placesWithWords lt4_0 (by omega)) (rc_d lt4_0) rfl rfl ⟨(Nat.le_of_ble_eq_true rfl), (Nat.le_of_ble_eq_true rfl)⟩ (Nat.le_of_ble_eq_true rfl) (fun r76 g76 hp76 => ?_)
        obtain ⟨rfl, rfl⟩ := hp76
        exact hR dX4_page_79 (cpX_q (by unfold s_page; rw [v4, hw, cl_nI (show P < 2 ^ 31 by omega)]; rfl) rfl SC.rfl)
    · rw [Bool.not_eq_true] at hw
      refine j_tsOut 15 80 C dX4_page_15 (ts_out hw (by decide)) (by decide) ?_
      refine j_al0 80 C dX4_page_80 ?_
      refine j_ldc 81 C dX4_page_81 cs_X4_57 ?_
      refine j_vi 83 C dX4_page_83 mv_X4_finding lk_X4_58 (c_X4_finding (f := 0) (by decide) (by decide)) rc_x rfl rfl ⟨(Nat.le_of_ble_eq_true rfl), (Nat.le_of_ble_eq_true rfl)⟩ (Nat.le_of_ble_eq_true rfl) (fun r83 g83 hp83 => ?_)
      obtain ⟨rfl, rfl⟩ := hp83
      exact hR dX4_page_86 (cpX_f (f := 0) (by simp [s_page, v4, hw]) (by decide) (by decide) SC.rfl)
  · have v4 := bi_0 c4
    refine j_al0 7 C dX4_page_7 ?_
    refine j_ldc 8 C dX4_page_8 cs_X4_57 ?_
    refine j_vi 10 C dX4_page_10 mv_X4_finding lk_X4_58 (c_X4_finding (f := 0) (by decide) (by decide)) rc_x rfl rfl ⟨(Nat.le_of_ble_eq_true rfl), (Nat.le_of_ble_eq_true rfl)⟩ (Nat.le_of_ble_eq_true rfl) (fun r10 g10 hp10 => ?_)
    obtain ⟨rfl, rfl⟩ := hp10
    exact hR dX4_page_13 (cpX_f (f := 0) (by simp [s_page, v4]) (by decide) (by decide) SC.rfl)
set_option maxRecDepth 20000 in
theorem c_X4_now {G : GT} {g : Mem} (hS : SI (g 0)) {T : Nat} (hT : g 0 1 = nI T) (hTb : T ≤ 31000) {w : Int32} : Cti G yX4_now cX4_now 2 .int 4 92 [.ref (xo G), .int w] g (fun r g' => cpX (s_now w (g 0)) g r g') := by
  refine ent_i (by decide) (Nat.le_of_ble_eq_true rfl) [some (.ref (xo G)), some (.int w)] rfl ?_
  intro X C hR
  have C : CX X G RX4 cX4_now 2 4 92 := C
  obtain ⟨hM8, hM0⟩ := SI_cl0 hS
  refine j_il1 0 C dX4_now_0 ?_
  by_cases hw : inr w 0 5 = true
  · obtain ⟨W, hW, rfl⟩ := inr_nat (n := 5) (by decide) hw
    rcases (show W = 0 ∨ W = 1 ∨ W = 2 ∨ W = 3 ∨ W = 4 ∨ W = 5 by omega) with rfl | rfl | rfl | rfl | rfl | rfl
    · refine j_tsIn 1 40 (off := 39) C dX4_now_1 (by decide) (by decide) (by decide) (by decide) ?_
      refine j_al0 40 C dX4_now_40 ?_
      refine jg_X4_12 41 C dX4_now_41 ?_
      refine jg_X4_126 44 lt4_0 C dX4_now_44 ?_
      exact hR dX4_now_47 (cpX_q (by unfold s_now; rw [hw]; rfl) rfl SC.rfl)
    · refine j_tsIn 1 48 (off := 47) C dX4_now_1 (by decide) (by decide) (by decide) (by decide) ?_
      refine j_al0 48 C dX4_now_48 ?_
      refine jg_X4_12 49 C dX4_now_49 ?_
      refine j_vi 52 C dX4_now_52 mv_X0_allHoles lk_X4_136 (c_X0_allHoles lt4_0) (rc_d lt4_0) rfl rfl ⟨(Nat.le_of_ble_eq_true rfl), (Nat.le_of_ble_eq_true rfl)⟩ (Nat.le_of_ble_eq_true rfl) (fun r52 g52 hp52 => ?_)
      obtain ⟨rfl, rfl⟩ := hp52
      exact hR dX4_now_55 (cpX_q (by unfold s_now; rw [hw]; rfl) rfl SC.rfl)
    · refine j_tsIn 1 56 (off := 55) C dX4_now_1 (by decide) (by decide) (by decide) (by decide) ?_
      refine j_al0 56 C dX4_now_56 ?_
      refine jg_X4_12 57 C dX4_now_57 ?_
      refine j_vi 60 C dX4_now_60 mv_X0_allSaid lk_X4_140 (c_X0_allSaid lt4_0) (rc_d lt4_0) rfl rfl ⟨(Nat.le_of_ble_eq_true rfl), (Nat.le_of_ble_eq_true rfl)⟩ (Nat.le_of_ble_eq_true rfl) (fun r60 g60 hp60 => ?_)
      obtain ⟨rfl, rfl⟩ := hp60
      exact hR dX4_now_63 (cpX_q (by unfold s_now; rw [hw]; rfl) rfl SC.rfl)
    · refine j_tsIn 1 64 (off := 63) C dX4_now_1 (by decide) (by decide) (by decide) (by decide) ?_
      refine j_al0 64 C dX4_now_64 ?_
      refine jg_X4_12 65 C dX4_now_65 ?_
      refine j_vi 68 C dX4_now_68 mv_X0_allFed lk_X4_143 (c_X0_allFed lt4_0 hM8 hM0) (rc_d lt4_0) rfl rfl ⟨(Nat.le_of_ble_eq_true rfl), (Nat.le_of_ble_eq_true rfl)⟩ (Nat.le_of_ble_eq_true rfl) (fun r68 g68 hp68 => ?_)
      obtain ⟨rfl, rfl⟩ := hp68
      exact hR dX4_now_71 (cpX_q (by unfold s_now; rw [hw]; rfl) rfl SC.rfl)
    · refine j_tsIn 1 72 (off := 71) C dX4_now_1 (by decide) (by decide) (by decide) (by decide) ?_
      refine j_al0 72 C dX4_now_72 ?_
      refine jg_X4_12 73 C dX4_now_73 ?_
      refine j_vi 76 C dX4_now_76 mv_X0_idleMoths lk_X4_146 (c_X0_idleMoths lt4_0 hM8 hM0 hS) (rc_d lt4_0) rfl rfl ⟨(Nat.le_of_ble_eq_true rfl), (Nat.le_of_ble_eq_true rfl)⟩ (Nat.le_of_ble_eq_true rfl) (fun r76 g76 hp76 => ?_)
      obtain ⟨rfl, rfl⟩ := hp76
      exact hR dX4_now_79 (cpX_q (by unfold s_now; rw [hw]; rfl) rfl SC.rfl)
    · refine j_tsIn 1 80 (off := 79) C dX4_now_1 (by decide) (by decide) (by decide) (by decide) ?_
      refine j_al0 80 C dX4_now_80 ?_
      refine jg_X4_12 81 C dX4_now_81 ?_
      refine j_vi 84 C dX4_now_84 mv_X0_barePages lk_X4_149 (c_X0_barePages lt4_0) (rc_d lt4_0) rfl rfl ⟨(Nat.le_of_ble_eq_true rfl), (Nat.le_of_ble_eq_true rfl)⟩ (Nat.le_of_ble_eq_true rfl) (fun r84 g84 hp84 => ?_)
      obtain ⟨rfl, rfl⟩ := hp84
      exact hR dX4_now_87 (cpX_q (by unfold s_now; rw [hw]; rfl) rfl SC.rfl)
  · rw [Bool.not_eq_true] at hw
    refine j_tsOut 1 88 C dX4_now_1 (ts_out hw (by decide)) (by decide) ?_
    refine j_al0 88 C dX4_now_88 ?_
    refine j_ldc 89 C dX4_now_89 cs_X4_57 ?_
    refine j_vi 91 C dX4_now_91 mv_X4_finding lk_X4_58 (c_X4_finding (f := 0) (by decide) (by decide)) rc_x rfl rfl ⟨(Nat.le_of_ble_eq_true rfl), (Nat.le_of_ble_eq_true rfl)⟩ (Nat.le_of_ble_eq_true rfl) (fun r91 g91 hp91 => ?_)
    obtain ⟨rfl, rfl⟩ := hp91
    exact hR dX4_now_94 (cpX_f (f := 0) (by simp [s_now, hw]) (by decide) (by decide) SC.rfl)
set_option maxRecDepth 20000 in
theorem c_X4_go {G : GT} {g : Mem} (hS : SI (g 0)) {T : Nat} (hT : g 0 1 = nI T) (hTb : T ≤ 31000) {n : Int32} : Cti G yX4_go cX4_go 2 .int 5 120 [.ref (xo G), .int n] g (fun r g' => cpX (s_go n (g 0)) g r g') := by
  refine ent_i (by decide) (Nat.le_of_ble_eq_true rfl) [some (.ref (xo G)), some (.int n)] rfl ?_
  intro X C hR
  have C : CX X G RX4 cX4_go 2 5 120 := C
  refine j_il1 0 C dX4_go_0 ?_
  refine j_iconst 1 C dX4_go_1 ic_1 ?_
  refine j_bipush 2 C dX4_go_2 bp_60 ?_
  refine j_si 4 C dX4_go_4 ms_X4_within lk_X4_99 (c_X4_within) rfl rfl ⟨(Nat.le_of_ble_eq_true rfl), (Nat.le_of_ble_eq_true rfl)⟩ (Nat.le_of_ble_eq_true rfl) (fun r4 g4 hp4 => ?_)
  obtain ⟨rfl, rfl⟩ := hp4
  refine j_ifne 7 17 C dX4_go_7 (by decide) (fun c7 => ?_) (fun c7 => ?_)
  · have v7 := bi_n c7
    obtain ⟨N, hN1, hN, rfl⟩ := inr_1 (n := 60) (by decide) v7
    refine j_al0 17 C dX4_go_17 ?_
    refine jg_X4_12 18 C dX4_go_18 ?_
    refine jg_X4_126 21 lt4_0 C dX4_go_21 ?_
    refine j_ldc 24 C dX4_go_24 cs_X4_130 ?_
    refine j_il1 26 C dX4_go_26 ?_
    refine j_isub 27 C dX4_go_27 ?_
    refine j_icle 28 38 C dX4_go_28 (by decide) (fun c28 => ?_) (fun c28 => ?_)
    · refine j_al0 38 C dX4_go_38 ?_
      refine jg_X4_12 39 C dX4_go_39 ?_
      refine j_il1 42 C dX4_go_42 ?_
      refine j_iconst 43 C dX4_go_43 ic_0 ?_
      refine j_vv 44 C dX4_go_44 mv_X0_passNights lk_X4_132 (c_X0_passNights (O := 0) lt4_0 (by decide) hS hT (by omega)) (rc_d lt4_0) rfl rfl ⟨(Nat.le_of_ble_eq_true rfl), (Nat.le_of_ble_eq_true rfl)⟩ (Nat.le_of_ble_eq_true rfl) (fun g44 hp44 => ?_)
      obtain rfl := hp44
      refine j_al0 47 C dX4_go_47 ?_
      refine jg_X4_12 48 C dX4_go_48 ?_
      refine j_vi 51 C dX4_go_51 mv_X0_allHoles lk_X4_136 (c_X0_allHoles lt4_0) (rc_d lt4_0) rfl rfl ⟨(Nat.le_of_ble_eq_true rfl), (Nat.le_of_ble_eq_true rfl)⟩ (Nat.le_of_ble_eq_true rfl) (fun r51 g51 hp51 => ?_)
      obtain ⟨hr51, rfl⟩ := hp51
      rw [ub_s] at hr51
      subst hr51
      exact hR dX4_go_54 (cpX_r (by simp [s_go, v7, hAll, cl_nI (show N < 2 ^ 31 by omega)]) rfl SC.rfl)
    · exact absurd (show g 0 1 ≤ 99999 - nI N by rw [hT, show (99999 : Int32) - nI N = nI (99999 - N) from pk_sub (a := 99999) (by omega)]; exact nI_le (by omega) (by omega)) c28
  · have v7 := bi_0 c7
    refine j_al0 10 C dX4_go_10 ?_
    refine j_ldc 11 C dX4_go_11 cs_X4_57 ?_
    refine j_vi 13 C dX4_go_13 mv_X4_finding lk_X4_58 (c_X4_finding (f := 0) (by decide) (by decide)) rc_x rfl rfl ⟨(Nat.le_of_ble_eq_true rfl), (Nat.le_of_ble_eq_true rfl)⟩ (Nat.le_of_ble_eq_true rfl) (fun r13 g13 hp13 => ?_)
    obtain ⟨rfl, rfl⟩ := hp13
    exact hR dX4_go_16 (cpX_f (f := 0) (by simp [s_go, v7]) (by decide) (by decide) SC.rfl)
set_option maxRecDepth 20000 in
theorem c_X4_ahead {G : GT} {g : Mem} (hS : SI (g 0)) {T : Nat} (hT : g 0 1 = nI T) (hTb : T ≤ 31000) {p k n : Int32} : Cti G yX4_ahead cX4_ahead 4 .int 6 141 [.ref (xo G), .int p, .int k, .int n] g (fun r g' => cpX (s_ahead p k n (g 0)) g r g') := by
  refine ent_i (by decide) (Nat.le_of_ble_eq_true rfl) [some (.ref (xo G)), some (.int p), some (.int k), some (.int n)] rfl ?_
  intro X C hR
  have C : CX X G RX4 cX4_ahead 4 6 141 := C
  refine j_il1 0 C dX4_ahead_0 ?_
  refine j_si 1 C dX4_ahead_1 ms_X4_isPage lk_X4_47 (c_X4_isPage) rfl rfl ⟨(Nat.le_of_ble_eq_true rfl), (Nat.le_of_ble_eq_true rfl)⟩ (Nat.le_of_ble_eq_true rfl) (fun r1 g1 hp1 => ?_)
  obtain ⟨rfl, rfl⟩ := hp1
  refine j_ifeq 4 24 C dX4_ahead_4 (by decide) (fun c4 => ?_) (fun c4 => ?_)
  · have v4 := bi_0 c4
    refine j_al0 24 C dX4_ahead_24 ?_
    refine j_ldc 25 C dX4_ahead_25 cs_X4_57 ?_
    refine j_vi 27 C dX4_ahead_27 mv_X4_finding lk_X4_58 (c_X4_finding (f := 0) (by decide) (by decide)) rc_x rfl rfl ⟨(Nat.le_of_ble_eq_true rfl), (Nat.le_of_ble_eq_true rfl)⟩ (Nat.le_of_ble_eq_true rfl) (fun r27 g27 hp27 => ?_)
    obtain ⟨rfl, rfl⟩ := hp27
    exact hR dX4_ahead_30 (cpX_f (f := 0) (by simp [s_ahead, v4]) (by decide) (by decide) SC.rfl)
  · have v4 := bi_n c4
    refine j_il2 7 C dX4_ahead_7 ?_
    refine j_si 8 C dX4_ahead_8 ms_X4_isPlace lk_X4_51 (c_X4_isPlace) rfl rfl ⟨(Nat.le_of_ble_eq_true rfl), (Nat.le_of_ble_eq_true rfl)⟩ (Nat.le_of_ble_eq_true rfl) (fun r8 g8 hp8 => ?_)
    obtain ⟨rfl, rfl⟩ := hp8
    refine j_ifeq 11 24 C dX4_ahead_11 (by decide) (fun c11 => ?_) (fun c11 => ?_)
    · have v11 := bi_0 c11
      refine j_al0 24 C dX4_ahead_24 ?_
      refine j_ldc 25 C dX4_ahead_25 cs_X4_57 ?_
      refine j_vi 27 C dX4_ahead_27 mv_X4_finding lk_X4_58 (c_X4_finding (f := 0) (by decide) (by decide)) rc_x rfl rfl ⟨(Nat.le_of_ble_eq_true rfl), (Nat.le_of_ble_eq_true rfl)⟩ (Nat.le_of_ble_eq_true rfl) (fun r27 g27 hp27 => ?_)
      obtain ⟨rfl, rfl⟩ := hp27
      exact hR dX4_ahead_30 (cpX_f (f := 0) (by simp [s_ahead, v4, v11]) (by decide) (by decide) SC.rfl)
    · have v11 := bi_n c11
      refine j_il3 14 C dX4_ahead_14 ?_
      refine j_iconst 15 C dX4_ahead_15 ic_0 ?_
      refine j_bipush 16 C dX4_ahead_16 bp_100 ?_
      refine j_si 18 C dX4_ahead_18 ms_X4_within lk_X4_99 (c_X4_within) rfl rfl ⟨(Nat.le_of_ble_eq_true rfl), (Nat.le_of_ble_eq_true rfl)⟩ (Nat.le_of_ble_eq_true rfl) (fun r18 g18 hp18 => ?_)
      obtain ⟨rfl, rfl⟩ := hp18
      refine j_ifne 21 31 C dX4_ahead_21 (by decide) (fun c21 => ?_) (fun c21 => ?_)
      · have v21 := bi_n c21
        obtain ⟨P, hP, rfl⟩ := inr_nat (n := 5) (by decide) v4
        obtain ⟨K, hK, rfl⟩ := inr_nat (n := 7) (by decide) v11
        obtain ⟨N, hN, rfl⟩ := inr_nat (n := 100) (by decide) v21
        refine j_al0 31 C dX4_ahead_31 ?_
        refine j_il3 32 C dX4_ahead_32 ?_
        refine j_vv 33 C dX4_ahead_33 mv_X4_lookAhead lk_X4_152 (c_X4_lookAhead hS hT (by omega)) rc_x rfl rfl ⟨(Nat.le_of_ble_eq_true rfl), (Nat.le_of_ble_eq_true rfl)⟩ (Nat.le_of_ble_eq_true rfl) (fun g33 hp33 => ?_)
        obtain rfl := hp33
        refine j_al0 36 C dX4_ahead_36 ?_
        refine jg_X4_19 37 C dX4_ahead_37 ?_
        refine j_il1 40 C dX4_ahead_40 ?_
        refine j_il2 41 C dX4_ahead_41 ?_
        refine j_vi 42 C dX4_ahead_42 mv_X0_wordAt lk_X4_62 (c_X0_wordAt lt4_2 (by omega) (by omega)) (rc_d lt4_2) rfl rfl ⟨(Nat.le_of_ble_eq_true rfl), (Nat.le_of_ble_eq_true rfl)⟩ (Nat.le_of_ble_eq_true rfl) (fun r42 g42 hp42 => ?_)
        obtain ⟨hr42, rfl⟩ := hp42
        rw [ub_s] at hr42
        subst hr42
        exact hR dX4_ahead_45 (cpX_q (by simp [s_ahead, v4, v11, v21, cl_nI (show P < 2 ^ 31 by omega), cl_nI (show K < 2 ^ 31 by omega), cl_nI (show N < 2 ^ 31 by omega)]) rfl (SC_ub (Or.inl rfl)))
      · have v21 := bi_0 c21
        refine j_al0 24 C dX4_ahead_24 ?_
        refine j_ldc 25 C dX4_ahead_25 cs_X4_57 ?_
        refine j_vi 27 C dX4_ahead_27 mv_X4_finding lk_X4_58 (c_X4_finding (f := 0) (by decide) (by decide)) rc_x rfl rfl ⟨(Nat.le_of_ble_eq_true rfl), (Nat.le_of_ble_eq_true rfl)⟩ (Nat.le_of_ble_eq_true rfl) (fun r27 g27 hp27 => ?_)
        obtain ⟨rfl, rfl⟩ := hp27
        exact hR dX4_ahead_30 (cpX_f (f := 0) (by simp [s_ahead, v4, v11, v21]) (by decide) (by decide) SC.rfl)
set_option maxRecDepth 20000 in
theorem c_X4_says {G : GT} {g : Mem} (hS : SI (g 0)) {T : Nat} (hT : g 0 1 = nI T) (hTb : T ≤ 31000) {p n : Int32} : Cti G yX4_says cX4_says 3 .int 6 141 [.ref (xo G), .int p, .int n] g (fun r g' => cpX (s_says p n (g 0)) g r g') := by
  refine ent_i (by decide) (Nat.le_of_ble_eq_true rfl) [some (.ref (xo G)), some (.int p), some (.int n)] rfl ?_
  intro X C hR
  have C : CX X G RX4 cX4_says 3 6 141 := C
  refine j_il1 0 C dX4_says_0 ?_
  refine j_si 1 C dX4_says_1 ms_X4_isPage lk_X4_47 (c_X4_isPage) rfl rfl ⟨(Nat.le_of_ble_eq_true rfl), (Nat.le_of_ble_eq_true rfl)⟩ (Nat.le_of_ble_eq_true rfl) (fun r1 g1 hp1 => ?_)
  obtain ⟨rfl, rfl⟩ := hp1
  refine j_ifeq 4 17 C dX4_says_4 (by decide) (fun c4 => ?_) (fun c4 => ?_)
  · have v4 := bi_0 c4
    refine j_al0 17 C dX4_says_17 ?_
    refine j_ldc 18 C dX4_says_18 cs_X4_57 ?_
    refine j_vi 20 C dX4_says_20 mv_X4_finding lk_X4_58 (c_X4_finding (f := 0) (by decide) (by decide)) rc_x rfl rfl ⟨(Nat.le_of_ble_eq_true rfl), (Nat.le_of_ble_eq_true rfl)⟩ (Nat.le_of_ble_eq_true rfl) (fun r20 g20 hp20 => ?_)
    obtain ⟨rfl, rfl⟩ := hp20
    exact hR dX4_says_23 (cpX_f (f := 0) (by simp [s_says, v4]) (by decide) (by decide) SC.rfl)
  · have v4 := bi_n c4
    refine j_il2 7 C dX4_says_7 ?_
    refine j_iconst 8 C dX4_says_8 ic_0 ?_
    refine j_bipush 9 C dX4_says_9 bp_100 ?_
    refine j_si 11 C dX4_says_11 ms_X4_within lk_X4_99 (c_X4_within) rfl rfl ⟨(Nat.le_of_ble_eq_true rfl), (Nat.le_of_ble_eq_true rfl)⟩ (Nat.le_of_ble_eq_true rfl) (fun r11 g11 hp11 => ?_)
    obtain ⟨rfl, rfl⟩ := hp11
    refine j_ifne 14 24 C dX4_says_14 (by decide) (fun c14 => ?_) (fun c14 => ?_)
    · have v14 := bi_n c14
      obtain ⟨P, hP, rfl⟩ := inr_nat (n := 5) (by decide) v4
      obtain ⟨N, hN, rfl⟩ := inr_nat (n := 100) (by decide) v14
      refine j_al0 24 C dX4_says_24 ?_
      refine j_il2 25 C dX4_says_25 ?_
      refine j_vv 26 C dX4_says_26 mv_X4_lookAhead lk_X4_152 (c_X4_lookAhead hS hT (by omega)) rc_x rfl rfl ⟨(Nat.le_of_ble_eq_true rfl), (Nat.le_of_ble_eq_true rfl)⟩ (Nat.le_of_ble_eq_true rfl) (fun g26 hp26 => ?_)
      obtain rfl := hp26
      refine j_al0 29 C dX4_says_29 ?_
      refine jg_X4_19 30 C dX4_says_30 ?_
      refine j_il1 33 C dX4_says_33 ?_
      refine j_vi 34 C dX4_says_34 mv_X0_saidBy lk_X4_70 (c_X0_saidBy lt4_2 (by omega)) (rc_d lt4_2) rfl rfl ⟨(Nat.le_of_ble_eq_true rfl), (Nat.le_of_ble_eq_true rfl)⟩ (Nat.le_of_ble_eq_true rfl) (fun r34 g34 hp34 => ?_)
      obtain ⟨hr34, rfl⟩ := hp34
      rw [ub_s] at hr34
      subst hr34
      exact hR dX4_says_37 (cpX_q (by simp [s_says, v4, v14, cl_nI (show P < 2 ^ 31 by omega), cl_nI (show N < 2 ^ 31 by omega)]) rfl (SC_ub (Or.inl rfl)))
    · have v14 := bi_0 c14
      refine j_al0 17 C dX4_says_17 ?_
      refine j_ldc 18 C dX4_says_18 cs_X4_57 ?_
      refine j_vi 20 C dX4_says_20 mv_X4_finding lk_X4_58 (c_X4_finding (f := 0) (by decide) (by decide)) rc_x rfl rfl ⟨(Nat.le_of_ble_eq_true rfl), (Nat.le_of_ble_eq_true rfl)⟩ (Nat.le_of_ble_eq_true rfl) (fun r20 g20 hp20 => ?_)
      obtain ⟨rfl, rfl⟩ := hp20
      exact hR dX4_says_23 (cpX_f (f := 0) (by simp [s_says, v4, v14]) (by decide) (by decide) SC.rfl)
set_option maxRecDepth 20000 in
theorem c_X4_fed {G : GT} {g : Mem} (hS : SI (g 0)) {T : Nat} (hT : g 0 1 = nI T) (hTb : T ≤ 31000) {m n : Int32} : Cti G yX4_fed cX4_fed 3 .int 6 141 [.ref (xo G), .int m, .int n] g (fun r g' => cpX (s_fed m n (g 0)) g r g') := by
  refine ent_i (by decide) (Nat.le_of_ble_eq_true rfl) [some (.ref (xo G)), some (.int m), some (.int n)] rfl ?_
  intro X C hR
  have C : CX X G RX4 cX4_fed 3 6 141 := C
  refine j_al0 0 C dX4_fed_0 ?_
  refine j_il1 1 C dX4_fed_1 ?_
  refine j_vi 2 C dX4_fed_2 mv_X4_isMoth lk_X4_96 (c_X4_isMoth) rc_x rfl rfl ⟨(Nat.le_of_ble_eq_true rfl), (Nat.le_of_ble_eq_true rfl)⟩ (Nat.le_of_ble_eq_true rfl) (fun r2 g2 hp2 => ?_)
  obtain ⟨rfl, rfl⟩ := hp2
  refine j_ifeq 5 18 C dX4_fed_5 (by decide) (fun c5 => ?_) (fun c5 => ?_)
  · have v5 := bi_0 c5
    refine j_al0 18 C dX4_fed_18 ?_
    refine j_ldc 19 C dX4_fed_19 cs_X4_57 ?_
    refine j_vi 21 C dX4_fed_21 mv_X4_finding lk_X4_58 (c_X4_finding (f := 0) (by decide) (by decide)) rc_x rfl rfl ⟨(Nat.le_of_ble_eq_true rfl), (Nat.le_of_ble_eq_true rfl)⟩ (Nat.le_of_ble_eq_true rfl) (fun r21 g21 hp21 => ?_)
    obtain ⟨rfl, rfl⟩ := hp21
    exact hR dX4_fed_24 (cpX_f (f := 0) (by simp [s_fed, v5]) (by decide) (by decide) SC.rfl)
  · have v5 := bi_n c5
    refine j_il2 8 C dX4_fed_8 ?_
    refine j_iconst 9 C dX4_fed_9 ic_0 ?_
    refine j_bipush 10 C dX4_fed_10 bp_100 ?_
    refine j_si 12 C dX4_fed_12 ms_X4_within lk_X4_99 (c_X4_within) rfl rfl ⟨(Nat.le_of_ble_eq_true rfl), (Nat.le_of_ble_eq_true rfl)⟩ (Nat.le_of_ble_eq_true rfl) (fun r12 g12 hp12 => ?_)
    obtain ⟨rfl, rfl⟩ := hp12
    refine j_ifne 15 25 C dX4_fed_15 (by decide) (fun c15 => ?_) (fun c15 => ?_)
    · have v15 := bi_n c15
      obtain ⟨hM8, hM0⟩ := SI_cl0 hS
      obtain ⟨M, hM, rfl⟩ := isM_nat hM0 hM8 v5
      obtain ⟨N, hN, rfl⟩ := inr_nat (n := 100) (by decide) v15
      refine j_al0 25 C dX4_fed_25 ?_
      refine j_il2 26 C dX4_fed_26 ?_
      refine j_vv 27 C dX4_fed_27 mv_X4_lookAhead lk_X4_152 (c_X4_lookAhead hS hT (by omega)) rc_x rfl rfl ⟨(Nat.le_of_ble_eq_true rfl), (Nat.le_of_ble_eq_true rfl)⟩ (Nat.le_of_ble_eq_true rfl) (fun g27 hp27 => ?_)
      obtain rfl := hp27
      refine j_al0 30 C dX4_fed_30 ?_
      refine jg_X4_19 31 C dX4_fed_31 ?_
      refine j_il1 34 C dX4_fed_34 ?_
      refine j_iconst 35 C dX4_fed_35 ic_3 ?_
      refine j_vi 36 C dX4_fed_36 mv_X0_trait lk_X4_106 (c_X0_trait (W := 3) lt4_2 (by omega) (by decide)) (rc_d lt4_2) rfl rfl ⟨(Nat.le_of_ble_eq_true rfl), (Nat.le_of_ble_eq_true rfl)⟩ (Nat.le_of_ble_eq_true rfl) (fun r36 g36 hp36 => ?_)
      obtain ⟨hr36, rfl⟩ := hp36
      rw [ub_s] at hr36
      subst hr36
      exact hR dX4_fed_39 (cpX_q (by simp [s_fed, v5, v15, cl_nI (show M < 2 ^ 31 by omega), cl_nI (show N < 2 ^ 31 by omega)]) rfl (SC_ub (Or.inl rfl)))
    · have v15 := bi_0 c15
      refine j_al0 18 C dX4_fed_18 ?_
      refine j_ldc 19 C dX4_fed_19 cs_X4_57 ?_
      refine j_vi 21 C dX4_fed_21 mv_X4_finding lk_X4_58 (c_X4_finding (f := 0) (by decide) (by decide)) rc_x rfl rfl ⟨(Nat.le_of_ble_eq_true rfl), (Nat.le_of_ble_eq_true rfl)⟩ (Nat.le_of_ble_eq_true rfl) (fun r21 g21 hp21 => ?_)
      obtain ⟨rfl, rfl⟩ := hp21
      exact hR dX4_fed_24 (cpX_f (f := 0) (by simp [s_fed, v5, v15]) (by decide) (by decide) SC.rfl)
theorem fst_n {p : Nat → Bool} {S : Row} (h : ff p 0 201 = -1) : fst p S = .inl 3 := if_pos h
theorem fst_y {p : Nat → Bool} {S : Row} {k : Nat} (h : ff p 0 201 = nI k) (hk : k < 2 ^ 31) : fst p S = .inr (nI k, S) := by
  unfold fst
  rw [if_neg (by rw [h]; exact nI_nm1 hk), h]
theorem cpX_of {o o' : Ans} {g g' : Mem} {r : Int32} (h : o = o') (hp : cpX o' g r g') : cpX o g r g' := by subst h; exact hp
theorem bi_z (b : Bool) : bi b = 0 ∨ bi b = 1 := by
  cases b with
  | true => exact Or.inr rfl
  | false => exact Or.inl rfl
set_option maxRecDepth 20000 in
theorem c_hc0 {G : GT} {g : Mem} {R E : Row} {P : Nat} (hP : P < 6) {y : Int32} : Cti G yX4_hasCome cX4_hasCome 4 .boolean 3 67 [.ref (xo G), .int 0, .int (nI P), .int y] (ub (ub g 3 E) 2 R) (fun r g' => r = bi (bare R P) ∧ g' = ub (ub g 3 E) 2 R) := by
  refine ent_z (by decide) (Nat.le_of_ble_eq_true rfl) [some (.ref (xo G)), some (.int 0), some (.int (nI P)), some (.int y)] rfl ?_
  intro X C hR
  have C : CX X G RX4 cX4_hasCome 4 3 67 := C
  refine j_il1 0 C dX4_hasCome_0 ?_
  refine j_tsIn 1 28 (off := 27) C dX4_hasCome_1 (by decide) (by decide) (by decide) (by decide) ?_
  refine j_al0 28 C dX4_hasCome_28 ?_
  refine jg_X4_19 29 C dX4_hasCome_29 ?_
  refine j_il2 32 C dX4_hasCome_32 ?_
  refine j_vi 33 C dX4_hasCome_33 mv_X0_isBare lk_X4_269 (c_X0_isBare lt4_2 hP) (rc_d lt4_2) rfl rfl ⟨(Nat.le_of_ble_eq_true rfl), (Nat.le_of_ble_eq_true rfl)⟩ (Nat.le_of_ble_eq_true rfl) (fun r33 g33 hp33 => ?_)
  obtain ⟨hr33, rfl⟩ := hp33
  rw [ub_s] at hr33
  subst hr33
  exact hR dX4_hasCome_36 (bi_z _) ⟨rfl, rfl⟩
set_option maxRecDepth 20000 in
theorem c_hc1 {G : GT} {g : Mem} {R E : Row} {P : Nat} (hP : P < 6) {v : Int32} : Cti G yX4_hasCome cX4_hasCome 4 .boolean 3 67 [.ref (xo G), .int 1, .int (nI P), .int v] (ub (ub g 3 E) 2 R) (fun r g' => r = bi (decide (ss R P 8 = v)) ∧ g' = ub (ub g 3 E) 2 R) := by
  refine ent_z (by decide) (Nat.le_of_ble_eq_true rfl) [some (.ref (xo G)), some (.int 1), some (.int (nI P)), some (.int v)] rfl ?_
  intro X C hR
  have C : CX X G RX4 cX4_hasCome 4 3 67 := C
  refine j_il1 0 C dX4_hasCome_0 ?_
  refine j_tsIn 1 37 (off := 36) C dX4_hasCome_1 (by decide) (by decide) (by decide) (by decide) ?_
  refine j_al0 37 C dX4_hasCome_37 ?_
  refine jg_X4_19 38 C dX4_hasCome_38 ?_
  refine j_il2 41 C dX4_hasCome_41 ?_
  refine j_vi 42 C dX4_hasCome_42 mv_X0_saidBy lk_X4_70 (c_X0_saidBy lt4_2 hP) (rc_d lt4_2) rfl rfl ⟨(Nat.le_of_ble_eq_true rfl), (Nat.le_of_ble_eq_true rfl)⟩ (Nat.le_of_ble_eq_true rfl) (fun r42 g42 hp42 => ?_)
  obtain ⟨hr42, rfl⟩ := hp42
  rw [ub_s] at hr42
  subst hr42
  refine j_il3 45 C dX4_hasCome_45 ?_
  refine j_icne 46 53 C dX4_hasCome_46 (by decide) (fun c46 => ?_) (fun c46 => ?_)
  · have e : decide (ss R P 8 = v) = false := decide_eq_false c46
    refine j_iconst 53 C dX4_hasCome_53 ic_0 ?_
    exact hR dX4_hasCome_54 (by first | exact Or.inl rfl | exact Or.inr rfl) ⟨by rw [e]; rfl, rfl⟩
  · have e : decide (ss R P 8 = v) = true := decide_eq_true c46
    refine j_iconst 49 C dX4_hasCome_49 ic_1 ?_
    refine j_goto 50 54 C dX4_hasCome_50 (by decide) ?_
    exact hR dX4_hasCome_54 (by first | exact Or.inl rfl | exact Or.inr rfl) ⟨by rw [e]; rfl, rfl⟩
set_option maxRecDepth 20000 in
theorem c_hc2 {G : GT} {g : Mem} {R E : Row} {x y : Int32} : Cti G yX4_hasCome cX4_hasCome 4 .boolean 3 67 [.ref (xo G), .int 2, .int x, .int y] (ub (ub g 3 E) 2 R) (fun r g' => r = bi (sam E R) ∧ g' = ub (ub g 3 E) 2 R) := by
  refine ent_z (by decide) (Nat.le_of_ble_eq_true rfl) [some (.ref (xo G)), some (.int 2), some (.int x), some (.int y)] rfl ?_
  intro X C hR
  have C : CX X G RX4 cX4_hasCome 4 3 67 := C
  refine j_il1 0 C dX4_hasCome_0 ?_
  refine j_tsIn 1 55 (off := 54) C dX4_hasCome_1 (by decide) (by decide) (by decide) (by decide) ?_
  refine j_al0 55 C dX4_hasCome_55 ?_
  refine jg_X4_22 56 C dX4_hasCome_56 ?_
  refine j_al0 59 C dX4_hasCome_59 ?_
  refine jg_X4_19 60 C dX4_hasCome_60 ?_
  refine j_vi 63 C dX4_hasCome_63 mv_X0_hasPagesOf lk_X4_272 (c_X0_hasPagesOf lt4_3 lt4_2) (rc_d lt4_3) rfl rfl ⟨(Nat.le_of_ble_eq_true rfl), (Nat.le_of_ble_eq_true rfl)⟩ (Nat.le_of_ble_eq_true rfl) (fun r63 g63 hp63 => ?_)
  obtain ⟨hr63, rfl⟩ := hp63
  rw [ub_s, ub_n (b' := 3) (b := 2) (by decide), ub_s] at hr63
  subst hr63
  exact hR dX4_hasCome_66 (bi_z _) ⟨rfl, rfl⟩
set_option maxRecDepth 20000 in
theorem c_hc3 {G : GT} {g : Mem} {R E : Row} {A B : Nat} (hA : A < 6) (hB : B < 6) : Cti G yX4_hasCome cX4_hasCome 4 .boolean 3 67 [.ref (xo G), .int 3, .int (nI A), .int (nI B)] (ub (ub g 3 E) 2 R) (fun r g' => r = bi (decide (ct (pU R A B) 8 = 0)) ∧ g' = ub (ub g 3 E) 2 R) := by
  refine ent_z (by decide) (Nat.le_of_ble_eq_true rfl) [some (.ref (xo G)), some (.int 3), some (.int (nI A)), some (.int (nI B))] rfl ?_
  intro X C hR
  have C : CX X G RX4 cX4_hasCome 4 3 67 := C
  refine j_il1 0 C dX4_hasCome_0 ?_
  refine j_tsOut 1 67 C dX4_hasCome_1 (by decide) (by decide) ?_
  refine j_al0 67 C dX4_hasCome_67 ?_
  refine jg_X4_19 68 C dX4_hasCome_68 ?_
  refine j_il2 71 C dX4_hasCome_71 ?_
  refine j_il3 72 C dX4_hasCome_72 ?_
  refine j_vi 73 C dX4_hasCome_73 mv_X0_unlikePlaces lk_X4_276 (c_X0_unlikePlaces lt4_2 hA hB) (rc_d lt4_2) rfl rfl ⟨(Nat.le_of_ble_eq_true rfl), (Nat.le_of_ble_eq_true rfl)⟩ (Nat.le_of_ble_eq_true rfl) (fun r73 g73 hp73 => ?_)
  obtain ⟨hr73, rfl⟩ := hp73
  rw [ub_s] at hr73
  subst hr73
  have hct : ct (pU R A B) 8 ≤ 8 := ct_le
  refine j_ifne 76 83 C dX4_hasCome_76 (by decide) (fun c76 => ?_) (fun c76 => ?_)
  · have e : decide (ct (pU R A B) 8 = 0) = false := decide_eq_false (fun q => c76 (by rw [q]; rfl))
    refine j_iconst 83 C dX4_hasCome_83 ic_0 ?_
    exact hR dX4_hasCome_84 (by first | exact Or.inl rfl | exact Or.inr rfl) ⟨by rw [e]; rfl, rfl⟩
  · have e : decide (ct (pU R A B) 8 = 0) = true := decide_eq_true ((nI_eq (b := 0) (by omega) (by decide)).mp c76)
    refine j_iconst 79 C dX4_hasCome_79 ic_1 ?_
    refine j_goto 80 84 C dX4_hasCome_80 (by decide) ?_
    exact hR dX4_hasCome_84 (by first | exact Or.inl rfl | exact Or.inr rfl) ⟨by rw [e]; rfl, rfl⟩
set_option maxRecDepth 20000 in
theorem c_X4_fewestNights {G : GT} {g : Mem} (hS : SI (g 0)) {T : Nat} (hT : g 0 1 = nI T) (hTb : T ≤ 31000) {w x y : Int32} {p : Nat → Bool} (hC : ∀ (k : Nat), k < 201 → Cti G yX4_hasCome cX4_hasCome 4 .boolean 3 67 [.ref (xo G), .int w, .int x, .int y] (ub (ub g 3 (ngs (g 0) 0 (k + 1))) 2 (ngs (g 0) 0 k)) (fun r g' => r = bi (p k) ∧ g' = ub (ub g 3 (ngs (g 0) 0 (k + 1))) 2 (ngs (g 0) 0 k))) : Cti G yX4_fewestNights cX4_fewestNights 5 .int 5 120 [.ref (xo G), .int w, .int x, .int y] g (fun r g' => cpX (fst p (g 0)) g r g') := by
  refine ent_i (by decide) (Nat.le_of_ble_eq_true rfl) [some (.ref (xo G)), some (.int w), some (.int x), some (.int y), none] rfl ?_
  intro X C hR
  have C : CX X G RX4 cX4_fewestNights 5 5 120 := C
  have loop : ∀ n k, k + n = 201 → ff p 0 201 = ff p k (201 - k) → ∀ E : Row, J X G 5 (ub (ub g 3 E) 2 (ngs (g 0) 0 k)) 14 [some (.ref (xo G)), some (.int (w)), some (.int (x)), some (.int (y)), some (.int (nI k))] [] := by
    intro n
    induction n with
    | zero =>
      intro k hk hf E
      obtain rfl : k = 201 := by omega
      refine j_il4 14 C dX4_fewestNights_14 ?_
      refine j_sipush 16 C dX4_fewestNights_16 sq_200 ?_
      refine j_icgt 19 72 C dX4_fewestNights_19 (by decide) (fun c19 => ?_) (fun c19 => ?_)
      · refine j_al0 72 C dX4_fewestNights_72 ?_
        refine j_ldc 73 C dX4_fewestNights_73 cs_X4_167 ?_
        refine j_vi 75 C dX4_fewestNights_75 mv_X4_finding lk_X4_58 (c_X4_finding (f := 3) (by decide) (by decide)) rc_x rfl rfl ⟨(Nat.le_of_ble_eq_true rfl), (Nat.le_of_ble_eq_true rfl)⟩ (Nat.le_of_ble_eq_true rfl) (fun r75 g75 hp75 => ?_)
        obtain ⟨rfl, rfl⟩ := hp75
        exact hR dX4_fewestNights_78 (cpX_f (f := 3) (fst_n hf) (by decide) (by decide) (FX_SC ((SC_ub (Or.inl rfl)).trans (SC_ub (Or.inr (Or.inl rfl))))))
      · exact absurd (by decide) c19
    | succ n ih =>
      intro k hk hf E
      refine j_il4 14 C dX4_fewestNights_14 ?_
      refine j_sipush 16 C dX4_fewestNights_16 sq_200 ?_
      refine j_icgt 19 72 C dX4_fewestNights_19 (by decide) (fun c19 => ?_) (fun c19 => ?_)
      · exact absurd c19 (nI_nlt (a := 200) (b := k) (by omega) (by decide))
      · refine j_al0 22 C dX4_fewestNights_22 ?_
        refine jg_X4_22 23 C dX4_fewestNights_23 ?_
        refine j_al0 26 C dX4_fewestNights_26 ?_
        refine jg_X4_19 27 C dX4_fewestNights_27 ?_
        refine j_vv 30 C dX4_fewestNights_30 mv_X0_become lk_X4_168 (c_X0_become lt4_3 lt4_2 (by decide)) (rc_d lt4_3) rfl rfl ⟨(Nat.le_of_ble_eq_true rfl), (Nat.le_of_ble_eq_true rfl)⟩ (Nat.le_of_ble_eq_true rfl) (fun g30 hp30 => ?_)
        obtain rfl := hp30
        rw [ub_comm (b := 2) (c := 3) (by decide), ub_ub, ub_s]
        refine j_al0 33 C dX4_fewestNights_33 ?_
        refine jg_X4_22 34 C dX4_fewestNights_34 ?_
        refine j_iconst 37 C dX4_fewestNights_37 ic_1 ?_
        refine j_iconst 38 C dX4_fewestNights_38 ic_0 ?_
        refine j_vv 39 C dX4_fewestNights_39 mv_X0_passNights lk_X4_132 (c_X0_passNights (O := 0) (N := 1) (T := T + k) lt4_3 (by decide) (by rw [ub_n (by decide), ub_s]; exact ngs_SI hS) (by rw [ub_n (by decide), ub_s]; exact ngs_1 hT) (by omega)) (rc_d lt4_3) rfl rfl ⟨(Nat.le_of_ble_eq_true rfl), (Nat.le_of_ble_eq_true rfl)⟩ (Nat.le_of_ble_eq_true rfl) (fun g39 hp39 => ?_)
        obtain rfl := hp39
        rw [ub_comm (b := 2) (c := 3) (by decide), ub_ub, ub_n (b' := 3) (b := 2) (by decide), ub_s, show ngs (ngs (g 0) 0 k) 0 1 = ngs (g 0) 0 (k + 1) from rfl]
        refine j_al0 42 C dX4_fewestNights_42 ?_
        refine j_il1 43 C dX4_fewestNights_43 ?_
        refine j_il2 44 C dX4_fewestNights_44 ?_
        refine j_il3 45 C dX4_fewestNights_45 ?_
        refine j_vi 46 C dX4_fewestNights_46 mv_X4_hasCome lk_X4_266 (hC k (by omega)) rc_x rfl rfl ⟨(Nat.le_of_ble_eq_true rfl), (Nat.le_of_ble_eq_true rfl)⟩ (Nat.le_of_ble_eq_true rfl) (fun r46 g46 hp46 => ?_)
        obtain ⟨rfl, rfl⟩ := hp46
        refine j_ifeq 49 55 C dX4_fewestNights_49 (by decide) (fun c49 => ?_) (fun c49 => ?_)
        · have e : p k = false := bi_0 c49
          have e9 : ff p k (201 - k) = ff p (k + 1) (201 - (k + 1)) := by rw [show 201 - k = (201 - (k + 1)) + 1 by omega]; exact if_neg (by show ¬ p k = true; rw [e]; decide)
          refine j_al0 55 C dX4_fewestNights_55 ?_
          refine jg_X4_19 56 C dX4_fewestNights_56 ?_
          refine j_al0 59 C dX4_fewestNights_59 ?_
          refine jg_X4_22 60 C dX4_fewestNights_60 ?_
          refine j_vv 63 C dX4_fewestNights_63 mv_X0_become lk_X4_168 (c_X0_become lt4_2 lt4_3 (by decide)) (rc_d lt4_2) rfl rfl ⟨(Nat.le_of_ble_eq_true rfl), (Nat.le_of_ble_eq_true rfl)⟩ (Nat.le_of_ble_eq_true rfl) (fun g63 hp63 => ?_)
          obtain rfl := hp63
          rw [ub_ub, ub_n (b' := 3) (b := 2) (by decide), ub_s]
          refine j_inc4 66 C dX4_fewestNights_66 rfl (nI_inc _) (Nat.le_of_ble_eq_true rfl) ?_
          refine j_goto 69 14 C dX4_fewestNights_69 (by decide) ?_
          exact ih (k + 1) (by omega) (hf.trans e9) _
        · have e : p k = true := bi_n c49
          have e9 : ff p k (201 - k) = nI k := by rw [show 201 - k = (201 - (k + 1)) + 1 by omega]; exact if_pos (e)
          refine j_il4 52 C dX4_fewestNights_52 ?_
          exact hR dX4_fewestNights_54 (cpX_q (fst_y (hf.trans e9) (by omega)) rfl ((SC_ub (Or.inl rfl)).trans (SC_ub (Or.inr (Or.inl rfl)))))
  refine j_al0 0 C dX4_fewestNights_0 ?_
  refine jg_X4_19 1 C dX4_fewestNights_1 ?_
  refine j_al0 4 C dX4_fewestNights_4 ?_
  refine jg_X4_12 5 C dX4_fewestNights_5 ?_
  refine j_vv 8 C dX4_fewestNights_8 mv_X0_become lk_X4_168 (c_X0_become lt4_2 lt4_0 (by decide)) (rc_d lt4_2) rfl rfl ⟨(Nat.le_of_ble_eq_true rfl), (Nat.le_of_ble_eq_true rfl)⟩ (Nat.le_of_ble_eq_true rfl) (fun g8 hp8 => ?_)
  obtain rfl := hp8
  refine j_iconst 11 C dX4_fewestNights_11 ic_0 ?_
  refine j_is4 12 C dX4_fewestNights_12 rfl (Nat.le_of_ble_eq_true rfl) ?_
  have h9 := loop 201 0 rfl rfl (g 3)
  rw [show ub g 3 (g 3) = g from ub_id] at h9
  exact h9
set_option maxRecDepth 20000 in
theorem c_X4_bare {G : GT} {g : Mem} (hS : SI (g 0)) {T : Nat} (hT : g 0 1 = nI T) (hTb : T ≤ 31000) {p : Int32} : Cti G yX4_bare cX4_bare 2 .int 6 144 [.ref (xo G), .int p] g (fun r g' => cpX (s_bare p (g 0)) g r g') := by
  refine ent_i (by decide) (Nat.le_of_ble_eq_true rfl) [some (.ref (xo G)), some (.int p)] rfl ?_
  intro X C hR
  have C : CX X G RX4 cX4_bare 2 6 144 := C
  refine j_il1 0 C dX4_bare_0 ?_
  refine j_si 1 C dX4_bare_1 ms_X4_isPage lk_X4_47 (c_X4_isPage) rfl rfl ⟨(Nat.le_of_ble_eq_true rfl), (Nat.le_of_ble_eq_true rfl)⟩ (Nat.le_of_ble_eq_true rfl) (fun r1 g1 hp1 => ?_)
  obtain ⟨rfl, rfl⟩ := hp1
  refine j_ifne 4 14 C dX4_bare_4 (by decide) (fun c4 => ?_) (fun c4 => ?_)
  · have v4 := bi_n c4
    obtain ⟨P, hP, rfl⟩ := inr_nat (n := 5) (by decide) v4
    refine j_al0 14 C dX4_bare_14 ?_
    refine j_iconst 15 C dX4_bare_15 ic_0 ?_
    refine j_il1 16 C dX4_bare_16 ?_
    refine j_iconst 17 C dX4_bare_17 ic_0 ?_
    refine j_vi 18 C dX4_bare_18 mv_X4_fewestNights lk_X4_156 (c_X4_fewestNights (w := 0) (x := nI P) (y := 0) (p := fun n => bare (ngs (g 0) 0 n) P) hS hT hTb (fun k hk => c_hc0 (R := ngs (g 0) 0 k) (E := ngs (g 0) 0 (k + 1)) (by omega))) rc_x rfl rfl ⟨(Nat.le_of_ble_eq_true rfl), (Nat.le_of_ble_eq_true rfl)⟩ (Nat.le_of_ble_eq_true rfl) (fun r18 g18 hp18 => ?_)
    exact hR dX4_bare_21 (cpX_of (by unfold s_bare; rw [v4, cl_nI (show P < 2 ^ 31 by omega)]; first | done | exact if_pos rfl) hp18)
  · have v4 := bi_0 c4
    refine j_al0 7 C dX4_bare_7 ?_
    refine j_ldc 8 C dX4_bare_8 cs_X4_57 ?_
    refine j_vi 10 C dX4_bare_10 mv_X4_finding lk_X4_58 (c_X4_finding (f := 0) (by decide) (by decide)) rc_x rfl rfl ⟨(Nat.le_of_ble_eq_true rfl), (Nat.le_of_ble_eq_true rfl)⟩ (Nat.le_of_ble_eq_true rfl) (fun r10 g10 hp10 => ?_)
    obtain ⟨rfl, rfl⟩ := hp10
    exact hR dX4_bare_13 (cpX_f (f := 0) (by simp [s_bare, v4]) (by decide) (by decide) SC.rfl)
set_option maxRecDepth 20000 in
theorem c_X4_when {G : GT} {g : Mem} (hS : SI (g 0)) {T : Nat} (hT : g 0 1 = nI T) (hTb : T ≤ 31000) {p v : Int32} : Cti G yX4_when cX4_when 3 .int 6 144 [.ref (xo G), .int p, .int v] g (fun r g' => cpX (s_when p v (g 0)) g r g') := by
  refine ent_i (by decide) (Nat.le_of_ble_eq_true rfl) [some (.ref (xo G)), some (.int p), some (.int v)] rfl ?_
  intro X C hR
  have C : CX X G RX4 cX4_when 3 6 144 := C
  refine j_il1 0 C dX4_when_0 ?_
  refine j_si 1 C dX4_when_1 ms_X4_isPage lk_X4_47 (c_X4_isPage) rfl rfl ⟨(Nat.le_of_ble_eq_true rfl), (Nat.le_of_ble_eq_true rfl)⟩ (Nat.le_of_ble_eq_true rfl) (fun r1 g1 hp1 => ?_)
  obtain ⟨rfl, rfl⟩ := hp1
  refine j_ifeq 4 18 C dX4_when_4 (by decide) (fun c4 => ?_) (fun c4 => ?_)
  · have v4 := bi_0 c4
    refine j_al0 18 C dX4_when_18 ?_
    refine j_ldc 19 C dX4_when_19 cs_X4_57 ?_
    refine j_vi 21 C dX4_when_21 mv_X4_finding lk_X4_58 (c_X4_finding (f := 0) (by decide) (by decide)) rc_x rfl rfl ⟨(Nat.le_of_ble_eq_true rfl), (Nat.le_of_ble_eq_true rfl)⟩ (Nat.le_of_ble_eq_true rfl) (fun r21 g21 hp21 => ?_)
    obtain ⟨rfl, rfl⟩ := hp21
    exact hR dX4_when_24 (cpX_f (f := 0) (by simp [s_when, v4]) (by decide) (by decide) SC.rfl)
  · have v4 := bi_n c4
    refine j_il2 7 C dX4_when_7 ?_
    refine j_iconst 8 C dX4_when_8 ic_0 ?_
    refine j_sipush 9 C dX4_when_9 sq_324 ?_
    refine j_si 12 C dX4_when_12 ms_X4_within lk_X4_99 (c_X4_within) rfl rfl ⟨(Nat.le_of_ble_eq_true rfl), (Nat.le_of_ble_eq_true rfl)⟩ (Nat.le_of_ble_eq_true rfl) (fun r12 g12 hp12 => ?_)
    obtain ⟨rfl, rfl⟩ := hp12
    refine j_ifne 15 25 C dX4_when_15 (by decide) (fun c15 => ?_) (fun c15 => ?_)
    · have v15 := bi_n c15
      obtain ⟨P, hP, rfl⟩ := inr_nat (n := 5) (by decide) v4
      refine j_al0 25 C dX4_when_25 ?_
      refine j_iconst 26 C dX4_when_26 ic_1 ?_
      refine j_il1 27 C dX4_when_27 ?_
      refine j_il2 28 C dX4_when_28 ?_
      refine j_vi 29 C dX4_when_29 mv_X4_fewestNights lk_X4_156 (c_X4_fewestNights (w := 1) (x := nI P) (y := v) (p := fun n => decide (ss (ngs (g 0) 0 n) P 8 = v)) hS hT hTb (fun k hk => c_hc1 (R := ngs (g 0) 0 k) (E := ngs (g 0) 0 (k + 1)) (by omega))) rc_x rfl rfl ⟨(Nat.le_of_ble_eq_true rfl), (Nat.le_of_ble_eq_true rfl)⟩ (Nat.le_of_ble_eq_true rfl) (fun r29 g29 hp29 => ?_)
      exact hR dX4_when_32 (cpX_of (by unfold s_when; rw [v4, v15, cl_nI (show P < 2 ^ 31 by omega)]; first | done | exact if_pos rfl) hp29)
    · have v15 := bi_0 c15
      refine j_al0 18 C dX4_when_18 ?_
      refine j_ldc 19 C dX4_when_19 cs_X4_57 ?_
      refine j_vi 21 C dX4_when_21 mv_X4_finding lk_X4_58 (c_X4_finding (f := 0) (by decide) (by decide)) rc_x rfl rfl ⟨(Nat.le_of_ble_eq_true rfl), (Nat.le_of_ble_eq_true rfl)⟩ (Nat.le_of_ble_eq_true rfl) (fun r21 g21 hp21 => ?_)
      obtain ⟨rfl, rfl⟩ := hp21
      exact hR dX4_when_24 (cpX_f (f := 0) (by simp [s_when, v4, v15]) (by decide) (by decide) SC.rfl)
set_option maxRecDepth 20000 in
theorem c_X4_alike {G : GT} {g : Mem} (hS : SI (g 0)) {T : Nat} (hT : g 0 1 = nI T) (hTb : T ≤ 31000) {a b : Int32} : Cti G yX4_alike cX4_alike 3 .int 6 144 [.ref (xo G), .int a, .int b] g (fun r g' => cpX (s_alike a b (g 0)) g r g') := by
  refine ent_i (by decide) (Nat.le_of_ble_eq_true rfl) [some (.ref (xo G)), some (.int a), some (.int b)] rfl ?_
  intro X C hR
  have C : CX X G RX4 cX4_alike 3 6 144 := C
  refine j_il1 0 C dX4_alike_0 ?_
  refine j_si 1 C dX4_alike_1 ms_X4_isPage lk_X4_47 (c_X4_isPage) rfl rfl ⟨(Nat.le_of_ble_eq_true rfl), (Nat.le_of_ble_eq_true rfl)⟩ (Nat.le_of_ble_eq_true rfl) (fun r1 g1 hp1 => ?_)
  obtain ⟨rfl, rfl⟩ := hp1
  refine j_ifeq 4 19 C dX4_alike_4 (by decide) (fun c4 => ?_) (fun c4 => ?_)
  · have v4 := bi_0 c4
    refine j_al0 19 C dX4_alike_19 ?_
    refine j_ldc 20 C dX4_alike_20 cs_X4_57 ?_
    refine j_vi 22 C dX4_alike_22 mv_X4_finding lk_X4_58 (c_X4_finding (f := 0) (by decide) (by decide)) rc_x rfl rfl ⟨(Nat.le_of_ble_eq_true rfl), (Nat.le_of_ble_eq_true rfl)⟩ (Nat.le_of_ble_eq_true rfl) (fun r22 g22 hp22 => ?_)
    obtain ⟨rfl, rfl⟩ := hp22
    exact hR dX4_alike_25 (cpX_f (f := 0) (by simp [s_alike, v4]) (by decide) (by decide) SC.rfl)
  · have v4 := bi_n c4
    refine j_il2 7 C dX4_alike_7 ?_
    refine j_si 8 C dX4_alike_8 ms_X4_isPage lk_X4_47 (c_X4_isPage) rfl rfl ⟨(Nat.le_of_ble_eq_true rfl), (Nat.le_of_ble_eq_true rfl)⟩ (Nat.le_of_ble_eq_true rfl) (fun r8 g8 hp8 => ?_)
    obtain ⟨rfl, rfl⟩ := hp8
    refine j_ifeq 11 19 C dX4_alike_11 (by decide) (fun c11 => ?_) (fun c11 => ?_)
    · have v11 := bi_0 c11
      refine j_al0 19 C dX4_alike_19 ?_
      refine j_ldc 20 C dX4_alike_20 cs_X4_57 ?_
      refine j_vi 22 C dX4_alike_22 mv_X4_finding lk_X4_58 (c_X4_finding (f := 0) (by decide) (by decide)) rc_x rfl rfl ⟨(Nat.le_of_ble_eq_true rfl), (Nat.le_of_ble_eq_true rfl)⟩ (Nat.le_of_ble_eq_true rfl) (fun r22 g22 hp22 => ?_)
      obtain ⟨rfl, rfl⟩ := hp22
      exact hR dX4_alike_25 (cpX_f (f := 0) (by simp [s_alike, v4, v11]) (by decide) (by decide) SC.rfl)
    · have v11 := bi_n c11
      refine j_il1 14 C dX4_alike_14 ?_
      refine j_il2 15 C dX4_alike_15 ?_
      refine j_icne 16 26 C dX4_alike_16 (by decide) (fun c16 => ?_) (fun c16 => ?_)
      · obtain ⟨A, hA, rfl⟩ := inr_nat (n := 5) (by decide) v4
        obtain ⟨B, hB, rfl⟩ := inr_nat (n := 5) (by decide) v11
        refine j_al0 26 C dX4_alike_26 ?_
        refine j_iconst 27 C dX4_alike_27 ic_3 ?_
        refine j_il1 28 C dX4_alike_28 ?_
        refine j_il2 29 C dX4_alike_29 ?_
        refine j_vi 30 C dX4_alike_30 mv_X4_fewestNights lk_X4_156 (c_X4_fewestNights (w := 3) (x := nI A) (y := nI B) (p := fun n => decide (ct (pU (ngs (g 0) 0 n) A B) 8 = 0)) hS hT hTb (fun k hk => c_hc3 (R := ngs (g 0) 0 k) (E := ngs (g 0) 0 (k + 1)) (by omega) (by omega))) rc_x rfl rfl ⟨(Nat.le_of_ble_eq_true rfl), (Nat.le_of_ble_eq_true rfl)⟩ (Nat.le_of_ble_eq_true rfl) (fun r30 g30 hp30 => ?_)
        exact hR dX4_alike_33 (cpX_of (by unfold s_alike; rw [v4, v11, decide_eq_true c16, cl_nI (show A < 2 ^ 31 by omega), cl_nI (show B < 2 ^ 31 by omega)]; first | done | exact if_pos rfl) hp30)
      · refine j_al0 19 C dX4_alike_19 ?_
        refine j_ldc 20 C dX4_alike_20 cs_X4_57 ?_
        refine j_vi 22 C dX4_alike_22 mv_X4_finding lk_X4_58 (c_X4_finding (f := 0) (by decide) (by decide)) rc_x rfl rfl ⟨(Nat.le_of_ble_eq_true rfl), (Nat.le_of_ble_eq_true rfl)⟩ (Nat.le_of_ble_eq_true rfl) (fun r22 g22 hp22 => ?_)
        obtain ⟨rfl, rfl⟩ := hp22
        exact hR dX4_alike_25 (cpX_f (f := 0) (by simp [s_alike, v4, v11, c16]) (by decide) (by decide) SC.rfl)
set_option maxRecDepth 20000 in
theorem c_X4_settles {G : GT} {g : Mem} (hS : SI (g 0)) {T : Nat} (hT : g 0 1 = nI T) (hTb : T ≤ 31000) : Cti G yX4_settles cX4_settles 1 .int 6 144 [.ref (xo G)] g (fun r g' => cpX (s_settles (g 0)) g r g') := by
  refine ent_i (by decide) (Nat.le_of_ble_eq_true rfl) [some (.ref (xo G))] rfl ?_
  intro X C hR
  have C : CX X G RX4 cX4_settles 1 6 144 := C
  refine j_al0 0 C dX4_settles_0 ?_
  refine j_iconst 1 C dX4_settles_1 ic_2 ?_
  refine j_iconst 2 C dX4_settles_2 ic_0 ?_
  refine j_iconst 3 C dX4_settles_3 ic_0 ?_
  refine j_vi 4 C dX4_settles_4 mv_X4_fewestNights lk_X4_156 (c_X4_fewestNights (w := 2) (x := 0) (y := 0) (p := fun n => sam (ngs (g 0) 0 (n + 1)) (ngs (g 0) 0 n)) hS hT hTb (fun k hk => c_hc2 (R := ngs (g 0) 0 k) (E := ngs (g 0) 0 (k + 1)))) rc_x rfl rfl ⟨(Nat.le_of_ble_eq_true rfl), (Nat.le_of_ble_eq_true rfl)⟩ (Nat.le_of_ble_eq_true rfl) (fun r4 g4 hp4 => ?_)
  exact hR dX4_settles_7 hp4
set_option maxRecDepth 20000 in
theorem c_X4_seed {G : GT} {g : Mem} (hS : SI (g 0)) {T : Nat} (hT : g 0 1 = nI T) (hTb : T ≤ 31000) {v : Int32} : Cti G yX4_seed cX4_seed 3 .int 0 0 [.ref (xo G), .int v] g (fun r g' => cpX (s_seed v (g 0)) g r g') := by
  refine ent_i (by decide) (Nat.le_of_ble_eq_true rfl) [some (.ref (xo G)), some (.int v), none] rfl ?_
  intro X C hR
  have C : CX X G RX4 cX4_seed 3 0 0 := C
  refine j_al0 0 C dX4_seed_0 ?_
  refine jg_X4_12 1 C dX4_seed_1 ?_
  refine jg_X4_207 4 lt4_0 C dX4_seed_4 ?_
  refine j_is2 7 C dX4_seed_7 rfl (Nat.le_of_ble_eq_true rfl) ?_
  refine j_al0 8 C dX4_seed_8 ?_
  refine jg_X4_12 9 C dX4_seed_9 ?_
  refine j_il1 12 C dX4_seed_12 ?_
  refine jp_X4_207 13 lt4_0 C dX4_seed_13 ?_
  refine j_il2 16 C dX4_seed_16 ?_
  exact hR dX4_seed_17 (cpX_r rfl rfl SC.rfl)
set_option maxRecDepth 20000 in
theorem c_X4_hold {G : GT} {g : Mem} (hS : SI (g 0)) {T : Nat} (hT : g 0 1 = nI T) (hTb : T ≤ 31000) {s m : Int32} : Cti G yX4_hold cX4_hold 3 .int 2 43 [.ref (xo G), .int s, .int m] g (fun r g' => cpX (s_hold s m (g 0)) g r g') := by
  refine ent_i (by decide) (Nat.le_of_ble_eq_true rfl) [some (.ref (xo G)), some (.int s), some (.int m)] rfl ?_
  intro X C hR
  have C : CX X G RX4 cX4_hold 3 2 43 := C
  refine j_il1 0 C dX4_hold_0 ?_
  refine j_si 1 C dX4_hold_1 ms_X4_isSpot lk_X4_224 (c_X4_isSpot) rfl rfl ⟨(Nat.le_of_ble_eq_true rfl), (Nat.le_of_ble_eq_true rfl)⟩ (Nat.le_of_ble_eq_true rfl) (fun r1 g1 hp1 => ?_)
  obtain ⟨rfl, rfl⟩ := hp1
  refine j_ifeq 4 20 C dX4_hold_4 (by decide) (fun c4 => ?_) (fun c4 => ?_)
  · have v4 := bi_0 c4
    refine j_al0 20 C dX4_hold_20 ?_
    refine j_ldc 21 C dX4_hold_21 cs_X4_57 ?_
    refine j_vi 23 C dX4_hold_23 mv_X4_finding lk_X4_58 (c_X4_finding (f := 0) (by decide) (by decide)) rc_x rfl rfl ⟨(Nat.le_of_ble_eq_true rfl), (Nat.le_of_ble_eq_true rfl)⟩ (Nat.le_of_ble_eq_true rfl) (fun r23 g23 hp23 => ?_)
    obtain ⟨rfl, rfl⟩ := hp23
    exact hR dX4_hold_26 (cpX_f (f := 0) (by simp [s_hold, v4]) (by decide) (by decide) SC.rfl)
  · have v4 := bi_n c4
    refine j_il2 7 C dX4_hold_7 ?_
    refine j_iconst 8 C dX4_hold_8 ic_m1 ?_
    refine j_iceq 9 27 C dX4_hold_9 (by decide) (fun c9 => ?_) (fun c9 => ?_)
    · obtain ⟨Q, hQ, rfl⟩ := inr_nat (n := 9) (by decide) v4
      refine j_al0 27 C dX4_hold_27 ?_
      refine jg_X4_12 28 C dX4_hold_28 ?_
      refine jg_X4_227 31 lt4_0 C dX4_hold_31 ?_
      refine j_il1 34 C dX4_hold_34 ?_
      refine j_il2 35 C dX4_hold_35 ?_
      refine js_sp 36 lt4_0 (by omega) C dX4_hold_36 ?_
      refine j_iconst 37 C dX4_hold_37 ic_1 ?_
      exact hR dX4_hold_38 (cpX_r (by simp [s_hold, v4, c9, cl_nI (show Q < 2 ^ 31 by omega), show inr (nI Q) 0 9 = true from v4]) rfl SC.rfl)
    · refine j_al0 12 C dX4_hold_12 ?_
      refine j_il2 13 C dX4_hold_13 ?_
      refine j_vi 14 C dX4_hold_14 mv_X4_isMoth lk_X4_96 (c_X4_isMoth) rc_x rfl rfl ⟨(Nat.le_of_ble_eq_true rfl), (Nat.le_of_ble_eq_true rfl)⟩ (Nat.le_of_ble_eq_true rfl) (fun r14 g14 hp14 => ?_)
      obtain ⟨rfl, rfl⟩ := hp14
      refine j_ifne 17 27 C dX4_hold_17 (by decide) (fun c17 => ?_) (fun c17 => ?_)
      · have v17 := bi_n c17
        obtain ⟨Q, hQ, rfl⟩ := inr_nat (n := 9) (by decide) v4
        refine j_al0 27 C dX4_hold_27 ?_
        refine jg_X4_12 28 C dX4_hold_28 ?_
        refine jg_X4_227 31 lt4_0 C dX4_hold_31 ?_
        refine j_il1 34 C dX4_hold_34 ?_
        refine j_il2 35 C dX4_hold_35 ?_
        refine js_sp 36 lt4_0 (by omega) C dX4_hold_36 ?_
        refine j_iconst 37 C dX4_hold_37 ic_1 ?_
        exact hR dX4_hold_38 (cpX_r (by simp [s_hold, v4, c9, v17, cl_nI (show Q < 2 ^ 31 by omega), show inr (nI Q) 0 9 = true from v4]) rfl SC.rfl)
      · have v17 := bi_0 c17
        refine j_al0 20 C dX4_hold_20 ?_
        refine j_ldc 21 C dX4_hold_21 cs_X4_57 ?_
        refine j_vi 23 C dX4_hold_23 mv_X4_finding lk_X4_58 (c_X4_finding (f := 0) (by decide) (by decide)) rc_x rfl rfl ⟨(Nat.le_of_ble_eq_true rfl), (Nat.le_of_ble_eq_true rfl)⟩ (Nat.le_of_ble_eq_true rfl) (fun r23 g23 hp23 => ?_)
        obtain ⟨rfl, rfl⟩ := hp23
        exact hR dX4_hold_26 (cpX_f (f := 0) (by simp [s_hold, v4, c9, v17]) (by decide) (by decide) SC.rfl)
