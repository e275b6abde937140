theorem ic_5 : Int32.ofInt (5) = 5 := by decide
theorem nLOW_ix : ∀ f, f < 7 → -1000001 - nLOW f = nI f := by decide +kernel
theorem lt4_0 : 0 < 4 := by decide
theorem lt4_1 : 1 < 4 := by decide
theorem lt4_2 : 2 < 4 := by decide
theorem lt4_3 : 3 < 4 := by decide
set_option maxRecDepth 20000 in
theorem c_X4_finding {G : GT} {g : Mem} {f : Nat} (hf : f < 7) {x : Int32} (hx : x = nLOW f) : Cti G yX4_finding cX4_finding 2 .int 0 0 [.ref (xo G), .int x] g (fun r g' => r = x ∧ g' = FX g f) := by
  refine ent_i (by decide) (Nat.le_of_ble_eq_true rfl) [some (.ref (xo G)), some (.int x)] rfl ?_
  intro X C hR
  have C : CX X G RX4 cX4_finding 2 0 0 := C
  refine j_al0 0 C dX4_finding_0 ?_
  refine jg_X4_38 1 C dX4_finding_1 ?_
  refine j_ldc 4 C dX4_finding_4 cs_X4_57 ?_
  refine j_il1 6 C dX4_finding_6 ?_
  refine j_isub 7 C dX4_finding_7 ?_
  refine j_top (nI f) (by rw [hx]; exact nLOW_ix f hf) ?_
  refine j_dup2 8 C dX4_finding_8 rfl rfl ?_
  refine jl_fa 9 (by omega) C dX4_finding_9 ?_
  refine j_iconst 10 C dX4_finding_10 ic_1 ?_
  refine j_iadd 11 C dX4_finding_11 ?_
  refine js_fa 12 (by omega) C dX4_finding_12 ?_
  refine j_il1 13 C dX4_finding_13 ?_
  exact hR dX4_finding_14 ⟨rfl, rfl⟩
set_option maxRecDepth 20000 in
theorem c_X4_within {G : GT} {g : Mem} {x lw up : Int32} : Cti G yX4_within cX4_within 3 .boolean 0 0 [.int x, .int lw, .int up] g (fun r g' => r = bi (inr x lw up) ∧ g = g') := by
  refine ent_z (by decide) (Nat.le_of_ble_eq_true rfl) [some (.int x), some (.int lw), some (.int up)] rfl ?_
  intro X C hR
  have C : CX X G RX4 cX4_within 3 0 0 := C
  refine j_il0 0 C dX4_within_0 ?_
  refine j_il1 1 C dX4_within_1 ?_
  refine j_iclt 2 14 C dX4_within_2 (by decide) (fun c2 => ?_) (fun c2 => ?_)
  · have e : inr x lw up = false := decide_eq_false (fun q => absurd c2 (Int32.not_lt.mpr q.1))
    refine j_iconst 14 C dX4_within_14 ic_0 ?_
    exact hR dX4_within_15 (by first | exact Or.inl rfl | exact Or.inr rfl) ⟨by rw [e]; rfl, rfl⟩
  · refine j_il0 5 C dX4_within_5 ?_
    refine j_il2 6 C dX4_within_6 ?_
    refine j_icgt 7 14 C dX4_within_7 (by decide) (fun c7 => ?_) (fun c7 => ?_)
    · have e : inr x lw up = false := decide_eq_false (fun q => absurd c7 (Int32.not_lt.mpr q.2))
      refine j_iconst 14 C dX4_within_14 ic_0 ?_
      exact hR dX4_within_15 (by first | exact Or.inl rfl | exact Or.inr rfl) ⟨by rw [e]; rfl, rfl⟩
    · have e : inr x lw up = true := decide_eq_true ⟨Int32.not_lt.mp c2, Int32.not_lt.mp c7⟩
      refine j_iconst 10 C dX4_within_10 ic_1 ?_
      refine j_goto 11 15 C dX4_within_11 (by decide) ?_
      exact hR dX4_within_15 (by first | exact Or.inl rfl | exact Or.inr rfl) ⟨by rw [e]; rfl, rfl⟩
set_option maxRecDepth 20000 in
theorem c_X4_isPage {G : GT} {g : Mem} {x : Int32} : Cti G yX4_isPage cX4_isPage 1 .boolean 1 22 [.int x] g (fun r g' => r = bi (inr x 0 5) ∧ g = g') := by
  refine ent_z (by decide) (Nat.le_of_ble_eq_true rfl) [some (.int x)] rfl ?_
  intro X C hR
  have C : CX X G RX4 cX4_isPage 1 1 22 := C
  refine j_il0 0 C dX4_isPage_0 ?_
  refine j_iconst 1 C dX4_isPage_1 ic_0 ?_
  refine j_iconst 2 C dX4_isPage_2 ic_5 ?_
  refine j_si 3 C dX4_isPage_3 ms_X4_within lk_X4_99 (c_X4_within) rfl rfl ⟨(Nat.le_of_ble_eq_true rfl), (Nat.le_of_ble_eq_true rfl)⟩ (Nat.le_of_ble_eq_true rfl) (fun r3 g3 hp3 => ?_)
  obtain ⟨rfl, rfl⟩ := hp3
  exact hR dX4_isPage_6 (by cases inr x 0 5 with | true => exact Or.inr rfl | false => exact Or.inl rfl) ⟨rfl, rfl⟩
set_option maxRecDepth 20000 in
theorem c_X4_isPlace {G : GT} {g : Mem} {x : Int32} : Cti G yX4_isPlace cX4_isPlace 1 .boolean 1 22 [.int x] g (fun r g' => r = bi (inr x 0 7) ∧ g = g') := by
  refine ent_z (by decide) (Nat.le_of_ble_eq_true rfl) [some (.int x)] rfl ?_
  intro X C hR
  have C : CX X G RX4 cX4_isPlace 1 1 22 := C
  refine j_il0 0 C dX4_isPlace_0 ?_
  refine j_iconst 1 C dX4_isPlace_1 ic_0 ?_
  refine j_bipush 2 C dX4_isPlace_2 bp_7 ?_
  refine j_si 4 C dX4_isPlace_4 ms_X4_within lk_X4_99 (c_X4_within) rfl rfl ⟨(Nat.le_of_ble_eq_true rfl), (Nat.le_of_ble_eq_true rfl)⟩ (Nat.le_of_ble_eq_true rfl) (fun r4 g4 hp4 => ?_)
  obtain ⟨rfl, rfl⟩ := hp4
  exact hR dX4_isPlace_7 (by cases inr x 0 7 with | true => exact Or.inr rfl | false => exact Or.inl rfl) ⟨rfl, rfl⟩
set_option maxRecDepth 20000 in
theorem c_X4_isWord {G : GT} {g : Mem} {x : Int32} : Cti G yX4_isWord cX4_isWord 1 .boolean 1 22 [.int x] g (fun r g' => r = bi (inr x 0 9) ∧ g = g') := by
  refine ent_z (by decide) (Nat.le_of_ble_eq_true rfl) [some (.int x)] rfl ?_
  intro X C hR
  have C : CX X G RX4 cX4_isWord 1 1 22 := C
  refine j_il0 0 C dX4_isWord_0 ?_
  refine j_iconst 1 C dX4_isWord_1 ic_0 ?_
  refine j_bipush 2 C dX4_isWord_2 bp_9 ?_
  refine j_si 4 C dX4_isWord_4 ms_X4_within lk_X4_99 (c_X4_within) rfl rfl ⟨(Nat.le_of_ble_eq_true rfl), (Nat.le_of_ble_eq_true rfl)⟩ (Nat.le_of_ble_eq_true rfl) (fun r4 g4 hp4 => ?_)
  obtain ⟨rfl, rfl⟩ := hp4
  exact hR dX4_isWord_7 (by cases inr x 0 9 with | true => exact Or.inr rfl | false => exact Or.inl rfl) ⟨rfl, rfl⟩
set_option maxRecDepth 20000 in
theorem c_X4_isKind {G : GT} {g : Mem} {x : Int32} : Cti G yX4_isKind cX4_isKind 1 .boolean 1 22 [.int x] g (fun r g' => r = bi (inr x 0 6) ∧ g = g') := by
  refine ent_z (by decide) (Nat.le_of_ble_eq_true rfl) [some (.int x)] rfl ?_
  intro X C hR
  have C : CX X G RX4 cX4_isKind 1 1 22 := C
  refine j_il0 0 C dX4_isKind_0 ?_
  refine j_iconst 1 C dX4_isKind_1 ic_0 ?_
  refine j_bipush 2 C dX4_isKind_2 bp_6 ?_
  refine j_si 4 C dX4_isKind_4 ms_X4_within lk_X4_99 (c_X4_within) rfl rfl ⟨(Nat.le_of_ble_eq_true rfl), (Nat.le_of_ble_eq_true rfl)⟩ (Nat.le_of_ble_eq_true rfl) (fun r4 g4 hp4 => ?_)
  obtain ⟨rfl, rfl⟩ := hp4
  exact hR dX4_isKind_7 (by cases inr x 0 6 with | true => exact Or.inr rfl | false => exact Or.inl rfl) ⟨rfl, rfl⟩
set_option maxRecDepth 20000 in
theorem c_X4_isSpot {G : GT} {g : Mem} {x : Int32} : Cti G yX4_isSpot cX4_isSpot 1 .boolean 1 22 [.int x] g (fun r g' => r = bi (inr x 0 9) ∧ g = g') := by
  refine ent_z (by decide) (Nat.le_of_ble_eq_true rfl) [some (.int x)] rfl ?_
  intro X C hR
  have C : CX X G RX4 cX4_isSpot 1 1 22 := C
  refine j_il0 0 C dX4_isSpot_0 ?_
  refine j_iconst 1 C dX4_isSpot_1 ic_0 ?_
  refine j_bipush 2 C dX4_isSpot_2 bp_9 ?_
  refine j_si 4 C dX4_isSpot_4 ms_X4_within lk_X4_99 (c_X4_within) rfl rfl ⟨(Nat.le_of_ble_eq_true rfl), (Nat.le_of_ble_eq_true rfl)⟩ (Nat.le_of_ble_eq_true rfl) (fun r4 g4 hp4 => ?_)
  obtain ⟨rfl, rfl⟩ := hp4
  exact hR dX4_isSpot_7 (by cases inr x 0 9 with | true => exact Or.inr rfl | false => exact Or.inl rfl) ⟨rfl, rfl⟩
set_option maxRecDepth 20000 in
theorem c_X4_isSheet {G : GT} {g : Mem} {x : Int32} : Cti G yX4_isSheet cX4_isSheet 1 .boolean 1 22 [.int x] g (fun r g' => r = bi (inr x 0 3) ∧ g = g') := by
  refine ent_z (by decide) (Nat.le_of_ble_eq_true rfl) [some (.int x)] rfl ?_
  intro X C hR
  have C : CX X G RX4 cX4_isSheet 1 1 22 := C
  refine j_il0 0 C dX4_isSheet_0 ?_
  refine j_iconst 1 C dX4_isSheet_1 ic_0 ?_
  refine j_iconst 2 C dX4_isSheet_2 ic_3 ?_
  refine j_si 3 C dX4_isSheet_3 ms_X4_within lk_X4_99 (c_X4_within) rfl rfl ⟨(Nat.le_of_ble_eq_true rfl), (Nat.le_of_ble_eq_true rfl)⟩ (Nat.le_of_ble_eq_true rfl) (fun r3 g3 hp3 => ?_)
  obtain ⟨rfl, rfl⟩ := hp3
  exact hR dX4_isSheet_6 (by cases inr x 0 3 with | true => exact Or.inr rfl | false => exact Or.inl rfl) ⟨rfl, rfl⟩
set_option maxRecDepth 20000 in
theorem c_X4_isMoth {G : GT} {g : Mem} {x : Int32} : Cti G yX4_isMoth cX4_isMoth 2 .boolean 1 22 [.ref (xo G), .int x] g (fun r g' => r = bi (isM (g 0) x) ∧ g = g') := by
  refine ent_z (by decide) (Nat.le_of_ble_eq_true rfl) [some (.ref (xo G)), some (.int x)] rfl ?_
  intro X C hR
  have C : CX X G RX4 cX4_isMoth 2 1 22 := C
  refine j_il1 0 C dX4_isMoth_0 ?_
  refine j_iconst 1 C dX4_isMoth_1 ic_0 ?_
  refine j_al0 2 C dX4_isMoth_2 ?_
  refine jg_X4_12 3 C dX4_isMoth_3 ?_
  refine jg_X4_164 6 lt4_0 C dX4_isMoth_6 ?_
  refine j_iconst 9 C dX4_isMoth_9 ic_1 ?_
  refine j_isub 10 C dX4_isMoth_10 ?_
  refine j_si 11 C dX4_isMoth_11 ms_X4_within lk_X4_99 (c_X4_within) rfl rfl ⟨(Nat.le_of_ble_eq_true rfl), (Nat.le_of_ble_eq_true rfl)⟩ (Nat.le_of_ble_eq_true rfl) (fun r11 g11 hp11 => ?_)
  obtain ⟨rfl, rfl⟩ := hp11
  exact hR dX4_isMoth_14 (by cases inr x 0 (g 0 0 - 1) with | true => exact Or.inr rfl | false => exact Or.inl rfl) ⟨rfl, rfl⟩
set_option maxRecDepth 20000 in
theorem c_X4_lookAhead {G : GT} {g : Mem} (hS : SI (g 0)) {T : Nat} (hT : g 0 1 = nI T) {N : Nat} (hN : T + N ≤ 99999) : Ctv G yX4_lookAhead cX4_lookAhead 2 5 120 [.ref (xo G), .int (nI N)] g (fun g' => g' = ub g 2 (ngs (g 0) 0 N)) := by
  refine ent_v (by decide) (Nat.le_of_ble_eq_true rfl) [some (.ref (xo G)), some (.int (nI N))] rfl ?_
  intro X C hR
  have C : CX X G RX4 cX4_lookAhead 2 5 120 := C
  refine j_al0 0 C dX4_lookAhead_0 ?_
  refine jg_X4_19 1 C dX4_lookAhead_1 ?_
  refine j_al0 4 C dX4_lookAhead_4 ?_
  refine jg_X4_12 5 C dX4_lookAhead_5 ?_
  refine j_vv 8 C dX4_lookAhead_8 mv_X0_become lk_X4_168 (c_X0_become lt4_2 lt4_0 (by decide)) (rc_d lt4_2) rfl rfl ⟨(Nat.le_of_ble_eq_true rfl), (Nat.le_of_ble_eq_true rfl)⟩ (Nat.le_of_ble_eq_true rfl) (fun g8 hp8 => ?_)
  obtain rfl := hp8
  refine j_al0 11 C dX4_lookAhead_11 ?_
  refine jg_X4_19 12 C dX4_lookAhead_12 ?_
  refine j_il1 15 C dX4_lookAhead_15 ?_
  refine j_iconst 16 C dX4_lookAhead_16 ic_0 ?_
  refine j_vv 17 C dX4_lookAhead_17 mv_X0_passNights lk_X4_132 (c_X0_passNights (O := 0) lt4_2 (by decide) (by rw [ub_s]; exact hS) (by rw [ub_s]; exact hT) (by omega)) (rc_d lt4_2) rfl rfl ⟨(Nat.le_of_ble_eq_true rfl), (Nat.le_of_ble_eq_true rfl)⟩ (Nat.le_of_ble_eq_true rfl) (fun g17 hp17 => ?_)
  obtain rfl := hp17
  rw [ub_ub, ub_s]
  exact hR dX4_lookAhead_20 rfl
set_option maxRecDepth 20000 in
theorem c_X4_staysWithout {G : GT} {g : Mem} (hS : SI (g 0)) {T : Nat} (hT : g 0 1 = nI T) {N O P : Nat} (hN : T + N ≤ 99999) (hO : O < 256) (hP : P < 6) : Cti G yX4_staysWithout cX4_staysWithout 4 .boolean 5 120 [.ref (xo G), .int (nI O), .int (nI P), .int (nI N)] g (fun r g' => r = bi (al (pE (ngs (g 0) O N) (g 0) P) 8) ∧ g' = ub g 2 (ngs (g 0) O N)) := by
  refine ent_z (by decide) (Nat.le_of_ble_eq_true rfl) [some (.ref (xo G)), some (.int (nI O)), some (.int (nI P)), some (.int (nI N))] rfl ?_
  intro X C hR
  have C : CX X G RX4 cX4_staysWithout 4 5 120 := C
  refine j_al0 0 C dX4_staysWithout_0 ?_
  refine jg_X4_19 1 C dX4_staysWithout_1 ?_
  refine j_al0 4 C dX4_staysWithout_4 ?_
  refine jg_X4_12 5 C dX4_staysWithout_5 ?_
  refine j_vv 8 C dX4_staysWithout_8 mv_X0_become lk_X4_168 (c_X0_become lt4_2 lt4_0 (by decide)) (rc_d lt4_2) rfl rfl ⟨(Nat.le_of_ble_eq_true rfl), (Nat.le_of_ble_eq_true rfl)⟩ (Nat.le_of_ble_eq_true rfl) (fun g8 hp8 => ?_)
  obtain rfl := hp8
  refine j_al0 11 C dX4_staysWithout_11 ?_
  refine jg_X4_19 12 C dX4_staysWithout_12 ?_
  refine j_il3 15 C dX4_staysWithout_15 ?_
  refine j_il1 16 C dX4_staysWithout_16 ?_
  refine j_vv 17 C dX4_staysWithout_17 mv_X0_passNights lk_X4_132 (c_X0_passNights (O := O) lt4_2 hO (by rw [ub_s]; exact hS) (by rw [ub_s]; exact hT) (by omega)) (rc_d lt4_2) rfl rfl ⟨(Nat.le_of_ble_eq_true rfl), (Nat.le_of_ble_eq_true rfl)⟩ (Nat.le_of_ble_eq_true rfl) (fun g17 hp17 => ?_)
  obtain rfl := hp17
  rw [ub_ub, ub_s]
  refine j_al0 20 C dX4_staysWithout_20 ?_
  refine jg_X4_19 21 C dX4_staysWithout_21 ?_
  refine j_al0 24 C dX4_staysWithout_24 ?_
  refine jg_X4_12 25 C dX4_staysWithout_25 ?_
  refine j_il2 28 C dX4_staysWithout_28 ?_
  refine j_vi 29 C dX4_staysWithout_29 mv_X0_hasPageOf lk_X4_279 (c_X0_hasPageOf lt4_2 lt4_0 hP) (rc_d lt4_2) rfl rfl ⟨(Nat.le_of_ble_eq_true rfl), (Nat.le_of_ble_eq_true rfl)⟩ (Nat.le_of_ble_eq_true rfl) (fun r29 g29 hp29 => ?_)
  obtain ⟨hr29, rfl⟩ := hp29
  rw [ub_s, ub_n (by decide)] at hr29
  subst hr29
  exact hR dX4_staysWithout_32 (by cases al (pE (ngs (g 0) O N) (g 0) P) 8 with | true => exact Or.inr rfl | false => exact Or.inl rfl) ⟨rfl, rfl⟩
