theorem bp_32 : (Int8.ofInt (32)).toInt32 = 32 := by decide
set_option maxRecDepth 20000 in
theorem c_X2_isMissing {G : GT} {g : Mem} {t : Nat} (ht4 : t < 4) : Cti G yX2_isMissing cX2_isMissing 1 .boolean 0 0 [.ref (sh G t)] g (fun r g' => r = bi (decide (g (6 + t) 0 = 0)) ∧ g = g') := by
  refine ent_z (by decide) (Nat.le_of_ble_eq_true rfl) [some (.ref (sh G t))] rfl ?_
  intro X C hR
  have C : CX X G RX2 cX2_isMissing 1 0 0 := C
  refine j_al0 0 C dX2_isMissing_0 ?_
  refine jg_X2_15 1 ht4 C dX2_isMissing_1 ?_
  refine j_ifne 4 11 C dX2_isMissing_4 (by decide) (fun c4 => ?_) (fun c4 => ?_)
  · refine j_iconst 11 C dX2_isMissing_11 ic_0 ?_
    exact hR dX2_isMissing_12 (by first | exact Or.inl rfl | exact Or.inr rfl) ⟨by first | (rw [decide_eq_true c4]; rfl) | (rw [decide_eq_false c4]; rfl), rfl⟩
  · refine j_iconst 7 C dX2_isMissing_7 ic_1 ?_
    refine j_goto 8 12 C dX2_isMissing_8 (by decide) ?_
    exact hR dX2_isMissing_12 (by first | exact Or.inl rfl | exact Or.inr rfl) ⟨by first | (rw [decide_eq_true c4]; rfl) | (rw [decide_eq_false c4]; rfl), rfl⟩
set_option maxRecDepth 20000 in
theorem c_X2_hasRun {G : GT} {g : Mem} {t : Nat} (ht4 : t < 4) {f n : Int32} : Cti G yX2_hasRun cX2_hasRun 3 .boolean 0 0 [.ref (sh G t), .int f, .int n] g (fun r g' => r = bi (run (g (6 + t) 1) f n) ∧ g = g') := by
  refine ent_z (by decide) (Nat.le_of_ble_eq_true rfl) [some (.ref (sh G t)), some (.int f), some (.int n)] rfl ?_
  intro X C hR
  have C : CX X G RX2 cX2_hasRun 3 0 0 := C
  refine j_il1 0 C dX2_hasRun_0 ?_
  refine j_iflt 1 22 C dX2_hasRun_1 (by decide) (fun c1 => ?_) (fun c1 => ?_)
  · have e : run (g (6 + t) 1) f n = false := decide_eq_false (fun q => absurd c1 (Int32.not_lt.mpr q.1))
    refine j_iconst 22 C dX2_hasRun_22 ic_0 ?_
    exact hR dX2_hasRun_23 (by first | exact Or.inl rfl | exact Or.inr rfl) ⟨by rw [e]; rfl, rfl⟩
  · refine j_il2 4 C dX2_hasRun_4 ?_
    refine j_iflt 5 22 C dX2_hasRun_5 (by decide) (fun c5 => ?_) (fun c5 => ?_)
    · have e : run (g (6 + t) 1) f n = false := decide_eq_false (fun q => absurd c5 (Int32.not_lt.mpr q.2.1))
      refine j_iconst 22 C dX2_hasRun_22 ic_0 ?_
      exact hR dX2_hasRun_23 (by first | exact Or.inl rfl | exact Or.inr rfl) ⟨by rw [e]; rfl, rfl⟩
    · refine j_il1 8 C dX2_hasRun_8 ?_
      refine j_al0 9 C dX2_hasRun_9 ?_
      refine jg_X2_19 10 ht4 C dX2_hasRun_10 ?_
      refine j_il2 13 C dX2_hasRun_13 ?_
      refine j_isub 14 C dX2_hasRun_14 ?_
      refine j_icgt 15 22 C dX2_hasRun_15 (by decide) (fun c15 => ?_) (fun c15 => ?_)
      · have e : run (g (6 + t) 1) f n = false := decide_eq_false (fun q => absurd c15 (Int32.not_lt.mpr q.2.2))
        refine j_iconst 22 C dX2_hasRun_22 ic_0 ?_
        exact hR dX2_hasRun_23 (by first | exact Or.inl rfl | exact Or.inr rfl) ⟨by rw [e]; rfl, rfl⟩
      · have e : run (g (6 + t) 1) f n = true := decide_eq_true ⟨Int32.not_lt.mp c1, Int32.not_lt.mp c5, Int32.not_lt.mp c15⟩
        refine j_iconst 18 C dX2_hasRun_18 ic_1 ?_
        refine j_goto 19 23 C dX2_hasRun_19 (by decide) ?_
        exact hR dX2_hasRun_23 (by first | exact Or.inl rfl | exact Or.inr rfl) ⟨by rw [e]; rfl, rfl⟩
set_option maxRecDepth 20000 in
theorem c_X2_set {G : GT} {g : Mem} {t : Nat} (ht4 : t < 4) {i : Nat} (hi : i < 40) {v : Int32} (hb : g (6 + t) 0 = 8 ∨ g (6 + t) 0 = 16 ∨ g (6 + t) 0 = 32) : Ctv G yX2_set cX2_set 3 0 0 [.ref (sh G t), .int (nI i), .int v] g (fun g' => g' = ub g (6 + t) (upd (g (6 + t)) (2 + i) (nar (g (6 + t) 0) v))) := by
  refine ent_v (by decide) (Nat.le_of_ble_eq_true rfl) [some (.ref (sh G t)), some (.int (nI i)), some (.int v)] rfl ?_
  intro X C hR
  have C : CX X G RX2 cX2_set 3 0 0 := C
  generalize hbb : g (6 + t) 0 = B at hb
  rcases hb with rfl | rfl | rfl
  · refine j_al0 0 C dX2_set_0 ?_
    refine jg_X2_15 1 ht4 C dX2_set_1 ?_
    refine j_top (8) hbb ?_
    refine j_lookup 4 32 (off := 28) C dX2_set_4 (by decide) (by decide) (by decide) ?_
    refine j_al0 32 C dX2_set_32 ?_
    refine jg_X2_9 33 ht4 C dX2_set_33 ?_
    refine j_il1 36 C dX2_set_36 ?_
    refine j_il2 37 C dX2_set_37 ?_
    refine j_i2b 38 C dX2_set_38 ?_
    refine js_sn 39 ht4 (by omega) C dX2_set_39 ?_
    refine j_goto 40 61 C dX2_set_40 (by decide) ?_
    exact hR dX2_set_61 (by rw [hbb]; rfl)
  · refine j_al0 0 C dX2_set_0 ?_
    refine jg_X2_15 1 ht4 C dX2_set_1 ?_
    refine j_top (16) hbb ?_
    refine j_lookup 4 43 (off := 39) C dX2_set_4 (by decide) (by decide) (by decide) ?_
    refine j_al0 43 C dX2_set_43 ?_
    refine jg_X2_9 44 ht4 C dX2_set_44 ?_
    refine j_il1 47 C dX2_set_47 ?_
    refine j_il2 48 C dX2_set_48 ?_
    refine j_i2s 49 C dX2_set_49 ?_
    refine js_sn 50 ht4 (by omega) C dX2_set_50 ?_
    refine j_goto 51 61 C dX2_set_51 (by decide) ?_
    exact hR dX2_set_61 (by rw [hbb]; rfl)
  · refine j_al0 0 C dX2_set_0 ?_
    refine jg_X2_15 1 ht4 C dX2_set_1 ?_
    refine j_top (32) hbb ?_
    refine j_lookup 4 54 (off := 50) C dX2_set_4 (by decide) (by decide) (by decide) ?_
    refine j_al0 54 C dX2_set_54 ?_
    refine jg_X2_9 55 ht4 C dX2_set_55 ?_
    refine j_il1 58 C dX2_set_58 ?_
    refine j_il2 59 C dX2_set_59 ?_
    refine js_sn 60 ht4 (by omega) C dX2_set_60 ?_
    exact hR dX2_set_61 (by rw [hbb]; rfl)
theorem cbs : ∀ k, k < 40 → ∀ t, t < 4 → cb k = 6 + t → chi k ≤ 42 := by decide +kernel
def zs (S : Row) : Nat → Row
  | 0 => S
  | k + 1 => upd (zs S k) (2 + k) 0
theorem zs_at {S : Row} {i : Nat} : ∀ {k : Nat}, zs S k i = if 2 ≤ i ∧ i < 2 + k then 0 else S i := by
  intro k
  induction k with
  | zero => rw [if_neg (by omega)]; rfl
  | succ k ih =>
    show upd (zs S k) (2 + k) 0 i = _
    by_cases h : i = 2 + k
    · subst h; rw [upd_s, if_pos (by omega)]
    · rw [upd_n h, ih]
      by_cases q : 2 ≤ i ∧ i < 2 + k
      · rw [if_pos q, if_pos (by omega)]
      · rw [if_neg q, if_neg (by omega)]
set_option maxRecDepth 20000 in
theorem c_X2_make {G : GT} {g : Mem} {t : Nat} (ht4 : t < 4) {x y : Int32} : Ctv G yX2_make cX2_make 4 0 0 [.ref (sh G t), .int x, .int y] g (fun g' => g' = ub g (6 + t) (mkS x y)) := by
  refine ent_v (by decide) (Nat.le_of_ble_eq_true rfl) [some (.ref (sh G t)), some (.int x), some (.int y), none] rfl ?_
  intro X C hR
  have C : CX X G RX2 cX2_make 4 0 0 := C
  have loop : ∀ n k, k + n = 40 → J X G 4 (ub g (6 + t) (zs (upd (upd (g (6 + t)) 0 x) 1 (if x = 0 then 0 else y)) k)) 20 [some (.ref (sh G t)), some (.int (x)), some (.int (y)), some (.int (nI k))] [] := by
    intro n
    induction n with
    | zero =>
      intro k hk
      obtain rfl : k = 40 := by omega
      refine j_il3 20 C dX2_make_20 ?_
      refine j_bipush 21 C dX2_make_21 bp_40 ?_
      refine j_icge 23 39 C dX2_make_23 (by decide) (fun c23 => ?_) (fun c23 => ?_)
      · refine J.congr (g' := ub g (6 + t) (mkS x y)) (fun k hk i i1 i2 => ?_) ?_
        · by_cases hb : cb k = 6 + t
          · have h42 : i < 42 := Nat.lt_of_lt_of_le i2 (cbs k hk t ht4 hb)
            rw [hb, ub_s, ub_s, zs_at]
            unfold mkS
            by_cases q0 : i = 0
            · subst q0; rw [if_neg (by omega), if_pos rfl, upd_n (by omega), upd_s]
            · rw [if_neg q0]
              by_cases q1 : i = 1
              · subst q1; rw [if_neg (by omega), if_pos rfl, upd_s]
              · rw [if_neg q1, if_pos (by omega)]
          · rw [ub_n hb, ub_n hb]
        · exact hR dX2_make_39 rfl
      · exact absurd (nI_le (Nat.le_refl _) (by decide)) c23
    | succ n ih =>
      intro k hk
      refine j_il3 20 C dX2_make_20 ?_
      refine j_bipush 21 C dX2_make_21 bp_40 ?_
      refine j_icge 23 39 C dX2_make_23 (by decide) (fun c23 => ?_) (fun c23 => ?_)
      · exact absurd c23 (nI_ge (a := k) (b := 40) (by omega) (by decide))
      · refine j_al0 26 C dX2_make_26 ?_
        refine jg_X2_9 27 ht4 C dX2_make_27 ?_
        refine j_il3 30 C dX2_make_30 ?_
        refine j_iconst 31 C dX2_make_31 ic_0 ?_
        refine js_sn 32 ht4 (by omega) C dX2_make_32 ?_
        rw [ub_ub, ub_s]
        refine j_inc3 33 C dX2_make_33 rfl (nI_inc _) (Nat.le_of_ble_eq_true rfl) ?_
        refine j_goto 36 20 C dX2_make_36 (by decide) ?_
        exact ih (k + 1) (by omega)
  refine j_al0 0 C dX2_make_0 ?_
  refine j_il1 1 C dX2_make_1 ?_
  refine jp_X2_15 2 ht4 C dX2_make_2 ?_
  refine j_al0 5 C dX2_make_5 ?_
  refine j_il1 6 C dX2_make_6 ?_
  refine j_ifne 7 14 C dX2_make_7 (by decide) (fun c7 => ?_) (fun c7 => ?_)
  · refine j_il2 14 C dX2_make_14 ?_
    refine jp_X2_19 15 ht4 C dX2_make_15 ?_
    rw [ub_ub, ub_s]
    refine j_iconst 18 C dX2_make_18 ic_0 ?_
    refine j_is3 19 C dX2_make_19 rfl (Nat.le_of_ble_eq_true rfl) ?_
    have h9 := loop 40 0 rfl
    rw [show zs (upd (upd (g (6 + t)) 0 x) 1 (if x = 0 then 0 else y)) 0 = (upd (upd (g (6 + t)) 0 x) 1 (if x = 0 then 0 else y)) from rfl] at h9
    rw [if_neg c7] at h9
    exact h9
  · refine j_iconst 10 C dX2_make_10 ic_0 ?_
    refine j_goto 11 15 C dX2_make_11 (by decide) ?_
    refine jp_X2_19 15 ht4 C dX2_make_15 ?_
    rw [ub_ub, ub_s]
    refine j_iconst 18 C dX2_make_18 ic_0 ?_
    refine j_is3 19 C dX2_make_19 rfl (Nat.le_of_ble_eq_true rfl) ?_
    have h9 := loop 40 0 rfl
    rw [show zs (upd (upd (g (6 + t)) 0 x) 1 (if x = 0 then 0 else y)) 0 = (upd (upd (g (6 + t)) 0 x) 1 (if x = 0 then 0 else y)) from rfl] at h9
    rw [if_pos c7] at h9
    exact h9
set_option maxRecDepth 20000 in
theorem c_X4_sheet {G : GT} {g : Mem} (hS : SI (g 0)) {T : Nat} (hT : g 0 1 = nI T) (hTb : T ≤ 31000) (hH : HI g) {s b n : Int32} : Cti G yX4_sheet cX4_sheet 4 .int 2 42 [.ref (xo G), .int s, .int b, .int n] g (fun r g' => cgX (x_sheet s b n g) g r g') := by
  refine ent_i (by decide) (Nat.le_of_ble_eq_true rfl) [some (.ref (xo G)), some (.int s), some (.int b), some (.int n)] rfl ?_
  intro X C hR
  have C : CX X G RX4 cX4_sheet 4 2 42 := C
  refine j_il1 0 C dX4_sheet_0 ?_
  refine j_si 1 C dX4_sheet_1 ms_X4_isSheet lk_X4_183 (c_X4_isSheet) rfl rfl ⟨(Nat.le_of_ble_eq_true rfl), (Nat.le_of_ble_eq_true rfl)⟩ (Nat.le_of_ble_eq_true rfl) (fun r1 g1 hp1 => ?_)
  obtain ⟨rfl, rfl⟩ := hp1
  refine j_ifeq 4 29 C dX4_sheet_4 (by decide) (fun c4 => ?_) (fun c4 => ?_)
  · have v4 := bi_0 c4
    refine j_al0 29 C dX4_sheet_29 ?_
    refine j_ldc 30 C dX4_sheet_30 cs_X4_57 ?_
    refine j_vi 32 C dX4_sheet_32 mv_X4_finding lk_X4_58 (c_X4_finding (f := 0) (by decide) (by decide)) rc_x rfl rfl ⟨(Nat.le_of_ble_eq_true rfl), (Nat.le_of_ble_eq_true rfl)⟩ (Nat.le_of_ble_eq_true rfl) (fun r32 g32 hp32 => ?_)
    obtain ⟨rfl, rfl⟩ := hp32
    exact hR dX4_sheet_35 (cgX_f (f := 0) (by simp [x_sheet, okb, v4]) (by decide) (by decide) SC.rfl)
  · have v4 := bi_n c4
    refine j_il2 7 C dX4_sheet_7 ?_
    refine j_ifeq 8 36 C dX4_sheet_8 (by decide) (fun c8 => ?_) (fun c8 => ?_)
    · refine j_il3 36 C dX4_sheet_36 ?_
      refine j_ifge 37 47 C dX4_sheet_37 (by decide) (fun c37 => ?_) (fun c37 => ?_)
      · refine j_il3 47 C dX4_sheet_47 ?_
        refine j_bipush 48 C dX4_sheet_48 bp_40 ?_
        refine j_icle 50 60 C dX4_sheet_50 (by decide) (fun c50 => ?_) (fun c50 => ?_)
        · obtain ⟨Q, hQ, rfl⟩ := inr_nat (n := 3) (by decide) v4
          have ht4 : Q < 4 := by omega
          refine j_al0 60 C dX4_sheet_60 ?_
          refine jg_X4_34 61 C dX4_sheet_61 ?_
          refine j_il1 64 C dX4_sheet_64 ?_
          refine jl_hs 65 (by omega) C dX4_sheet_65 ?_
          refine j_il2 66 C dX4_sheet_66 ?_
          refine j_il3 67 C dX4_sheet_67 ?_
          refine j_vv 68 C dX4_sheet_68 mv_X2_make lk_X4_236 (c_X2_make ht4) (rc_s ht4) rfl rfl ⟨(Nat.le_of_ble_eq_true rfl), (Nat.le_of_ble_eq_true rfl)⟩ (Nat.le_of_ble_eq_true rfl) (fun g68 hp68 => ?_)
          obtain rfl := hp68
          refine j_al0 71 C dX4_sheet_71 ?_
          refine jg_X4_34 72 C dX4_sheet_72 ?_
          refine j_il1 75 C dX4_sheet_75 ?_
          refine jl_hs 76 (by omega) C dX4_sheet_76 ?_
          refine jg_X4_239 77 ht4 C dX4_sheet_77 ?_
          rw [ub_s]
          exact hR dX4_sheet_80 (cgX_r (by simp [x_sheet, okb, v4, c8, c37, c50, cl_nI (show Q < 2 ^ 31 by omega), Int32.not_lt.mpr c37, Int32.not_lt.mpr c50]; rfl) rfl SC.rfl)
        · refine j_al0 53 C dX4_sheet_53 ?_
          refine j_ldc 54 C dX4_sheet_54 cs_X4_57 ?_
          refine j_vi 56 C dX4_sheet_56 mv_X4_finding lk_X4_58 (c_X4_finding (f := 0) (by decide) (by decide)) rc_x rfl rfl ⟨(Nat.le_of_ble_eq_true rfl), (Nat.le_of_ble_eq_true rfl)⟩ (Nat.le_of_ble_eq_true rfl) (fun r56 g56 hp56 => ?_)
          obtain ⟨rfl, rfl⟩ := hp56
          exact hR dX4_sheet_59 (cgX_f (f := 0) (by simp [x_sheet, okb, v4, c8, c37, c50, Int32.not_lt.mpr c37, Int32.not_le.mp c50]) (by decide) (by decide) SC.rfl)
      · refine j_al0 40 C dX4_sheet_40 ?_
        refine j_ldc 41 C dX4_sheet_41 cs_X4_235 ?_
        refine j_vi 43 C dX4_sheet_43 mv_X4_finding lk_X4_58 (c_X4_finding (f := 6) (by decide) (by decide)) rc_x rfl rfl ⟨(Nat.le_of_ble_eq_true rfl), (Nat.le_of_ble_eq_true rfl)⟩ (Nat.le_of_ble_eq_true rfl) (fun r43 g43 hp43 => ?_)
        obtain ⟨rfl, rfl⟩ := hp43
        exact hR dX4_sheet_46 (cgX_f (f := 6) (by simp [x_sheet, okb, v4, c8, c37, Int32.not_le.mp c37]) (by decide) (by decide) SC.rfl)
    · refine j_il2 11 C dX4_sheet_11 ?_
      refine j_bipush 12 C dX4_sheet_12 bp_8 ?_
      refine j_iceq 14 36 C dX4_sheet_14 (by decide) (fun c14 => ?_) (fun c14 => ?_)
      · refine j_il3 36 C dX4_sheet_36 ?_
        refine j_ifge 37 47 C dX4_sheet_37 (by decide) (fun c37 => ?_) (fun c37 => ?_)
        · refine j_il3 47 C dX4_sheet_47 ?_
          refine j_bipush 48 C dX4_sheet_48 bp_40 ?_
          refine j_icle 50 60 C dX4_sheet_50 (by decide) (fun c50 => ?_) (fun c50 => ?_)
          · obtain ⟨Q, hQ, rfl⟩ := inr_nat (n := 3) (by decide) v4
            have ht4 : Q < 4 := by omega
            refine j_al0 60 C dX4_sheet_60 ?_
            refine jg_X4_34 61 C dX4_sheet_61 ?_
            refine j_il1 64 C dX4_sheet_64 ?_
            refine jl_hs 65 (by omega) C dX4_sheet_65 ?_
            refine j_il2 66 C dX4_sheet_66 ?_
            refine j_il3 67 C dX4_sheet_67 ?_
            refine j_vv 68 C dX4_sheet_68 mv_X2_make lk_X4_236 (c_X2_make ht4) (rc_s ht4) rfl rfl ⟨(Nat.le_of_ble_eq_true rfl), (Nat.le_of_ble_eq_true rfl)⟩ (Nat.le_of_ble_eq_true rfl) (fun g68 hp68 => ?_)
            obtain rfl := hp68
            refine j_al0 71 C dX4_sheet_71 ?_
            refine jg_X4_34 72 C dX4_sheet_72 ?_
            refine j_il1 75 C dX4_sheet_75 ?_
            refine jl_hs 76 (by omega) C dX4_sheet_76 ?_
            refine jg_X4_239 77 ht4 C dX4_sheet_77 ?_
            rw [ub_s]
            exact hR dX4_sheet_80 (cgX_r (by simp [x_sheet, okb, v4, c8, c14, c37, c50, cl_nI (show Q < 2 ^ 31 by omega), Int32.not_lt.mpr c37, Int32.not_lt.mpr c50]; rfl) rfl SC.rfl)
          · refine j_al0 53 C dX4_sheet_53 ?_
            refine j_ldc 54 C dX4_sheet_54 cs_X4_57 ?_
            refine j_vi 56 C dX4_sheet_56 mv_X4_finding lk_X4_58 (c_X4_finding (f := 0) (by decide) (by decide)) rc_x rfl rfl ⟨(Nat.le_of_ble_eq_true rfl), (Nat.le_of_ble_eq_true rfl)⟩ (Nat.le_of_ble_eq_true rfl) (fun r56 g56 hp56 => ?_)
            obtain ⟨rfl, rfl⟩ := hp56
            exact hR dX4_sheet_59 (cgX_f (f := 0) (by simp [x_sheet, okb, v4, c8, c14, c37, c50, Int32.not_lt.mpr c37, Int32.not_le.mp c50]) (by decide) (by decide) SC.rfl)
        · refine j_al0 40 C dX4_sheet_40 ?_
          refine j_ldc 41 C dX4_sheet_41 cs_X4_235 ?_
          refine j_vi 43 C dX4_sheet_43 mv_X4_finding lk_X4_58 (c_X4_finding (f := 6) (by decide) (by decide)) rc_x rfl rfl ⟨(Nat.le_of_ble_eq_true rfl), (Nat.le_of_ble_eq_true rfl)⟩ (Nat.le_of_ble_eq_true rfl) (fun r43 g43 hp43 => ?_)
          obtain ⟨rfl, rfl⟩ := hp43
          exact hR dX4_sheet_46 (cgX_f (f := 6) (by simp [x_sheet, okb, v4, c8, c14, c37, Int32.not_le.mp c37]) (by decide) (by decide) SC.rfl)
      · refine j_il2 17 C dX4_sheet_17 ?_
        refine j_bipush 18 C dX4_sheet_18 bp_16 ?_
        refine j_iceq 20 36 C dX4_sheet_20 (by decide) (fun c20 => ?_) (fun c20 => ?_)
        · refine j_il3 36 C dX4_sheet_36 ?_
          refine j_ifge 37 47 C dX4_sheet_37 (by decide) (fun c37 => ?_) (fun c37 => ?_)
          · refine j_il3 47 C dX4_sheet_47 ?_
            refine j_bipush 48 C dX4_sheet_48 bp_40 ?_
            refine j_icle 50 60 C dX4_sheet_50 (by decide) (fun c50 => ?_) (fun c50 => ?_)
            · obtain ⟨Q, hQ, rfl⟩ := inr_nat (n := 3) (by decide) v4
              have ht4 : Q < 4 := by omega
              refine j_al0 60 C dX4_sheet_60 ?_
              refine jg_X4_34 61 C dX4_sheet_61 ?_
              refine j_il1 64 C dX4_sheet_64 ?_
              refine jl_hs 65 (by omega) C dX4_sheet_65 ?_
              refine j_il2 66 C dX4_sheet_66 ?_
              refine j_il3 67 C dX4_sheet_67 ?_
              refine j_vv 68 C dX4_sheet_68 mv_X2_make lk_X4_236 (c_X2_make ht4) (rc_s ht4) rfl rfl ⟨(Nat.le_of_ble_eq_true rfl), (Nat.le_of_ble_eq_true rfl)⟩ (Nat.le_of_ble_eq_true rfl) (fun g68 hp68 => ?_)
              obtain rfl := hp68
              refine j_al0 71 C dX4_sheet_71 ?_
              refine jg_X4_34 72 C dX4_sheet_72 ?_
              refine j_il1 75 C dX4_sheet_75 ?_
              refine jl_hs 76 (by omega) C dX4_sheet_76 ?_
              refine jg_X4_239 77 ht4 C dX4_sheet_77 ?_
              rw [ub_s]
              exact hR dX4_sheet_80 (cgX_r (by simp [x_sheet, okb, v4, c8, c14, c20, c37, c50, cl_nI (show Q < 2 ^ 31 by omega), Int32.not_lt.mpr c37, Int32.not_lt.mpr c50]; rfl) rfl SC.rfl)
            · refine j_al0 53 C dX4_sheet_53 ?_
              refine j_ldc 54 C dX4_sheet_54 cs_X4_57 ?_
              refine j_vi 56 C dX4_sheet_56 mv_X4_finding lk_X4_58 (c_X4_finding (f := 0) (by decide) (by decide)) rc_x rfl rfl ⟨(Nat.le_of_ble_eq_true rfl), (Nat.le_of_ble_eq_true rfl)⟩ (Nat.le_of_ble_eq_true rfl) (fun r56 g56 hp56 => ?_)
              obtain ⟨rfl, rfl⟩ := hp56
              exact hR dX4_sheet_59 (cgX_f (f := 0) (by simp [x_sheet, okb, v4, c8, c14, c20, c37, c50, Int32.not_lt.mpr c37, Int32.not_le.mp c50]) (by decide) (by decide) SC.rfl)
          · refine j_al0 40 C dX4_sheet_40 ?_
            refine j_ldc 41 C dX4_sheet_41 cs_X4_235 ?_
            refine j_vi 43 C dX4_sheet_43 mv_X4_finding lk_X4_58 (c_X4_finding (f := 6) (by decide) (by decide)) rc_x rfl rfl ⟨(Nat.le_of_ble_eq_true rfl), (Nat.le_of_ble_eq_true rfl)⟩ (Nat.le_of_ble_eq_true rfl) (fun r43 g43 hp43 => ?_)
            obtain ⟨rfl, rfl⟩ := hp43
            exact hR dX4_sheet_46 (cgX_f (f := 6) (by simp [x_sheet, okb, v4, c8, c14, c20, c37, Int32.not_le.mp c37]) (by decide) (by decide) SC.rfl)
        · refine j_il2 23 C dX4_sheet_23 ?_
          refine j_bipush 24 C dX4_sheet_24 bp_32 ?_
          refine j_iceq 26 36 C dX4_sheet_26 (by decide) (fun c26 => ?_) (fun c26 => ?_)
          · refine j_il3 36 C dX4_sheet_36 ?_
            refine j_ifge 37 47 C dX4_sheet_37 (by decide) (fun c37 => ?_) (fun c37 => ?_)
            · refine j_il3 47 C dX4_sheet_47 ?_
              refine j_bipush 48 C dX4_sheet_48 bp_40 ?_
              refine j_icle 50 60 C dX4_sheet_50 (by decide) (fun c50 => ?_) (fun c50 => ?_)
              · obtain ⟨Q, hQ, rfl⟩ := inr_nat (n := 3) (by decide) v4
                have ht4 : Q < 4 := by omega
                refine j_al0 60 C dX4_sheet_60 ?_
                refine jg_X4_34 61 C dX4_sheet_61 ?_
                refine j_il1 64 C dX4_sheet_64 ?_
                refine jl_hs 65 (by omega) C dX4_sheet_65 ?_
                refine j_il2 66 C dX4_sheet_66 ?_
                refine j_il3 67 C dX4_sheet_67 ?_
                refine j_vv 68 C dX4_sheet_68 mv_X2_make lk_X4_236 (c_X2_make ht4) (rc_s ht4) rfl rfl ⟨(Nat.le_of_ble_eq_true rfl), (Nat.le_of_ble_eq_true rfl)⟩ (Nat.le_of_ble_eq_true rfl) (fun g68 hp68 => ?_)
                obtain rfl := hp68
                refine j_al0 71 C dX4_sheet_71 ?_
                refine jg_X4_34 72 C dX4_sheet_72 ?_
                refine j_il1 75 C dX4_sheet_75 ?_
                refine jl_hs 76 (by omega) C dX4_sheet_76 ?_
                refine jg_X4_239 77 ht4 C dX4_sheet_77 ?_
                rw [ub_s]
                exact hR dX4_sheet_80 (cgX_r (by simp [x_sheet, okb, v4, c8, c14, c20, c26, c37, c50, cl_nI (show Q < 2 ^ 31 by omega), Int32.not_lt.mpr c37, Int32.not_lt.mpr c50]; rfl) rfl SC.rfl)
              · refine j_al0 53 C dX4_sheet_53 ?_
                refine j_ldc 54 C dX4_sheet_54 cs_X4_57 ?_
                refine j_vi 56 C dX4_sheet_56 mv_X4_finding lk_X4_58 (c_X4_finding (f := 0) (by decide) (by decide)) rc_x rfl rfl ⟨(Nat.le_of_ble_eq_true rfl), (Nat.le_of_ble_eq_true rfl)⟩ (Nat.le_of_ble_eq_true rfl) (fun r56 g56 hp56 => ?_)
                obtain ⟨rfl, rfl⟩ := hp56
                exact hR dX4_sheet_59 (cgX_f (f := 0) (by simp [x_sheet, okb, v4, c8, c14, c20, c26, c37, c50, Int32.not_lt.mpr c37, Int32.not_le.mp c50]) (by decide) (by decide) SC.rfl)
            · refine j_al0 40 C dX4_sheet_40 ?_
              refine j_ldc 41 C dX4_sheet_41 cs_X4_235 ?_
              refine j_vi 43 C dX4_sheet_43 mv_X4_finding lk_X4_58 (c_X4_finding (f := 6) (by decide) (by decide)) rc_x rfl rfl ⟨(Nat.le_of_ble_eq_true rfl), (Nat.le_of_ble_eq_true rfl)⟩ (Nat.le_of_ble_eq_true rfl) (fun r43 g43 hp43 => ?_)
              obtain ⟨rfl, rfl⟩ := hp43
              exact hR dX4_sheet_46 (cgX_f (f := 6) (by simp [x_sheet, okb, v4, c8, c14, c20, c26, c37, Int32.not_le.mp c37]) (by decide) (by decide) SC.rfl)
          · refine j_al0 29 C dX4_sheet_29 ?_
            refine j_ldc 30 C dX4_sheet_30 cs_X4_57 ?_
            refine j_vi 32 C dX4_sheet_32 mv_X4_finding lk_X4_58 (c_X4_finding (f := 0) (by decide) (by decide)) rc_x rfl rfl ⟨(Nat.le_of_ble_eq_true rfl), (Nat.le_of_ble_eq_true rfl)⟩ (Nat.le_of_ble_eq_true rfl) (fun r32 g32 hp32 => ?_)
            obtain ⟨rfl, rfl⟩ := hp32
            exact hR dX4_sheet_35 (cgX_f (f := 0) (by simp [x_sheet, okb, v4, c8, c14, c20, c26]) (by decide) (by decide) SC.rfl)
