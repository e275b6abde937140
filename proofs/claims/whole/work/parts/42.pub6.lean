theorem bp_23 : (Int8.ofInt (23)).toInt32 = 23 := by decide
theorem upd_id {f : Row} {k : Nat} {x : Int32} (h : f k = x) : upd f k x = f := by
  funext j
  by_cases e : j = k
  · subst e; rw [upd_s, h]
  · rw [upd_n e]
theorem ap_mem {g : Mem} {R R' U U' : Row} : ub (ub (ub (ub g 5 R) 4 U) 5 R') 4 U' = ub (ub g 5 R') 4 U' := by
  rw [ub_comm (b := 4) (c := 5) (by decide), ub_ub, ub_ub]
def cgL (n w : Int32) (g : Mem) (r : Int64) (g' : Mem) : Prop := if inr n 0 23 && inr w 0 1 then r = oddv (wrt (g 0)) (cl n) (cl w) ∧ SC g' g else r = (nLOW 0).toInt64 ∧ SC g' (FX g 0)
set_option maxRecDepth 20000 in
theorem c_X4_feed {G : GT} {g : Mem} {m : Nat} (hm : m ≤ 120) (hm0 : g 4 0 = nI m) {b n : Int32} : Cti G yX4_feed cX4_feed 4 .int 1 22 [.ref (xo G), .int b, .int n] g (fun r g' => cgX (x_feed b n g) g r g') := by
  refine ent_i (by decide) (Nat.le_of_ble_eq_true rfl) [some (.ref (xo G)), some (.int b), some (.int n), none] rfl ?_
  intro X C hR
  have C : CX X G RX4 cX4_feed 4 1 22 := C
  refine j_il2 0 C dX4_feed_0 ?_
  refine j_iconst 1 C dX4_feed_1 ic_1 ?_
  refine j_iconst 2 C dX4_feed_2 ic_4 ?_
  refine j_si 3 C dX4_feed_3 ms_X4_within lk_X4_99 (c_X4_within) rfl rfl ⟨(Nat.le_of_ble_eq_true rfl), (Nat.le_of_ble_eq_true rfl)⟩ (Nat.le_of_ble_eq_true rfl) (fun r3 g3 hp3 => ?_)
  obtain ⟨rfl, rfl⟩ := hp3
  refine j_ifne 6 16 C dX4_feed_6 (by decide) (fun c6 => ?_) (fun c6 => ?_)
  · have v6 := bi_n c6
    obtain ⟨N, hN1, hN, rfl⟩ := inr_1 (n := 4) (by decide) v6
    refine j_al0 16 C dX4_feed_16 ?_
    refine jg_X4_28 17 C dX4_feed_17 ?_
    refine jg_X4_210 20 C dX4_feed_20 ?_
    refine j_bipush 23 C dX4_feed_23 bp_120 ?_
    refine j_il2 25 C dX4_feed_25 ?_
    refine j_isub 26 C dX4_feed_26 ?_
    refine j_icle 27 37 C dX4_feed_27 (by decide) (fun c27 => ?_) (fun c27 => ?_)
    · have hle : m + N ≤ 120 := by
        have c27 : g 4 0 ≤ 120 - nI N := c27
        rw [hm0, show (120 : Int32) - nI N = nI (120 - N) from pk_sub (a := 120) (by omega)] at c27
        rcases Nat.lt_or_ge 120 (m + N) with q | q
        · exact absurd c27 (nI_ge (a := 120 - N) (b := m) (by omega) (by omega))
        · exact q
      have loop : ∀ j (R : Row) m', m' + j = m + N → apd R b m' j = apd (g 5) b m N → J X G 4 (ub (ub g 5 R) 4 (upd (g 4) 0 (nI m'))) 41 [some (.ref (xo G)), some (.int (b)), some (.int (nI N)), some (.int (nI j - 1))] [] := by
        intro j
        induction j with
        | zero =>
          intro R m' h1 h2
          obtain rfl : m + N = m' := by omega
          have h2 : R = apd (g 5) b m N := h2
          subst h2
          refine j_il3 41 C dX4_feed_41 ?_
          refine j_iflt 42 65 C dX4_feed_42 (by decide) (fun c42 => ?_) (fun c42 => ?_)
          · refine j_al0 65 C dX4_feed_65 ?_
            refine jg_X4_28 66 C dX4_feed_66 ?_
            refine jg_X4_210 69 C dX4_feed_69 ?_
            refine j_top (nI (m + N)) (by rw [ub_s, upd_s]) ?_
            exact hR dX4_feed_72 (cgX_r (by unfold x_feed; rw [v6, cl_nI (show N < 2 ^ 31 by omega), if_neg (show ¬ 120 - nI N < g 4 0 from Int32.not_lt.mpr c27), hm0, cl_nI (show m < 2 ^ 31 by omega), nI_add]; rfl) rfl SC.rfl)
          · exact absurd (by decide) c42
        | succ j ih =>
          intro R m' h1 h2
          rw [nI_pred]
          refine j_il3 41 C dX4_feed_41 ?_
          refine j_iflt 42 65 C dX4_feed_42 (by decide) (fun c42 => ?_) (fun c42 => ?_)
          · exact absurd c42 (nI_pos (by omega))
          · refine j_al0 45 C dX4_feed_45 ?_
            refine jg_X4_28 46 C dX4_feed_46 ?_
            refine j_il1 49 C dX4_feed_49 ?_
            refine j_bipush 50 C dX4_feed_50 bp_8 ?_
            refine j_il3 52 C dX4_feed_52 ?_
            refine j_imul 53 C dX4_feed_53 ?_
            refine j_top (nI (8 * j)) (by show nI 8 * nI j = _; rw [pk_mul]) ?_
            refine j_iushr 54 C dX4_feed_54 rfl ?_
            refine j_i2b 55 C dX4_feed_55 ?_
            refine j_top (byt b j) rfl ?_
            refine j_vv 56 C dX4_feed_56 mv_X3_append lk_X4_213 (c_X3_append (m := m') (by omega) (by rw [ub_s, upd_s])) rc_t rfl rfl ⟨(Nat.le_of_ble_eq_true rfl), (Nat.le_of_ble_eq_true rfl)⟩ (Nat.le_of_ble_eq_true rfl) (fun g56 hp56 => ?_)
            obtain rfl := hp56
            rw [ap_mem, ub_n (b' := 5) (b := 4) (by decide), ub_s, ub_s, upd_upd, show vp_nar .byte (byt b j) = byt b j from pk_vb _]
            refine j_inc3 59 C dX4_feed_59 rfl (x_m1 _) (Nat.le_of_ble_eq_true rfl) ?_
            refine j_goto 62 41 C dX4_feed_62 (by decide) ?_
            exact ih (upd R m' (byt b j)) (m' + 1) (by omega) h2
      refine j_il2 37 C dX4_feed_37 ?_
      refine j_iconst 38 C dX4_feed_38 ic_1 ?_
      refine j_isub 39 C dX4_feed_39 ?_
      refine j_is3 40 C dX4_feed_40 rfl (Nat.le_of_ble_eq_true rfl) ?_
      have h9 := loop N (g 5) m rfl rfl
      rw [upd_id hm0, ub_id, ub_id] at h9
      exact h9
    · have c27 : 120 - nI N < g 4 0 := Int32.not_le.mp c27
      refine j_al0 30 C dX4_feed_30 ?_
      refine j_ldc 31 C dX4_feed_31 cs_X4_92 ?_
      refine j_vi 33 C dX4_feed_33 mv_X4_finding lk_X4_58 (c_X4_finding (f := 1) (by decide) (by decide)) rc_x rfl rfl ⟨(Nat.le_of_ble_eq_true rfl), (Nat.le_of_ble_eq_true rfl)⟩ (Nat.le_of_ble_eq_true rfl) (fun r33 g33 hp33 => ?_)
      obtain ⟨rfl, rfl⟩ := hp33
      exact hR dX4_feed_36 (cgX_f (f := 1) (by unfold x_feed; rw [v6, if_pos c27]; rfl) (by decide) (by decide) SC.rfl)
  · have v6 := bi_0 c6
    refine j_al0 9 C dX4_feed_9 ?_
    refine j_ldc 10 C dX4_feed_10 cs_X4_57 ?_
    refine j_vi 12 C dX4_feed_12 mv_X4_finding lk_X4_58 (c_X4_finding (f := 0) (by decide) (by decide)) rc_x rfl rfl ⟨(Nat.le_of_ble_eq_true rfl), (Nat.le_of_ble_eq_true rfl)⟩ (Nat.le_of_ble_eq_true rfl) (fun r12 g12 hp12 => ?_)
    obtain ⟨rfl, rfl⟩ := hp12
    exact hR dX4_feed_15 (cgX_f (f := 0) (by simp [x_feed, v6]) (by decide) (by decide) SC.rfl)
set_option maxRecDepth 20000 in
theorem c_X4_odds {G : GT} {g : Mem} {n w : Int32} : Ctl G yX4_odds cX4_odds 5 4 88 [.ref (xo G), .int n, .int w] g (fun r g' => cgL n w g r g') := by
  refine ent_l (by decide) (Nat.le_of_ble_eq_true rfl) [some (.ref (xo G)), some (.int n), some (.int w), none, none] rfl ?_
  intro X C hR
  have C : CX X G RX4 cX4_odds 5 4 88 := C
  refine j_il1 0 C dX4_odds_0 ?_
  refine j_iconst 1 C dX4_odds_1 ic_0 ?_
  refine j_bipush 2 C dX4_odds_2 bp_23 ?_
  refine j_si 4 C dX4_odds_4 ms_X4_within lk_X4_99 (c_X4_within) rfl rfl ⟨(Nat.le_of_ble_eq_true rfl), (Nat.le_of_ble_eq_true rfl)⟩ (Nat.le_of_ble_eq_true rfl) (fun r4 g4 hp4 => ?_)
  obtain ⟨rfl, rfl⟩ := hp4
  refine j_ifeq 7 19 C dX4_odds_7 (by decide) (fun c7 => ?_) (fun c7 => ?_)
  · have v7 := bi_0 c7
    refine j_al0 19 C dX4_odds_19 ?_
    refine j_ldc 20 C dX4_odds_20 cs_X4_57 ?_
    refine j_vi 22 C dX4_odds_22 mv_X4_finding lk_X4_58 (c_X4_finding (f := 0) (by decide) (by decide)) rc_x rfl rfl ⟨(Nat.le_of_ble_eq_true rfl), (Nat.le_of_ble_eq_true rfl)⟩ (Nat.le_of_ble_eq_true rfl) (fun r22 g22 hp22 => ?_)
    obtain ⟨rfl, rfl⟩ := hp22
    refine j_i2l 25 C dX4_odds_25 ?_
    exact hR dX4_odds_26 (by unfold cgL; simp [v7, nLOW]; exact ⟨by decide, SC.rfl⟩)
  · have v7 := bi_n c7
    refine j_il2 10 C dX4_odds_10 ?_
    refine j_iconst 11 C dX4_odds_11 ic_0 ?_
    refine j_iconst 12 C dX4_odds_12 ic_1 ?_
    refine j_si 13 C dX4_odds_13 ms_X4_within lk_X4_99 (c_X4_within) rfl rfl ⟨(Nat.le_of_ble_eq_true rfl), (Nat.le_of_ble_eq_true rfl)⟩ (Nat.le_of_ble_eq_true rfl) (fun r13 g13 hp13 => ?_)
    obtain ⟨rfl, rfl⟩ := hp13
    refine j_ifne 16 27 C dX4_odds_16 (by decide) (fun c16 => ?_) (fun c16 => ?_)
    · have v16 := bi_n c16
      obtain ⟨N, hN, rfl⟩ := inr_nat (n := 23) (by decide) v7
      obtain ⟨W, hW, rfl⟩ := inr_nat (n := 1) (by decide) v16
      have hct : ct (bare (g 0)) 6 ≤ 6 := ct_le
      have hw7 : wrt (g 0) < 7 := by unfold wrt; omega
      obtain ⟨hg0, hg7⟩ := gd_pos (wrt (g 0)) hw7
      refine j_bipush 27 C dX4_odds_27 bp_6 ?_
      refine j_al0 29 C dX4_odds_29 ?_
      refine jg_X4_12 30 C dX4_odds_30 ?_
      refine j_vi 33 C dX4_odds_33 mv_X0_barePages lk_X4_149 (c_X0_barePages lt4_0) (rc_d lt4_0) rfl rfl ⟨(Nat.le_of_ble_eq_true rfl), (Nat.le_of_ble_eq_true rfl)⟩ (Nat.le_of_ble_eq_true rfl) (fun r33 g33 hp33 => ?_)
      obtain ⟨rfl, rfl⟩ := hp33
      refine j_si 36 C dX4_odds_36 ms_J6_bitCount_0f7a4 lk_X4_175 (c_J6_bitCount_0f7a4) rfl rfl ⟨(Nat.le_of_ble_eq_true rfl), (Nat.le_of_ble_eq_true rfl)⟩ (Nat.le_of_ble_eq_true rfl) (fun r36 g36 hp36 => ?_)
      obtain ⟨hr36, rfl⟩ := hp36
      rw [bcnt_bs _ (by decide)] at hr36
      subst hr36
      refine j_isub 39 C dX4_odds_39 ?_
      refine j_top (nI (wrt (g 0))) (pk_sub (a := 6) hct) ?_
      refine j_is3 40 C dX4_odds_40 rfl (Nat.le_of_ble_eq_true rfl) ?_
      refine j_il3 41 C dX4_odds_41 ?_
      refine j_bipush 42 C dX4_odds_42 bp_6 ?_
      refine j_si 44 C dX4_odds_44 ms_X4_commonDivisor lk_X4_200 (c_X4_commonDivisor hw7) rfl rfl ⟨(Nat.le_of_ble_eq_true rfl), (Nat.le_of_ble_eq_true rfl)⟩ (Nat.le_of_ble_eq_true rfl) (fun r44 g44 hp44 => ?_)
      obtain ⟨rfl, rfl⟩ := hp44
      refine j_is4 47 C dX4_odds_47 rfl (Nat.le_of_ble_eq_true rfl) ?_
      refine j_il2 49 C dX4_odds_49 ?_
      refine j_ifne 50 57 C dX4_odds_50 (by decide) (fun c50 => ?_) (fun c50 => ?_)
      · have hW0 : ¬ W = 0 := fun q => c50 (by rw [q]; rfl)
        refine j_bipush 57 C dX4_odds_57 bp_6 ?_
        refine j_il4 59 C dX4_odds_59 ?_
        refine j_idiv 61 C dX4_odds_61 (nI_ne0 (by omega) (by omega)) ?_
        refine j_top (nI (6 / gd6 (wrt (g 0)))) (pk_div (a := 6) (by omega) (by omega) (by omega)) ?_
        have hd7 : 6 / gd6 (wrt (g 0)) < 7 := by have := Nat.div_le_self (6) (gd6 (wrt (g 0))); omega
        refine j_i2l 62 C dX4_odds_62 ?_
        rw [i2l_7 _ hd7]
        refine j_il1 63 C dX4_odds_63 ?_
        refine j_sl 64 C dX4_odds_64 ms_X4_power lk_X4_203 (c_X4_power (by omega)) rfl rfl ⟨(Nat.le_of_ble_eq_true rfl), (Nat.le_of_ble_eq_true rfl)⟩ (Nat.le_of_ble_eq_true rfl) (fun r64 g64 hp64 => ?_)
        obtain ⟨rfl, rfl⟩ := hp64
        exact hR dX4_odds_67 (by unfold cgL; rw [v7, v16, cl_nI (show N < 2 ^ 31 by omega), cl_nI (show W < 2 ^ 31 by omega)]; show _ ∧ _; exact ⟨by unfold oddv; rw [if_neg hW0], SC.rfl⟩)
      · have hW0 : W = 0 := (nI_eq (b := 0) (by omega) (by omega)).mp c50
        refine j_il3 53 C dX4_odds_53 ?_
        refine j_goto 54 59 C dX4_odds_54 (by decide) ?_
        refine j_il4 59 C dX4_odds_59 ?_
        refine j_idiv 61 C dX4_odds_61 (nI_ne0 (by omega) (by omega)) ?_
        refine j_top (nI (wrt (g 0) / gd6 (wrt (g 0)))) (pk_div (a := wrt (g 0)) (by omega) (by omega) (by omega)) ?_
        have hd7 : wrt (g 0) / gd6 (wrt (g 0)) < 7 := by have := Nat.div_le_self (wrt (g 0)) (gd6 (wrt (g 0))); omega
        refine j_i2l 62 C dX4_odds_62 ?_
        rw [i2l_7 _ hd7]
        refine j_il1 63 C dX4_odds_63 ?_
        refine j_sl 64 C dX4_odds_64 ms_X4_power lk_X4_203 (c_X4_power (by omega)) rfl rfl ⟨(Nat.le_of_ble_eq_true rfl), (Nat.le_of_ble_eq_true rfl)⟩ (Nat.le_of_ble_eq_true rfl) (fun r64 g64 hp64 => ?_)
        obtain ⟨rfl, rfl⟩ := hp64
        exact hR dX4_odds_67 (by unfold cgL; rw [v7, v16, cl_nI (show N < 2 ^ 31 by omega), cl_nI (show W < 2 ^ 31 by omega)]; show _ ∧ _; exact ⟨by unfold oddv; rw [if_pos hW0], SC.rfl⟩)
    · have v16 := bi_0 c16
      refine j_al0 19 C dX4_odds_19 ?_
      refine j_ldc 20 C dX4_odds_20 cs_X4_57 ?_
      refine j_vi 22 C dX4_odds_22 mv_X4_finding lk_X4_58 (c_X4_finding (f := 0) (by decide) (by decide)) rc_x rfl rfl ⟨(Nat.le_of_ble_eq_true rfl), (Nat.le_of_ble_eq_true rfl)⟩ (Nat.le_of_ble_eq_true rfl) (fun r22 g22 hp22 => ?_)
      obtain ⟨rfl, rfl⟩ := hp22
      refine j_i2l 25 C dX4_odds_25 ?_
      exact hR dX4_odds_26 (by unfold cgL; simp [v7, v16, nLOW]; exact ⟨by decide, SC.rfl⟩)
