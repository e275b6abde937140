theorem bp_120 : (Int8.ofInt (120)).toInt32 = 120 := by decide
theorem min8 {z : Nat} (h : z < 2 ^ 31) : (if (8 : Int32) < nI z then (8 : Int32) else nI z) = nI (min z 8) := by
  by_cases q : 8 < z
  · rw [if_pos (show (8 : Int32) < nI z from nI_lt (a := 8) q h), Nat.min_eq_right (by omega)]; rfl
  · rw [if_neg (show ¬ (8 : Int32) < nI z from nI_nlt (a := 8) (b := z) (by omega) (by omega)), Nat.min_eq_left (by omega)]
theorem gd_1 : ∀ w, w < 7 → (∀ e, e < 7 → 1 < e → ¬ (w % e = 0 ∧ 6 % e = 0)) → gd6 w = 1 := by decide +kernel
def gdc (w d : Nat) : Bool := decide (1 < d) && decide (w % d = 0) && decide (6 % d = 0) && (List.range 7).all (fun e => !(decide (d < e) && decide (w % e = 0) && decide (6 % e = 0)))
theorem gd_c : ∀ w, w < 7 → ∀ d, d < 7 → gdc w d = true → gd6 w = d := by decide +kernel
theorem gd_d (w : Nat) (hw : w < 7) (d : Nat) (hd : d < 7) (h : 1 < d ∧ w % d = 0 ∧ 6 % d = 0 ∧ ∀ e, e < 7 → d < e → ¬ (w % e = 0 ∧ 6 % e = 0)) : gd6 w = d := by
  obtain ⟨h1, h2, h3, h4⟩ := h
  refine gd_c w hw d hd ?_
  unfold gdc
  rw [decide_eq_true h1, decide_eq_true h2, decide_eq_true h3]
  refine List.all_eq_true.mpr (fun e he => ?_)
  have he := List.mem_range.mp he
  by_cases q : d < e
  · have := h4 e he q
    by_cases q1 : w % e = 0
    · by_cases q2 : 6 % e = 0
      · exact absurd ⟨q1, q2⟩ this
      · rw [decide_eq_false q2]; simp
    · rw [decide_eq_false q1]; simp
  · rw [decide_eq_false q]; rfl
theorem gd_pos : ∀ w, w < 7 → 0 < gd6 w ∧ gd6 w < 7 := by decide
theorem i2l_7 : ∀ x, x < 7 → (nI x).toInt64 = Int64.ofNat x := by decide +kernel
theorem cnt_n {p : Nat → Bool} {k z : Nat} (h : cnt p 0 z = cnt p k (z - k)) (hk : k < z) (hp : p k = true) : cnt p 0 z = cnt p (k + 1) (z - (k + 1)) := by
  rw [h, show z - k = (z - (k + 1)) + 1 by omega]
  exact if_pos hp
theorem cnt_s {p : Nat → Bool} {k z : Nat} (h : cnt p 0 z = cnt p k (z - k)) (hk : k < z) (hp : p k = false) : cnt p 0 z = k := by
  rw [h, show z - k = (z - (k + 1)) + 1 by omega]
  exact if_neg (by rw [hp]; decide)
theorem cnt_e {p : Nat → Bool} {z : Nat} (h : cnt p 0 z = cnt p z (z - z)) : cnt p 0 z = z := by
  rw [h, Nat.sub_self]; rfl
set_option maxRecDepth 20000 in
theorem c_X4_isPageAsTold {G : GT} {g : Mem} {t P : Nat} (ht4 : t < 4) (hP : P < 6) {Z : Nat} (hZ : Z ≤ 40) (hz : g (6 + t) 1 = nI Z) : Cti G yX4_isPageAsTold cX4_isPageAsTold 5 .boolean 1 24 [.ref (xo G), .ref (sh G t), .int (nI P)] g (fun r g' => r = bi (al (told (num g t) (g 2) P) (min Z 8)) ∧ g = g') := by
  refine ent_z (by decide) (Nat.le_of_ble_eq_true rfl) [some (.ref (xo G)), some (.ref (sh G t)), some (.int (nI P)), none, none] rfl ?_
  intro X C hR
  have C : CX X G RX4 cX4_isPageAsTold 5 1 24 := C
  generalize hMN : min Z 8 = MN at hR
  have hMN8 : MN ≤ 8 ∧ MN ≤ Z := by omega
  have loop : ∀ n k, k + n = MN → al (told (num g t) (g 2) P) k = true → J X G 5 g 13 [some (.ref (xo G)), some (.ref (sh G t)), some (.int (nI P)), some (.int (nI MN)), some (.int (nI k))] [] := by
    intro n
    induction n with
    | zero =>
      intro k hk hal
      obtain rfl : MN = k := by omega
      refine j_il4 13 C dX4_isPageAsTold_13 ?_
      refine j_il3 15 C dX4_isPageAsTold_15 ?_
      refine j_icge 16 58 C dX4_isPageAsTold_16 (by decide) (fun c16 => ?_) (fun c16 => ?_)
      · refine j_iconst 58 C dX4_isPageAsTold_58 ic_1 ?_
        exact hR dX4_isPageAsTold_59 (by first | exact Or.inl rfl | exact Or.inr rfl) ⟨by rw [hal]; rfl, rfl⟩
      · exact absurd (nI_le (Nat.le_refl _) (by omega)) c16
    | succ n ih =>
      intro k hk hal
      refine j_il4 13 C dX4_isPageAsTold_13 ?_
      refine j_il3 15 C dX4_isPageAsTold_15 ?_
      refine j_icge 16 58 C dX4_isPageAsTold_16 (by decide) (fun c16 => ?_) (fun c16 => ?_)
      · exact absurd c16 (nI_ge (a := k) (b := MN) (by omega) (by omega))
      · refine j_al1 19 C dX4_isPageAsTold_19 ?_
        refine jg_X4_249 20 ht4 C dX4_isPageAsTold_20 ?_
        refine j_il4 23 C dX4_isPageAsTold_23 ?_
        refine jl_sn 25 ht4 (by omega) C dX4_isPageAsTold_25 ?_
        refine j_iconst 26 C dX4_isPageAsTold_26 ic_m1 ?_
        refine j_iceq 27 52 C dX4_isPageAsTold_27 (by decide) (fun c27 => ?_) (fun c27 => ?_)
        · have e9 : al (told (num g t) (g 2) P) (k + 1) = true := by unfold al; rw [hal]; exact decide_eq_true (Or.inl c27)
          refine j_inc4 52 C dX4_isPageAsTold_52 rfl (nI_inc _) (Nat.le_of_ble_eq_true rfl) ?_
          refine j_goto 55 13 C dX4_isPageAsTold_55 (by decide) ?_
          exact ih (k + 1) (by omega) e9
        · refine j_al1 30 C dX4_isPageAsTold_30 ?_
          refine jg_X4_249 31 ht4 C dX4_isPageAsTold_31 ?_
          refine j_il4 34 C dX4_isPageAsTold_34 ?_
          refine jl_sn 36 ht4 (by omega) C dX4_isPageAsTold_36 ?_
          refine j_al0 37 C dX4_isPageAsTold_37 ?_
          refine jg_X4_19 38 C dX4_isPageAsTold_38 ?_
          refine j_il2 41 C dX4_isPageAsTold_41 ?_
          refine j_il4 42 C dX4_isPageAsTold_42 ?_
          refine j_vi 44 C dX4_isPageAsTold_44 mv_X0_wordAt lk_X4_62 (c_X0_wordAt lt4_2 hP (by omega)) (rc_d lt4_2) rfl rfl ⟨(Nat.le_of_ble_eq_true rfl), (Nat.le_of_ble_eq_true rfl)⟩ (Nat.le_of_ble_eq_true rfl) (fun r44 g44 hp44 => ?_)
          obtain ⟨rfl, rfl⟩ := hp44
          refine j_iceq 47 52 C dX4_isPageAsTold_47 (by decide) (fun c47 => ?_) (fun c47 => ?_)
          · have e9 : al (told (num g t) (g 2) P) (k + 1) = true := by unfold al; rw [hal]; exact decide_eq_true (Or.inr c47)
            refine j_inc4 52 C dX4_isPageAsTold_52 rfl (nI_inc _) (Nat.le_of_ble_eq_true rfl) ?_
            refine j_goto 55 13 C dX4_isPageAsTold_55 (by decide) ?_
            exact ih (k + 1) (by omega) e9
          · refine j_iconst 50 C dX4_isPageAsTold_50 ic_0 ?_
            exact hR dX4_isPageAsTold_51 (by first | exact Or.inl rfl | exact Or.inr rfl) ⟨by rw [al_f (k := k) (by omega) (decide_eq_false (fun q => q.elim c27 c47))]; rfl, rfl⟩
  refine j_al1 0 C dX4_isPageAsTold_0 ?_
  refine jg_X4_239 1 ht4 C dX4_isPageAsTold_1 ?_
  refine j_top (nI Z) hz ?_
  refine j_bipush 4 C dX4_isPageAsTold_4 bp_8 ?_
  refine j_mmin 6 C dX4_isPageAsTold_6 lk_X4_258 tw_min ⟨(Nat.le_of_ble_eq_true rfl), (Nat.le_of_ble_eq_true rfl)⟩ ?_
  refine j_top (nI MN) (by rw [min8 (by omega), hMN]) ?_
  refine j_is3 9 C dX4_isPageAsTold_9 rfl (Nat.le_of_ble_eq_true rfl) ?_
  refine j_iconst 10 C dX4_isPageAsTold_10 ic_0 ?_
  refine j_is4 11 C dX4_isPageAsTold_11 rfl (Nat.le_of_ble_eq_true rfl) ?_
  exact loop MN 0 (Nat.zero_add _) rfl
set_option maxRecDepth 20000 in
theorem c_X4_isFedAsTold {G : GT} {g : Mem} {t M T : Nat} (ht4 : t < 4) (hM : M < 8) (hS : SI (g 2)) (hT : g 2 1 = nI T) (hTb : T ≤ 31000) {Z : Nat} (hZ : Z ≤ 40) (hz : g (6 + t) 1 = nI Z) : Cti G yX4_isFedAsTold cX4_isFedAsTold 4 .boolean 5 120 [.ref (xo G), .ref (sh G t), .int (nI M)] g (fun r g' => r = bi (al (fedt (num g t) (g 2) M) Z) ∧ ∃ E : Row, g' = ub g 2 E) := by
  refine ent_z (by decide) (Nat.le_of_ble_eq_true rfl) [some (.ref (xo G)), some (.ref (sh G t)), some (.int (nI M)), none] rfl ?_
  intro X C hR
  have C : CX X G RX4 cX4_isFedAsTold 4 5 120 := C
  have loop : ∀ n k, k + n = Z → al (fedt (num g t) (g 2) M) k = true → J X G 4 (ub g 2 (ngs (g 2) 0 k)) 2 [some (.ref (xo G)), some (.ref (sh G t)), some (.int (nI M)), some (.int (nI k))] [] := by
    intro n
    induction n with
    | zero =>
      intro k hk hal
      obtain rfl : Z = k := by omega
      refine j_il3 2 C dX4_isFedAsTold_2 ?_
      refine j_al1 3 C dX4_isFedAsTold_3 ?_
      refine jg_X4_239 4 ht4 C dX4_isFedAsTold_4 ?_
      rw [ub_n (b' := 6 + t) (b := 2) (by omega)]
      refine j_top (nI Z) hz ?_
      refine j_icge 7 55 C dX4_isFedAsTold_7 (by decide) (fun c7 => ?_) (fun c7 => ?_)
      · refine j_iconst 55 C dX4_isFedAsTold_55 ic_1 ?_
        exact hR dX4_isFedAsTold_56 (by first | exact Or.inl rfl | exact Or.inr rfl) ⟨by rw [hal]; rfl, _, rfl⟩
      · exact absurd (nI_le (Nat.le_refl _) (by omega)) c7
    | succ n ih =>
      intro k hk hal
      refine j_il3 2 C dX4_isFedAsTold_2 ?_
      refine j_al1 3 C dX4_isFedAsTold_3 ?_
      refine jg_X4_239 4 ht4 C dX4_isFedAsTold_4 ?_
      rw [ub_n (b' := 6 + t) (b := 2) (by omega)]
      refine j_top (nI Z) hz ?_
      refine j_icge 7 55 C dX4_isFedAsTold_7 (by decide) (fun c7 => ?_) (fun c7 => ?_)
      · exact absurd c7 (nI_ge (a := k) (b := Z) (by omega) (by omega))
      · refine j_al1 10 C dX4_isFedAsTold_10 ?_
        refine jg_X4_249 11 ht4 C dX4_isFedAsTold_11 ?_
        refine j_il3 14 C dX4_isFedAsTold_14 ?_
        refine jl_sn 15 ht4 (by omega) C dX4_isFedAsTold_15 ?_
        rw [ub_n (b' := 6 + t) (b := 2) (by omega)]
        refine j_iconst 16 C dX4_isFedAsTold_16 ic_m1 ?_
        refine j_iceq 17 40 C dX4_isFedAsTold_17 (by decide) (fun c17 => ?_) (fun c17 => ?_)
        · have e9 : al (fedt (num g t) (g 2) M) (k + 1) = true := by unfold al; rw [hal]; exact decide_eq_true (Or.inl c17)
          refine j_al0 40 C dX4_isFedAsTold_40 ?_
          refine jg_X4_19 41 C dX4_isFedAsTold_41 ?_
          refine j_iconst 44 C dX4_isFedAsTold_44 ic_1 ?_
          refine j_iconst 45 C dX4_isFedAsTold_45 ic_0 ?_
          refine j_vv 46 C dX4_isFedAsTold_46 mv_X0_passNights lk_X4_132 (c_X0_passNights (O := 0) (N := 1) (T := T + k) lt4_2 (by decide) (by rw [ub_s]; exact ngs_SI hS) (by rw [ub_s]; exact ngs_1 hT) (by omega)) (rc_d lt4_2) rfl rfl ⟨(Nat.le_of_ble_eq_true rfl), (Nat.le_of_ble_eq_true rfl)⟩ (Nat.le_of_ble_eq_true rfl) (fun g46 hp46 => ?_)
          obtain rfl := hp46
          rw [ub_ub, ub_s, show ngs (ngs (g 2) 0 k) 0 1 = ngs (g 2) 0 (k + 1) from rfl]
          refine j_inc3 49 C dX4_isFedAsTold_49 rfl (nI_inc _) (Nat.le_of_ble_eq_true rfl) ?_
          refine j_goto 52 2 C dX4_isFedAsTold_52 (by decide) ?_
          exact ih (k + 1) (by omega) e9
        · refine j_al1 20 C dX4_isFedAsTold_20 ?_
          refine jg_X4_249 21 ht4 C dX4_isFedAsTold_21 ?_
          refine j_il3 24 C dX4_isFedAsTold_24 ?_
          refine jl_sn 25 ht4 (by omega) C dX4_isFedAsTold_25 ?_
          rw [ub_n (b' := 6 + t) (b := 2) (by omega)]
          refine j_al0 26 C dX4_isFedAsTold_26 ?_
          refine jg_X4_19 27 C dX4_isFedAsTold_27 ?_
          refine j_il2 30 C dX4_isFedAsTold_30 ?_
          refine j_iconst 31 C dX4_isFedAsTold_31 ic_3 ?_
          refine j_vi 32 C dX4_isFedAsTold_32 mv_X0_trait lk_X4_106 (c_X0_trait (W := 3) lt4_2 hM (by decide)) (rc_d lt4_2) rfl rfl ⟨(Nat.le_of_ble_eq_true rfl), (Nat.le_of_ble_eq_true rfl)⟩ (Nat.le_of_ble_eq_true rfl) (fun r32 g32 hp32 => ?_)
          obtain ⟨hr32, rfl⟩ := hp32
          rw [ub_s] at hr32
          subst hr32
          refine j_iceq 35 40 C dX4_isFedAsTold_35 (by decide) (fun c35 => ?_) (fun c35 => ?_)
          · have e9 : al (fedt (num g t) (g 2) M) (k + 1) = true := by unfold al; rw [hal]; exact decide_eq_true (Or.inr c35)
            refine j_al0 40 C dX4_isFedAsTold_40 ?_
            refine jg_X4_19 41 C dX4_isFedAsTold_41 ?_
            refine j_iconst 44 C dX4_isFedAsTold_44 ic_1 ?_
            refine j_iconst 45 C dX4_isFedAsTold_45 ic_0 ?_
            refine j_vv 46 C dX4_isFedAsTold_46 mv_X0_passNights lk_X4_132 (c_X0_passNights (O := 0) (N := 1) (T := T + k) lt4_2 (by decide) (by rw [ub_s]; exact ngs_SI hS) (by rw [ub_s]; exact ngs_1 hT) (by omega)) (rc_d lt4_2) rfl rfl ⟨(Nat.le_of_ble_eq_true rfl), (Nat.le_of_ble_eq_true rfl)⟩ (Nat.le_of_ble_eq_true rfl) (fun g46 hp46 => ?_)
            obtain rfl := hp46
            rw [ub_ub, ub_s, show ngs (ngs (g 2) 0 k) 0 1 = ngs (g 2) 0 (k + 1) from rfl]
            refine j_inc3 49 C dX4_isFedAsTold_49 rfl (nI_inc _) (Nat.le_of_ble_eq_true rfl) ?_
            refine j_goto 52 2 C dX4_isFedAsTold_52 (by decide) ?_
            exact ih (k + 1) (by omega) e9
          · refine j_iconst 38 C dX4_isFedAsTold_38 ic_0 ?_
            exact hR dX4_isFedAsTold_39 (by first | exact Or.inl rfl | exact Or.inr rfl) ⟨by rw [al_f (k := k) (by omega) (decide_eq_false (fun q => q.elim c17 c35))]; rfl, _, rfl⟩
  refine j_iconst 0 C dX4_isFedAsTold_0 ic_0 ?_
  refine j_is3 1 C dX4_isFedAsTold_1 rfl (Nat.le_of_ble_eq_true rfl) ?_
  have h9 := loop Z 0 (Nat.zero_add _) rfl
  rw [show ub g 2 (ngs (g 2) 0 0) = g from ub_id] at h9
  exact h9
set_option maxRecDepth 20000 in
theorem c_X4_commonDivisor {G : GT} {g : Mem} {w : Nat} (hw : w < 7) : Cti G yX4_commonDivisor cX4_commonDivisor 3 .int 0 0 [.int (nI w), .int 6] g (fun r g' => r = nI (gd6 w) ∧ g = g') := by
  refine ent_i (by decide) (Nat.le_of_ble_eq_true rfl) [some (.int (nI w)), some (.int 6), none] rfl ?_
  intro X C hR
  have C : CX X G RX4 cX4_commonDivisor 3 0 0 := C
  have loop : ∀ d, d < 7 → 1 ≤ d → (∀ e, e < 7 → d < e → ¬ (w % e = 0 ∧ 6 % e = 0)) → J X G 3 g 2 [some (.int (nI w)), some (.int (6)), some (.int (nI d))] [] := by
    intro d
    induction d with
    | zero => intro _ h; exact absurd h (by omega)
    | succ d ih =>
      intro hd h1 hn
      refine j_il2 2 C dX4_commonDivisor_2 ?_
      refine j_iconst 3 C dX4_commonDivisor_3 ic_1 ?_
      refine j_icle 4 27 C dX4_commonDivisor_4 (by decide) (fun c4 => ?_) (fun c4 => ?_)
      · have hd0 : d = 0 := by
          rcases Nat.eq_zero_or_pos d with q | q
          · exact q
          · exact absurd c4 (nI_ge (a := 1) (b := d + 1) (by omega) (by omega))
        subst hd0
        have hg := gd_1 w hw (fun e he h => hn e he h)
        refine j_iconst 27 C dX4_commonDivisor_27 ic_1 ?_
        exact hR dX4_commonDivisor_28 ⟨by rw [hg]; rfl, rfl⟩
      · refine j_il0 7 C dX4_commonDivisor_7 ?_
        refine j_il2 8 C dX4_commonDivisor_8 ?_
        refine j_irem 9 C dX4_commonDivisor_9 (nI_ne0 (by omega) (by omega)) ?_
        refine j_top (nI (w % (d + 1))) (pk_rem (a := w) (by omega) (by omega) (by omega)) ?_
        refine j_ifne 10 21 C dX4_commonDivisor_10 (by decide) (fun c10 => ?_) (fun c10 => ?_)
        · have hd1 : 1 ≤ d := by
            rcases Nat.eq_zero_or_pos d with q | q
            · subst q; exact absurd (by decide) c4
            · exact q
          refine j_inc2 21 C dX4_commonDivisor_21 rfl (nI_dec _) (Nat.le_of_ble_eq_true rfl) ?_
          refine j_goto 24 2 C dX4_commonDivisor_24 (by decide) ?_
          exact ih (by omega) hd1 (fun e he h => by
            by_cases q : e = d + 1
            · subst q; exact fun z => c10 (by rw [z.1]; rfl)
            · exact hn e he (by omega))
        · refine j_il1 13 C dX4_commonDivisor_13 ?_
          refine j_il2 14 C dX4_commonDivisor_14 ?_
          refine j_irem 15 C dX4_commonDivisor_15 (nI_ne0 (by omega) (by omega)) ?_
          refine j_top (nI (6 % (d + 1))) (pk_rem (a := 6) (by omega) (by omega) (by omega)) ?_
          refine j_ifne 16 21 C dX4_commonDivisor_16 (by decide) (fun c16 => ?_) (fun c16 => ?_)
          · have hd1 : 1 ≤ d := by
              rcases Nat.eq_zero_or_pos d with q | q
              · subst q; exact absurd (by decide) c4
              · exact q
            refine j_inc2 21 C dX4_commonDivisor_21 rfl (nI_dec _) (Nat.le_of_ble_eq_true rfl) ?_
            refine j_goto 24 2 C dX4_commonDivisor_24 (by decide) ?_
            exact ih (by omega) hd1 (fun e he h => by
              by_cases q : e = d + 1
              · subst q; exact fun z => c16 (by rw [z.2]; rfl)
              · exact hn e he (by omega))
          · have hd1 : 1 < d + 1 := by
              rcases Nat.eq_zero_or_pos d with q | q
              · subst q; exact absurd (by decide) c4
              · omega
            have q1 : w % (d + 1) = 0 := (nI_eq (b := 0) (by have := Nat.mod_le w (d + 1); omega) (by omega)).mp c10
            have q2 : 6 % (d + 1) = 0 := (nI_eq (b := 0) (by have := Nat.mod_le 6 (d + 1); omega) (by omega)).mp c16
            have hg := gd_d w hw (d + 1) (by omega) ⟨hd1, q1, q2, hn⟩
            refine j_il2 19 C dX4_commonDivisor_19 ?_
            exact hR dX4_commonDivisor_20 ⟨by rw [hg], rfl⟩
  refine j_il1 0 C dX4_commonDivisor_0 ?_
  refine j_is2 1 C dX4_commonDivisor_1 rfl (Nat.le_of_ble_eq_true rfl) ?_
  exact loop 6 (by decide) (by decide) (fun e h1 h2 => absurd h2 (by omega))
set_option maxRecDepth 20000 in
theorem c_X4_power {G : GT} {g : Mem} {x : Int64} {N : Nat} (hN : N ≤ 23) : Ctl G yX4_power cX4_power 6 0 0 [.long x, .int (nI N)] g (fun r g' => r = pwl x N ∧ g = g') := by
  refine ent_l (by decide) (Nat.le_of_ble_eq_true rfl) [some (.long x), none, some (.int (nI N)), none, none, none] rfl ?_
  intro X C hR
  have C : CX X G RX4 cX4_power 6 0 0 := C
  have loop : ∀ n k, k + n = N → J X G 6 g 5 [some (.long x), none, some (.int (nI N)), some (.long (pwl x k)), none, some (.int (nI k))] [] := by
    intro n
    induction n with
    | zero =>
      intro k hk
      obtain rfl : N = k := by omega
      refine j_il5 5 C dX4_power_5 ?_
      refine j_il2 7 C dX4_power_7 ?_
      refine j_icge 8 21 C dX4_power_8 (by decide) (fun c8 => ?_) (fun c8 => ?_)
      · refine j_ll3 21 C dX4_power_21 ?_
        exact hR dX4_power_22 ⟨rfl, rfl⟩
      · exact absurd (nI_le (Nat.le_refl _) (by omega)) c8
    | succ n ih =>
      intro k hk
      refine j_il5 5 C dX4_power_5 ?_
      refine j_il2 7 C dX4_power_7 ?_
      refine j_icge 8 21 C dX4_power_8 (by decide) (fun c8 => ?_) (fun c8 => ?_)
      · exact absurd c8 (nI_ge (a := k) (b := N) (by omega) (by omega))
      · refine j_ll3 11 C dX4_power_11 ?_
        refine j_ll0 12 C dX4_power_12 ?_
        refine j_lmul 13 C dX4_power_13 ?_
        refine j_ls3 14 C dX4_power_14 rfl (Nat.le_of_ble_eq_true rfl) ?_
        refine j_inc5 15 C dX4_power_15 rfl (nI_inc _) (Nat.le_of_ble_eq_true rfl) ?_
        refine j_goto 18 5 C dX4_power_18 (by decide) ?_
        exact ih (k + 1) (by omega)
  refine j_lconst 0 C dX4_power_0 lc_1 ?_
  refine j_ls3 1 C dX4_power_1 rfl (Nat.le_of_ble_eq_true rfl) ?_
  refine j_iconst 2 C dX4_power_2 ic_0 ?_
  refine j_is5 3 C dX4_power_3 rfl (Nat.le_of_ble_eq_true rfl) ?_
  exact loop N 0 (Nat.zero_add _)
set_option maxRecDepth 20000 in
theorem c_X3_empty {G : GT} {g : Mem} : Cti G yX3_empty cX3_empty 2 .int 0 0 [.ref (tp G)] g (fun r g' => r = g 4 0 ∧ g' = ub g 4 (upd (g 4) 0 0)) := by
  refine ent_i (by decide) (Nat.le_of_ble_eq_true rfl) [some (.ref (tp G)), none] rfl ?_
  intro X C hR
  have C : CX X G RX3 cX3_empty 2 0 0 := C
  refine j_al0 0 C dX3_empty_0 ?_
  refine jg_X3_15 1 C dX3_empty_1 ?_
  refine j_is1 4 C dX3_empty_4 rfl (Nat.le_of_ble_eq_true rfl) ?_
  refine j_al0 5 C dX3_empty_5 ?_
  refine j_iconst 6 C dX3_empty_6 ic_0 ?_
  refine jp_X3_15 7 C dX3_empty_7 ?_
  refine j_il1 10 C dX3_empty_10 ?_
  exact hR dX3_empty_11 ⟨rfl, rfl⟩
set_option maxRecDepth 20000 in
theorem c_X3_append {G : GT} {g : Mem} {m : Nat} (hm : m < 120) (hm0 : g 4 0 = nI m) {x : Int32} : Ctv G yX3_append cX3_append 2 0 0 [.ref (tp G), .int x] g (fun g' => g' = ub (ub g 5 (upd (g 5) m (vp_nar .byte x))) 4 (upd (g 4) 0 (nI (m + 1)))) := by
  refine ent_v (by decide) (Nat.le_of_ble_eq_true rfl) [some (.ref (tp G)), some (.int x)] rfl ?_
  intro X C hR
  have C : CX X G RX3 cX3_append 2 0 0 := C
  refine j_al0 0 C dX3_append_0 ?_
  refine jg_X3_15 1 C dX3_append_1 ?_
  refine j_top (nI m) hm0 ?_
  refine j_bipush 4 C dX3_append_4 bp_120 ?_
  refine j_icge 6 29 C dX3_append_6 (by decide) (fun c6 => ?_) (fun c6 => ?_)
  · exact absurd c6 (nI_ge (a := m) (b := 120) (by omega) (by decide))
  · refine j_al0 9 C dX3_append_9 ?_
    refine jg_X3_9 10 C dX3_append_10 ?_
    refine j_al0 13 C dX3_append_13 ?_
    refine jg_X3_15 14 C dX3_append_14 ?_
    refine j_top (nI m) hm0 ?_
    refine j_il1 17 C dX3_append_17 ?_
    refine js_tb 18 (by omega) C dX3_append_18 ?_
    refine j_al0 19 C dX3_append_19 ?_
    refine j_dup 20 C dX3_append_20 rfl ?_
    refine jg_X3_15 21 C dX3_append_21 ?_
    refine j_top (nI m) (by rw [ub_n (by decide)]; exact hm0) ?_
    refine j_iconst 24 C dX3_append_24 ic_1 ?_
    refine j_iadd 25 C dX3_append_25 ?_
    refine j_top (nI (m + 1)) (nI_succ m).symm ?_
    refine jp_X3_15 26 C dX3_append_26 ?_
    rw [ub_n (b' := 4) (b := 5) (by decide)]
    exact hR dX3_append_29 rfl
