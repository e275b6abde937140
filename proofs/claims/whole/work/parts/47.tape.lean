set_option maxRecDepth 20000 in
theorem c_X3_takeNumber {G : GT} {g : Mem} {R U : Row} {B : Nat → Nat} {m : Nat} {t : Tk} (hB : BYT (g 5) B m) (hU : TKS U m t) (ht : TOK B m t) {lw up : Nat} (hup : up < 10000) (hlw : lw < 10000) : Cti G yX3_takeNumber cX3_takeNumber 4 .int 1 22 [.ref (tp G), .int (nI lw), .int (nI up)] (MM2 g R U) (fun r g' => r = (if okn t lw up then nI t.2.2.2 else -1) ∧ PE g m (R, if okn t lw up then nx B m t else t) g') := by
  refine ent_i (by decide) (Nat.le_of_ble_eq_true rfl) [some (.ref (tp G)), some (.int (nI lw)), some (.int (nI up)), none] rfl ?_
  intro X C hR
  have C : CX X G RX3 cX3_takeNumber 4 1 22 := C
  refine j_al0 0 C dX3_takeNumber_0 ?_
  refine jg_X3_19 1 C dX3_takeNumber_1 ?_
  refine j_top (nI t.1) (by rw [mm4]; exact hU.2.1) ?_
  refine j_iconst 4 C dX3_takeNumber_4 ic_2 ?_
  refine j_icne 5 20 C dX3_takeNumber_5 (by decide) (fun c5 => ?_) (fun c5 => ?_)
  · have hk : okn t lw up = false := by unfold okn; rw [decide_eq_false (fun z => c5 (by rw [z]; rfl))]; rfl
    refine j_iconst 20 C dX3_takeNumber_20 ic_m1 ?_
    exact hR dX3_takeNumber_21 ⟨by rw [hk]; rfl, by rw [hk]; exact ⟨U, rfl, hU⟩⟩
  · have ht2 : t.1 = 2 := (nI_eq (by have := ht.2.2.1; omega) (by decide)).mp c5
    have hv := ht.2.2.2.2
    refine j_al0 8 C dX3_takeNumber_8 ?_
    refine jg_X3_28 9 C dX3_takeNumber_9 ?_
    refine j_top (nI t.2.2.2) (by rw [mm4]; exact hU.2.2.2.2 ht2) ?_
    refine j_il1 12 C dX3_takeNumber_12 ?_
    refine j_il2 13 C dX3_takeNumber_13 ?_
    refine j_within3 14 C dX3_takeNumber_14 ⟨(Nat.le_of_ble_eq_true rfl), (Nat.le_of_ble_eq_true rfl)⟩ (Nat.le_of_ble_eq_true rfl) ?_
    refine j_ifne 17 22 C dX3_takeNumber_17 (by decide) (fun c17 => ?_) (fun c17 => ?_)
    · have v17 := bi_n c17
      have hin := of_decide_eq_true v17
      have hk : okn t lw up = true := by unfold okn; rw [decide_eq_true ht2, decide_eq_true (Nat.le_of_not_lt (fun z => nI_ge z (by omega) hin.1)), decide_eq_true (Nat.le_of_not_lt (fun z => nI_ge z (by omega) hin.2))]; rfl
      refine j_al0 22 C dX3_takeNumber_22 ?_
      refine jg_X3_28 23 C dX3_takeNumber_23 ?_
      refine j_top (nI t.2.2.2) (by rw [mm4]; exact hU.2.2.2.2 ht2) ?_
      refine j_is3 26 C dX3_takeNumber_26 rfl (Nat.le_of_ble_eq_true rfl) ?_
      refine j_al0 27 C dX3_takeNumber_27 ?_
      refine j_vv 28 C dX3_takeNumber_28 mv_X3_step lk_X3_31 (c_X3_step (g := MM2 g R U) (by rw [mm5]; exact hB) ht.2.1 (by rw [mm4]; exact hU.1) (by rw [mm4]; exact hU.2.2.2.1)) rc_t rfl rfl ⟨(Nat.le_of_ble_eq_true rfl), (Nat.le_of_ble_eq_true rfl)⟩ (Nat.le_of_ble_eq_true rfl) (fun g28 hp28 => ?_)
      obtain ⟨U1, rfl, hU1⟩ := hp28
      rw [mm_4]
      refine j_il3 31 C dX3_takeNumber_31 ?_
      exact hR dX3_takeNumber_32 ⟨by rw [hk]; rfl, by rw [hk]; exact ⟨U1, rfl, hU1⟩⟩
    · have v17 := of_decide_eq_false (bi_0 c17)
      have hk : okn t lw up = false := by unfold okn; rw [Bool.eq_false_iff]; intro z; simp only [Bool.and_eq_true, decide_eq_true_eq] at z; exact v17 ⟨nI_le z.1.2 (by omega), nI_le z.2 (by omega)⟩
      refine j_iconst 20 C dX3_takeNumber_20 ic_m1 ?_
      exact hR dX3_takeNumber_21 ⟨by rw [hk]; rfl, by rw [hk]; exact ⟨U, rfl, hU⟩⟩
set_option maxRecDepth 20000 in
theorem c_X3_isName {G : GT} {g : Mem} {R U : Row} {B : Nat → Nat} {m : Nat} {t : Tk} (hB : BYT (g 5) B m) (hU : TKS U m t) (ht : TOK B m t) {i : Nat} (hi12 : i < 12) : Cti G yX3_isName cX3_isName 3 .boolean 5 106 [.ref (tp G), .ref (gK G i)] (MM2 g R U) (fun r g' => r = bi (nmk B i t) ∧ MM2 g R U = g') := by
  refine ent_z (by decide) (Nat.le_of_ble_eq_true rfl) [some (.ref (tp G)), some (.ref (gK G i)), none] rfl ?_
  intro X C hR
  have C : CX X G RX3 cX3_isName 3 5 106 := C
  have hsl := sl_le i hi12
  have hbe := ht.1
  have hem := ht.2.1
  have hm120 := hB.1
  refine j_al0 0 C dX3_isName_0 ?_
  refine jg_X3_19 1 C dX3_isName_1 ?_
  refine j_top (nI t.1) (by rw [mm4]; exact hU.2.1) ?_
  refine j_iconst 4 C dX3_isName_4 ic_1 ?_
  refine j_icne 5 24 C dX3_isName_5 (by decide) (fun c5 => ?_) (fun c5 => ?_)
  · have hk : nmk B i t = false := by unfold nmk; rw [decide_eq_false (fun z => c5 (by rw [z]; rfl))]; rfl
    refine j_iconst 24 C dX3_isName_24 ic_0 ?_
    exact hR dX3_isName_25 (by first | exact Or.inl rfl | exact Or.inr rfl) ⟨by rw [hk]; rfl, rfl⟩
  · have ht1 : t.1 = 1 := (nI_eq (by have := ht.2.2.1; omega) (by decide)).mp c5
    refine j_al0 8 C dX3_isName_8 ?_
    refine jg_X3_25 9 C dX3_isName_9 ?_
    refine j_top (nI t.2.2.1) (by rw [mm4]; exact hU.2.2.2.1) ?_
    refine j_al0 12 C dX3_isName_12 ?_
    refine jg_X3_22 13 C dX3_isName_13 ?_
    refine j_top (nI t.2.1) (by rw [mm4]; exact hU.2.2.1) ?_
    refine j_isub 16 C dX3_isName_16 ?_
    refine j_top (nI (t.2.2.1 - t.2.1)) (pk_sub hbe) ?_
    refine j_al1 17 C dX3_isName_17 ?_
    refine j_vi 18 C dX3_isName_18 mv_J0_length_8abf5 lk_X3_106 (c_J0_length_8abf5 hi12) (rc_k hi12) rfl rfl ⟨(Nat.le_of_ble_eq_true rfl), (Nat.le_of_ble_eq_true rfl)⟩ (Nat.le_of_ble_eq_true rfl) (fun r18 g18 hp18 => ?_)
    obtain ⟨rfl, rfl⟩ := hp18
    refine j_iceq 21 26 C dX3_isName_21 (by decide) (fun c21 => ?_) (fun c21 => ?_)
    · have hlen : t.2.2.1 - t.2.1 = sl i := (nI_eq (by omega) (by omega)).mp c21
      have loop : ∀ n k, k + n = (sl i) → al (fun j => decide (B (t.2.1 + j) = cl (chr i j))) k = true → J X G 3 (MM2 g R U) 28 [some (.ref (tp G)), some (.ref (gK G i)), some (.int (nI k))] [] := by
        intro n
        induction n with
        | zero =>
          intro k hk hal
          obtain rfl : (sl i) = k := by omega
          refine j_il2 28 C dX3_isName_28 ?_
          refine j_al1 29 C dX3_isName_29 ?_
          refine j_vi 30 C dX3_isName_30 mv_J0_length_8abf5 lk_X3_106 (c_J0_length_8abf5 hi12) (rc_k hi12) rfl rfl ⟨(Nat.le_of_ble_eq_true rfl), (Nat.le_of_ble_eq_true rfl)⟩ (Nat.le_of_ble_eq_true rfl) (fun r30 g30 hp30 => ?_)
          obtain ⟨rfl, rfl⟩ := hp30
          refine j_icge 33 63 C dX3_isName_33 (by decide) (fun c33 => ?_) (fun c33 => ?_)
          · have hk : nmk B i t = true := by unfold nmk; rw [decide_eq_true ht1, decide_eq_true hlen, hal]; rfl
            refine j_iconst 63 C dX3_isName_63 ic_1 ?_
            exact hR dX3_isName_64 (by first | exact Or.inl rfl | exact Or.inr rfl) ⟨by rw [hk]; rfl, rfl⟩
          · exact absurd (nI_le (Nat.le_refl _) (by omega)) c33
        | succ n ih =>
          intro k hk hal
          refine j_il2 28 C dX3_isName_28 ?_
          refine j_al1 29 C dX3_isName_29 ?_
          refine j_vi 30 C dX3_isName_30 mv_J0_length_8abf5 lk_X3_106 (c_J0_length_8abf5 hi12) (rc_k hi12) rfl rfl ⟨(Nat.le_of_ble_eq_true rfl), (Nat.le_of_ble_eq_true rfl)⟩ (Nat.le_of_ble_eq_true rfl) (fun r30 g30 hp30 => ?_)
          obtain ⟨rfl, rfl⟩ := hp30
          refine j_icge 33 63 C dX3_isName_33 (by decide) (fun c33 => ?_) (fun c33 => ?_)
          · exact absurd c33 (nI_ge (a := k) (b := (sl i)) (by omega) (by omega))
          · refine j_al0 36 C dX3_isName_36 ?_
            refine jg_X3_9 37 C dX3_isName_37 ?_
            refine j_al0 40 C dX3_isName_40 ?_
            refine jg_X3_22 41 C dX3_isName_41 ?_
            refine j_top (nI t.2.1) (by rw [mm4]; exact hU.2.2.1) ?_
            refine j_il2 44 C dX3_isName_44 ?_
            refine j_iadd 45 C dX3_isName_45 ?_
            refine j_top (nI (t.2.1 + k)) (nI_add _ _) ?_
            refine jl_tb 46 (by omega) C dX3_isName_46 ?_
            rw [mm5, (hB.2 (t.2.1 + k) (by omega)).2]
            refine j_al1 47 C dX3_isName_47 ?_
            refine j_il2 48 C dX3_isName_48 ?_
            refine j_vi 49 C dX3_isName_49 mv_J0_charAt_5068e lk_X3_112 (c_J0_charAt_5068e hi12 (by omega)) (rc_k hi12) rfl rfl ⟨(Nat.le_of_ble_eq_true rfl), (Nat.le_of_ble_eq_true rfl)⟩ (Nat.le_of_ble_eq_true rfl) (fun r49 g49 hp49 => ?_)
            obtain ⟨rfl, rfl⟩ := hp49
            refine j_iceq 52 57 C dX3_isName_52 (by decide) (fun c52 => ?_) (fun c52 => ?_)
            · have e9 : al (fun j => decide (B (t.2.1 + j) = cl (chr i j))) (k + 1) = true := by unfold al; rw [hal]; exact decide_eq_true ((sg_eq _ (hB.2 (t.2.1 + k) (by omega)).1 _ (chr_nI i hi12 k (by omega)).2).mp (by rw [← (chr_nI i hi12 k (by omega)).1]; exact c52))
              refine j_inc2 57 C dX3_isName_57 rfl (nI_inc _) (Nat.le_of_ble_eq_true rfl) ?_
              refine j_goto 60 28 C dX3_isName_60 (by decide) ?_
              exact ih (k + 1) (by omega) e9
            · have hk : nmk B i t = false := by unfold nmk; rw [al_f (k := k) (by omega) (decide_eq_false (fun z => c52 (by rw [(chr_nI i hi12 k (by omega)).1]; exact (sg_eq _ (hB.2 (t.2.1 + k) (by omega)).1 _ (chr_nI i hi12 k (by omega)).2).mpr z)))]; simp
              refine j_iconst 55 C dX3_isName_55 ic_0 ?_
              exact hR dX3_isName_56 (by first | exact Or.inl rfl | exact Or.inr rfl) ⟨by rw [hk]; rfl, rfl⟩
      refine j_iconst 26 C dX3_isName_26 ic_0 ?_
      refine j_is2 27 C dX3_isName_27 rfl (Nat.le_of_ble_eq_true rfl) ?_
      exact loop (sl i) 0 (Nat.zero_add _) rfl
    · have hk : nmk B i t = false := by unfold nmk; rw [decide_eq_false (p := t.2.2.1 - t.2.1 = sl i) (fun z => c21 (by rw [z]))]; simp
      refine j_iconst 24 C dX3_isName_24 ic_0 ?_
      exact hR dX3_isName_25 (by first | exact Or.inl rfl | exact Or.inr rfl) ⟨by rw [hk]; rfl, rfl⟩
