theorem bat_c {B : Nat → Nat} {m : Nat} {t : Tk} (hB : ∀ j, j < m → B j < 256) (ht : TOK B m t) {k : Nat} (hk : k < 12) (hw : t.2.2.1 - t.2.1 = sl k) {j : Nat} (hj : j < sl k) : decide (bat B m (t.2.1 + j) = chr k j) = decide (B (t.2.1 + j) = cl (chr k j)) := by
  have h1 := ht.1
  have h2 := ht.2.1
  obtain ⟨e1, e2⟩ := chr_nI k hk j hj
  have h3 : (bat B m (t.2.1 + j) = chr k j) ↔ B (t.2.1 + j) = cl (chr k j) := by
    rw [e1, bat_eq (fun h => hB _ h) (by omega), ← e1]
    exact ⟨fun e => e.2, fun e => ⟨by omega, e⟩⟩
  by_cases q : B (t.2.1 + j) = cl (chr k j)
  · rw [decide_eq_true q, decide_eq_true (h3.mpr q)]
  · rw [decide_eq_false q, decide_eq_false (fun z => q (h3.mp z))]
theorem nmk_iw {B : Nat → Nat} {m : Nat} {t : Tk} (hB : ∀ j, j < m → B j < 256) (ht : TOK B m t) {k n : Nat} (hk : k < 12) (hn : sl k = n) : nmk B k t = (iw t n && al (fun j => decide (bat B m (t.2.1 + j) = chr k j)) n) := by
  subst hn
  unfold nmk iw
  by_cases h1 : t.1 = 1
  · by_cases h2 : t.2.2.1 - t.2.1 = sl k
    · rw [al_congr (fun j hj => (bat_c hB ht hk h2 hj).symm)]
    · rw [decide_eq_false h2, Bool.and_false]; rfl
  · rw [decide_eq_false h1]; rfl
theorem al2 (p : Nat → Bool) : al p 2 = (p 0 && p 1) := by show ((true && p 0) && p 1) = _; cases p 0 <;> cases p 1 <;> rfl
theorem al3 (p : Nat → Bool) : al p 3 = (p 0 && p 1 && p 2) := by show (((true && p 0) && p 1) && p 2) = _; cases p 0 <;> cases p 1 <;> cases p 2 <;> rfl
theorem al4 (p : Nat → Bool) : al p 4 = ((p 0 && p 1 && p 2) && (p 1 && p 2 && p 3)) := by show ((((true && p 0) && p 1) && p 2) && p 3) = _; cases p 0 <;> cases p 1 <;> cases p 2 <;> cases p 3 <;> rfl
theorem al5 (p : Nat → Bool) : al p 5 = ((p 0 && p 1 && p 2) && (p 2 && p 3 && p 4)) := by show (((((true && p 0) && p 1) && p 2) && p 3) && p 4) = _; cases p 0 <;> cases p 1 <;> cases p 2 <;> cases p 3 <;> cases p 4 <;> rfl
theorem al6 (p : Nat → Bool) : al p 6 = ((p 0 && p 1 && p 2) && (p 3 && p 4 && p 5)) := by show ((((((true && p 0) && p 1) && p 2) && p 3) && p 4) && p 5) = _; cases p 0 <;> cases p 1 <;> cases p 2 <;> cases p 3 <;> cases p 4 <;> cases p 5 <;> rfl
theorem al7 (p : Nat → Bool) : al p 7 = (((p 0 && p 1 && p 2) && (p 3 && p 4 && p 5)) && (p 4 && p 5 && p 6)) := by show (((((((true && p 0) && p 1) && p 2) && p 3) && p 4) && p 5) && p 6) = _; cases p 0 <;> cases p 1 <;> cases p 2 <;> cases p 3 <;> cases p 4 <;> cases p 5 <;> cases p 6 <;> rfl
set_option maxRecDepth 20000 in
theorem c_X5_isFour {G : GT} {g : Mem} {B : Nat → Nat} {m : Nat} (hB : BYM (g 17) B m) {t : Tk} (hV : TKM (g 22) m t) (ht : TOK B m t) {k : Nat} (hk : k < 12) (hn : sl k = 4) {x0 x1 x2 x3 : Int32} (e0 : x0 = chr k 0) (e1 : x1 = chr k 1) (e2 : x2 = chr k 2) (e3 : x3 = chr k 3) : Cti G yX5_isFour cX5_isFour 5 .boolean 2 45 [.ref (mo G), .int x0, .int x1, .int x2, .int x3] g (fun r g' => r = bi (nmk B k t) ∧ g = g') := by
  refine ent_z (by decide) (Nat.le_of_ble_eq_true rfl) [some (.ref (mo G)), some (.int x0), some (.int x1), some (.int x2), some (.int x3)] rfl ?_
  intro X C hR
  have C : CX X G RX5 cX5_isFour 5 2 45 := C
  have hc : nmk B k t = (iw t 4 && (h3 B m t.2.1 0 x0 x1 x2 && h3 B m t.2.1 1 x1 x2 x3)) := by
    rw [nmk_iw (fun j hj => (hB.2 j hj).1) ht hk hn, al4]
    subst e0; subst e1; subst e2; subst e3
    rfl
  refine j_al0 0 C dX5_isFour_0 ?_
  refine j_iconst 1 C dX5_isFour_1 ic_4 ?_
  refine j_vi 2 C dX5_isFour_2 mv_X5_isWord lk_X5_240 (c_X5_isWord hB hV ht (n := 4) (by decide)) rc_m rfl rfl ⟨(Nat.le_of_ble_eq_true rfl), (Nat.le_of_ble_eq_true rfl)⟩ (Nat.le_of_ble_eq_true rfl) (fun r2 g2 hp2 => ?_)
  obtain ⟨rfl, rfl⟩ := hp2
  refine j_ifeq 5 35 C dX5_isFour_5 (by decide) (fun c5 => ?_) (fun c5 => ?_)
  · have v5 := bi_0 c5
    refine j_iconst 35 C dX5_isFour_35 ic_0 ?_
    exact hR dX5_isFour_36 (by first | exact Or.inl rfl | exact Or.inr rfl) ⟨by rw [hc, v5]; rfl, rfl⟩
  · have v5 := bi_n c5
    refine j_al0 8 C dX5_isFour_8 ?_
    refine j_iconst 9 C dX5_isFour_9 ic_0 ?_
    refine j_il1 10 C dX5_isFour_10 ?_
    refine j_il2 11 C dX5_isFour_11 ?_
    refine j_il3 12 C dX5_isFour_12 ?_
    refine j_vi 13 C dX5_isFour_13 mv_X5_has3 lk_X5_243 (c_X5_has3 hB hV ht (o := 0) (by decide)) rc_m rfl rfl ⟨(Nat.le_of_ble_eq_true rfl), (Nat.le_of_ble_eq_true rfl)⟩ (Nat.le_of_ble_eq_true rfl) (fun r13 g13 hp13 => ?_)
    obtain ⟨rfl, rfl⟩ := hp13
    refine j_ifeq 16 35 C dX5_isFour_16 (by decide) (fun c16 => ?_) (fun c16 => ?_)
    · have v16 := bi_0 c16
      refine j_iconst 35 C dX5_isFour_35 ic_0 ?_
      exact hR dX5_isFour_36 (by first | exact Or.inl rfl | exact Or.inr rfl) ⟨by rw [hc, v5, v16]; rfl, rfl⟩
    · have v16 := bi_n c16
      refine j_al0 19 C dX5_isFour_19 ?_
      refine j_iconst 20 C dX5_isFour_20 ic_1 ?_
      refine j_il2 21 C dX5_isFour_21 ?_
      refine j_il3 22 C dX5_isFour_22 ?_
      refine j_il4 23 C dX5_isFour_23 ?_
      refine j_vi 25 C dX5_isFour_25 mv_X5_has3 lk_X5_243 (c_X5_has3 hB hV ht (o := 1) (by decide)) rc_m rfl rfl ⟨(Nat.le_of_ble_eq_true rfl), (Nat.le_of_ble_eq_true rfl)⟩ (Nat.le_of_ble_eq_true rfl) (fun r25 g25 hp25 => ?_)
      obtain ⟨rfl, rfl⟩ := hp25
      refine j_ifeq 28 35 C dX5_isFour_28 (by decide) (fun c28 => ?_) (fun c28 => ?_)
      · have v28 := bi_0 c28
        refine j_iconst 35 C dX5_isFour_35 ic_0 ?_
        exact hR dX5_isFour_36 (by first | exact Or.inl rfl | exact Or.inr rfl) ⟨by rw [hc, v5, v16, v28]; rfl, rfl⟩
      · have v28 := bi_n c28
        refine j_iconst 31 C dX5_isFour_31 ic_1 ?_
        refine j_goto 32 36 C dX5_isFour_32 (by decide) ?_
        exact hR dX5_isFour_36 (by first | exact Or.inl rfl | exact Or.inr rfl) ⟨by rw [hc, v5, v16, v28]; rfl, rfl⟩
set_option maxRecDepth 20000 in
theorem c_X5_isFive {G : GT} {g : Mem} {B : Nat → Nat} {m : Nat} (hB : BYM (g 17) B m) {t : Tk} (hV : TKM (g 22) m t) (ht : TOK B m t) {k : Nat} (hk : k < 12) (hn : sl k = 5) {x0 x1 x2 x3 x4 : Int32} (e0 : x0 = chr k 0) (e1 : x1 = chr k 1) (e2 : x2 = chr k 2) (e3 : x3 = chr k 3) (e4 : x4 = chr k 4) : Cti G yX5_isFive cX5_isFive 6 .boolean 2 45 [.ref (mo G), .int x0, .int x1, .int x2, .int x3, .int x4] g (fun r g' => r = bi (nmk B k t) ∧ g = g') := by
  refine ent_z (by decide) (Nat.le_of_ble_eq_true rfl) [some (.ref (mo G)), some (.int x0), some (.int x1), some (.int x2), some (.int x3), some (.int x4)] rfl ?_
  intro X C hR
  have C : CX X G RX5 cX5_isFive 6 2 45 := C
  have hc : nmk B k t = (iw t 5 && (h3 B m t.2.1 0 x0 x1 x2 && h3 B m t.2.1 2 x2 x3 x4)) := by
    rw [nmk_iw (fun j hj => (hB.2 j hj).1) ht hk hn, al5]
    subst e0; subst e1; subst e2; subst e3; subst e4
    rfl
  refine j_al0 0 C dX5_isFive_0 ?_
  refine j_iconst 1 C dX5_isFive_1 ic_5 ?_
  refine j_vi 2 C dX5_isFive_2 mv_X5_isWord lk_X5_240 (c_X5_isWord hB hV ht (n := 5) (by decide)) rc_m rfl rfl ⟨(Nat.le_of_ble_eq_true rfl), (Nat.le_of_ble_eq_true rfl)⟩ (Nat.le_of_ble_eq_true rfl) (fun r2 g2 hp2 => ?_)
  obtain ⟨rfl, rfl⟩ := hp2
  refine j_ifeq 5 36 C dX5_isFive_5 (by decide) (fun c5 => ?_) (fun c5 => ?_)
  · have v5 := bi_0 c5
    refine j_iconst 36 C dX5_isFive_36 ic_0 ?_
    exact hR dX5_isFive_37 (by first | exact Or.inl rfl | exact Or.inr rfl) ⟨by rw [hc, v5]; rfl, rfl⟩
  · have v5 := bi_n c5
    refine j_al0 8 C dX5_isFive_8 ?_
    refine j_iconst 9 C dX5_isFive_9 ic_0 ?_
    refine j_il1 10 C dX5_isFive_10 ?_
    refine j_il2 11 C dX5_isFive_11 ?_
    refine j_il3 12 C dX5_isFive_12 ?_
    refine j_vi 13 C dX5_isFive_13 mv_X5_has3 lk_X5_243 (c_X5_has3 hB hV ht (o := 0) (by decide)) rc_m rfl rfl ⟨(Nat.le_of_ble_eq_true rfl), (Nat.le_of_ble_eq_true rfl)⟩ (Nat.le_of_ble_eq_true rfl) (fun r13 g13 hp13 => ?_)
    obtain ⟨rfl, rfl⟩ := hp13
    refine j_ifeq 16 36 C dX5_isFive_16 (by decide) (fun c16 => ?_) (fun c16 => ?_)
    · have v16 := bi_0 c16
      refine j_iconst 36 C dX5_isFive_36 ic_0 ?_
      exact hR dX5_isFive_37 (by first | exact Or.inl rfl | exact Or.inr rfl) ⟨by rw [hc, v5, v16]; rfl, rfl⟩
    · have v16 := bi_n c16
      refine j_al0 19 C dX5_isFive_19 ?_
      refine j_iconst 20 C dX5_isFive_20 ic_2 ?_
      refine j_il3 21 C dX5_isFive_21 ?_
      refine j_il4 22 C dX5_isFive_22 ?_
      refine j_il5 24 C dX5_isFive_24 ?_
      refine j_vi 26 C dX5_isFive_26 mv_X5_has3 lk_X5_243 (c_X5_has3 hB hV ht (o := 2) (by decide)) rc_m rfl rfl ⟨(Nat.le_of_ble_eq_true rfl), (Nat.le_of_ble_eq_true rfl)⟩ (Nat.le_of_ble_eq_true rfl) (fun r26 g26 hp26 => ?_)
      obtain ⟨rfl, rfl⟩ := hp26
      refine j_ifeq 29 36 C dX5_isFive_29 (by decide) (fun c29 => ?_) (fun c29 => ?_)
      · have v29 := bi_0 c29
        refine j_iconst 36 C dX5_isFive_36 ic_0 ?_
        exact hR dX5_isFive_37 (by first | exact Or.inl rfl | exact Or.inr rfl) ⟨by rw [hc, v5, v16, v29]; rfl, rfl⟩
      · have v29 := bi_n c29
        refine j_iconst 32 C dX5_isFive_32 ic_1 ?_
        refine j_goto 33 37 C dX5_isFive_33 (by decide) ?_
        exact hR dX5_isFive_37 (by first | exact Or.inl rfl | exact Or.inr rfl) ⟨by rw [hc, v5, v16, v29]; rfl, rfl⟩
set_option maxRecDepth 20000 in
theorem c_X5_isSix {G : GT} {g : Mem} {B : Nat → Nat} {m : Nat} (hB : BYM (g 17) B m) {t : Tk} (hV : TKM (g 22) m t) (ht : TOK B m t) {k : Nat} (hk : k < 12) (hn : sl k = 6) {x0 x1 x2 x3 x4 x5 : Int32} (e0 : x0 = chr k 0) (e1 : x1 = chr k 1) (e2 : x2 = chr k 2) (e3 : x3 = chr k 3) (e4 : x4 = chr k 4) (e5 : x5 = chr k 5) : Cti G yX5_isSix cX5_isSix 7 .boolean 2 45 [.ref (mo G), .int x0, .int x1, .int x2, .int x3, .int x4, .int x5] g (fun r g' => r = bi (nmk B k t) ∧ g = g') := by
  refine ent_z (by decide) (Nat.le_of_ble_eq_true rfl) [some (.ref (mo G)), some (.int x0), some (.int x1), some (.int x2), some (.int x3), some (.int x4), some (.int x5)] rfl ?_
  intro X C hR
  have C : CX X G RX5 cX5_isSix 7 2 45 := C
  have hc : nmk B k t = (iw t 6 && (h3 B m t.2.1 0 x0 x1 x2 && h3 B m t.2.1 3 x3 x4 x5)) := by
    rw [nmk_iw (fun j hj => (hB.2 j hj).1) ht hk hn, al6]
    subst e0; subst e1; subst e2; subst e3; subst e4; subst e5
    rfl
  refine j_al0 0 C dX5_isSix_0 ?_
  refine j_bipush 1 C dX5_isSix_1 bp_6 ?_
  refine j_vi 3 C dX5_isSix_3 mv_X5_isWord lk_X5_240 (c_X5_isWord hB hV ht (n := 6) (by decide)) rc_m rfl rfl ⟨(Nat.le_of_ble_eq_true rfl), (Nat.le_of_ble_eq_true rfl)⟩ (Nat.le_of_ble_eq_true rfl) (fun r3 g3 hp3 => ?_)
  obtain ⟨rfl, rfl⟩ := hp3
  refine j_ifeq 6 38 C dX5_isSix_6 (by decide) (fun c6 => ?_) (fun c6 => ?_)
  · have v6 := bi_0 c6
    refine j_iconst 38 C dX5_isSix_38 ic_0 ?_
    exact hR dX5_isSix_39 (by first | exact Or.inl rfl | exact Or.inr rfl) ⟨by rw [hc, v6]; rfl, rfl⟩
  · have v6 := bi_n c6
    refine j_al0 9 C dX5_isSix_9 ?_
    refine j_iconst 10 C dX5_isSix_10 ic_0 ?_
    refine j_il1 11 C dX5_isSix_11 ?_
    refine j_il2 12 C dX5_isSix_12 ?_
    refine j_il3 13 C dX5_isSix_13 ?_
    refine j_vi 14 C dX5_isSix_14 mv_X5_has3 lk_X5_243 (c_X5_has3 hB hV ht (o := 0) (by decide)) rc_m rfl rfl ⟨(Nat.le_of_ble_eq_true rfl), (Nat.le_of_ble_eq_true rfl)⟩ (Nat.le_of_ble_eq_true rfl) (fun r14 g14 hp14 => ?_)
    obtain ⟨rfl, rfl⟩ := hp14
    refine j_ifeq 17 38 C dX5_isSix_17 (by decide) (fun c17 => ?_) (fun c17 => ?_)
    · have v17 := bi_0 c17
      refine j_iconst 38 C dX5_isSix_38 ic_0 ?_
      exact hR dX5_isSix_39 (by first | exact Or.inl rfl | exact Or.inr rfl) ⟨by rw [hc, v6, v17]; rfl, rfl⟩
    · have v17 := bi_n c17
      refine j_al0 20 C dX5_isSix_20 ?_
      refine j_iconst 21 C dX5_isSix_21 ic_3 ?_
      refine j_il4 22 C dX5_isSix_22 ?_
      refine j_il5 24 C dX5_isSix_24 ?_
      refine j_il6 26 C dX5_isSix_26 ?_
      refine j_vi 28 C dX5_isSix_28 mv_X5_has3 lk_X5_243 (c_X5_has3 hB hV ht (o := 3) (by decide)) rc_m rfl rfl ⟨(Nat.le_of_ble_eq_true rfl), (Nat.le_of_ble_eq_true rfl)⟩ (Nat.le_of_ble_eq_true rfl) (fun r28 g28 hp28 => ?_)
      obtain ⟨rfl, rfl⟩ := hp28
      refine j_ifeq 31 38 C dX5_isSix_31 (by decide) (fun c31 => ?_) (fun c31 => ?_)
      · have v31 := bi_0 c31
        refine j_iconst 38 C dX5_isSix_38 ic_0 ?_
        exact hR dX5_isSix_39 (by first | exact Or.inl rfl | exact Or.inr rfl) ⟨by rw [hc, v6, v17, v31]; rfl, rfl⟩
      · have v31 := bi_n c31
        refine j_iconst 34 C dX5_isSix_34 ic_1 ?_
        refine j_goto 35 39 C dX5_isSix_35 (by decide) ?_
        exact hR dX5_isSix_39 (by first | exact Or.inl rfl | exact Or.inr rfl) ⟨by rw [hc, v6, v17, v31]; rfl, rfl⟩
