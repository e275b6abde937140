def h3 (B : Nat → Nat) (m : Nat) (b o : Nat) (x y z : Int32) : Bool := decide (bat B m (b + o) = x) && decide (bat B m (b + o + 1) = y) && decide (bat B m (b + o + 2) = z)
def iw (t : Tk) (n : Nat) : Bool := decide (t.1 = 1) && decide (t.2.2.1 - t.2.1 = n)
set_option maxRecDepth 20000 in
theorem c_X5_has3 {G : GT} {g : Mem} {B : Nat → Nat} {m : Nat} (hB : BYM (g 17) B m) {t : Tk} (hV : TKM (g 22) m t) (ht : TOK B m t) {o : Nat} (ho : o < 10) {x y z : Int32} : Cti G yX5_has3 cX5_has3 5 .boolean 1 21 [.ref (mo G), .int (nI o), .int x, .int y, .int z] g (fun r g' => r = bi (h3 B m t.2.1 o x y z) ∧ g = g') := by
  refine ent_z (by decide) (Nat.le_of_ble_eq_true rfl) [some (.ref (mo G)), some (.int (nI o)), some (.int x), some (.int y), some (.int z)] rfl ?_
  intro X C hR
  have C : CX X G RX5 cX5_has3 5 1 21 := C
  refine j_al0 0 C dX5_has3_0 ?_
  refine j_al0 1 C dX5_has3_1 ?_
  refine jg_X5_219 2 C dX5_has3_2 ?_
  refine j_top (nI t.2.1) hV.2.2.1 ?_
  refine j_il1 5 C dX5_has3_5 ?_
  refine j_iadd 6 C dX5_has3_6 ?_
  refine j_top (nI (t.2.1 + o)) (nI_add _ _) ?_
  refine j_vi 7 C dX5_has3_7 mv_X5_byteAt lk_X5_222 (c_X5_byteAt hB hV.1 (j := t.2.1 + o) (by have := hB.1; have := ht.1; have := ht.2.1; omega)) rc_m rfl rfl ⟨(Nat.le_of_ble_eq_true rfl), (Nat.le_of_ble_eq_true rfl)⟩ (Nat.le_of_ble_eq_true rfl) (fun r7 g7 hp7 => ?_)
  obtain ⟨rfl, rfl⟩ := hp7
  refine j_il2 10 C dX5_has3_10 ?_
  refine j_icne 11 51 C dX5_has3_11 (by decide) (fun c11 => ?_) (fun c11 => ?_)
  · refine j_iconst 51 C dX5_has3_51 ic_0 ?_
    exact hR dX5_has3_52 (by first | exact Or.inl rfl | exact Or.inr rfl) ⟨by unfold h3; rw [decide_eq_false c11]; rfl, rfl⟩
  · refine j_al0 14 C dX5_has3_14 ?_
    refine j_al0 15 C dX5_has3_15 ?_
    refine jg_X5_219 16 C dX5_has3_16 ?_
    refine j_top (nI t.2.1) hV.2.2.1 ?_
    refine j_il1 19 C dX5_has3_19 ?_
    refine j_iadd 20 C dX5_has3_20 ?_
    refine j_top (nI (t.2.1 + o)) (nI_add _ _) ?_
    refine j_iconst 21 C dX5_has3_21 ic_1 ?_
    refine j_iadd 22 C dX5_has3_22 ?_
    refine j_top (nI (t.2.1 + o + 1)) (nI_add _ 1) ?_
    refine j_vi 23 C dX5_has3_23 mv_X5_byteAt lk_X5_222 (c_X5_byteAt hB hV.1 (j := t.2.1 + o + 1) (by have := hB.1; have := ht.1; have := ht.2.1; omega)) rc_m rfl rfl ⟨(Nat.le_of_ble_eq_true rfl), (Nat.le_of_ble_eq_true rfl)⟩ (Nat.le_of_ble_eq_true rfl) (fun r23 g23 hp23 => ?_)
    obtain ⟨rfl, rfl⟩ := hp23
    refine j_il3 26 C dX5_has3_26 ?_
    refine j_icne 27 51 C dX5_has3_27 (by decide) (fun c27 => ?_) (fun c27 => ?_)
    · refine j_iconst 51 C dX5_has3_51 ic_0 ?_
      exact hR dX5_has3_52 (by first | exact Or.inl rfl | exact Or.inr rfl) ⟨by unfold h3; rw [decide_eq_true c11, decide_eq_false c27]; rfl, rfl⟩
    · refine j_al0 30 C dX5_has3_30 ?_
      refine j_al0 31 C dX5_has3_31 ?_
      refine jg_X5_219 32 C dX5_has3_32 ?_
      refine j_top (nI t.2.1) hV.2.2.1 ?_
      refine j_il1 35 C dX5_has3_35 ?_
      refine j_iadd 36 C dX5_has3_36 ?_
      refine j_top (nI (t.2.1 + o)) (nI_add _ _) ?_
      refine j_iconst 37 C dX5_has3_37 ic_2 ?_
      refine j_iadd 38 C dX5_has3_38 ?_
      refine j_top (nI (t.2.1 + o + 2)) (nI_add _ 2) ?_
      refine j_vi 39 C dX5_has3_39 mv_X5_byteAt lk_X5_222 (c_X5_byteAt hB hV.1 (j := t.2.1 + o + 2) (by have := hB.1; have := ht.1; have := ht.2.1; omega)) rc_m rfl rfl ⟨(Nat.le_of_ble_eq_true rfl), (Nat.le_of_ble_eq_true rfl)⟩ (Nat.le_of_ble_eq_true rfl) (fun r39 g39 hp39 => ?_)
      obtain ⟨rfl, rfl⟩ := hp39
      refine j_il4 42 C dX5_has3_42 ?_
      refine j_icne 44 51 C dX5_has3_44 (by decide) (fun c44 => ?_) (fun c44 => ?_)
      · refine j_iconst 51 C dX5_has3_51 ic_0 ?_
        exact hR dX5_has3_52 (by first | exact Or.inl rfl | exact Or.inr rfl) ⟨by unfold h3; rw [decide_eq_true c11, decide_eq_true c27, decide_eq_false c44]; rfl, rfl⟩
      · refine j_iconst 47 C dX5_has3_47 ic_1 ?_
        refine j_goto 48 52 C dX5_has3_48 (by decide) ?_
        exact hR dX5_has3_52 (by first | exact Or.inl rfl | exact Or.inr rfl) ⟨by unfold h3; rw [decide_eq_true c11, decide_eq_true c27, decide_eq_true c44]; rfl, rfl⟩
set_option maxRecDepth 20000 in
theorem c_X5_isWord {G : GT} {g : Mem} {B : Nat → Nat} {m : Nat} (hB : BYM (g 17) B m) {t : Tk} (hV : TKM (g 22) m t) (ht : TOK B m t) {n : Nat} (hn : n < 10) : Cti G yX5_isWord cX5_isWord 2 .boolean 0 0 [.ref (mo G), .int (nI n)] g (fun r g' => r = bi (iw t n) ∧ g = g') := by
  refine ent_z (by decide) (Nat.le_of_ble_eq_true rfl) [some (.ref (mo G)), some (.int (nI n))] rfl ?_
  intro X C hR
  have C : CX X G RX5 cX5_isWord 2 0 0 := C
  refine j_al0 0 C dX5_isWord_0 ?_
  refine jg_X5_231 1 C dX5_isWord_1 ?_
  refine j_top (nI t.1) hV.2.1 ?_
  refine j_iconst 4 C dX5_isWord_4 ic_1 ?_
  refine j_icne 5 25 C dX5_isWord_5 (by decide) (fun c5 => ?_) (fun c5 => ?_)
  · refine j_iconst 25 C dX5_isWord_25 ic_0 ?_
    exact hR dX5_isWord_26 (by first | exact Or.inl rfl | exact Or.inr rfl) ⟨by unfold iw; rw [decide_eq_false (p := t.1 = 1) (fun z => c5 (by rw [z]; rfl))]; rfl, rfl⟩
  · refine j_al0 8 C dX5_isWord_8 ?_
    refine jg_X5_216 9 C dX5_isWord_9 ?_
    refine j_top (nI t.2.2.1) hV.2.2.2.1 ?_
    refine j_al0 12 C dX5_isWord_12 ?_
    refine jg_X5_219 13 C dX5_isWord_13 ?_
    refine j_top (nI t.2.1) hV.2.2.1 ?_
    refine j_isub 16 C dX5_isWord_16 ?_
    refine j_top (nI (t.2.2.1 - t.2.1)) (pk_sub ht.1) ?_
    refine j_il1 17 C dX5_isWord_17 ?_
    refine j_icne 18 25 C dX5_isWord_18 (by decide) (fun c18 => ?_) (fun c18 => ?_)
    · refine j_iconst 25 C dX5_isWord_25 ic_0 ?_
      exact hR dX5_isWord_26 (by first | exact Or.inl rfl | exact Or.inr rfl) ⟨by unfold iw; rw [decide_eq_true (p := t.1 = 1) ((nI_eq (b := 1) (by have := ht.2.2.1; omega) (by decide)).mp c5), decide_eq_false (p := t.2.2.1 - t.2.1 = n) (fun z => c18 (by rw [z]))]; rfl, rfl⟩
    · refine j_iconst 21 C dX5_isWord_21 ic_1 ?_
      refine j_goto 22 26 C dX5_isWord_22 (by decide) ?_
      exact hR dX5_isWord_26 (by first | exact Or.inl rfl | exact Or.inr rfl) ⟨by unfold iw; rw [decide_eq_true (p := t.1 = 1) ((nI_eq (b := 1) (by have := ht.2.2.1; omega) (by decide)).mp c5), decide_eq_true (p := t.2.2.1 - t.2.1 = n) ((nI_eq (by have := hB.1; have := ht.2.1; omega) (by omega)).mp c18)]; rfl, rfl⟩
set_option maxRecDepth 20000 in
theorem c_X5_fails {G : GT} {g : Mem} : Cti G yX5_fails cX5_fails 1 .boolean 0 0 [.ref (mo G)] g (fun r g' => r = 0 ∧ g' = ub g 22 (upd (g 22) 6 (g 22 3))) := by
  refine ent_z (by decide) (Nat.le_of_ble_eq_true rfl) [some (.ref (mo G))] rfl ?_
  intro X C hR
  have C : CX X G RX5 cX5_fails 1 0 0 := C
  refine j_al0 0 C dX5_fails_0 ?_
  refine j_al0 1 C dX5_fails_1 ?_
  refine jg_X5_219 2 C dX5_fails_2 ?_
  refine jp_X5_237 5 C dX5_fails_5 ?_
  refine j_iconst 8 C dX5_fails_8 ic_0 ?_
  exact hR dX5_fails_9 (by first | exact Or.inl rfl | exact Or.inr rfl) ⟨rfl, rfl⟩
theorem nI_leJ {a b : Nat} (ha : a < 2 ^ 31) (hb : b < 2 ^ 31) : nI a ≤ nI b ↔ a ≤ b := by
  rw [Int32.le_iff_toInt_le, nI_toInt ha, nI_toInt hb]; omega
theorem inr_okn {v lo hi : Nat} (hlo : lo < 2 ^ 31) (hhi : hi < 2 ^ 31) (hv : v < 2 ^ 31) : inr (nI v) (nI lo) (nI hi) = (decide (lo ≤ v) && decide (v ≤ hi)) := by
  unfold inr
  by_cases h1 : lo ≤ v
  · by_cases h2 : v ≤ hi
    · rw [decide_eq_true h1, decide_eq_true h2, decide_eq_true ⟨(nI_leJ hlo hv).mpr h1, (nI_leJ hv hhi).mpr h2⟩]; rfl
    · rw [decide_eq_true h1, decide_eq_false h2, decide_eq_false (fun q => h2 ((nI_leJ hv hhi).mp q.2))]; rfl
  · rw [decide_eq_false h1, decide_eq_false (fun q => h1 ((nI_leJ hlo hv).mp q.1))]; rfl
set_option maxRecDepth 20000 in
theorem c_X5_isNumber {G : GT} {g : Mem} {B : Nat → Nat} {m : Nat} (hB : BYM (g 17) B m) {t : Tk} (hV : TKM (g 22) m t) (ht : TOK B m t) {lo hi : Nat} (hlo : lo < 2 ^ 31) (hhi : hi < 2 ^ 31) : Cti G yX5_isNumber cX5_isNumber 3 .boolean 1 25 [.ref (mo G), .int (nI lo), .int (nI hi)] g (fun r g' => r = bi (okn t lo hi) ∧ g' = (if okn t lo hi then g else ub g 22 (upd (g 22) 6 (nI t.2.1)))) := by
  refine ent_z (by decide) (Nat.le_of_ble_eq_true rfl) [some (.ref (mo G)), some (.int (nI lo)), some (.int (nI hi))] rfl ?_
  intro X C hR
  have C : CX X G RX5 cX5_isNumber 3 1 25 := C
  refine j_al0 0 C dX5_isNumber_0 ?_
  refine jg_X5_231 1 C dX5_isNumber_1 ?_
  refine j_top (nI t.1) hV.2.1 ?_
  refine j_iconst 4 C dX5_isNumber_4 ic_2 ?_
  refine j_icne 5 23 C dX5_isNumber_5 (by decide) (fun c5 => ?_) (fun c5 => ?_)
  · have hno : okn t lo hi = false := by unfold okn; rw [decide_eq_false (p := t.1 = 2) (fun z => c5 (by rw [z]; rfl))]; rfl
    refine j_al0 23 C dX5_isNumber_23 ?_
    refine j_vi 24 C dX5_isNumber_24 mv_X5_fails lk_X5_247 (c_X5_fails) rc_m rfl rfl ⟨(Nat.le_of_ble_eq_true rfl), (Nat.le_of_ble_eq_true rfl)⟩ (Nat.le_of_ble_eq_true rfl) (fun r24 g24 hp24 => ?_)
    obtain ⟨rfl, rfl⟩ := hp24
    rw [hV.2.2.1]
    refine j_ifeq 27 34 C dX5_isNumber_27 (by decide) (fun c27 => ?_) (fun c27 => ?_)
    · refine j_iconst 34 C dX5_isNumber_34 ic_0 ?_
      exact hR dX5_isNumber_35 (Or.inl rfl) ⟨by rw [hno]; rfl, by rw [if_neg (by rw [hno]; decide)]⟩
    · exact absurd rfl c27
  · have h2 : t.1 = 2 := (nI_eq (b := 2) (by have := ht.2.2.1; omega) (by decide)).mp c5
    have h4 := ht.2.2.2.2
    have hin := inr_okn (v := t.2.2.2) hlo hhi (by omega)
    have hok : okn t lo hi = inr (nI t.2.2.2) (nI lo) (nI hi) := by unfold okn; rw [decide_eq_true h2, hin]; rfl
    refine j_al0 8 C dX5_isNumber_8 ?_
    refine jg_X5_234 9 C dX5_isNumber_9 ?_
    refine j_top (nI t.2.2.2) hV.2.2.2.2 ?_
    refine j_i2l 12 C dX5_isNumber_12 ?_
    refine j_il1 13 C dX5_isNumber_13 ?_
    refine j_i2l 14 C dX5_isNumber_14 ?_
    refine j_il2 15 C dX5_isNumber_15 ?_
    refine j_i2l 16 C dX5_isNumber_16 ?_
    refine j_si 17 C dX5_isNumber_17 ms_X5_isIn lk_X5_56 (c_X5_isIn (lo := nI lo) (hi := nI hi) rfl rfl) rfl rfl ⟨(Nat.le_of_ble_eq_true rfl), (Nat.le_of_ble_eq_true rfl)⟩ (Nat.le_of_ble_eq_true rfl) (fun r17 g17 hp17 => ?_)
    obtain ⟨rfl, rfl⟩ := hp17
    refine j_ifne 20 30 C dX5_isNumber_20 (by decide) (fun c20 => ?_) (fun c20 => ?_)
    · have v20 := bi_n c20
      have hyes : okn t lo hi = true := hok.trans v20
      refine j_iconst 30 C dX5_isNumber_30 ic_1 ?_
      refine j_goto 31 35 C dX5_isNumber_31 (by decide) ?_
      exact hR dX5_isNumber_35 (Or.inr rfl) ⟨by rw [hyes]; rfl, by rw [if_pos hyes]⟩
    · have v20 := bi_0 c20
      have hno : okn t lo hi = false := hok.trans v20
      refine j_al0 23 C dX5_isNumber_23 ?_
      refine j_vi 24 C dX5_isNumber_24 mv_X5_fails lk_X5_247 (c_X5_fails) rc_m rfl rfl ⟨(Nat.le_of_ble_eq_true rfl), (Nat.le_of_ble_eq_true rfl)⟩ (Nat.le_of_ble_eq_true rfl) (fun r24 g24 hp24 => ?_)
      obtain ⟨rfl, rfl⟩ := hp24
      rw [hV.2.2.1]
      refine j_ifeq 27 34 C dX5_isNumber_27 (by decide) (fun c27 => ?_) (fun c27 => ?_)
      · refine j_iconst 34 C dX5_isNumber_34 ic_0 ?_
        exact hR dX5_isNumber_35 (Or.inl rfl) ⟨by rw [hno]; rfl, by rw [if_neg (by rw [hno]; decide)]⟩
      · exact absurd rfl c27
