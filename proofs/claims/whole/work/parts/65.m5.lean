theorem upd_comm {f : Row} {i j : Nat} {x y : Int32} (h : i ≠ j) : upd (upd f i x) j y = upd (upd f j y) i x := by
  funext k
  by_cases h1 : k = i
  · subst h1; rw [upd_n h, upd_s, upd_s]
  · by_cases h2 : k = j
    · subst h2; rw [upd_s, upd_n h1, upd_s]
    · rw [upd_n h2, upd_n h1, upd_n h1, upd_n h2]
theorem swp_ref {S : Row} {a b : Nat} (h : a ≠ b) : upd (upd S (51 + (4 * b + 1)) (tr S a 1)) (51 + (4 * a + 1)) (tr S b 1) = swp S a b := upd_comm (by omega)
theorem swp_swp {S : Row} {a b : Nat} (h : a ≠ b) : swp (swp S a b) a b = S := by
  have ha : tr (swp S a b) a 1 = tr S b 1 := by
    unfold swp; show upd _ _ _ (51 + (4 * a + 1)) = _; rw [upd_n (by omega), upd_s]
  have hb : tr (swp S a b) b 1 = tr S a 1 := by
    unfold swp; show upd _ _ _ (51 + (4 * b + 1)) = _; rw [upd_s]
  show upd (upd (swp S a b) (51 + (4 * a + 1)) (tr (swp S a b) b 1)) (51 + (4 * b + 1)) (tr (swp S a b) a 1) = S
  rw [ha, hb]
  unfold swp
  rw [upd_comm (f := upd S (51 + (4 * a + 1)) (tr S b 1)) (by omega), upd_upd, upd_upd]
  rw [upd_id (f := S) (k := 51 + (4 * a + 1)) (x := tr S a 1) rfl]
  exact upd_id rfl
theorem ss_nat {S : Row} (hW : IW S) {P : Nat} (hP : P < 6) : ∀ n, n ≤ 8 → ∃ s, s ≤ 81 * n ∧ ss S P n = nI s
  | 0, _ => ⟨0, Nat.le_refl _, rfl⟩
  | n + 1, h => by
    obtain ⟨s, hs, e⟩ := ss_nat hW hP n (by omega)
    obtain ⟨m, hm, em⟩ := hW.at hP (show n < 8 by omega)
    refine ⟨s + m * (n + 1), ?_, ?_⟩
    · have : m * (n + 1) ≤ 9 * (n + 1) := Nat.mul_le_mul_right _ hm
      omega
    · show ss S P n + wd S P n * nI (n + 1) = _
      rw [e, em, pk_mul, nI_add]
theorem ss_gt {S : Row} (hS : SI S) {P : Nat} (hP : P < 6) : (-1 : Int32) < ss S P 8 := by
  obtain ⟨s, hs, e⟩ := ss_nat hS.2.1 hP 8 (Nat.le_refl 8)
  rw [e, Int32.lt_iff_toInt_lt, nI_toInt (by omega), show (-1 : Int32).toInt = -1 by decide]
  omega
theorem swb_x {S : Row} (hS : SI S) {P N : Nat} (hP : P < 6) (x : Int32) : ∀ c, c + 1 < 8 → swb S P N 0 (x, -1) (c + 1) = swb S P N 0 (0, -1) (c + 1)
  | 0, _ => by
    have h : (-1 : Int32) < ss (ngs (swp S 0 1) 0 N) P 8 := ss_gt (ngs_SI (SI_swp hS (by decide) (by decide))) hP
    show (if (-1 : Int32) < ss (ngs (swp S 0 1) 0 N) P 8 then _ else _) = (if (-1 : Int32) < ss (ngs (swp S 0 1) 0 N) P 8 then _ else _)
    rw [if_pos h, if_pos h]
  | c + 1, hc => by
    have ih := swb_x hS (N := N) hP x c (by omega)
    show (if (swb S P N 0 (x, -1) (c + 1)).2 < _ then _ else swb S P N 0 (x, -1) (c + 1)) = (if (swb S P N 0 (0, -1) (c + 1)).2 < _ then _ else swb S P N 0 (0, -1) (c + 1))
    rw [ih]
theorem sws_x {S : Row} (hS : SI S) {P N M : Nat} (hP : P < 6) (hM : 2 ≤ M) (hM8 : M ≤ 8) (x : Int32) : ∀ a, sws S P N M (x, -1) (a + 1) = sws S P N M (0, -1) (a + 1)
  | 0 => by
    show swb S P N 0 (x, -1) (M - 1) = swb S P N 0 (0, -1) (M - 1)
    rw [show M - 1 = (M - 2) + 1 by omega]
    exact swb_x hS hP x (M - 2) (by omega)
  | a + 1 => by
    show swb S P N (a + 1) (sws S P N M (x, -1) (a + 1)) _ = swb S P N (a + 1) (sws S P N M (0, -1) (a + 1)) _
    rw [sws_x hS hP hM hM8 x a]
theorem swb_nat {S : Row} {P N a : Nat} {x : Int32 × Int32} (ha : a < 8) (hx : ∃ j, j < 100 ∧ x.1 = nI j) : ∀ c, a + 1 + c ≤ 8 → ∃ j, j < 100 ∧ (swb S P N a x c).1 = nI j
  | 0, _ => hx
  | c + 1, hc => by
    unfold swb
    split
    · exact ⟨8 * a + (a + 1 + c), by omega, rfl⟩
    · exact swb_nat ha hx c (by omega)
theorem sws_nat {S : Row} {P N M : Nat} (hM : M ≤ 8) {x : Int32 × Int32} (hx : ∃ j, j < 100 ∧ x.1 = nI j) : ∀ a, a ≤ M → ∃ j, j < 100 ∧ (sws S P N M x a).1 = nI j
  | 0, _ => hx
  | a + 1, ha => swb_nat (by omega) (sws_nat hM hx a (by omega)) _ (by omega)
theorem b15 {g : Mem} {A : Row} : ub (ub g 15 A) 12 (g 12) = ub g 15 A := (congrArg (ub (ub g 15 A) 12) (ub_n (g := g) (S := A) (show (12 : Nat) ≠ 15 by decide)).symm).trans ub_id
theorem b15s {g : Mem} {A R B : Row} : ub (ub (ub g 15 A) 12 R) 15 B = ub (ub g 15 B) 12 R := by
  rw [ub_comm (show (12 : Nat) ≠ 15 by decide), ub_ub]
theorem isk_ref : ∀ K, K < 7 → ∀ U, U < 7 → isk K U = (decide (U = 0) || decide (K = U) || (decide (U = 2) && (decide (K = 3) || decide (K = 4))) || (decide (U = 3) && decide (K = 4)) || (decide (U = 1) && decide (K = 6))) := by decide +kernel
set_option maxRecDepth 20000 in
theorem c_X5_settles {G : GT} {g : Mem} (hS : SI (g 12)) {T : Nat} (hT : g 12 1 = nI T) (hTb : T ≤ 31000) : Cti G yX5_settles cX5_settles 2 .int 6 140 [.ref (mo G)] g (fun r g' => cpM (s_settles (g 12)) g r g') := by
  refine ent_i (by decide) (Nat.le_of_ble_eq_true rfl) [some (.ref (mo G)), none] rfl ?_
  intro X C hR
  have C : CX X G RX5 cX5_settles 2 6 140 := C
  have loop : ∀ n k, k + n = 201 → ff (fun n => sam (ngs (g 12) 0 (n + 1)) (ngs (g 12) 0 n)) 0 201 = ff (fun n => sam (ngs (g 12) 0 (n + 1)) (ngs (g 12) 0 n)) k (201 - k) → ∀ (W : Row), J X G 2 (MR g W (ngs (g 12) 0 k)) 13 [some (.ref (mo G)), some (.int (nI k))] [] := by
    intro n
    induction n with
    | zero =>
      intro k hk hf W
      obtain rfl : k = 201 := by omega
      refine j_il1 13 C dX5_settles_13 ?_
      refine j_sipush 14 C dX5_settles_14 sq_200 ?_
      refine j_icgt 17 33 C dX5_settles_17 (by decide) (fun c17 => ?_) (fun c17 => ?_)
      · refine j_al0 33 C dX5_settles_33 ?_
        refine jg_X5_19 34 C dX5_settles_34 ?_
        refine j_al0 37 C dX5_settles_37 ?_
        refine jg_X5_7 38 C dX5_settles_38 ?_
        refine j_sv 41 C dX5_settles_41 ms_X5_copyRow lk_X5_160 (c_X5_copyRow (i := 3) (j := 0) (by decide) (by decide) (by decide)) rfl rfl ⟨(Nat.le_of_ble_eq_true rfl), (Nat.le_of_ble_eq_true rfl)⟩ (Nat.le_of_ble_eq_true rfl) (fun g41 hp41 => ?_)
        have hp41 := hp41.trans MR_r
        subst hp41
        refine j_il1 44 C dX5_settles_44 ?_
        refine j_sipush 45 C dX5_settles_45 sq_200 ?_
        refine j_icgt 48 55 C dX5_settles_48 (by decide) (fun c48 => ?_) (fun c48 => ?_)
        · refine j_al0 55 C dX5_settles_55 ?_
          refine j_ldc 56 C dX5_settles_56 cs_X5_45 ?_
          refine j_vi 58 C dX5_settles_58 mv_X5_finds lk_X5_46 (c_X5_finds (f := 3) (by decide) (by decide)) rc_m rfl rfl ⟨(Nat.le_of_ble_eq_true rfl), (Nat.le_of_ble_eq_true rfl)⟩ (Nat.le_of_ble_eq_true rfl) (fun r58 g58 hp58 => ?_)
          obtain ⟨rfl, rfl⟩ := hp58
          exact hR dX5_settles_61 (cpM_f (f := 3) (by unfold s_settles; exact (fst_n hf)) (by decide) (by decide) (FM_SC SC_1521))
        · exact absurd (by decide) c48
      · exact absurd (by decide) c17
    | succ n ih =>
      intro k hk hf W
      refine j_il1 13 C dX5_settles_13 ?_
      refine j_sipush 14 C dX5_settles_14 sq_200 ?_
      refine j_icgt 17 33 C dX5_settles_17 (by decide) (fun c17 => ?_) (fun c17 => ?_)
      · exact absurd c17 (nI_nlt (a := 200) (b := k) (by omega) (by decide))
      · refine j_al0 20 C dX5_settles_20 ?_
        refine j_vi 21 C dX5_settles_21 mv_X5_leavesAll lk_X5_169 (c_X5_leavesAll (by rw [MR_12]; exact ngs_SI hS)) rc_m rfl rfl ⟨(Nat.le_of_ble_eq_true rfl), (Nat.le_of_ble_eq_true rfl)⟩ (Nat.le_of_ble_eq_true rfl) (fun r21 g21 hp21 => ?_)
        obtain ⟨hr21, W2, rfl⟩ := hp21
        rw [MR_12] at hr21
        subst hr21
        rw [MR_12, MR_s]
        refine j_ifne 24 33 C dX5_settles_24 (by decide) (fun c24 => ?_) (fun c24 => ?_)
        · have e9 : ff (fun n => sam (ngs (g 12) 0 (n + 1)) (ngs (g 12) 0 n)) k (201 - k) = nI k := by rw [show 201 - k = (201 - (k + 1)) + 1 by omega]; exact if_pos (show sam (ngs (g 12) 0 (k + 1)) (ngs (g 12) 0 k) = true from bi_n c24)
          refine j_al0 33 C dX5_settles_33 ?_
          refine jg_X5_19 34 C dX5_settles_34 ?_
          refine j_al0 37 C dX5_settles_37 ?_
          refine jg_X5_7 38 C dX5_settles_38 ?_
          refine j_sv 41 C dX5_settles_41 ms_X5_copyRow lk_X5_160 (c_X5_copyRow (i := 3) (j := 0) (by decide) (by decide) (by decide)) rfl rfl ⟨(Nat.le_of_ble_eq_true rfl), (Nat.le_of_ble_eq_true rfl)⟩ (Nat.le_of_ble_eq_true rfl) (fun g41 hp41 => ?_)
          have hp41 := hp41.trans MR_r
          subst hp41
          refine j_il1 44 C dX5_settles_44 ?_
          refine j_sipush 45 C dX5_settles_45 sq_200 ?_
          refine j_icgt 48 55 C dX5_settles_48 (by decide) (fun c48 => ?_) (fun c48 => ?_)
          · exact absurd c48 (nI_nlt (a := 200) (b := k) (by omega) (by decide))
          · refine j_il1 51 C dX5_settles_51 ?_
            refine j_goto 52 61 C dX5_settles_52 (by decide) ?_
            exact hR dX5_settles_61 (cpM_q (by unfold s_settles; exact (fst_y (hf.trans e9) (by omega))) rfl SC_1521)
        · have e9 : ff (fun n => sam (ngs (g 12) 0 (n + 1)) (ngs (g 12) 0 n)) k (201 - k) = ff (fun n => sam (ngs (g 12) 0 (n + 1)) (ngs (g 12) 0 n)) (k + 1) (201 - (k + 1)) := by rw [show 201 - k = (201 - (k + 1)) + 1 by omega]; exact if_neg (by have e := bi_0 c24; intro q; rw [show sam (ng (ngs (g 12) 0 k) 0) (ngs (g 12) 0 k) = true from q] at e; cases e)
          refine j_inc1 27 C dX5_settles_27 rfl (nI_inc _) (Nat.le_of_ble_eq_true rfl) ?_
          refine j_goto 30 13 C dX5_settles_30 (by decide) ?_
          exact ih (k + 1) (by omega) (hf.trans e9) _
  refine j_al0 0 C dX5_settles_0 ?_
  refine jg_X5_7 1 C dX5_settles_1 ?_
  refine j_al0 4 C dX5_settles_4 ?_
  refine jg_X5_19 5 C dX5_settles_5 ?_
  refine j_sv 8 C dX5_settles_8 ms_X5_copyRow lk_X5_160 (c_X5_copyRow (i := 0) (j := 3) (by decide) (by decide) (by decide)) rfl rfl ⟨(Nat.le_of_ble_eq_true rfl), (Nat.le_of_ble_eq_true rfl)⟩ (Nat.le_of_ble_eq_true rfl) (fun g8 hp8 => ?_)
  have hp8 : g8 = ub g 15 (g 12) := hp8
  subst hp8
  refine j_iconst 11 C dX5_settles_11 ic_0 ?_
  refine j_is1 12 C dX5_settles_12 rfl (Nat.le_of_ble_eq_true rfl) ?_
  have h9 := loop 201 0 rfl rfl (g 21)
  rw [show ngs (g 12) 0 0 = g 12 from rfl, ← MR_0] at h9
  exact h9
set_option maxRecDepth 20000 in
theorem c_X5_isAsked {G : GT} {g : Mem} (hN : IN (g 12)) {m p n : Int32} : Cti G yX5_isAsked cX5_isAsked 4 .boolean 1 25 [.ref (mo G), .int m, .int p, .int n] g (fun r g' => r = bi (isM (g 12) m && inr p 0 5 && inr n 0 40) ∧ g = g') := by
  refine ent_z (by decide) (Nat.le_of_ble_eq_true rfl) [some (.ref (mo G)), some (.int m), some (.int p), some (.int n)] rfl ?_
  intro X C hR
  have C : CX X G RX5 cX5_isAsked 4 1 25 := C
  refine j_al0 0 C dX5_isAsked_0 ?_
  refine j_il1 1 C dX5_isAsked_1 ?_
  refine j_vi 2 C dX5_isAsked_2 mv_X5_isMoth lk_X5_112 (c_X5_isMoth hN) rc_m rfl rfl ⟨(Nat.le_of_ble_eq_true rfl), (Nat.le_of_ble_eq_true rfl)⟩ (Nat.le_of_ble_eq_true rfl) (fun r2 g2 hp2 => ?_)
  obtain ⟨rfl, rfl⟩ := hp2
  refine j_ifeq 5 31 C dX5_isAsked_5 (by decide) (fun c5 => ?_) (fun c5 => ?_)
  · have v5 := bi_0 c5
    refine j_iconst 31 C dX5_isAsked_31 ic_0 ?_
    exact hR dX5_isAsked_32 (by first | exact Or.inl rfl | exact Or.inr rfl) ⟨by rw [v5]; rfl, rfl⟩
  · have v5 := bi_n c5
    refine j_il2 8 C dX5_isAsked_8 ?_
    refine j_si 9 C dX5_isAsked_9 ms_X5_isPage lk_X5_41 (c_X5_isPage) rfl rfl ⟨(Nat.le_of_ble_eq_true rfl), (Nat.le_of_ble_eq_true rfl)⟩ (Nat.le_of_ble_eq_true rfl) (fun r9 g9 hp9 => ?_)
    obtain ⟨rfl, rfl⟩ := hp9
    refine j_ifeq 12 31 C dX5_isAsked_12 (by decide) (fun c12 => ?_) (fun c12 => ?_)
    · have v12 := bi_0 c12
      refine j_iconst 31 C dX5_isAsked_31 ic_0 ?_
      exact hR dX5_isAsked_32 (by first | exact Or.inl rfl | exact Or.inr rfl) ⟨by rw [v5, v12]; rfl, rfl⟩
    · have v12 := bi_n c12
      refine j_il3 15 C dX5_isAsked_15 ?_
      refine j_i2l 16 C dX5_isAsked_16 ?_
      refine j_lconst 17 C dX5_isAsked_17 lc_0 ?_
      refine j_ldc2 18 C dX5_isAsked_18 cl_X5_176 ?_
      refine j_si 21 C dX5_isAsked_21 ms_X5_isIn lk_X5_56 (c_X5_isIn (lo := 0) (hi := 40) (by decide) (by decide)) rfl rfl ⟨(Nat.le_of_ble_eq_true rfl), (Nat.le_of_ble_eq_true rfl)⟩ (Nat.le_of_ble_eq_true rfl) (fun r21 g21 hp21 => ?_)
      obtain ⟨rfl, rfl⟩ := hp21
      refine j_ifeq 24 31 C dX5_isAsked_24 (by decide) (fun c24 => ?_) (fun c24 => ?_)
      · have v24 := bi_0 c24
        refine j_iconst 31 C dX5_isAsked_31 ic_0 ?_
        exact hR dX5_isAsked_32 (by first | exact Or.inl rfl | exact Or.inr rfl) ⟨by rw [v5, v12, v24]; rfl, rfl⟩
      · have v24 := bi_n c24
        refine j_iconst 27 C dX5_isAsked_27 ic_1 ?_
        refine j_goto 28 32 C dX5_isAsked_28 (by decide) ?_
        exact hR dX5_isAsked_32 (by first | exact Or.inl rfl | exact Or.inr rfl) ⟨by rw [v5, v12, v24]; rfl, rfl⟩
set_option maxRecDepth 20000 in
theorem c_X5_mostBy {G : GT} {g : Mem} (hS : SI (g 12)) {M W P N lo hi : Nat} (hM : M < 8) (hW : W < 4) (hP : P < 6) (hN : N < 1000) (hlo : lo ≤ hi) (hhi : hi ≤ mx4 W) (h9 : hi ≤ 9) : Cti G yX5_mostBy cX5_mostBy 12 .int 7 163 [.ref (mo G), .int (nI M), .int (nI W), .int (nI lo), .int (nI hi), .int (nI P), .int (nI N)] g (fun r g' => r = (bst (fB (g 12) M W P N) lo (hi + 1 - lo)).1 ∧ ∃ A, g' = ub g 15 A) := by
  refine ent_i (by decide) (Nat.le_of_ble_eq_true rfl) [some (.ref (mo G)), some (.int (nI M)), some (.int (nI W)), some (.int (nI lo)), some (.int (nI hi)), some (.int (nI P)), some (.int (nI N)), none, none, none, none, none] rfl ?_
  intro X C hR
  have C : CX X G RX5 cX5_mostBy 12 7 163 := C
  have loop : ∀ n k, k + n = hi + 1 - lo → ∀ (A : Row) (y : Int32) (o : Option Value), J X G 12 (ub (ub g 15 A) 12 (upd (g 12) (51 + (4 * M + W)) y)) 17 [some (.ref (mo G)), some (.int (nI M)), some (.int (nI W)), some (.int (nI lo)), some (.int (nI hi)), some (.int (nI P)), some (.int (nI N)), some (.int (tr (g 12) M W)), some (.int (bst (fB (g 12) M W P N) lo k).1), some (.int (bst (fB (g 12) M W P N) lo k).2), some (.int (nI (lo + k))), o] [] := by
    intro n
    induction n with
    | zero =>
      intro k hk A y o
      obtain rfl : hi + 1 - lo = k := by omega
      refine j_il10 17 C dX5_mostBy_17 ?_
      refine j_il4 19 C dX5_mostBy_19 ?_
      refine j_icgt 21 84 C dX5_mostBy_21 (by decide) (fun c21 => ?_) (fun c21 => ?_)
      · refine j_al0 84 C dX5_mostBy_84 ?_
        refine jg_X5_7 85 C dX5_mostBy_85 ?_
        refine j_il1 88 C dX5_mostBy_88 ?_
        refine j_il2 89 C dX5_mostBy_89 ?_
        refine j_si 90 C dX5_mostBy_90 ms_X5_at lk_X5_84 (c_X5_at) rfl rfl ⟨(Nat.le_of_ble_eq_true rfl), (Nat.le_of_ble_eq_true rfl)⟩ (Nat.le_of_ble_eq_true rfl) (fun r90 g90 hp90 => ?_)
        obtain ⟨rfl, rfl⟩ := hp90
        refine j_il7 93 C dX5_mostBy_93 ?_
        refine js_A0 95 (by omega) C dX5_mostBy_95 ?_
        rw [ub_ub, ub_s, upd_upd, upd_id (f := g 12) (k := 51 + (4 * M + W)) (x := tr (g 12) M W) rfl, b15]
        refine j_il8 96 C dX5_mostBy_96 ?_
        exact hR dX5_mostBy_98 ⟨rfl, A, rfl⟩
      · exact absurd (nI_lt (a := hi) (b := lo + (hi + 1 - lo)) (by omega) (by omega)) c21
    | succ n ih =>
      intro k hk A y o
      refine j_il10 17 C dX5_mostBy_17 ?_
      refine j_il4 19 C dX5_mostBy_19 ?_
      refine j_icgt 21 84 C dX5_mostBy_21 (by decide) (fun c21 => ?_) (fun c21 => ?_)
      · exact absurd c21 (nI_nlt (a := hi) (b := lo + k) (by omega) (by omega))
      · have hSv : SI (upd (g 12) (51 + (4 * M + W)) (nI (lo + k))) := SI_tr hS hM hW (by omega)
        refine j_al0 24 C dX5_mostBy_24 ?_
        refine jg_X5_7 25 C dX5_mostBy_25 ?_
        refine j_il1 28 C dX5_mostBy_28 ?_
        refine j_il2 29 C dX5_mostBy_29 ?_
        refine j_si 30 C dX5_mostBy_30 ms_X5_at lk_X5_84 (c_X5_at) rfl rfl ⟨(Nat.le_of_ble_eq_true rfl), (Nat.le_of_ble_eq_true rfl)⟩ (Nat.le_of_ble_eq_true rfl) (fun r30 g30 hp30 => ?_)
        obtain ⟨rfl, rfl⟩ := hp30
        refine j_il10 33 C dX5_mostBy_33 ?_
        refine js_A0 35 (by omega) C dX5_mostBy_35 ?_
        rw [ub_ub, ub_s, upd_upd]
        refine j_al0 36 C dX5_mostBy_36 ?_
        refine j_il5 37 C dX5_mostBy_37 ?_
        refine j_il6 39 C dX5_mostBy_39 ?_
        refine j_vi 41 C dX5_mostBy_41 mv_X5_saysIn lk_X5_164 (c_X5_saysIn (by rw [ub_s]; exact hSv) hP hN) rc_m rfl rfl ⟨(Nat.le_of_ble_eq_true rfl), (Nat.le_of_ble_eq_true rfl)⟩ (Nat.le_of_ble_eq_true rfl) (fun r41 g41 hp41 => ?_)
        obtain ⟨hr41, rfl⟩ := hp41
        rw [ub_s] at hr41
        subst hr41
        rw [ub_s, b15s]
        refine j_is11 44 C dX5_mostBy_44 rfl (Nat.le_of_ble_eq_true rfl) ?_
        refine j_il11 46 C dX5_mostBy_46 ?_
        refine j_il9 48 C dX5_mostBy_48 ?_
        refine j_icle 50 58 C dX5_mostBy_50 (by decide) (fun c50 => ?_) (fun c50 => ?_)
        · have e : bst (fB (g 12) M W P N) lo (k + 1) = bst (fB (g 12) M W P N) lo k := if_neg (Int32.not_lt.mpr c50)
          refine j_il8 58 C dX5_mostBy_58 ?_
          refine j_is8 60 C dX5_mostBy_60 rfl (Nat.le_of_ble_eq_true rfl) ?_
          refine j_il11 62 C dX5_mostBy_62 ?_
          refine j_il9 64 C dX5_mostBy_64 ?_
          refine j_icle 66 74 C dX5_mostBy_66 (by decide) (fun c66 => ?_) (fun c66 => ?_)
          · refine j_il9 74 C dX5_mostBy_74 ?_
            refine j_is9 76 C dX5_mostBy_76 rfl (Nat.le_of_ble_eq_true rfl) ?_
            refine j_inc10 78 C dX5_mostBy_78 rfl (nI_inc _) (Nat.le_of_ble_eq_true rfl) ?_
            refine j_goto 81 17 C dX5_mostBy_81 (by decide) ?_
            have h9 := ih (k + 1) (by omega) (upd (g 12) (51 + (4 * M + W)) (nI (lo + k))) (nI (lo + k)) (some (.int ((fB (g 12) M W P N) (lo + k))))
            rw [e] at h9
            exact h9
          · exact absurd c50 c66
        · have e : bst (fB (g 12) M W P N) lo (k + 1) = (nI (lo + k), ((fB (g 12) M W P N) (lo + k))) := if_pos (Int32.not_le.mp c50)
          refine j_il10 53 C dX5_mostBy_53 ?_
          refine j_goto 55 60 C dX5_mostBy_55 (by decide) ?_
          refine j_is8 60 C dX5_mostBy_60 rfl (Nat.le_of_ble_eq_true rfl) ?_
          refine j_il11 62 C dX5_mostBy_62 ?_
          refine j_il9 64 C dX5_mostBy_64 ?_
          refine j_icle 66 74 C dX5_mostBy_66 (by decide) (fun c66 => ?_) (fun c66 => ?_)
          · exact absurd c66 c50
          · refine j_il11 69 C dX5_mostBy_69 ?_
            refine j_goto 71 76 C dX5_mostBy_71 (by decide) ?_
            refine j_is9 76 C dX5_mostBy_76 rfl (Nat.le_of_ble_eq_true rfl) ?_
            refine j_inc10 78 C dX5_mostBy_78 rfl (nI_inc _) (Nat.le_of_ble_eq_true rfl) ?_
            refine j_goto 81 17 C dX5_mostBy_81 (by decide) ?_
            have h9 := ih (k + 1) (by omega) (upd (g 12) (51 + (4 * M + W)) (nI (lo + k))) (nI (lo + k)) (some (.int ((fB (g 12) M W P N) (lo + k))))
            rw [e] at h9
            exact h9
  refine j_al0 0 C dX5_mostBy_0 ?_
  refine j_il1 1 C dX5_mostBy_1 ?_
  refine j_il2 2 C dX5_mostBy_2 ?_
  refine j_vi 3 C dX5_mostBy_3 mv_X5_its lk_X5_67 (c_X5_its hM hW) rc_m rfl rfl ⟨(Nat.le_of_ble_eq_true rfl), (Nat.le_of_ble_eq_true rfl)⟩ (Nat.le_of_ble_eq_true rfl) (fun r3 g3 hp3 => ?_)
  obtain ⟨rfl, rfl⟩ := hp3
  refine j_is7 6 C dX5_mostBy_6 rfl (Nat.le_of_ble_eq_true rfl) ?_
  refine j_il3 8 C dX5_mostBy_8 ?_
  refine j_is8 9 C dX5_mostBy_9 rfl (Nat.le_of_ble_eq_true rfl) ?_
  refine j_iconst 11 C dX5_mostBy_11 ic_m1 ?_
  refine j_is9 12 C dX5_mostBy_12 rfl (Nat.le_of_ble_eq_true rfl) ?_
  refine j_il3 14 C dX5_mostBy_14 ?_
  refine j_is10 15 C dX5_mostBy_15 rfl (Nat.le_of_ble_eq_true rfl) ?_
  have h9 := loop (hi + 1 - lo) 0 (Nat.zero_add _) (g 15) (g 12 (51 + (4 * M + W))) none
  rw [upd_id rfl, ub_id, ub_id] at h9
  exact h9
set_option maxRecDepth 20000 in
theorem c_X5_put {G : GT} {g : Mem} (hS : SI (g 12)) {T : Nat} (hT : g 12 1 = nI T) (hTb : T ≤ 31000) {m p n : Int32} : Cti G yX5_put cX5_put 4 .int 8 194 [.ref (mo G), .int m, .int p, .int n] g (fun r g' => cpM (s_best 1 m p n (g 12)) g r g') := by
  refine ent_i (by decide) (Nat.le_of_ble_eq_true rfl) [some (.ref (mo G)), some (.int m), some (.int p), some (.int n)] rfl ?_
  intro X C hR
  have C : CX X G RX5 cX5_put 4 8 194 := C
  refine j_al0 0 C dX5_put_0 ?_
  refine j_il1 1 C dX5_put_1 ?_
  refine j_il2 2 C dX5_put_2 ?_
  refine j_il3 3 C dX5_put_3 ?_
  refine j_vi 4 C dX5_put_4 mv_X5_isAsked lk_X5_178 (c_X5_isAsked hS.1) rc_m rfl rfl ⟨(Nat.le_of_ble_eq_true rfl), (Nat.le_of_ble_eq_true rfl)⟩ (Nat.le_of_ble_eq_true rfl) (fun r4 g4 hp4 => ?_)
  obtain ⟨rfl, rfl⟩ := hp4
  refine j_ifeq 7 23 C dX5_put_7 (by decide) (fun c7 => ?_) (fun c7 => ?_)
  · have v7 := bi_0 c7
    refine j_al0 23 C dX5_put_23 ?_
    refine j_ldc 24 C dX5_put_24 cs_X5_40 ?_
    refine j_vi 26 C dX5_put_26 mv_X5_finds lk_X5_46 (c_X5_finds (f := 0) (by decide) (by decide)) rc_m rfl rfl ⟨(Nat.le_of_ble_eq_true rfl), (Nat.le_of_ble_eq_true rfl)⟩ (Nat.le_of_ble_eq_true rfl) (fun r26 g26 hp26 => ?_)
    obtain ⟨rfl, rfl⟩ := hp26
    exact hR dX5_put_29 (cpM_f (f := 0) (by simp [s_best, v7]) (by decide) (by decide) SC.rfl)
  · have v7 := bi_n c7
    obtain ⟨w0, w3⟩ := and_tt v7
    obtain ⟨w1, w2⟩ := and_tt w0
    obtain ⟨hM8, hM0⟩ := SI_cl0 hS
    obtain ⟨M, hM, rfl⟩ := isM_nat hM0 hM8 w1
    obtain ⟨P, hP, rfl⟩ := inr_nat (n := 5) (by decide) w2
    obtain ⟨N, hN, rfl⟩ := inr_nat (n := 40) (by decide) w3
    refine j_al0 10 C dX5_put_10 ?_
    refine j_il1 11 C dX5_put_11 ?_
    refine j_iconst 12 C dX5_put_12 ic_1 ?_
    refine j_iconst 13 C dX5_put_13 ic_0 ?_
    refine j_iconst 14 C dX5_put_14 ic_5 ?_
    refine j_il2 15 C dX5_put_15 ?_
    refine j_il3 16 C dX5_put_16 ?_
    refine j_vi 17 C dX5_put_17 mv_X5_mostBy lk_X5_182 (c_X5_mostBy (W := 1) (lo := 0) (hi := 5) hS (by omega) (by decide) (by omega) (by omega) (by decide) (by decide) (by decide)) rc_m rfl rfl ⟨(Nat.le_of_ble_eq_true rfl), (Nat.le_of_ble_eq_true rfl)⟩ (Nat.le_of_ble_eq_true rfl) (fun r17 g17 hp17 => ?_)
    obtain ⟨rfl, A, rfl⟩ := hp17
    refine j_goto 20 29 C dX5_put_20 (by decide) ?_
    exact hR dX5_put_29 (cpM_q (by unfold s_best; rw [v7, cl_nI (show M < 2 ^ 31 by omega), cl_nI (show P < 2 ^ 31 by omega), cl_nI (show N < 2 ^ 31 by omega)]; rfl) rfl SC_15)
set_option maxRecDepth 20000 in
theorem c_X5_tasteFor {G : GT} {g : Mem} (hS : SI (g 12)) {T : Nat} (hT : g 12 1 = nI T) (hTb : T ≤ 31000) {m p n : Int32} : Cti G yX5_tasteFor cX5_tasteFor 4 .int 8 194 [.ref (mo G), .int m, .int p, .int n] g (fun r g' => cpM (s_best 2 m p n (g 12)) g r g') := by
  refine ent_i (by decide) (Nat.le_of_ble_eq_true rfl) [some (.ref (mo G)), some (.int m), some (.int p), some (.int n)] rfl ?_
  intro X C hR
  have C : CX X G RX5 cX5_tasteFor 4 8 194 := C
  refine j_al0 0 C dX5_tasteFor_0 ?_
  refine j_il1 1 C dX5_tasteFor_1 ?_
  refine j_il2 2 C dX5_tasteFor_2 ?_
  refine j_il3 3 C dX5_tasteFor_3 ?_
  refine j_vi 4 C dX5_tasteFor_4 mv_X5_isAsked lk_X5_178 (c_X5_isAsked hS.1) rc_m rfl rfl ⟨(Nat.le_of_ble_eq_true rfl), (Nat.le_of_ble_eq_true rfl)⟩ (Nat.le_of_ble_eq_true rfl) (fun r4 g4 hp4 => ?_)
  obtain ⟨rfl, rfl⟩ := hp4
  refine j_ifeq 7 24 C dX5_tasteFor_7 (by decide) (fun c7 => ?_) (fun c7 => ?_)
  · have v7 := bi_0 c7
    refine j_al0 24 C dX5_tasteFor_24 ?_
    refine j_ldc 25 C dX5_tasteFor_25 cs_X5_40 ?_
    refine j_vi 27 C dX5_tasteFor_27 mv_X5_finds lk_X5_46 (c_X5_finds (f := 0) (by decide) (by decide)) rc_m rfl rfl ⟨(Nat.le_of_ble_eq_true rfl), (Nat.le_of_ble_eq_true rfl)⟩ (Nat.le_of_ble_eq_true rfl) (fun r27 g27 hp27 => ?_)
    obtain ⟨rfl, rfl⟩ := hp27
    exact hR dX5_tasteFor_30 (cpM_f (f := 0) (by simp [s_best, v7]) (by decide) (by decide) SC.rfl)
  · have v7 := bi_n c7
    obtain ⟨w0, w3⟩ := and_tt v7
    obtain ⟨w1, w2⟩ := and_tt w0
    obtain ⟨hM8, hM0⟩ := SI_cl0 hS
    obtain ⟨M, hM, rfl⟩ := isM_nat hM0 hM8 w1
    obtain ⟨P, hP, rfl⟩ := inr_nat (n := 5) (by decide) w2
    obtain ⟨N, hN, rfl⟩ := inr_nat (n := 40) (by decide) w3
    refine j_al0 10 C dX5_tasteFor_10 ?_
    refine j_il1 11 C dX5_tasteFor_11 ?_
    refine j_iconst 12 C dX5_tasteFor_12 ic_2 ?_
    refine j_iconst 13 C dX5_tasteFor_13 ic_1 ?_
    refine j_bipush 14 C dX5_tasteFor_14 bp_9 ?_
    refine j_il2 16 C dX5_tasteFor_16 ?_
    refine j_il3 17 C dX5_tasteFor_17 ?_
    refine j_vi 18 C dX5_tasteFor_18 mv_X5_mostBy lk_X5_182 (c_X5_mostBy (W := 2) (lo := 1) (hi := 9) hS (by omega) (by decide) (by omega) (by omega) (by decide) (by decide) (by decide)) rc_m rfl rfl ⟨(Nat.le_of_ble_eq_true rfl), (Nat.le_of_ble_eq_true rfl)⟩ (Nat.le_of_ble_eq_true rfl) (fun r18 g18 hp18 => ?_)
    obtain ⟨rfl, A, rfl⟩ := hp18
    refine j_goto 21 30 C dX5_tasteFor_21 (by decide) ?_
    exact hR dX5_tasteFor_30 (cpM_q (by unfold s_best; rw [v7, cl_nI (show M < 2 ^ 31 by omega), cl_nI (show P < 2 ^ 31 by omega), cl_nI (show N < 2 ^ 31 by omega)]; rfl) rfl SC_15)
set_option maxRecDepth 20000 in
theorem c_X5_kindFor {G : GT} {g : Mem} (hS : SI (g 12)) {T : Nat} (hT : g 12 1 = nI T) (hTb : T ≤ 31000) {m p n : Int32} : Cti G yX5_kindFor cX5_kindFor 4 .int 8 194 [.ref (mo G), .int m, .int p, .int n] g (fun r g' => cpM (s_best 0 m p n (g 12)) g r g') := by
  refine ent_i (by decide) (Nat.le_of_ble_eq_true rfl) [some (.ref (mo G)), some (.int m), some (.int p), some (.int n)] rfl ?_
  intro X C hR
  have C : CX X G RX5 cX5_kindFor 4 8 194 := C
  refine j_al0 0 C dX5_kindFor_0 ?_
  refine j_il1 1 C dX5_kindFor_1 ?_
  refine j_il2 2 C dX5_kindFor_2 ?_
  refine j_il3 3 C dX5_kindFor_3 ?_
  refine j_vi 4 C dX5_kindFor_4 mv_X5_isAsked lk_X5_178 (c_X5_isAsked hS.1) rc_m rfl rfl ⟨(Nat.le_of_ble_eq_true rfl), (Nat.le_of_ble_eq_true rfl)⟩ (Nat.le_of_ble_eq_true rfl) (fun r4 g4 hp4 => ?_)
  obtain ⟨rfl, rfl⟩ := hp4
  refine j_ifeq 7 24 C dX5_kindFor_7 (by decide) (fun c7 => ?_) (fun c7 => ?_)
  · have v7 := bi_0 c7
    refine j_al0 24 C dX5_kindFor_24 ?_
    refine j_ldc 25 C dX5_kindFor_25 cs_X5_40 ?_
    refine j_vi 27 C dX5_kindFor_27 mv_X5_finds lk_X5_46 (c_X5_finds (f := 0) (by decide) (by decide)) rc_m rfl rfl ⟨(Nat.le_of_ble_eq_true rfl), (Nat.le_of_ble_eq_true rfl)⟩ (Nat.le_of_ble_eq_true rfl) (fun r27 g27 hp27 => ?_)
    obtain ⟨rfl, rfl⟩ := hp27
    exact hR dX5_kindFor_30 (cpM_f (f := 0) (by simp [s_best, v7]) (by decide) (by decide) SC.rfl)
  · have v7 := bi_n c7
    obtain ⟨w0, w3⟩ := and_tt v7
    obtain ⟨w1, w2⟩ := and_tt w0
    obtain ⟨hM8, hM0⟩ := SI_cl0 hS
    obtain ⟨M, hM, rfl⟩ := isM_nat hM0 hM8 w1
    obtain ⟨P, hP, rfl⟩ := inr_nat (n := 5) (by decide) w2
    obtain ⟨N, hN, rfl⟩ := inr_nat (n := 40) (by decide) w3
    refine j_al0 10 C dX5_kindFor_10 ?_
    refine j_il1 11 C dX5_kindFor_11 ?_
    refine j_iconst 12 C dX5_kindFor_12 ic_0 ?_
    refine j_iconst 13 C dX5_kindFor_13 ic_0 ?_
    refine j_bipush 14 C dX5_kindFor_14 bp_6 ?_
    refine j_il2 16 C dX5_kindFor_16 ?_
    refine j_il3 17 C dX5_kindFor_17 ?_
    refine j_vi 18 C dX5_kindFor_18 mv_X5_mostBy lk_X5_182 (c_X5_mostBy (W := 0) (lo := 0) (hi := 6) hS (by omega) (by decide) (by omega) (by omega) (by decide) (by decide) (by decide)) rc_m rfl rfl ⟨(Nat.le_of_ble_eq_true rfl), (Nat.le_of_ble_eq_true rfl)⟩ (Nat.le_of_ble_eq_true rfl) (fun r18 g18 hp18 => ?_)
    obtain ⟨rfl, A, rfl⟩ := hp18
    refine j_goto 21 30 C dX5_kindFor_21 (by decide) ?_
    exact hR dX5_kindFor_30 (cpM_q (by unfold s_best; rw [v7, cl_nI (show M < 2 ^ 31 by omega), cl_nI (show P < 2 ^ 31 by omega), cl_nI (show N < 2 ^ 31 by omega)]; rfl) rfl SC_15)
set_option maxRecDepth 20000 in
theorem c_X5_swaps {G : GT} {g : Mem} {a b : Nat} (ha : a < 8) (hb : b < 8) (hne : a ≠ b) : Ctv G yX5_swaps cX5_swaps 3 1 23 [.ref (mo G), .int (nI a), .int (nI b)] g (fun g' => g' = ub g 12 (swp (g 12) a b)) := by
  refine ent_v (by decide) (Nat.le_of_ble_eq_true rfl) [some (.ref (mo G)), some (.int (nI a)), some (.int (nI b))] rfl ?_
  intro X C hR
  have C : CX X G RX5 cX5_swaps 3 1 23 := C
  refine j_al0 0 C dX5_swaps_0 ?_
  refine jg_X5_7 1 C dX5_swaps_1 ?_
  refine j_il1 4 C dX5_swaps_4 ?_
  refine j_iconst 5 C dX5_swaps_5 ic_1 ?_
  refine j_si 6 C dX5_swaps_6 ms_X5_at lk_X5_84 (c_X5_at (W := 1)) rfl rfl ⟨(Nat.le_of_ble_eq_true rfl), (Nat.le_of_ble_eq_true rfl)⟩ (Nat.le_of_ble_eq_true rfl) (fun r6 g6 hp6 => ?_)
  obtain ⟨rfl, rfl⟩ := hp6
  refine j_al0 9 C dX5_swaps_9 ?_
  refine j_il2 10 C dX5_swaps_10 ?_
  refine j_iconst 11 C dX5_swaps_11 ic_1 ?_
  refine j_si 12 C dX5_swaps_12 ms_X5_at lk_X5_84 (c_X5_at (W := 1)) rfl rfl ⟨(Nat.le_of_ble_eq_true rfl), (Nat.le_of_ble_eq_true rfl)⟩ (Nat.le_of_ble_eq_true rfl) (fun r12 g12 hp12 => ?_)
  obtain ⟨rfl, rfl⟩ := hp12
  refine j_al0 15 C dX5_swaps_15 ?_
  refine j_il1 16 C dX5_swaps_16 ?_
  refine j_iconst 17 C dX5_swaps_17 ic_1 ?_
  refine j_vi 18 C dX5_swaps_18 mv_X5_its lk_X5_67 (c_X5_its (W := 1) ha (by decide)) rc_m rfl rfl ⟨(Nat.le_of_ble_eq_true rfl), (Nat.le_of_ble_eq_true rfl)⟩ (Nat.le_of_ble_eq_true rfl) (fun r18 g18 hp18 => ?_)
  obtain ⟨rfl, rfl⟩ := hp18
  refine j_vi 21 C dX5_swaps_21 mv_X5_becomes lk_X5_60 (c_X5_becomes (by omega)) rc_m rfl rfl ⟨(Nat.le_of_ble_eq_true rfl), (Nat.le_of_ble_eq_true rfl)⟩ (Nat.le_of_ble_eq_true rfl) (fun r21 g21 hp21 => ?_)
  obtain ⟨hr21, rfl⟩ := hp21
  have hr21 : r21 = tr (g 12) b 1 := hr21
  subst hr21
  refine js_A0 24 (by omega) C dX5_swaps_24 ?_
  rw [ub_ub, ub_s, swp_ref hne]
  exact hR dX5_swaps_25 rfl
set_option maxRecDepth 20000 in
theorem c_X5_orNoneT {G : GT} {g : Mem} {j : Nat} (hj : j < 2 ^ 31) : Cti G yX5_orNone cX5_orNone 2 .int 1 21 [.ref (mo G), .int (nI j)] g (fun r g' => r = nI j ∧ g = g') := by
  refine ent_i (by decide) (Nat.le_of_ble_eq_true rfl) [some (.ref (mo G)), some (.int (nI j))] rfl ?_
  intro X C hR
  have C : CX X G RX5 cX5_orNone 2 1 21 := C
  refine j_il1 0 C dX5_orNone_0 ?_
  refine j_ifge 1 13 C dX5_orNone_1 (by decide) (fun c1 => ?_) (fun c1 => ?_)
  · refine j_il1 13 C dX5_orNone_13 ?_
    exact hR dX5_orNone_14 ⟨rfl, rfl⟩
  · exact absurd (nI_pos' hj) c1
set_option maxRecDepth 20000 in
theorem c_X5_orNoneF {G : GT} {g : Mem} : Cti G yX5_orNone cX5_orNone 2 .int 1 21 [.ref (mo G), .int (-1)] g (fun r g' => r = nLOW 3 ∧ g' = FM g 3) := by
  refine ent_i (by decide) (Nat.le_of_ble_eq_true rfl) [some (.ref (mo G)), some (.int (-1))] rfl ?_
  intro X C hR
  have C : CX X G RX5 cX5_orNone 2 1 21 := C
  refine j_il1 0 C dX5_orNone_0 ?_
  refine j_ifge 1 13 C dX5_orNone_1 (by decide) (fun c1 => ?_) (fun c1 => ?_)
  · exact absurd c1 (by decide)
  · refine j_al0 4 C dX5_orNone_4 ?_
    refine j_ldc 5 C dX5_orNone_5 cs_X5_45 ?_
    refine j_vi 7 C dX5_orNone_7 mv_X5_finds lk_X5_46 (c_X5_finds (f := 3) (by decide) (by decide)) rc_m rfl rfl ⟨(Nat.le_of_ble_eq_true rfl), (Nat.le_of_ble_eq_true rfl)⟩ (Nat.le_of_ble_eq_true rfl) (fun r7 g7 hp7 => ?_)
    obtain ⟨rfl, rfl⟩ := hp7
    refine j_goto 10 14 C dX5_orNone_10 (by decide) ?_
    exact hR dX5_orNone_14 ⟨by decide, rfl⟩
set_option maxRecDepth 20000 in
theorem c_X5_swapFor {G : GT} {g : Mem} (hS : SI (g 12)) {T : Nat} (hT : g 12 1 = nI T) (hTb : T ≤ 31000) {p n : Int32} : Cti G yX5_swapFor cX5_swapFor 8 .int 7 163 [.ref (mo G), .int p, .int n] g (fun r g' => cpM (s_swapFor p n (g 12)) g r g') := by
  refine ent_i (by decide) (Nat.le_of_ble_eq_true rfl) [some (.ref (mo G)), some (.int p), some (.int n), none, none, none, none, none] rfl ?_
  intro X C hR
  have C : CX X G RX5 cX5_swapFor 8 7 163 := C
  obtain ⟨hM8, hM0⟩ := SI_cl0 hS
  refine j_il1 0 C dX5_swapFor_0 ?_
  refine j_si 1 C dX5_swapFor_1 ms_X5_isPage lk_X5_41 (c_X5_isPage) rfl rfl ⟨(Nat.le_of_ble_eq_true rfl), (Nat.le_of_ble_eq_true rfl)⟩ (Nat.le_of_ble_eq_true rfl) (fun r1 g1 hp1 => ?_)
  obtain ⟨rfl, rfl⟩ := hp1
  refine j_ifeq 4 19 C dX5_swapFor_4 (by decide) (fun c4 => ?_) (fun c4 => ?_)
  · have v4 := bi_0 c4
    refine j_al0 19 C dX5_swapFor_19 ?_
    refine j_ldc 20 C dX5_swapFor_20 cs_X5_40 ?_
    refine j_vi 22 C dX5_swapFor_22 mv_X5_finds lk_X5_46 (c_X5_finds (f := 0) (by decide) (by decide)) rc_m rfl rfl ⟨(Nat.le_of_ble_eq_true rfl), (Nat.le_of_ble_eq_true rfl)⟩ (Nat.le_of_ble_eq_true rfl) (fun r22 g22 hp22 => ?_)
    obtain ⟨rfl, rfl⟩ := hp22
    exact hR dX5_swapFor_25 (cpM_f (f := 0) (by simp [s_swapFor, v4]) (by decide) (by decide) SC.rfl)
  · have v4 := bi_n c4
    refine j_il2 7 C dX5_swapFor_7 ?_
    refine j_i2l 8 C dX5_swapFor_8 ?_
    refine j_lconst 9 C dX5_swapFor_9 lc_0 ?_
    refine j_ldc2 10 C dX5_swapFor_10 cl_X5_176 ?_
    refine j_si 13 C dX5_swapFor_13 ms_X5_isIn lk_X5_56 (c_X5_isIn (lo := 0) (hi := 40) (by decide) (by decide)) rfl rfl ⟨(Nat.le_of_ble_eq_true rfl), (Nat.le_of_ble_eq_true rfl)⟩ (Nat.le_of_ble_eq_true rfl) (fun r13 g13 hp13 => ?_)
    obtain ⟨rfl, rfl⟩ := hp13
    refine j_ifne 16 26 C dX5_swapFor_16 (by decide) (fun c16 => ?_) (fun c16 => ?_)
    · have v16 := bi_n c16
      generalize hMM : cl (g 12 0) = M at hM8 hM0
      obtain ⟨P, hP, rfl⟩ := inr_nat (n := 5) (by decide) v4
      obtain ⟨N, hN, rfl⟩ := inr_nat (n := 40) (by decide) v16
      have inner : ∀ a, a < M → (∀ (E : Row) (o6 o7 : Option Value), J X G 8 (ub g 15 E) 34 [some (.ref (mo G)), some (.int (nI P)), some (.int (nI N)), some (.int (sws (g 12) P N M (-1, -1) (a + 1)).1), some (.int (sws (g 12) P N M (-1, -1) (a + 1)).2), some (.int (nI (a + 1))), o6, o7] []) → ∀ n k, a + 1 + k + n = M → ∀ (E : Row) (o7 : Option Value), J X G 8 (ub g 15 E) 51 [some (.ref (mo G)), some (.int (nI P)), some (.int (nI N)), some (.int ((swb (g 12) P N a (sws (g 12) P N M (-1, -1) a) k)).1), some (.int ((swb (g 12) P N a (sws (g 12) P N M (-1, -1) a) k)).2), some (.int (nI a)), some (.int (nI (a + 1 + k))), o7] [] := by
        intro a ha hx n
        induction n with
        | zero =>
          intro k hk E o7
          refine j_il6 51 C dX5_swapFor_51 ?_
          refine j_al0 53 C dX5_swapFor_53 ?_
          refine jg_X5_7 54 C dX5_swapFor_54 ?_
          refine j_iconst 57 C dX5_swapFor_57 ic_0 ?_
          refine j_top (nI (0)) rfl ?_
          refine jl_A0 58 (by omega) C dX5_swapFor_58 ?_
          refine j_top (nI M) (by rw [ub_n (by decide)]; exact hM0) ?_
          refine j_icge 59 128 C dX5_swapFor_59 (by decide) (fun c59 => ?_) (fun c59 => ?_)
          · have e : (swb (g 12) P N a (sws (g 12) P N M (-1, -1) a) k) = sws (g 12) P N M (-1, -1) (a + 1) := by show _ = swb (g 12) P N a _ (M - (a + 1)); rw [show M - (a + 1) = k by omega]
            rw [e]
            refine j_inc5 128 C dX5_swapFor_128 rfl (nI_inc _) (Nat.le_of_ble_eq_true rfl) ?_
            refine j_goto 131 34 C dX5_swapFor_131 (by decide) ?_
            exact hx E _ o7
          · exact absurd (show nI M ≤ nI (a + 1 + k) by rw [show a + 1 + k = M by omega]; exact nI_le (Nat.le_refl _) (by omega)) c59
        | succ n ih =>
          intro k hk E o7
          refine j_il6 51 C dX5_swapFor_51 ?_
          refine j_al0 53 C dX5_swapFor_53 ?_
          refine jg_X5_7 54 C dX5_swapFor_54 ?_
          refine j_iconst 57 C dX5_swapFor_57 ic_0 ?_
          refine j_top (nI (0)) rfl ?_
          refine jl_A0 58 (by omega) C dX5_swapFor_58 ?_
          refine j_top (nI M) (by rw [ub_n (by decide)]; exact hM0) ?_
          refine j_icge 59 128 C dX5_swapFor_59 (by decide) (fun c59 => ?_) (fun c59 => ?_)
          · exact absurd c59 (nI_ge (a := a + 1 + k) (b := M) (by omega) (by omega))
          · have hSv : SI (swp (g 12) a (a + 1 + k)) := SI_swp hS (by omega) (by omega)
            refine j_al0 62 C dX5_swapFor_62 ?_
            refine j_il5 63 C dX5_swapFor_63 ?_
            refine j_il6 65 C dX5_swapFor_65 ?_
            refine j_vv 67 C dX5_swapFor_67 mv_X5_swaps lk_X5_186 (c_X5_swaps (by omega) (by omega) (by omega)) rc_m rfl rfl ⟨(Nat.le_of_ble_eq_true rfl), (Nat.le_of_ble_eq_true rfl)⟩ (Nat.le_of_ble_eq_true rfl) (fun g67 hp67 => ?_)
            obtain rfl := hp67
            rw [ub_n (b' := 12) (b := 15) (by decide)]
            refine j_al0 70 C dX5_swapFor_70 ?_
            refine j_il1 71 C dX5_swapFor_71 ?_
            refine j_il2 72 C dX5_swapFor_72 ?_
            refine j_vi 73 C dX5_swapFor_73 mv_X5_saysIn lk_X5_164 (c_X5_saysIn (by rw [ub_s]; exact hSv) (by omega) (by omega)) rc_m rfl rfl ⟨(Nat.le_of_ble_eq_true rfl), (Nat.le_of_ble_eq_true rfl)⟩ (Nat.le_of_ble_eq_true rfl) (fun r73 g73 hp73 => ?_)
            obtain ⟨hr73, rfl⟩ := hp73
            rw [ub_s] at hr73
            subst hr73
            rw [ub_s, b15s]
            refine j_is7 76 C dX5_swapFor_76 rfl (Nat.le_of_ble_eq_true rfl) ?_
            refine j_al0 78 C dX5_swapFor_78 ?_
            refine j_il5 79 C dX5_swapFor_79 ?_
            refine j_il6 81 C dX5_swapFor_81 ?_
            refine j_vv 83 C dX5_swapFor_83 mv_X5_swaps lk_X5_186 (c_X5_swaps (by omega) (by omega) (by omega)) rc_m rfl rfl ⟨(Nat.le_of_ble_eq_true rfl), (Nat.le_of_ble_eq_true rfl)⟩ (Nat.le_of_ble_eq_true rfl) (fun g83 hp83 => ?_)
            obtain rfl := hp83
            rw [ub_ub, ub_s, swp_swp (by omega), b15]
            refine j_il7 86 C dX5_swapFor_86 ?_
            refine j_il4 88 C dX5_swapFor_88 ?_
            refine j_icle 90 104 C dX5_swapFor_90 (by decide) (fun c90 => ?_) (fun c90 => ?_)
            · have e : swb (g 12) P N a (sws (g 12) P N M (-1, -1) a) (k + 1) = (swb (g 12) P N a (sws (g 12) P N M (-1, -1) a) k) := if_neg (Int32.not_lt.mpr c90)
              refine j_il3 104 C dX5_swapFor_104 ?_
              refine j_is3 105 C dX5_swapFor_105 rfl (Nat.le_of_ble_eq_true rfl) ?_
              refine j_il7 106 C dX5_swapFor_106 ?_
              refine j_il4 108 C dX5_swapFor_108 ?_
              refine j_icle 110 118 C dX5_swapFor_110 (by decide) (fun c110 => ?_) (fun c110 => ?_)
              · refine j_il4 118 C dX5_swapFor_118 ?_
                refine j_is4 120 C dX5_swapFor_120 rfl (Nat.le_of_ble_eq_true rfl) ?_
                refine j_inc6 122 C dX5_swapFor_122 rfl (nI_inc _) (Nat.le_of_ble_eq_true rfl) ?_
                refine j_goto 125 51 C dX5_swapFor_125 (by decide) ?_
                have h9 := ih (k + 1) (by omega) (swp (g 12) a (a + 1 + k)) (some (.int (ss (ngs (swp (g 12) a (a + 1 + k)) 0 N) P 8)))
                rw [e] at h9
                exact h9
              · exact absurd c90 c110
            · have e : swb (g 12) P N a (sws (g 12) P N M (-1, -1) a) (k + 1) = (nI (8 * a + (a + 1 + k)), ss (ngs (swp (g 12) a (a + 1 + k)) 0 N) P 8) := if_pos (Int32.not_le.mp c90)
              refine j_bipush 93 C dX5_swapFor_93 bp_8 ?_
              refine j_il5 95 C dX5_swapFor_95 ?_
              refine j_imul 97 C dX5_swapFor_97 ?_
              refine j_il6 98 C dX5_swapFor_98 ?_
              refine j_iadd 100 C dX5_swapFor_100 ?_
              refine j_top (nI (8 * a + (a + 1 + k))) (by show nI 8 * nI a + nI (a + 1 + k) = _; rw [pk_mul, nI_add]) ?_
              refine j_goto 101 105 C dX5_swapFor_101 (by decide) ?_
              refine j_is3 105 C dX5_swapFor_105 rfl (Nat.le_of_ble_eq_true rfl) ?_
              refine j_il7 106 C dX5_swapFor_106 ?_
              refine j_il4 108 C dX5_swapFor_108 ?_
              refine j_icle 110 118 C dX5_swapFor_110 (by decide) (fun c110 => ?_) (fun c110 => ?_)
              · exact absurd c110 c90
              · refine j_il7 113 C dX5_swapFor_113 ?_
                refine j_goto 115 120 C dX5_swapFor_115 (by decide) ?_
                refine j_is4 120 C dX5_swapFor_120 rfl (Nat.le_of_ble_eq_true rfl) ?_
                refine j_inc6 122 C dX5_swapFor_122 rfl (nI_inc _) (Nat.le_of_ble_eq_true rfl) ?_
                refine j_goto 125 51 C dX5_swapFor_125 (by decide) ?_
                have h9 := ih (k + 1) (by omega) (swp (g 12) a (a + 1 + k)) (some (.int (ss (ngs (swp (g 12) a (a + 1 + k)) 0 N) P 8)))
                rw [e] at h9
                exact h9
      have outer : ∀ n a, a + n = M → ∀ (E : Row) (o6 o7 : Option Value), J X G 8 (ub g 15 E) 34 [some (.ref (mo G)), some (.int (nI P)), some (.int (nI N)), some (.int (sws (g 12) P N M (-1, -1) a).1), some (.int (sws (g 12) P N M (-1, -1) a).2), some (.int (nI a)), o6, o7] [] := by
        intro n
        induction n with
        | zero =>
          intro a ha E o6 o7
          obtain rfl : M = a := by omega
          refine j_il5 34 C dX5_swapFor_34 ?_
          refine j_al0 36 C dX5_swapFor_36 ?_
          refine jg_X5_7 37 C dX5_swapFor_37 ?_
          refine j_iconst 40 C dX5_swapFor_40 ic_0 ?_
          refine j_top (nI (0)) rfl ?_
          refine jl_A0 41 (by omega) C dX5_swapFor_41 ?_
          refine j_top (nI M) (by rw [ub_n (by decide)]; exact hM0) ?_
          refine j_icge 42 134 C dX5_swapFor_42 (by decide) (fun c42 => ?_) (fun c42 => ?_)
          · by_cases h2 : g 12 0 < 2
            · have hM2 : M < 2 := Nat.lt_of_not_le (fun q => absurd h2 (by rw [hM0]; exact nI_nlt (a := M) (b := 2) q (by omega)))
              have e : sws (g 12) P N M (-1, -1) M = (-1, -1) := by
                rcases (show M = 0 ∨ M = 1 by omega) with rfl | rfl
                · rfl
                · rfl
              rw [e]
              refine j_al0 134 C dX5_swapFor_134 ?_
              refine j_il3 135 C dX5_swapFor_135 ?_
              refine j_vi 136 C dX5_swapFor_136 mv_X5_orNone lk_X5_189 (c_X5_orNoneF) rc_m rfl rfl ⟨(Nat.le_of_ble_eq_true rfl), (Nat.le_of_ble_eq_true rfl)⟩ (Nat.le_of_ble_eq_true rfl) (fun r136 g136 hp136 => ?_)
              obtain ⟨rfl, rfl⟩ := hp136
              exact hR dX5_swapFor_139 (cpM_f (f := 3) (by unfold s_swapFor; rw [v4, v16, if_pos h2]; rfl) (by decide) rfl (FM_SC SC_15))
            · have hM2 : 2 ≤ M := Nat.le_of_not_lt (fun q => h2 (by rw [hM0]; exact nI_lt (a := M) (b := 2) q (by decide)))
              have e : sws (g 12) P N M (-1, -1) M = sws (g 12) P N M (0, -1) M := by
                rw [show M = (M - 1) + 1 by omega]
                exact sws_x hS (by omega) (by omega) (by omega) (-1) (M - 1)
              obtain ⟨j, hj, ej⟩ := sws_nat (S := g 12) (P := P) (N := N) (M := M) hM8 (x := (0, -1)) ⟨0, by decide, rfl⟩ M (Nat.le_refl _)
              rw [e]
              refine j_al0 134 C dX5_swapFor_134 ?_
              refine j_il3 135 C dX5_swapFor_135 ?_
              rw [ej]
              refine j_vi 136 C dX5_swapFor_136 mv_X5_orNone lk_X5_189 (c_X5_orNoneT (j := j) (by omega)) rc_m rfl rfl ⟨(Nat.le_of_ble_eq_true rfl), (Nat.le_of_ble_eq_true rfl)⟩ (Nat.le_of_ble_eq_true rfl) (fun r136 g136 hp136 => ?_)
              obtain ⟨rfl, rfl⟩ := hp136
              exact hR dX5_swapFor_139 (cpM_q (by unfold s_swapFor; rw [v4, v16, if_neg h2, hMM, cl_nI (show P < 2 ^ 31 by omega), cl_nI (show N < 2 ^ 31 by omega), ej]; rfl) rfl SC_15)
          · exact absurd (nI_le (Nat.le_refl _) (by omega)) c42
        | succ n ih =>
          intro a ha E o6 o7
          refine j_il5 34 C dX5_swapFor_34 ?_
          refine j_al0 36 C dX5_swapFor_36 ?_
          refine jg_X5_7 37 C dX5_swapFor_37 ?_
          refine j_iconst 40 C dX5_swapFor_40 ic_0 ?_
          refine j_top (nI (0)) rfl ?_
          refine jl_A0 41 (by omega) C dX5_swapFor_41 ?_
          refine j_top (nI M) (by rw [ub_n (by decide)]; exact hM0) ?_
          refine j_icge 42 134 C dX5_swapFor_42 (by decide) (fun c42 => ?_) (fun c42 => ?_)
          · exact absurd c42 (nI_ge (a := a) (b := M) (by omega) (by omega))
          · refine j_il5 45 C dX5_swapFor_45 ?_
            refine j_iconst 47 C dX5_swapFor_47 ic_1 ?_
            refine j_iadd 48 C dX5_swapFor_48 ?_
            refine j_top (nI (a + 1 + 0)) (nI_succ a).symm ?_
            refine j_is6 49 C dX5_swapFor_49 rfl (Nat.le_of_ble_eq_true rfl) ?_
            exact inner a (by omega) (ih (a + 1) (by omega)) (M - (a + 1)) 0 (by omega) E o7
      refine j_iconst 26 C dX5_swapFor_26 ic_m1 ?_
      refine j_is3 27 C dX5_swapFor_27 rfl (Nat.le_of_ble_eq_true rfl) ?_
      refine j_iconst 28 C dX5_swapFor_28 ic_m1 ?_
      refine j_is4 29 C dX5_swapFor_29 rfl (Nat.le_of_ble_eq_true rfl) ?_
      refine j_iconst 31 C dX5_swapFor_31 ic_0 ?_
      refine j_is5 32 C dX5_swapFor_32 rfl (Nat.le_of_ble_eq_true rfl) ?_
      have h9 := outer M 0 (Nat.zero_add _) (g 15) none none
      rw [ub_id] at h9
      exact h9
    · have v16 := bi_0 c16
      refine j_al0 19 C dX5_swapFor_19 ?_
      refine j_ldc 20 C dX5_swapFor_20 cs_X5_40 ?_
      refine j_vi 22 C dX5_swapFor_22 mv_X5_finds lk_X5_46 (c_X5_finds (f := 0) (by decide) (by decide)) rc_m rfl rfl ⟨(Nat.le_of_ble_eq_true rfl), (Nat.le_of_ble_eq_true rfl)⟩ (Nat.le_of_ble_eq_true rfl) (fun r22 g22 hp22 => ?_)
      obtain ⟨rfl, rfl⟩ := hp22
      exact hR dX5_swapFor_25 (cpM_f (f := 0) (by simp [s_swapFor, v4, v16]) (by decide) (by decide) SC.rfl)
