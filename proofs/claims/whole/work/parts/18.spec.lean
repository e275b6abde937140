/-! what a moth bites, leaves, gains; a night -/
def lrn (w : Int32) : Int32 := if 9 < 10 - w + 1 then 9 else 10 - w + 1
def lv (K : Nat) (w : Int32) : Int32 := if K = 1 then w - 1 else if K = 2 then 10 - w else if K = 3 then lrn w else if K = 4 then lrn w / 2 else if K = 6 then (if w - 2 < 0 then 0 else w - 2) else 0
def gn (K : Nat) (w : Int32) : Int32 := if K = 1 then 1 else if K = 2 then w / 2 else if K = 3 then w / 2 + 1 else if K = 4 then w / 2 + 1 else if K = 5 then w + 1 else if K = 6 then 2 else w
def sb (S : Row) (P : Nat) (t : Int32) : Int32 := if ff (pP S P t) 0 8 = -1 then -1 else if t ≤ wd S P (cl (ff (pP S P t) 0 8)) then ff (pP S P t) 0 8 else -1
def bt (S : Row) (P K : Nat) (t : Int32) (F : Nat) : Int32 :=
  if K = 1 then ff (pW S P) 0 8 else if K = 2 then ff (pP S P t) 0 8 else if K = 3 then sb S P t else if K = 4 then (if sb S P t = -1 then ff (pL S P t) 0 8 else sb S P t) else if K = 5 then (if wd S P (F % 8) = 0 then -1 else nI (F % 8)) else if K = 6 then lf (pW S P) 8 else ff (pL S P t) 0 8
theorem sb_or {S : Row} {P : Nat} {t : Int32} : sb S P t = -1 ∨ ∃ j, j < 8 ∧ sb S P t = nI j := by
  unfold sb
  rcases ff_or (p := pP S P t) (k := 0) (n := 8) with q | ⟨j, -, q2, q3, -⟩
  · rw [if_pos q]; exact Or.inl rfl
  · by_cases h : ff (pP S P t) 0 8 = -1
    · rw [if_pos h]; exact Or.inl rfl
    · rw [if_neg h]
      by_cases h2 : t ≤ wd S P (cl (ff (pP S P t) 0 8))
      · rw [if_pos h2]; exact Or.inr ⟨j, by omega, q3⟩
      · rw [if_neg h2]; exact Or.inl rfl
theorem ff8_or {p : Nat → Bool} : ff p 0 8 = -1 ∨ ∃ j, j < 8 ∧ ff p 0 8 = nI j := by
  rcases ff_or (p := p) (k := 0) (n := 8) with q | ⟨j, -, q2, q3, -⟩
  · exact Or.inl q
  · exact Or.inr ⟨j, by omega, q3⟩
theorem lf8_or {p : Nat → Bool} : lf p 8 = -1 ∨ ∃ j, j < 8 ∧ lf p 8 = nI j := by
  rcases lf_or (p := p) (n := 8) with q | ⟨j, q2, q3, -⟩
  · exact Or.inl q
  · exact Or.inr ⟨j, q2, q3⟩
theorem bt_or {S : Row} {P K : Nat} {t : Int32} {F : Nat} : bt S P K t F = -1 ∨ ∃ j, j < 8 ∧ bt S P K t F = nI j := by
  unfold bt
  by_cases h1 : K = 1
  · rw [if_pos h1]; exact ff8_or
  rw [if_neg h1]
  by_cases h2 : K = 2
  · rw [if_pos h2]; exact ff8_or
  rw [if_neg h2]
  by_cases h3 : K = 3
  · rw [if_pos h3]; exact sb_or
  rw [if_neg h3]
  by_cases h4 : K = 4
  · rw [if_pos h4]
    by_cases q : sb S P t = -1
    · rw [if_pos q]; exact ff8_or
    · rw [if_neg q]; exact sb_or
  rw [if_neg h4]
  by_cases h5 : K = 5
  · rw [if_pos h5]
    by_cases q : wd S P (F % 8) = 0
    · rw [if_pos q]; exact Or.inl rfl
    · rw [if_neg q]; exact Or.inr ⟨F % 8, Nat.mod_lt _ (by omega), rfl⟩
  rw [if_neg h5]
  by_cases h6 : K = 6
  · rw [if_pos h6]; exact lf8_or
  · rw [if_neg h6]; exact ff8_or
def mn9 (x : Int32) : Int32 := if 9999 < x then 9999 else x
/-- where moth m bites -/
def bS (S : Row) (m : Nat) : Int32 := bt S (cl (tr S m 1)) (cl (tr S m 0)) (tr S m 2) (cl (tr S m 3))
def biteP (S : Row) (m P K k : Nat) : Row := upd (upd S (3 + (8 * P + k)) (lv K (wd S P k))) (51 + (4 * m + 3)) (mn9 (tr S m 3 + gn K (wd S P k)))
def bite (S : Row) (m : Nat) : Row := if bS S m = -1 then S else biteP S m (cl (tr S m 1)) (cl (tr S m 0)) (cl (bS S m))
/-- the moths below k have bitten, but those of the set O -/
def nm (S : Row) (O : Nat) : Nat → Row
  | 0 => S
  | k + 1 => if O.testBit k then nm S O k else bite (nm S O k) k
def ng (S : Row) (O : Nat) : Row := upd (nm S O (cl (S 0))) 1 (nm S O (cl (S 0)) 1 + 1)
def ngs (S : Row) (O : Nat) : Nat → Row
  | 0 => S
  | n + 1 => ng (ngs S O n) O
/-! what holds of every row -/
def IW (S : Row) : Prop := ∀ i, i < 48 → ∃ n, n ≤ 9 ∧ S (3 + i) = nI n
def IM (S : Row) : Prop := ∀ m, m < 8 → (∃ K, K < 7 ∧ tr S m 0 = nI K) ∧ (∃ P, P < 6 ∧ tr S m 1 = nI P) ∧ (∃ T, T ≤ 9 ∧ tr S m 2 = nI T) ∧ ∃ F, F ≤ 9999 ∧ tr S m 3 = nI F
def IN (S : Row) : Prop := ∃ M, M ≤ 8 ∧ S 0 = nI M
def IP (S : Row) : Prop := ∀ i, i < 10 → S (83 + i) = -1 ∨ ∃ m, m < 8 ∧ S (83 + i) = nI m
def SI (S : Row) : Prop := IN S ∧ IW S ∧ IM S ∧ IP S
theorem IW.at {S : Row} (h : IW S) {P k : Nat} (hP : P < 6) (hk : k < 8) : ∃ n, n ≤ 9 ∧ wd S P k = nI n := h (8 * P + k) (by omega)
theorem cl_nI {n : Nat} (h : n < 2 ^ 31) : cl (nI n) = n := nI_clamp h
theorem lv_le : ∀ K, K < 7 → ∀ n, n ≤ 9 → (K = 1 ∨ K = 2 → n ≠ 0) → ∃ j, j ≤ 9 ∧ lv K (nI n) = nI j := by
  have h : ∀ K, K < 7 → ∀ n, n < 10 → (K = 1 ∨ K = 2 → n ≠ 0) → lv K (nI n) = nI (cl (lv K (nI n))) ∧ cl (lv K (nI n)) ≤ 9 := by decide +kernel
  intro K hK n hn h0
  obtain ⟨a, b⟩ := h K hK n (by omega) h0
  exact ⟨_, b, a⟩
theorem gn_le : ∀ K, K < 7 → ∀ n, n ≤ 9 → ∃ j, j ≤ 10 ∧ gn K (nI n) = nI j := by
  have h : ∀ K, K < 7 → ∀ n, n < 10 → gn K (nI n) = nI (cl (gn K (nI n))) ∧ cl (gn K (nI n)) ≤ 10 := by decide +kernel
  intro K hK n hn
  obtain ⟨a, b⟩ := h K hK n (by omega)
  exact ⟨_, b, a⟩
theorem mn9_nI {n : Nat} (h : n < 2 ^ 31) : mn9 (nI n) = nI (min n 9999) := by
  unfold mn9
  by_cases q : 9999 < n
  · rw [if_pos (show (9999 : Int32) < nI n from nI_lt (a := 9999) q h), Nat.min_eq_right (by omega)]; rfl
  · rw [if_neg (show ¬ (9999 : Int32) < nI n from nI_nlt (b := n) (a := 9999) (by omega) (by omega)), Nat.min_eq_left (by omega)]
theorem nI_nm1 {n : Nat} (h : n < 2 ^ 31) : ¬ nI n = -1 := by
  intro e
  have e2 := congrArg Int32.toInt e
  rw [nI_toInt h, show (-1 : Int32).toInt = -1 from by decide] at e2
  omega
/-- a bite happens at a word that a larva or a silver one finds -/
theorem bt_ne {S : Row} {P K : Nat} {t : Int32} {F j : Nat} (hj : j < 8) (h : bt S P K t F = nI j) (hK : K = 1 ∨ K = 2) : ¬ wd S P j = 0 := by
  rcases hK with rfl | rfl
  · have h : ff (pW S P) 0 8 = nI j := h
    rcases ff_or (p := pW S P) (k := 0) (n := 8) with q | ⟨i, -, q2, q3, q4⟩
    · rw [q] at h; exact absurd h.symm (nI_nm1 (by omega))
    · rw [q3] at h
      obtain rfl := (nI_eq (by omega) (by omega)).mp h
      exact of_decide_eq_true q4
  · have h : ff (pP S P t) 0 8 = nI j := h
    rcases ff_or (p := pP S P t) (k := 0) (n := 8) with q | ⟨i, -, q2, q3, q4⟩
    · rw [q] at h; exact absurd h.symm (nI_nm1 (by omega))
    · rw [q3] at h
      obtain rfl := (nI_eq (by omega) (by omega)).mp h
      exact (of_decide_eq_true q4).1
theorem upd_s {f : Row} {k : Nat} {x : Int32} : upd f k x k = x := pk_us
theorem upd_n {f : Row} {k j : Nat} {x : Int32} (h : j ≠ k) : upd f k x j = f j := pk_un h
theorem biteP_SI {S : Row} {m P K k : Nat} (hS : SI S) (hm : m < 8) (hP : P < 6) (hK : K < 7) (hk : k < 8) (h0 : K = 1 ∨ K = 2 → ¬ wd S P k = 0) : SI (biteP S m P K k) := by
  obtain ⟨⟨M, hM, e0⟩, hW, hI, hp⟩ := hS
  obtain ⟨n, hn, en⟩ := hW.at hP hk
  have hn0 : K = 1 ∨ K = 2 → n ≠ 0 := fun q z => h0 q (by rw [en, z]; rfl)
  obtain ⟨j, hj, ej⟩ := lv_le K hK n hn hn0
  obtain ⟨i, hi, ei⟩ := gn_le K hK n hn
  obtain ⟨-, -, -, F, hF, eF⟩ := hI m hm
  refine ⟨⟨M, hM, ?_⟩, ?_, ?_, ?_⟩
  · unfold biteP; rw [upd_n (by omega), upd_n (by omega)]; exact e0
  · intro q hq
    unfold biteP; rw [upd_n (by omega)]
    by_cases e : q = 8 * P + k
    · subst e; rw [upd_s, en, ej]; exact ⟨j, hj, rfl⟩
    · rw [upd_n (by omega)]; exact hW q hq
  · intro m' hm'
    have tr' : ∀ w, w < 3 → tr (biteP S m P K k) m' w = tr S m' w := fun w hw => by
      unfold biteP tr; rw [upd_n (by omega), upd_n (by omega)]
    obtain ⟨a, b, c, d⟩ := hI m' hm'
    refine ⟨by rw [tr' 0 (by omega)]; exact a, by rw [tr' 1 (by omega)]; exact b, by rw [tr' 2 (by omega)]; exact c, ?_⟩
    by_cases e : m' = m
    · subst e
      refine ⟨min (F + i) 9999, by omega, ?_⟩
      unfold biteP; show upd _ _ _ (51 + (4 * m' + 3)) = _
      rw [upd_s, eF, en, ei, nI_add, mn9_nI (by omega)]
    · have : tr (biteP S m P K k) m' 3 = tr S m' 3 := by
        unfold biteP tr; rw [upd_n (by omega), upd_n (by omega)]
      rw [this]; exact d
  · intro q hq
    unfold biteP; rw [upd_n (by omega), upd_n (by omega)]; exact hp q hq
theorem bite_SI {S : Row} {m : Nat} (hS : SI S) (hm : m < 8) : SI (bite S m) := by
  unfold bite
  by_cases h : bS S m = -1
  · rw [if_pos h]; exact hS
  · rw [if_neg h]
    obtain ⟨⟨K, hK, eK⟩, ⟨P, hP, eP⟩, -, F, hF, eF⟩ := hS.2.2.1 m hm
    rcases bt_or (S := S) (P := cl (tr S m 1)) (K := cl (tr S m 0)) (t := tr S m 2) (F := cl (tr S m 3)) with q | ⟨j, hj, ej⟩
    · exact absurd q h
    · have e : cl (bS S m) = j := by unfold bS; rw [ej]; exact cl_nI (by omega)
      have eK' : cl (tr S m 0) = K := by rw [eK]; exact cl_nI (by omega)
      have eP' : cl (tr S m 1) = P := by rw [eP]; exact cl_nI (by omega)
      rw [e, eK', eP']
      refine biteP_SI hS hm hP hK hj ?_
      rw [eK', eP'] at ej
      exact bt_ne hj ej
theorem bite_lo {S : Row} {m i : Nat} (hi : i < 3) : bite S m i = S i := by
  unfold bite
  by_cases h : bS S m = -1
  · rw [if_pos h]
  · rw [if_neg h]; unfold biteP; rw [upd_n (by omega), upd_n (by omega)]
theorem bite_tr {S : Row} {m m' w : Nat} (hS : SI S) (hm : m < 8) (hw : w < 3) : tr (bite S m) m' w = tr S m' w := by
  unfold bite
  by_cases h : bS S m = -1
  · rw [if_pos h]
  · rw [if_neg h]
    obtain ⟨-, ⟨P, hP, eP⟩, -⟩ := hS.2.2.1 m hm
    have eP' : cl (tr S m 1) = P := by rw [eP]; exact cl_nI (by omega)
    rcases bt_or (S := S) (P := cl (tr S m 1)) (K := cl (tr S m 0)) (t := tr S m 2) (F := cl (tr S m 3)) with q | ⟨j, hj, ej⟩
    · exact absurd q h
    · have e : cl (bS S m) = j := by unfold bS; rw [ej]; exact cl_nI (by omega)
      rw [e, eP']
      unfold biteP tr; rw [upd_n (by omega), upd_n (by omega)]
theorem nm_SI {S : Row} {O k : Nat} (hS : SI S) (hk : k ≤ 8) : SI (nm S O k) := by
  induction k with
  | zero => exact hS
  | succ k ih =>
    unfold nm
    by_cases h : O.testBit k = true
    · rw [if_pos h]; exact ih (by omega)
    · rw [if_neg h]; exact bite_SI (ih (by omega)) (by omega)
theorem nm_lo {S : Row} {O k i : Nat} (hi : i < 3) : nm S O k i = S i := by
  induction k with
  | zero => rfl
  | succ k ih =>
    unfold nm
    by_cases h : O.testBit k = true
    · rw [if_pos h]; exact ih
    · rw [if_neg h, bite_lo hi]; exact ih
theorem SI_cl0 {S : Row} (hS : SI S) : cl (S 0) ≤ 8 ∧ S 0 = nI (cl (S 0)) := by
  obtain ⟨⟨M, hM, e⟩, -⟩ := hS
  rw [e, cl_nI (by omega)]; exact ⟨hM, rfl⟩
theorem SI_upd {S : Row} {x : Int32} {i : Nat} (hS : SI S) (hi : i = 1 ∨ i = 2) : SI (upd S i x) := by
  obtain ⟨⟨M, hM, e⟩, hW, hI, hp⟩ := hS
  refine ⟨⟨M, hM, by rw [upd_n (by omega)]; exact e⟩, fun q hq => by rw [upd_n (by omega)]; exact hW q hq, fun m hm => ?_, fun q hq => by rw [upd_n (by omega)]; exact hp q hq⟩
  have t : ∀ w, tr (upd S i x) m w = tr S m w := fun w => by unfold tr; rw [upd_n (by omega)]
  rw [t, t, t, t]; exact hI m hm
theorem ng_SI {S : Row} {O : Nat} (hS : SI S) : SI (ng S O) := SI_upd (nm_SI hS (SI_cl0 hS).1) (Or.inl rfl)
theorem ngs_SI {S : Row} {O n : Nat} (hS : SI S) : SI (ngs S O n) := by
  induction n with
  | zero => exact hS
  | succ n ih => exact ng_SI ih
theorem ng_1 {S : Row} {O : Nat} : ng S O 1 = S 1 + 1 := by unfold ng; rw [upd_s, nm_lo (by omega)]
theorem ng_0 {S : Row} {O : Nat} : ng S O 0 = S 0 := by unfold ng; rw [upd_n (by omega), nm_lo (by omega)]
theorem ng_2 {S : Row} {O : Nat} : ng S O 2 = S 2 := by unfold ng; rw [upd_n (by omega), nm_lo (by omega)]
theorem ngs_1 {S : Row} {O n T : Nat} (h : S 1 = nI T) : ngs S O n 1 = nI (T + n) := by
  induction n with
  | zero => exact h
  | succ n ih => show ng (ngs S O n) O 1 = _; rw [ng_1, ih]; exact (nI_succ _).symm
theorem ngs_0 {S : Row} {O n : Nat} : ngs S O n 0 = S 0 := by
  induction n with
  | zero => rfl
  | succ n ih => show ng (ngs S O n) O 0 = _; rw [ng_0, ih]
/-! counts of bits -/
def ush (x y : Int32) : Int32 := (x.toUInt32 >>> (y.toUInt32 &&& Int32.toUInt32 31)).toInt32
def bc1 (x : Int32) : Int32 := x - (ush x 1 &&& 1431655765)
def bc2 (x : Int32) : Int32 := (x &&& 858993459) + (ush x 2 &&& 858993459)
def bc3 (x : Int32) : Int32 := (x + ush x 4) &&& 252645135
def bc4 (x : Int32) : Int32 := x + ush x 8
def bc5 (x : Int32) : Int32 := x + ush x 16
def bcnt (x : Int32) : Int32 := bc5 (bc4 (bc3 (bc2 (bc1 x)))) &&& 63
/-- the bits of n below 8 -/
def pcn (n : Nat) : Nat := ct (fun k => n.testBit k) 8
theorem bcnt_nat : ∀ n, n < 256 → bcnt (nI n) = nI (pcn n) := by decide +kernel
def nset (p : Nat → Bool) : Nat → Nat
  | 0 => 0
  | n + 1 => if p n then nset p n + 2 ^ n else nset p n
theorem nset_lt (p : Nat → Bool) (n : Nat) : nset p n < 2 ^ n := by
  induction n with
  | zero => exact Nat.zero_lt_one
  | succ n ih =>
    unfold nset
    have : 2 ^ (n + 1) = 2 ^ n + 2 ^ n := by rw [Nat.pow_succ]; omega
    by_cases h : p n = true
    · rw [if_pos h]; omega
    · rw [if_neg h]; omega
theorem or_bit : ∀ n, n < 8 → ∀ m, m < 2 ^ n → nI m ||| (1 <<< (nI n &&& 31)) = nI (m + 2 ^ n) := by decide +kernel
theorem bs_nat (p : Nat → Bool) {n : Nat} (h : n ≤ 8) : bs p n = nI (nset p n) := by
  induction n with
  | zero => rfl
  | succ n ih =>
    unfold bs nset
    by_cases q : p n = true
    · rw [if_pos q, if_pos q, ih (by omega)]; exact or_bit n (by omega) _ (nset_lt p n)
    · rw [if_neg q, if_neg q]; exact ih (by omega)
theorem nset_bit (p : Nat → Bool) : ∀ n k, (nset p n).testBit k = (decide (k < n) && p k) := by
  intro n
  induction n with
  | zero => intro k; simp [nset]
  | succ n ih =>
    intro k
    unfold nset
    have hl := nset_lt p n
    by_cases q : p n = true
    · rw [if_pos q, Nat.add_comm]
      by_cases h : k = n
      · subst h
        rw [Nat.testBit_two_pow_add_eq, ih]; simp [q]
      · by_cases h2 : k < n
        · rw [Nat.testBit_two_pow_add_gt h2, ih]; simp [h2, Nat.lt_succ_of_lt h2]
        · have h3 : n < k := by omega
          have : (2 ^ n + nset p n).testBit k = false := Nat.testBit_lt_two_pow (Nat.lt_of_lt_of_le (show 2 ^ n + nset p n < 2 ^ (n + 1) by rw [Nat.pow_succ]; omega) (Nat.pow_le_pow_right (by omega) h3))
          rw [this]; simp; intro _; omega
    · rw [if_neg q, ih]
      by_cases h : k = n
      · subst h; simp [q]
      · have : decide (k < n) = decide (k < n + 1) := by
          rw [decide_eq_decide]; omega
        rw [this]
theorem ct_congr {p q : Nat → Bool} {n : Nat} (h : ∀ k, k < n → p k = q k) : ct p n = ct q n := by
  induction n with
  | zero => rfl
  | succ n ih => unfold ct; rw [h n (by omega), ih (fun k hk => h k (by omega))]
theorem ct_le {p : Nat → Bool} {n : Nat} : ct p n ≤ n := by
  induction n with
  | zero => exact Nat.le_refl _
  | succ n ih =>
    unfold ct
    by_cases h : p n = true
    · rw [if_pos h]; omega
    · rw [if_neg h]; omega
/-- the count of a set of the first n <= 8 -/
theorem bcnt_bs (p : Nat → Bool) {n : Nat} (h : n ≤ 8) : bcnt (bs p n) = nI (ct p n) := by
  have hl : nset p n < 256 := Nat.lt_of_lt_of_le (nset_lt p n) (Nat.pow_le_pow_right (n := 2) (by omega) h)
  rw [bs_nat p h, bcnt_nat _ hl]
  congr 1
  have e : ∀ m, n ≤ m → ct (fun k => (nset p n).testBit k) m = ct p n := by
    intro m
    induction m with
    | zero => intro hm; obtain rfl : n = 0 := by omega
              rfl
    | succ m ih =>
      intro hm
      by_cases q : n = m + 1
      · subst q
        exact ct_congr (fun k hk => by rw [nset_bit]; simp [hk])
      · have h9 : ct (fun k => (nset p n).testBit k) (m + 1) = ct (fun k => (nset p n).testBit k) m := if_neg (by
          show ¬ (nset p n).testBit m = true
          rw [nset_bit, show decide (m < n) = false from decide_eq_false (by omega)]
          simp)
        rw [h9]
        exact ih (by omega)
  exact e 8 h
theorem no_bit : ∀ O, O < 256 → ∀ m, m < 8 → ((nI O &&& (1 <<< (nI m &&& 31)) = 0) ↔ O.testBit m = false) := by decide +kernel
theorem sh_bit : ∀ O, O < 256 → ∀ m, m < 8 → ((nI O >>> (nI m &&& 31) &&& 1 = 1) ↔ O.testBit m = true) := by decide +kernel
