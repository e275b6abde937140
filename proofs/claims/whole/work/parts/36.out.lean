/-! a page is touched by its own moths alone -/
theorem ff_congr {p q : Nat → Bool} {n : Nat} : ∀ {k : Nat}, (∀ j, k ≤ j → j < k + n → p j = q j) → ff p k n = ff q k n := by
  induction n with
  | zero => intro k _; rfl
  | succ n ih =>
    intro k h
    unfold ff
    rw [h k (Nat.le_refl _) (by omega), ih (fun j h1 h2 => h j (by omega) (by omega))]
theorem lf_congr {p q : Nat → Bool} {n : Nat} (h : ∀ j, j < n → p j = q j) : lf p n = lf q n := by
  induction n with
  | zero => rfl
  | succ n ih =>
    unfold lf
    rw [h n (by omega), ih (fun j hj => h j (by omega))]
theorem al_congr {p q : Nat → Bool} {n : Nat} (h : ∀ j, j < n → p j = q j) : al p n = al q n := by
  induction n with
  | zero => rfl
  | succ n ih =>
    unfold al
    rw [h n (by omega), ih (fun j hj => h j (by omega))]
theorem bt_congr {S S' : Row} {P : Nat} (h : ∀ k, k < 8 → wd S P k = wd S' P k) (K : Nat) (t : Int32) (F : Nat) : bt S P K t F = bt S' P K t F := by
  have hW : ff (pW S P) 0 8 = ff (pW S' P) 0 8 := ff_congr (fun j _ hj => by unfold pW; rw [h j (by omega)])
  have hL : ff (pL S P t) 0 8 = ff (pL S' P t) 0 8 := ff_congr (fun j _ hj => by unfold pL; rw [h j (by omega)])
  have hP : ff (pP S P t) 0 8 = ff (pP S' P t) 0 8 := ff_congr (fun j _ hj => by unfold pP; rw [h j (by omega)])
  have hl : lf (pW S P) 8 = lf (pW S' P) 8 := lf_congr (fun j hj => by unfold pW; rw [h j hj])
  have hs : sb S P t = sb S' P t := by
    unfold sb
    rw [hP]
    rcases ff8_or (p := pP S' P t) with q | ⟨j, hj, q⟩
    · rw [if_pos q, if_pos q]
    · rw [q, cl_nI (by omega), h j hj]
  unfold bt
  rw [hW, hL, hP, hl, hs, h (F % 8) (Nat.mod_lt _ (by omega))]
def eqP (P : Nat) (S S' : Row) : Prop := S 0 = S' 0 ∧ (∀ m, m < 8 → ∀ w, w < 3 → tr S m w = tr S' m w) ∧ (∀ m, m < 8 → tr S m 1 = nI P → tr S m 3 = tr S' m 3) ∧ ∀ k, k < 8 → wd S P k = wd S' P k
theorem eqP.rf {P : Nat} {S : Row} : eqP P S S := ⟨rfl, fun _ _ _ _ => rfl, fun _ _ _ => rfl, fun _ _ => rfl⟩
theorem eqP.sy {P : Nat} {S S' : Row} (h : eqP P S S') : eqP P S' S := ⟨h.1.symm, fun m hm w hw => (h.2.1 m hm w hw).symm, fun m hm e => (h.2.2.1 m hm ((h.2.1 m hm 1 (by omega)).trans e)).symm, fun k hk => (h.2.2.2 k hk).symm⟩
theorem eqP.tr {P : Nat} {S S' S'' : Row} (h : eqP P S S') (q : eqP P S' S'') : eqP P S S'' := ⟨h.1.trans q.1, fun m hm w hw => (h.2.1 m hm w hw).trans (q.2.1 m hm w hw), fun m hm e => (h.2.2.1 m hm e).trans (q.2.2.1 m hm ((h.2.1 m hm 1 (by omega)).symm.trans e)), fun k hk => (h.2.2.2 k hk).trans (q.2.2.2 k hk)⟩
/-- what a moth on page P bites is there for both -/
theorem eqP_bS {P : Nat} {S S' : Row} (h : eqP P S S') (hP : P < 6) {m : Nat} (hm : m < 8) (e : tr S m 1 = nI P) : bS S m = bS S' m := by
  have e' : tr S' m 1 = nI P := (h.2.1 m hm 1 (by omega)).symm.trans e
  unfold bS
  rw [e, e', cl_nI (by omega), h.2.1 m hm 0 (by omega), h.2.1 m hm 2 (by omega), h.2.2.1 m hm e]
  exact bt_congr h.2.2.2 _ _ _
theorem biteP_tr {S : Row} {m P K k m' w : Nat} (hP : P < 6) (hk : k < 8) (hw : w < 3) : tr (biteP S m P K k) m' w = tr S m' w := by
  unfold biteP tr; rw [upd_n (by omega), upd_n (by omega)]
theorem eqP_bite {P : Nat} {S S' : Row} (h : eqP P S S') (hS : SI S) (hP : P < 6) {m : Nat} (hm : m < 8) (e : tr S m 1 = nI P) : eqP P (bite S m) (bite S' m) := by
  have e' : tr S' m 1 = nI P := (h.2.1 m hm 1 (by omega)).symm.trans e
  have hb := eqP_bS h hP hm e
  rcases bS_or (S := S) (m := m) with q | ⟨j, hj, q⟩
  · have q' : bS S' m = -1 := hb.symm.trans q
    unfold bite
    rw [if_pos q, if_pos q']
    exact h
  · have q' : bS S' m = nI j := hb.symm.trans q
    obtain ⟨⟨K, hK, eK⟩, -⟩ := hS.2.2.1 m hm
    have eK' : tr S' m 0 = nI K := (h.2.1 m hm 0 (by omega)).symm.trans eK
    rw [bite_at eK hK e hP q hj, bite_at eK' hK e' hP q' hj]
    refine ⟨?_, fun m' hm' w hw => ?_, fun m' hm' e2 => ?_, fun k hk => ?_⟩
    · unfold biteP; rw [upd_n (by omega), upd_n (by omega), upd_n (by omega), upd_n (by omega)]; exact h.1
    · rw [biteP_tr hP hj hw, biteP_tr hP hj hw]; exact h.2.1 m' hm' w hw
    · rw [biteP_tr hP hj (by omega)] at e2
      by_cases hmm : m' = m
      · subst hmm
        unfold biteP; show upd _ _ _ (51 + (4 * m' + 3)) = upd _ _ _ (51 + (4 * m' + 3))
        rw [upd_s, upd_s, h.2.2.1 m' hm' e2, h.2.2.2 j hj]
      · unfold biteP tr
        rw [upd_n (by omega), upd_n (by omega), upd_n (by omega), upd_n (by omega)]
        exact h.2.2.1 m' hm' e2
    · unfold biteP
      show upd _ _ _ (3 + (8 * P + k)) = upd _ _ _ (3 + (8 * P + k))
      rw [upd_n (by omega), upd_n (k := 51 + (4 * m + 3)) (by omega)]
      by_cases hkj : k = j
      · subst hkj; rw [upd_s, upd_s, h.2.2.2 k hk]
      · rw [upd_n (by omega), upd_n (by omega)]; exact h.2.2.2 k hk
theorem eqP_off {P : Nat} {S : Row} (hS : SI S) (hP : P < 6) {m : Nat} (hm : m < 8) (e : ¬ tr S m 1 = nI P) : eqP P (bite S m) S := by
  obtain ⟨⟨K, hK, eK⟩, ⟨Q, hQ, eQ⟩, -⟩ := hS.2.2.1 m hm
  rcases bS_or (S := S) (m := m) with q | ⟨j, hj, q⟩
  · unfold bite; rw [if_pos q]; exact eqP.rf
  · rw [bite_at eK hK eQ hQ q hj]
    have hne : Q ≠ P := fun z => e (by rw [eQ, z])
    refine ⟨?_, fun m' hm' w hw => biteP_tr hQ hj hw, fun m' hm' e2 => ?_, fun k hk => ?_⟩
    · unfold biteP; rw [upd_n (by omega), upd_n (by omega)]
    · rw [biteP_tr hQ hj (by omega)] at e2
      have hmm : m' ≠ m := fun z => e (by rw [← z]; exact e2)
      unfold biteP tr; rw [upd_n (by omega), upd_n (by omega)]
    · unfold biteP; show upd _ _ _ (3 + (8 * P + k)) = _
      rw [upd_n (by omega), upd_n (by omega)]; rfl
theorem nm_tr {S : Row} {O k m w : Nat} (hS : SI S) (hk : k ≤ 8) (hw : w < 3) : tr (nm S O k) m w = tr S m w := by
  induction k with
  | zero => rfl
  | succ k ih =>
    unfold nm
    by_cases h : O.testBit k = true
    · rw [if_pos h]; exact ih (by omega)
    · rw [if_neg h, bite_tr (nm_SI hS (by omega)) (by omega) hw]; exact ih (by omega)
/-- sets that agree on the moths of page P -/
theorem eqP_nm {P : Nat} {S S' : Row} {O O' : Nat} (h : eqP P S S') (hS : SI S) (hS' : SI S') (hP : P < 6) {k : Nat} (hk : k ≤ 8) (ho : ∀ m, m < k → tr S m 1 = nI P → O.testBit m = O'.testBit m) : eqP P (nm S O k) (nm S' O' k) := by
  induction k with
  | zero => exact h
  | succ k ih =>
    have i := ih (by omega) (fun m hm => ho m (by omega))
    have s1 := nm_SI (O := O) (k := k) hS (by omega)
    have s2 := nm_SI (O := O') (k := k) hS' (by omega)
    have t1 : tr (nm S O k) k 1 = tr S k 1 := nm_tr hS (by omega) (by omega)
    have t2 : tr (nm S' O' k) k 1 = tr S' k 1 := nm_tr hS' (by omega) (by omega)
    have t3 : tr S k 1 = tr S' k 1 := h.2.1 k (by omega) 1 (by omega)
    unfold nm
    by_cases e : tr S k 1 = nI P
    · rw [ho k (by omega) e]
      by_cases b : O'.testBit k = true
      · rw [if_pos b, if_pos b]; exact i
      · rw [if_neg b, if_neg b]; exact eqP_bite i s1 hP (by omega) (t1.trans e)
    · have o1 : eqP P (if O.testBit k then nm S O k else bite (nm S O k) k) (nm S O k) := by
        by_cases b : O.testBit k = true
        · rw [if_pos b]; exact eqP.rf
        · rw [if_neg b]; exact eqP_off s1 hP (by omega) (by rw [t1]; exact e)
      have o2 : eqP P (if O'.testBit k then nm S' O' k else bite (nm S' O' k) k) (nm S' O' k) := by
        by_cases b : O'.testBit k = true
        · rw [if_pos b]; exact eqP.rf
        · rw [if_neg b]; exact eqP_off s2 hP (by omega) (by rw [t2, ← t3]; exact e)
      exact (o1.tr i).tr o2.sy
theorem eqP_u1 {P : Nat} {S : Row} {x : Int32} : eqP P (upd S 1 x) S := by
  refine ⟨upd_n (by omega), fun m hm w hw => ?_, fun m hm _ => ?_, fun k hk => ?_⟩
  · unfold tr; rw [upd_n (by omega)]
  · unfold tr; rw [upd_n (by omega)]
  · unfold wd; rw [upd_n (by omega)]
theorem eqP_ng {P : Nat} {S S' : Row} {O O' : Nat} (h : eqP P S S') (hS : SI S) (hS' : SI S') (hP : P < 6) (ho : ∀ m, m < cl (S 0) → tr S m 1 = nI P → O.testBit m = O'.testBit m) : eqP P (ng S O) (ng S' O') := by
  have q : eqP P (nm S O (cl (S 0))) (nm S' O' (cl (S' 0))) := by rw [← h.1]; exact eqP_nm h hS hS' hP (SI_cl0 hS).1 ho
  exact (eqP_u1.tr q).tr eqP_u1.sy
theorem ng_tr {S : Row} {O m w : Nat} (hS : SI S) (hw : w < 3) : tr (ng S O) m w = tr S m w := by
  have : tr (ng S O) m w = tr (nm S O (cl (S 0))) m w := by unfold ng tr; rw [upd_n (by omega)]
  rw [this]; exact nm_tr hS (SI_cl0 hS).1 hw
theorem ngs_tr {S : Row} {O n m w : Nat} (hS : SI S) (hw : w < 3) : tr (ngs S O n) m w = tr S m w := by
  induction n with
  | zero => rfl
  | succ n ih => show tr (ng (ngs S O n) O) m w = _; rw [ng_tr (ngs_SI hS) hw]; exact ih
theorem eqP_ngs {P : Nat} {S : Row} {O O' n : Nat} (hS : SI S) (hP : P < 6) (ho : ∀ m, m < cl (S 0) → tr S m 1 = nI P → O.testBit m = O'.testBit m) : eqP P (ngs S O n) (ngs S O' n) := by
  induction n with
  | zero => exact eqP.rf
  | succ n ih =>
    refine eqP_ng ih (ngs_SI hS) (ngs_SI hS) hP (fun m hm e => ho m ?_ ?_)
    · rw [ngs_0] at hm; exact hm
    · rw [ngs_tr hS (by omega)] at e; exact e
theorem eqP_still {P : Nat} {S : Row} {O k : Nat} (hS : SI S) (hP : P < 6) (hk : k ≤ 8) (ho : ∀ m, m < k → tr S m 1 = nI P → O.testBit m = true) : eqP P (nm S O k) S := by
  induction k with
  | zero => exact eqP.rf
  | succ k ih =>
    have i := ih (by omega) (fun m hm => ho m (by omega))
    unfold nm
    by_cases b : O.testBit k = true
    · rw [if_pos b]; exact i
    · rw [if_neg b]
      refine (eqP_off (nm_SI hS (by omega)) hP (by omega) (fun e => b (ho k (by omega) ?_))).tr i
      rw [nm_tr hS (by omega) (by omega)] at e; exact e
theorem eqP_stays {P : Nat} {S : Row} {O n : Nat} (hS : SI S) (hP : P < 6) (ho : ∀ m, m < cl (S 0) → tr S m 1 = nI P → O.testBit m = true) : eqP P (ngs S O n) S := by
  induction n with
  | zero => exact eqP.rf
  | succ n ih =>
    have s := ngs_SI (O := O) (n := n) hS
    refine eqP.tr (eqP_u1.tr (eqP_still s hP (SI_cl0 s).1 (fun m hm e => ho m ?_ ?_))) ih
    · rw [ngs_0] at hm; exact hm
    · rw [ngs_tr hS (by omega)] at e; exact e
/-! the fewest -/
def stay (S : Row) (P N : Nat) (O : Nat) : Bool := al (pE (ngs S O N) S P) 8
def bo (f : Nat → Bool) : Nat → Option Nat
  | 0 => none
  | k + 1 => if (match bo f k with | none => true | some b => decide (pcn k < pcn b)) && f k then some k else bo f k
def oI : Option Nat → Int32
  | none => -1
  | some b => nI b
def s_out (p n : Int32) (S : Row) : Ans := if inr p 0 5 && inr n 0 20 then .inr (oI (bo (stay S (cl p) (cl n)) (2 ^ cl (S 0))), S) else .inl 0
theorem bo_min {f : Nat → Bool} {n : Nat} : (bo f n = none → ∀ k, k < n → f k = false) ∧ ∀ b, bo f n = some b → b < n ∧ f b = true ∧ ∀ k, k < n → f k = true → pcn b < pcn k ∨ (pcn b = pcn k ∧ b ≤ k) := by
  induction n with
  | zero => exact ⟨fun _ k hk => (by omega), fun b h => (by cases h)⟩
  | succ n ih =>
    obtain ⟨i1, i2⟩ := ih
    unfold bo
    cases hb : bo f n with
    | none =>
      have i1 := i1 hb
      by_cases hf : f n = true
      · simp only [hf, Bool.and_true, if_true]
        refine ⟨fun h => (by cases h), fun b h => ?_⟩
        cases h
        exact ⟨by omega, hf, fun k hk hfk => by
          by_cases q : k = n
          · subst q; exact Or.inr ⟨rfl, Nat.le_refl _⟩
          · rw [i1 k (by omega)] at hfk; cases hfk⟩
      · simp only [hf, Bool.and_false, if_false, Bool.false_eq_true]
        refine ⟨fun _ k hk => ?_, fun b h => (by cases h)⟩
        by_cases q : k = n
        · subst q; simpa using hf
        · exact i1 k (by omega)
    | some b =>
      obtain ⟨h1, h2, h3⟩ := i2 b hb
      by_cases hc : pcn n < pcn b ∧ f n = true
      · simp only [hc, decide_true, Bool.and_self, if_true]
        refine ⟨fun h => (by cases h), fun b' h => ?_⟩
        cases h
        refine ⟨by omega, hc.2, fun k hk hfk => ?_⟩
        by_cases q : k = n
        · subst q; exact Or.inr ⟨rfl, Nat.le_refl _⟩
        · rcases h3 k (by omega) hfk with z | ⟨z, -⟩
          · exact Or.inl (by omega)
          · exact Or.inl (by omega)
      · have hcf : (decide (pcn n < pcn b) && f n) = false := by
          rw [Bool.and_eq_false_iff]
          by_cases z : pcn n < pcn b
          · right
            cases hfn : f n with
            | false => rfl
            | true => exact absurd ⟨z, hfn⟩ hc
          · left; exact decide_eq_false z
        simp only [hcf, if_false, Bool.false_eq_true]
        refine ⟨fun h => (by cases h), fun b' h => ?_⟩
        cases h
        refine ⟨by omega, h2, fun k hk hfk => ?_⟩
        by_cases q : k = n
        · subst q
          have : ¬ pcn k < pcn b := fun z => hc ⟨z, hfk⟩
          rcases Nat.lt_or_ge (pcn b) (pcn k) with z | z
          · exact Or.inl z
          · exact Or.inr ⟨by omega, by omega⟩
        · exact h3 k (by omega) hfk
theorem bo_of {f : Nat → Bool} {n b : Nat} (h1 : b < n) (h2 : f b = true) (h3 : ∀ k, k < n → f k = true → pcn b < pcn k ∨ (pcn b = pcn k ∧ b ≤ k)) : bo f n = some b := by
  cases hb : bo f n with
  | none => rw [bo_min.1 hb b h1] at h2; cases h2
  | some c =>
    obtain ⟨q1, q2, q3⟩ := bo_min.2 c hb
    rcases h3 c q1 q2 with z | ⟨z1, z2⟩ <;> rcases q3 b h1 h2 with y | ⟨y1, y2⟩
    · omega
    · omega
    · omega
    · rw [show c = b by omega]
theorem ct_mono {p q : Nat → Bool} {n : Nat} (h : ∀ k, k < n → p k = true → q k = true) : ct p n ≤ ct q n ∧ (ct p n = ct q n → ∀ k, k < n → p k = q k) := by
  induction n with
  | zero => exact ⟨Nat.le_refl _, fun _ k hk => by omega⟩
  | succ n ih =>
    obtain ⟨i1, i2⟩ := ih (fun k hk => h k (by omega))
    unfold ct
    have hn := h n (by omega)
    cases hp : p n with
    | true =>
      rw [hp] at hn
      have hq := hn rfl
      rw [hq]
      refine ⟨by simp only [if_true]; omega, fun e k hk => ?_⟩
      simp only [if_true] at e
      by_cases z : k = n
      · subst z; rw [hp, hq]
      · exact i2 (by omega) k (by omega)
    | false =>
      cases hq : q n with
      | true =>
        refine ⟨by simp only [if_true, Bool.false_eq_true, if_false]; omega, fun e => ?_⟩
        simp only [if_true, Bool.false_eq_true, if_false] at e
        omega
      | false =>
        refine ⟨by simp only [Bool.false_eq_true, if_false]; exact i1, fun e k hk => ?_⟩
        simp only [Bool.false_eq_true, if_false] at e
        by_cases z : k = n
        · subst z; rw [hp, hq]
        · exact i2 e k (by omega)
theorem pcn_sub {O A : Nat} (hO : O < 256) (hA : A < 256) (h : O &&& A = O) : O ≤ A ∧ pcn O ≤ pcn A ∧ (pcn O = pcn A → O = A) := by
  have hb : ∀ k, O.testBit k = true → A.testBit k = true := fun k q => by
    rw [← h, Nat.testBit_and, Bool.and_eq_true] at q; exact q.2
  obtain ⟨m1, m2⟩ := ct_mono (p := fun k => O.testBit k) (q := fun k => A.testBit k) (n := 8) (fun k _ q => hb k q)
  refine ⟨by rw [← h]; exact Nat.and_le_right, m1, fun e => Nat.eq_of_testBit_eq (fun i => ?_)⟩
  by_cases hi : i < 8
  · exact m2 e i hi
  · have z : ∀ x, x < 256 → x.testBit i = false := fun x hx => Nat.testBit_lt_two_pow (Nat.lt_of_lt_of_le hx (show 2 ^ 8 ≤ 2 ^ i from Nat.pow_le_pow_right (by omega) (by omega)))
    rw [z O hO, z A hA]
theorem pcn_and {O A : Nat} (hO : O < 256) (hA : A < 256) : pcn (O &&& A) ≤ pcn O ∧ (pcn (O &&& A) = pcn O → O &&& A = O) := by
  have h : (O &&& A) &&& O = O &&& A := by
    apply Nat.eq_of_testBit_eq
    intro i
    rw [Nat.testBit_and, Nat.testBit_and]
    cases O.testBit i <;> cases A.testBit i <;> rfl
  have := pcn_sub (O := O &&& A) (A := O) (Nat.lt_of_le_of_lt Nat.and_le_left hO) hO h
  exact ⟨this.2.1, this.2.2⟩
theorem pcn_le8 (O : Nat) : pcn O ≤ 8 := ct_le
theorem sub_bit {o s : Nat} (ho : o < 256) (hs : s < 256) : (nI s &&& (nI o ^^^ (-1)) = 0) ↔ s &&& o = s := by
  have e1 : (nI s &&& (nI o ^^^ (-1)) = 0) ↔ s &&& (o ^^^ (2 ^ 32 - 1)) = 0 := by
    rw [← Int32.toBitVec_inj, ← BitVec.toNat_inj]
    simp only [Int32.toBitVec_and, Int32.toBitVec_xor, BitVec.toNat_and, BitVec.toNat_xor]
    rw [pk_tn (show s < 2 ^ 32 by omega), pk_tn (show o < 2 ^ 32 by omega)]
    exact Iff.rfl
  rw [e1]
  have hM : ∀ i, i < 32 → (2 ^ 32 - 1).testBit i = true := fun i hi => by rw [Nat.testBit_two_pow_sub_one]; exact decide_eq_true hi
  have hz : ∀ i, ¬ i < 32 → s.testBit i = false := fun i hi => Nat.testBit_lt_two_pow (Nat.lt_of_lt_of_le hs (show 2 ^ 8 ≤ 2 ^ i from Nat.pow_le_pow_right (by omega) (by omega)))
  constructor
  · intro h
    apply Nat.eq_of_testBit_eq
    intro i
    have hi := congrArg (fun n => n.testBit i) h
    simp only [Nat.testBit_and, Nat.testBit_xor, Nat.zero_testBit] at hi ⊢
    by_cases h32 : i < 32
    · rw [hM i h32] at hi
      revert hi
      cases s.testBit i <;> cases o.testBit i <;> simp
    · rw [hz i h32]; rfl
  · intro h
    apply Nat.eq_of_testBit_eq
    intro i
    have hi := congrArg (fun n => n.testBit i) h
    simp only [Nat.testBit_and, Nat.testBit_xor, Nat.zero_testBit] at hi ⊢
    by_cases h32 : i < 32
    · rw [hM i h32]
      revert hi
      cases s.testBit i <;> cases o.testBit i <;> simp
    · rw [hz i h32]; rfl
/-- the moths on a page -/
def onS (S : Row) (P : Nat) : Nat := nset (fun m => decide (tr S m 1 = nI P)) (cl (S 0))
theorem onS_lt {S : Row} {P : Nat} (hS : SI S) : onS S P < 2 ^ cl (S 0) := nset_lt _ _
theorem two_le {S : Row} (hS : SI S) : 2 ^ cl (S 0) ≤ 256 := Nat.pow_le_pow_right (n := 2) (by omega) (SI_cl0 hS).1
theorem stay_and {S : Row} {P N O : Nat} (hS : SI S) (hP : P < 6) : stay S P N (O &&& onS S P) = stay S P N O := by
  have q : eqP P (ngs S (O &&& onS S P) N) (ngs S O N) := eqP_ngs hS hP (fun m hm e => by
    rw [Nat.testBit_and]
    unfold onS
    rw [nset_bit]
    simp [hm, e])
  exact al_congr (fun k hk => by unfold pE; rw [q.2.2.2 k hk])
theorem stay_on {S : Row} {P N : Nat} (hS : SI S) (hP : P < 6) : stay S P N (onS S P) = true := by
  have q : eqP P (ngs S (onS S P) N) S := eqP_stays hS hP (fun m hm e => by
    unfold onS
    rw [nset_bit]
    simp [hm, e])
  exact al_iff.mpr (fun k hk => decide_eq_true (q.2.2.2 k hk))
/-- no part of the moths on the page with fewer than z serves -/
def noB (S : Row) (P N z : Nat) : Prop := ∀ O, O &&& onS S P = O → O < 256 → pcn O < z → stay S P N O = false
theorem out_at {S : Row} {P N O : Nat} (hS : SI S) (hP : P < 6) (hO : O &&& onS S P = O) (hs : stay S P N O = true) (h1 : noB S P N (pcn O)) (h2 : ∀ O', O' < O → O' &&& onS S P = O' → pcn O' = pcn O → stay S P N O' = false) : bo (stay S P N) (2 ^ cl (S 0)) = some O := by
  have hl := two_le hS
  have hon := onS_lt (P := P) hS
  have hOl : O < 2 ^ cl (S 0) := Nat.lt_of_le_of_lt (by rw [← hO]; exact Nat.and_le_right) hon
  refine bo_of hOl hs (fun k hk hsk => ?_)
  obtain ⟨a1, a2⟩ := pcn_and (O := k) (A := onS S P) (by omega) (by omega)
  have hsub : (k &&& onS S P) &&& onS S P = k &&& onS S P := by rw [Nat.and_assoc, Nat.and_self]
  have hsk' : stay S P N (k &&& onS S P) = true := by rw [stay_and hS hP]; exact hsk
  have hkl : k &&& onS S P < 256 := Nat.lt_of_le_of_lt Nat.and_le_left (by omega)
  have hge : pcn O ≤ pcn (k &&& onS S P) := Nat.le_of_not_lt (fun z => by rw [h1 _ hsub hkl z] at hsk'; cases hsk')
  by_cases e : pcn (k &&& onS S P) = pcn k
  · have ek := a2 e
    rw [ek] at hge hsub hsk'
    by_cases e2 : pcn O = pcn k
    · refine Or.inr ⟨e2, Nat.le_of_not_lt (fun z => ?_)⟩
      rw [h2 k z (by rw [ek]) e2.symm] at hsk'; cases hsk'
    · exact Or.inl (by omega)
  · exact Or.inl (by omega)
