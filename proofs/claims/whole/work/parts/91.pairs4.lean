/-! the tape's bytes on both sides -/
theorem sg_8 : ∀ c, c < 256 → (Int8.ofNat c).toInt32 = sg c := by decide +kernel
theorem i8_mod (y : Nat) : Int8.ofNat y = Int8.ofNat (y % 256) := by
  apply Int8.toBitVec_inj.mp
  apply BitVec.eq_of_toNat_eq
  show y % 2 ^ 8 = (y % 256) % 2 ^ 8
  omega
theorem by_s1 : ∀ i, i < 4 → (((nI (8 * i)).toUInt32 &&& Int32.toUInt32 31).toBitVec % 32).toNat = 8 * i := by decide +kernel
theorem by_s2 : ∀ i, i < 4 → ((8 * nI i &&& 31).toBitVec.smod 32).toNat = 8 * i := by decide +kernel
theorem by_c (b : Int32) (i : Nat) (hi : i < 4) : ∃ c, c < 256 ∧ byt b i = sg c ∧ bym b i = nI c := by
  have hN : b.toBitVec.toNat < 2 ^ 32 := b.toBitVec.isLt
  have e : b = nI b.toBitVec.toNat := by
    apply Int32.toBitVec_inj.mp
    apply BitVec.eq_of_toNat_eq
    rw [pk_tn hN]
  refine ⟨b.toBitVec.toNat / 2 ^ (8 * i) % 256, Nat.mod_lt _ (by decide), ?_, ?_⟩
  · have h := pk_ushrN hN (nI (8 * i)) (8 * i) (by_s1 i hi)
    rw [← e] at h
    have h8 : ush b (nI (8 * i)) = nI (b.toBitVec.toNat / 2 ^ (8 * i)) := h
    unfold byt
    rw [h8, show (nI (b.toBitVec.toNat / 2 ^ (8 * i))).toInt8 = Int8.ofNat (b.toBitVec.toNat / 2 ^ (8 * i)) from Int32.toInt8_ofNat', i8_mod]
    exact sg_8 _ (Nat.mod_lt _ (by decide))
  · unfold bym
    rw [pk_and _ 8 (by decide)]
    congr 1
    have h := pk_shr b (8 * nI i &&& 31) (8 * i) (by_s2 i hi)
    generalize b >>> (8 * nI i &&& 31) = y at h ⊢
    have hy : y.toBitVec.toNat < 2 ^ 32 := y.toBitVec.isLt
    have h1 : b.toInt = if 2 * b.toBitVec.toNat < 2 ^ 32 then (b.toBitVec.toNat : Int) else (b.toBitVec.toNat : Int) - (2 ^ 32 : Nat) := BitVec.toInt_eq_toNat_cond b.toBitVec
    have h2 : y.toInt = if 2 * y.toBitVec.toNat < 2 ^ 32 then (y.toBitVec.toNat : Int) else (y.toBitVec.toNat : Int) - (2 ^ 32 : Nat) := BitVec.toInt_eq_toNat_cond y.toBitVec
    rw [Int.shiftRight_eq_div_pow, h1, h2] at h
    generalize b.toBitVec.toNat = N at h hN ⊢
    generalize y.toBitVec.toNat = Y at h hy ⊢
    match i, hi with
    | 0, _ => simp at h ⊢; split at h <;> split at h <;> omega
    | 1, _ => simp at h ⊢; split at h <;> split at h <;> omega
    | 2, _ => simp at h ⊢; split at h <;> split at h <;> omega
    | 3, _ => simp at h ⊢; split at h <;> split at h <;> omega
theorem ap_B (b : Int32) : ∀ (i : Nat) (R S : Row) (B : Nat → Nat) (m : Nat), i ≤ 4 → m + i ≤ 120 → BYT R B m → BYM S B m → ∃ B', BYT (apd R b m i) B' (m + i) ∧ BYM (apm S b m i) B' (m + i) := by
  intro i
  induction i with
  | zero => intro R S B m _ _ h1 h2; exact ⟨B, h1, h2⟩
  | succ i ih =>
    intro R S B m hi hm h1 h2
    obtain ⟨c, hc, e1, e2⟩ := by_c b i (by omega)
    have k1 : BYT (upd R m (byt b i)) (fun j => if j = m then c else B j) (m + 1) := by
      refine ⟨by omega, fun j hj => ?_⟩
      by_cases q : j = m
      · subst q; dsimp only; rw [if_pos rfl, upd_s]; exact ⟨hc, e1⟩
      · dsimp only; rw [if_neg q, upd_n q]; exact h1.2 j (by omega)
    have k2 : BYM (upd S m (bym b i)) (fun j => if j = m then c else B j) (m + 1) := by
      refine ⟨by omega, fun j hj => ?_⟩
      by_cases q : j = m
      · subst q; dsimp only; rw [if_pos rfl, upd_s]; exact ⟨hc, e2⟩
      · dsimp only; rw [if_neg q, upd_n q]; exact h2.2 j (by omega)
    obtain ⟨B', a1, a2⟩ := ih _ _ _ (m + 1) (by omega) (by omega) k1 k2
    refine ⟨B', ?_, ?_⟩
    · show BYT (apd (upd R m (byt b i)) b (m + 1) i) B' (m + (i + 1)); rw [show m + (i + 1) = m + 1 + i by omega]; exact a1
    · show BYM (apm (upd S m (bym b i)) b (m + 1) i) B' (m + (i + 1)); rw [show m + (i + 1) = m + 1 + i by omega]; exact a2
/-- a change of rows and tapes alone -/
theorem REL_tp {n : Nat} {g h : Mem} (hR : REL n g) (e12 : h 12 = h 0) (e0 : RB (n + 1) (h 0)) (e22 : h 22 0 = g 22 0) (e : ∀ b, b ≠ 0 → b ≠ 4 → b ≠ 5 → b ≠ 12 → b ≠ 17 → b ≠ 22 → h b = g b) (r : RT h) : REL (n + 1) h := by
  obtain ⟨r1, r2, r3, r4, r5, r6⟩ := hR
  refine ⟨e12, e0, ?_, ?_, r, ?_⟩
  · exact RK_of (Nat.le_succ n) (by rw [e 11 (by decide) (by decide) (by decide) (by decide) (by decide) (by decide)]) e22 (e 13 (by decide) (by decide) (by decide) (by decide) (by decide) (by decide)) (e 1 (by decide) (by decide) (by decide) (by decide) (by decide) (by decide)) r3
  · rw [e 10 (by decide) (by decide) (by decide) (by decide) (by decide) (by decide), e 16 (by decide) (by decide) (by decide) (by decide) (by decide) (by decide)]; exact r4
  · exact RS_of (fun t ht => e _ (by omega) (by omega) (by omega) (by omega) (by omega) (by omega)) (e 18 (by decide) (by decide) (by decide) (by decide) (by decide) (by decide)) (e 19 (by decide) (by decide) (by decide) (by decide) (by decide) (by decide)) (e 20 (by decide) (by decide) (by decide) (by decide) (by decide) (by decide)) r6
theorem pr_feed {n_ : Nat} {g g1 g2 : Mem} {r1 r2 b n : Int32} (hR : REL n_ g) (h1 : cgX (x_feed b n g) g r1 g1) (h2 : cgM (m_feed b n g1) g1 r2 g2) : r1 = r2 ∧ REL (n_ + 1) g2 := by
  obtain ⟨m, B, t1, t2, t3, t4⟩ := hR.2.2.2.2.1
  have hm := t3.1
  unfold x_feed at h1
  by_cases c : inr n 1 4 = true
  · rw [if_pos c] at h1
    obtain ⟨N, hN1, hN, rfl⟩ := inr_1 (n := 4) (by decide) c
    have c1 : (120 - nI N < g 4 0) ↔ (120 < g 22 1 + nI N) := by
      rw [t1, t2, nI_add, show (120 : Int32) - nI N = nI (120 - N) from pk_sub (a := 120) (by omega), show (120 : Int32) = nI 120 from rfl, Int32.lt_iff_toInt_lt, Int32.lt_iff_toInt_lt, nI_toInt (by omega), nI_toInt (by omega), nI_toInt (by omega), nI_toInt (by omega)]
      omega
    by_cases c2 : 120 - nI N < g 4 0
    · rw [if_pos c2] at h1
      exact pr_l (m_feed b (nI N)) mc_feed hR h1 h2 (by unfold m_feed; rw [if_pos c, FX_n (by decide), if_pos (c1.mp c2)])
    · rw [if_neg c2] at h1
      have c3 : ¬ 120 < g 22 1 + nI N := fun q => c2 (c1.mpr q)
      have hmN : m + N ≤ 120 := by
        rw [t2, nI_add, show (120 : Int32) = nI 120 from rfl, Int32.lt_iff_toInt_lt, nI_toInt (by omega), nI_toInt (by omega)] at c3
        omega
      have hA : cl (g 4 0) = m := by rw [t1, cl_nI (by omega)]
      have hA2 : cl (g 22 1) = m := by rw [t2, cl_nI (by omega)]
      have hN2 : cl (nI N) = N := cl_nI (by omega)
      rw [hA, hN2, t1, nI_add] at h1
      obtain ⟨B', a1, a2⟩ := ap_B b N (g 5) (g 17) B m hN hmN t3 t4
      refine pr_r (m_feed b (nI N)) mc_feed h1 h2 (h' := ub (ub (ub (ub g 5 (apd (g 5) b m N)) 4 (upd (g 4) 0 (nI (m + N)))) 17 (apm (g 17) b m N)) 22 (upd (g 22) 1 (nI (m + N)))) ?_ ?_
      · unfold m_feed
        rw [if_pos c, ub_n (show 22 ≠ 4 by decide), ub_n (show 22 ≠ 5 by decide), ub_n (show 17 ≠ 4 by decide), ub_n (show 17 ≠ 5 by decide), if_neg c3, hA2, hN2, t2, nI_add]
      · generalize hk : ub (ub (ub (ub g 5 (apd (g 5) b m N)) 4 (upd (g 4) 0 (nI (m + N)))) 17 (apm (g 17) b m N)) 22 (upd (g 22) 1 (nI (m + N))) = k
        have e : ∀ x, x ≠ 4 → x ≠ 5 → x ≠ 17 → x ≠ 22 → k x = g x := fun x q1 q2 q3 q4 => by rw [← hk, ub_n q4, ub_n q3, ub_n q1, ub_n q2]
        refine REL_tp hR ?_ ?_ ?_ (fun x q1 q2 q3 q4 q5 q6 => e x q2 q3 q5 q6) ⟨m + N, B', ?_, ?_, ?_, ?_⟩
        · rw [e 12 (by decide) (by decide) (by decide) (by decide), e 0 (by decide) (by decide) (by decide) (by decide)]; exact hR.1
        · rw [e 0 (by decide) (by decide) (by decide) (by decide)]; exact hR.2.1.s
        · rw [← hk, ub_s, upd_n (by decide)]
        · rw [← hk, ub_n (by decide), ub_n (by decide), ub_s, upd_s]
        · rw [← hk, ub_s, upd_s]
        · rw [← hk, ub_n (by decide), ub_n (by decide), ub_n (by decide), ub_s]; exact a1
        · rw [← hk, ub_n (by decide), ub_s]; exact a2
  · rw [if_neg c] at h1
    exact pr_l (m_feed b n) mc_feed hR h1 h2 (by unfold m_feed; rw [if_neg c])
theorem RT_0 {g : Mem} (h1 : g 4 0 = 0) (h2 : g 22 1 = 0) : RT g := ⟨0, fun _ => 0, h1, h2, ⟨Nat.zero_le _, fun i hi => absurd hi (Nat.not_lt_zero i)⟩, ⟨Nat.zero_le _, fun i hi => absurd hi (Nat.not_lt_zero i)⟩⟩
theorem pr_wipe {n : Nat} {g g1 g2 : Mem} {r1 r2 : Int32} (hR : REL n g) (h1 : cgX (x_wipe g) g r1 g1) (h2 : cgM (m_wipe g1) g1 r2 g2) : r1 = r2 ∧ REL (n + 1) g2 := by
  obtain ⟨m, B, t1, t2, t3, t4⟩ := hR.2.2.2.2.1
  unfold x_wipe at h1
  refine pr_r m_wipe mc_wipe h1 h2 (h' := ub (ub g 4 (upd (g 4) 0 0)) 22 (upd (g 22) 1 0)) (by unfold m_wipe; rw [ub_n (by decide), t1, t2]) ?_
  have e : ∀ x, x ≠ 4 → x ≠ 22 → ub (ub g 4 (upd (g 4) 0 0)) 22 (upd (g 22) 1 0) x = g x := fun x q1 q2 => by rw [ub_n q2, ub_n q1]
  refine REL_tp hR ?_ ?_ ?_ (fun x q1 q2 q3 q4 q5 q6 => e x q2 q6) (RT_0 ?_ ?_)
  · rw [e 12 (by decide) (by decide), e 0 (by decide) (by decide)]; exact hR.1
  · rw [e 0 (by decide) (by decide)]; exact hR.2.1.s
  · rw [ub_s, upd_n (by decide)]
  · rw [ub_n (by decide), ub_s, upd_s]
  · rw [ub_s, upd_s]
/-! a text leaves the night -/
theorem p_tr_1 {B : Nat → Nat} {m k W lo hi M : Nat} {s : PS} : (p_tr B m k W lo hi M s).2.1 1 = s.1 1 := by
  unfold p_tr
  by_cases h : nmk B k s.2 = true
  · rw [if_pos h]
    by_cases h2 : okn (nx B m s.2) lo hi = true
    · rw [if_pos h2]; exact upd_n (by omega)
    · rw [if_neg h2]
  · rw [if_neg h]
theorem andp_1 {r : Bool × PS} {f : PS → Bool × PS} {x : Int32} (h : r.2.1 1 = x) (hf : ∀ s : PS, s.1 1 = x → (f s).2.1 1 = x) : (andp r f).2.1 1 = x := by
  unfold andp
  by_cases q : r.1 = true
  · rw [if_pos q]; exact hf r.2 h
  · rw [if_neg q]; exact h
theorem p_moth_1 {B : Nat → Nat} {m K : Nat} {s : PS} : (p_moth B m K s).2.1 1 = s.1 1 := by
  unfold p_moth
  by_cases q : 8 ≤ cl (s.1 0)
  · rw [if_pos q]
  · rw [if_neg q]
    refine andp_1 (andp_1 (p_tr_1.trans ?_) (fun _ h => p_tr_1.trans h)) (fun _ h => p_tr_1.trans h)
    show addm s.1 (cl (s.1 0)) (nI K) 0 1 = s.1 1
    unfold addm
    rw [upd_n (by omega), upd_n (by omega), upd_n (by omega), upd_n (by omega), upd_n (by omega)]
theorem hol_1 {S : Row} {P : Nat} : ∀ {k : Nat}, hol S P k 1 = S 1 := by
  intro k
  induction k with
  | zero => rfl
  | succ k ih => exact (upd_n (by omega)).trans ih
theorem p_bare_1 {B : Nat → Nat} {m : Nat} {s : PS} : (p_bare B m s).2.1 1 = s.1 1 := by
  unfold p_bare
  by_cases q : okn (nx B m s.2) 0 5 = true
  · rw [if_pos q]; exact hol_1
  · rw [if_neg q]
theorem p_wds_1 {B : Nat → Nat} {m P : Nat} : ∀ {n k : Nat} {s : PS}, (p_wds B m P k n s).2.1 1 = s.1 1 := by
  intro n
  induction n with
  | zero => intro k s; rfl
  | succ n ih =>
    intro k s
    unfold p_wds
    by_cases q : (decide (0 < k) && decide (¬ s.2.1 = 2)) = true
    · rw [if_pos q]
    · rw [if_neg q]
      by_cases r : okn s.2 0 9 = true
      · rw [if_pos r]; exact ih.trans (upd_n (by omega))
      · rw [if_neg r]
theorem p_kin_1 {B : Nat → Nat} {m : Nat} : ∀ {n k : Nat} {s : PS}, (p_kin B m k n s).2.1 1 = s.1 1 := by
  intro n
  induction n with
  | zero => intro k s; rfl
  | succ n ih =>
    intro k s
    unfold p_kin
    by_cases q : nmk B (5 + k) s.2 = true
    · rw [if_pos q]; exact p_moth_1
    · rw [if_neg q]; exact ih
theorem p_item_1 {B : Nat → Nat} {m : Nat} {s : PS} : (p_item B m s).2.1 1 = s.1 1 := by
  unfold p_item
  by_cases q : nmk B 0 s.2 = true
  · rw [if_pos q]; exact andp_1 p_bare_1 (fun _ h => p_wds_1.trans h)
  · rw [if_neg q]
    by_cases r : nmk B 1 s.2 = true
    · rw [if_pos r]; exact p_bare_1
    · rw [if_neg r]; exact p_kin_1
theorem p_txt_1 {B : Nat → Nat} {m : Nat} : ∀ {n i : Nat} {s : PS}, (p_txt B m i n s).2.2.1 1 = s.1 1 := by
  intro n
  induction n with
  | zero => intro i s; rfl
  | succ n ih =>
    intro i s
    unfold p_txt
    have hi := p_item_1 (B := B) (m := m) (s := s)
    by_cases a : (p_item B m s).1 = true
    · rw [if_pos a]
      by_cases b : (p_item B m s).2.2.1 = 0
      · rw [if_pos b]; exact hi
      · rw [if_neg b]
        by_cases c : (p_item B m s).2.2.1 = 3
        · rw [if_pos c]; exact (ih (s := (_, nx B m (p_item B m s).2.2))).trans hi
        · rw [if_neg c]; exact hi
    · rw [if_neg a]; exact hi
theorem pr_text {n : Nat} {g g1 g2 : Mem} {r1 r2 : Int32} {B : Nat → Nat} {m : Nat} (hR : REL n g) (h1 : cgX (x_text B m g) g r1 g1) (h2 : cgM (m_text B m g1) g1 r2 g2) : r1 = r2 ∧ REL (n + 1) g2 := by
  have hrow : RB (n + 1) (p_txt B m 1 120 (g 0, stp B m 0)).2.2.1 := RB_u hR.2.1 (p_txt_SI hR.2.1.1) p_txt_1
  unfold x_text at h1
  by_cases c : (p_txt B m 1 120 (g 0, stp B m 0)).1 = true
  · rw [if_pos c] at h1
    generalize hS : (p_txt B m 1 120 (g 0, stp B m 0)).2.2.1 = S at h1 hrow
    refine pr_r (m_text B m) mc_text h1 h2 (h' := ub (ub (ub (ub g 0 S) 4 (upd (g 4) 0 0)) 12 S) 22 (upd (g 22) 1 0)) ?_ ?_
    · unfold m_text
      rw [ub_n (show 12 ≠ 4 by decide), ub_n (show 12 ≠ 0 by decide), hR.1, if_pos c, hS, ub_n (show 22 ≠ 4 by decide), ub_n (show 22 ≠ 0 by decide)]
    · have e : ∀ x, x ≠ 0 → x ≠ 4 → x ≠ 12 → x ≠ 22 → ub (ub (ub (ub g 0 S) 4 (upd (g 4) 0 0)) 12 S) 22 (upd (g 22) 1 0) x = g x := fun x q1 q2 q3 q4 => by rw [ub_n q4, ub_n q3, ub_n q2, ub_n q1]
      have e0 : ub (ub (ub (ub g 0 S) 4 (upd (g 4) 0 0)) 12 S) 22 (upd (g 22) 1 0) 0 = S := by rw [ub_n (by decide), ub_n (by decide), ub_n (by decide), ub_s]
      refine REL_tp hR ?_ ?_ ?_ (fun x q1 q2 q3 q4 q5 q6 => e x q1 q2 q4 q6) (RT_0 ?_ ?_)
      · rw [e0, ub_n (by decide), ub_s]
      · rw [e0]; exact hrow
      · rw [ub_s, upd_n (by decide)]
      · rw [ub_n (by decide), ub_n (by decide), ub_s, upd_s]
      · rw [ub_s, upd_s]
  · rw [if_neg c] at h1
    refine pr_r (m_text B m) mc_text h1 h2 (h' := ub (ub g 4 (upd (g 4) 0 0)) 22 (upd (g 22) 1 0)) ?_ ?_
    · unfold m_text
      rw [ub_n (show 12 ≠ 4 by decide), hR.1, if_neg c, ub_n (show 22 ≠ 4 by decide)]
    · have e : ∀ x, x ≠ 4 → x ≠ 22 → ub (ub g 4 (upd (g 4) 0 0)) 22 (upd (g 22) 1 0) x = g x := fun x q1 q2 => by rw [ub_n q2, ub_n q1]
      refine REL_tp hR ?_ ?_ ?_ (fun x q1 q2 q3 q4 q5 q6 => e x q2 q6) (RT_0 ?_ ?_)
      · rw [e 12 (by decide) (by decide), e 0 (by decide) (by decide)]; exact hR.1
      · rw [e 0 (by decide) (by decide)]; exact hR.2.1.s
      · rw [ub_s, upd_n (by decide)]
      · rw [ub_n (by decide), ub_s, upd_s]
      · rw [ub_s, upd_s]
theorem MP_L {n w : Int32} {g g' : Mem} {r : Int64} (h : cgL n w g r g') : MP g' g := by
  unfold cgL at h
  split at h
  · exact MP_SC h.2 MP_rf
  · exact MP_SC h.2 (MP_u (by decide) MP_rf)
theorem pr_odds {n_ : Nat} {g g1 g2 : Mem} {r1 r2 : Int64} {n w : Int32} (hR : REL n_ g) (h1 : cgL n w g r1 g1) (h2 : cgK n w g1 r2 g2) : r1 = r2 ∧ REL (n_ + 1) g2 := by
  have e12 : g1 12 = g 0 := ((MP_L h1).1 12 (Or.inl rfl)).trans hR.1
  unfold cgL at h1
  unfold cgK at h2
  by_cases c : (inr n 0 23 && inr w 0 1) = true
  · rw [if_pos c] at h1 h2
    rw [e12] at h2
    exact ⟨h1.1.trans h2.1.symm, REL_SC h2.2 (REL_SC h1.2 hR.s)⟩
  · rw [if_neg c] at h1 h2
    exact ⟨h1.1.trans h2.1.symm, REL_SC h2.2 (REL_SC (FM_SC h1.2) (REL_F (by decide) hR))⟩
