/-! what holds between the class and the reference, between the calls -/
def RB (n : Nat) (S : Row) : Prop := SI S ∧ ∃ T, T ≤ 60 * n ∧ S 1 = nI T
def RF (F M : Row) : Prop := M 0 = sI F 7 ∧ ∀ k, k < 7 → M (k + 1) = F k
def RT (g : Mem) : Prop := ∃ m B, g 4 0 = nI m ∧ g 22 1 = nI m ∧ BYT (g 5) B m ∧ BYM (g 17) B m
def RS (g : Mem) : Prop := HI g ∧ ∀ t, t < 4 → g 18 t = (if g (6 + t) 0 = 0 then -1 else g (6 + t) 0) ∧ g 19 t = g (6 + t) 1 ∧ ∀ i, i < 40 → g 20 (40 * t + i) = g (6 + t) (2 + i)
def RK (n : Nat) (g : Mem) : Prop := g 22 0 = g 11 0 ∧ (¬ g 11 0 = 0 → g 13 = g 1 ∧ RB n (g 1))
def REL (n : Nat) (g : Mem) : Prop := g 12 = g 0 ∧ RB n (g 0) ∧ RK n g ∧ RF (g 10) (g 16) ∧ RT g ∧ RS g
theorem RB.s {n : Nat} {S : Row} (h : RB n S) : RB (n + 1) S := ⟨h.1, by obtain ⟨T, h1, h2⟩ := h.2; exact ⟨T, by omega, h2⟩⟩
theorem RK_of {n n' : Nat} {g h : Mem} (hn : n ≤ n') (e11 : h 11 0 = g 11 0) (e22 : h 22 0 = g 22 0) (e13 : h 13 = g 13) (e1 : h 1 = g 1) (q : RK n g) : RK n' h := by
  unfold RK
  rw [e11, e22, e13, e1]
  refine ⟨q.1, fun z => ?_⟩
  obtain ⟨a, b, T, c, d⟩ := q.2 z
  exact ⟨a, b, T, Nat.le_trans c (by omega), d⟩
theorem RT_of {g h : Mem} (e4 : h 4 0 = g 4 0) (e22 : h 22 1 = g 22 1) (e5 : h 5 = g 5) (e17 : h 17 = g 17) (q : RT g) : RT h := by
  unfold RT
  rw [e4, e22, e5, e17]
  exact q
theorem HI_of {g h : Mem} (e6 : ∀ t, t < 4 → h (6 + t) = g (6 + t)) (q : HI g) : HI h := fun t ht => by rw [e6 t ht]; exact q t ht
theorem RS_of {g h : Mem} (e6 : ∀ t, t < 4 → h (6 + t) = g (6 + t)) (e18 : h 18 = g 18) (e19 : h 19 = g 19) (e20 : h 20 = g 20) (q : RS g) : RS h :=
  ⟨HI_of e6 q.1, fun t ht => by rw [e6 t ht, e18, e19, e20]; exact q.2 t ht⟩
theorem SC.at {g h : Mem} (q : SC g h) (b : Nat) (hb : (b != 2 && b != 3 && b != 4 && b != 14 && b != 15 && b != 21 && b != 22) = true) : g b = h b := by
  simp only [Bool.and_eq_true, bne_iff_ne] at hb
  exact q.1 b hb.1.1.1.1.1.1 hb.1.1.1.1.1.2 hb.1.1.1.1.2 hb.1.1.1.2 hb.1.1.2 hb.1.2 hb.2
theorem SC.sh {g h : Mem} (q : SC g h) {t : Nat} (ht : t < 4) : g (6 + t) = h (6 + t) := q.1 _ (by omega) (by omega) (by omega) (by omega) (by omega) (by omega) (by omega)
theorem REL_SC {n : Nat} {g h : Mem} (q : SC g h) (r : REL n h) : REL n g := by
  obtain ⟨r1, r2, r3, r4, r5, r6⟩ := r
  refine ⟨?_, ?_, ?_, ?_, ?_, ?_⟩
  · rw [q.at 12 rfl, q.at 0 rfl]; exact r1
  · rw [q.at 0 rfl]; exact r2
  · exact RK_of (Nat.le_refl n) (by rw [q.at 11 rfl]) q.2.2.1 (q.at 13 rfl) (q.at 1 rfl) r3
  · rw [q.at 10 rfl, q.at 16 rfl]; exact r4
  · exact RT_of q.2.1 q.2.2.2 (q.at 5 rfl) (q.at 17 rfl) r5
  · exact RS_of (fun t ht => q.sh ht) (q.at 18 rfl) (q.at 19 rfl) (q.at 20 rfl) r6
theorem sI_lo {F : Row} {f : Nat} {x : Int32} : ∀ {n : Nat}, n ≤ f → sI (upd F f x) n = sI F n := by
  intro n
  induction n with
  | zero => intro _; rfl
  | succ n ih =>
    intro h
    show sI (upd F f x) n + upd F f x n = sI F n + F n
    rw [ih (by omega), upd_n (by omega)]
theorem sI_up {F : Row} {f : Nat} : ∀ {n : Nat}, f < n → sI (upd F f (F f + 1)) n = sI F n + 1 := by
  intro n
  induction n with
  | zero => intro h; omega
  | succ n ih =>
    intro h
    show sI (upd F f (F f + 1)) n + upd F f (F f + 1) n = sI F n + F n + 1
    by_cases e : f = n
    · subst e
      rw [sI_lo (Nat.le_refl _), upd_s, Int32.add_assoc]
    · rw [ih (by omega), upd_n (by omega), Int32.add_assoc, Int32.add_assoc, Int32.add_comm 1 (F n)]
theorem RF_up {F M : Row} {f : Nat} (hf : f < 7) (h : RF F M) : RF (upd F f (F f + 1)) (upd (upd M 0 (M 0 + 1)) (f + 1) (M (f + 1) + 1)) := by
  refine ⟨?_, fun k hk => ?_⟩
  · rw [upd_n (by omega), upd_s, sI_up hf, h.1]
  · by_cases e : k = f
    · subst e; rw [upd_s, upd_s, h.2 k hk]
    · rw [upd_n (by omega), upd_n (by omega), upd_n e]; exact h.2 k hk
theorem FX_n {g : Mem} {f b : Nat} (h : b ≠ 10) : FX g f b = g b := ub_n h
theorem FM_n {g : Mem} {f b : Nat} (h : b ≠ 16) : FM g f b = g b := ub_n h
theorem REL_F {n : Nat} {g : Mem} {f : Nat} (hf : f < 7) (r : REL n g) : REL (n + 1) (FM (FX g f) f) := by
  obtain ⟨r1, r2, r3, r4, r5, r6⟩ := r
  have e : ∀ b, b ≠ 10 → b ≠ 16 → FM (FX g f) f b = g b := fun b h1 h2 => by rw [FM_n h2, FX_n h1]
  refine ⟨?_, ?_, ?_, ?_, ?_, ?_⟩
  · rw [e 12 (by decide) (by decide), e 0 (by decide) (by decide)]; exact r1
  · rw [e 0 (by decide) (by decide)]; exact r2.s
  · exact RK_of (Nat.le_succ n) (by rw [e 11 (by decide) (by decide)]) (by rw [e 22 (by decide) (by decide)]) (e 13 (by decide) (by decide)) (e 1 (by decide) (by decide)) r3
  · rw [FM_n (by decide)]
    unfold FM FX
    rw [ub_s, ub_s, ub_n (by decide)]
    exact RF_up hf r4
  · exact RT_of (by rw [e 4 (by decide) (by decide)]) (by rw [e 22 (by decide) (by decide)]) (e 5 (by decide) (by decide)) (e 17 (by decide) (by decide)) r5
  · exact RS_of (fun t ht => e _ (by omega) (by omega)) (e 18 (by decide) (by decide)) (e 19 (by decide) (by decide)) (e 20 (by decide) (by decide)) r6
theorem REL_row {n : Nat} {g : Mem} {S : Row} (hS : RB (n + 1) S) (r : REL n g) : REL (n + 1) (ub (ub g 0 S) 12 S) := by
  obtain ⟨r1, r2, r3, r4, r5, r6⟩ := r
  have e : ∀ b, b ≠ 0 → b ≠ 12 → ub (ub g 0 S) 12 S b = g b := fun b h1 h2 => by rw [ub_n h2, ub_n h1]
  have e0 : ub (ub g 0 S) 12 S 0 = S := by rw [ub_n (by decide), ub_s]
  refine ⟨?_, ?_, ?_, ?_, ?_, ?_⟩
  · rw [ub_s, e0]
  · rw [e0]; exact hS
  · exact RK_of (Nat.le_succ n) (by rw [e 11 (by decide) (by decide)]) (by rw [e 22 (by decide) (by decide)]) (e 13 (by decide) (by decide)) (e 1 (by decide) (by decide)) r3
  · rw [e 10 (by decide) (by decide), e 16 (by decide) (by decide)]; exact r4
  · exact RT_of (by rw [e 4 (by decide) (by decide)]) (by rw [e 22 (by decide) (by decide)]) (e 5 (by decide) (by decide)) (e 17 (by decide) (by decide)) r5
  · exact RS_of (fun t ht => e _ (by omega) (by omega)) (e 18 (by decide) (by decide)) (e 19 (by decide) (by decide)) (e 20 (by decide) (by decide)) r6
theorem REL.s {n : Nat} {g : Mem} (r : REL n g) : REL (n + 1) g := by
  obtain ⟨r1, r2, r3, r4, r5, r6⟩ := r
  exact ⟨r1, r2.s, RK_of (Nat.le_succ n) rfl rfl rfl rfl r3, r4, r5, r6⟩
/-- the reference's part of the memory -/
def MP (g h : Mem) : Prop := (∀ b, b = 12 ∨ b = 13 ∨ b = 16 ∨ b = 17 ∨ b = 18 ∨ b = 19 ∨ b = 20 → g b = h b) ∧ g 22 0 = h 22 0 ∧ g 22 1 = h 22 1
theorem MP_X {o : Ans} {g g' : Mem} {r : Int32} (h : cpX o g r g') : MP g' g := by
  cases o with
  | inl f =>
    obtain ⟨-, -, q⟩ := h
    exact ⟨fun b hb => by rw [q.1 b (by omega) (by omega) (by omega) (by omega) (by omega) (by omega) (by omega), FX_n (by omega)], by rw [q.2.2.1, FX_n (by decide)], by rw [q.2.2.2, FX_n (by decide)]⟩
  | inr p =>
    obtain ⟨v, S⟩ := p
    obtain ⟨-, q⟩ := h
    exact ⟨fun b hb => by rw [q.1 b (by omega) (by omega) (by omega) (by omega) (by omega) (by omega) (by omega), ub_n (by omega)], by rw [q.2.2.1, ub_n (by decide)], by rw [q.2.2.2, ub_n (by decide)]⟩
def GS (n : Nat) (a : Ans) : Prop := ∀ v S, a = .inr (v, S) → RB (n + 1) S
theorem pr_row {n : Nat} {g g1 g2 : Mem} {r1 r2 : Int32} {a : Ans} (hR : REL n g) (hs : GS n a) (h1 : cpX a g r1 g1) (h2 : cpM a g1 r2 g2) : r1 = r2 ∧ REL (n + 1) g2 := by
  cases a with
  | inl f =>
    obtain ⟨hf, a1, q1⟩ := h1
    obtain ⟨-, a2, q2⟩ := h2
    exact ⟨a1.trans a2.symm, REL_SC q2 (REL_SC (FM_SC q1) (REL_F hf hR))⟩
  | inr p =>
    obtain ⟨v, S⟩ := p
    obtain ⟨a1, q1⟩ := h1
    obtain ⟨a2, q2⟩ := h2
    exact ⟨a1.trans a2.symm, REL_SC q2 (REL_SC q1.ubb (REL_row (hs v S rfl) hR))⟩
theorem gs_reads {n_ : Nat} {S : Row} {p k : Int32} (h : RB n_ S) : GS n_ (s_reads p k S) := by
  intro v_ S_ e
  unfold s_reads at e
  all_goals (try split at e)
  all_goals (try split at e)
  all_goals (try split at e)
  all_goals first | (cases e; exact h.s) | (cases e)
theorem gs_page {n_ : Nat} {S : Row} {p w : Int32} (h : RB n_ S) : GS n_ (s_page p w S) := by
  intro v_ S_ e
  unfold s_page at e
  all_goals (try split at e)
  all_goals (try split at e)
  all_goals (try split at e)
  all_goals first | (cases e; exact h.s) | (cases e)
theorem gs_of {n_ : Nat} {S : Row} {m w : Int32} (h : RB n_ S) : GS n_ (s_of m w S) := by
  intro v_ S_ e
  unfold s_of at e
  all_goals (try split at e)
  all_goals (try split at e)
  all_goals (try split at e)
  all_goals first | (cases e; exact h.s) | (cases e)
theorem gs_leaves {n_ : Nat} {S : Row} {m x w : Int32} (h : RB n_ S) : GS n_ (s_leaves m x w S) := by
  intro v_ S_ e
  unfold s_leaves at e
  all_goals (try split at e)
  all_goals (try split at e)
  all_goals (try split at e)
  all_goals first | (cases e; exact h.s) | (cases e)
theorem gs_now {n_ : Nat} {S : Row} {w : Int32} (h : RB n_ S) : GS n_ (s_now w S) := by
  intro v_ S_ e
  unfold s_now at e
  all_goals (try split at e)
  all_goals (try split at e)
  all_goals (try split at e)
  all_goals first | (cases e; exact h.s) | (cases e)
theorem gs_ahead {n_ : Nat} {S : Row} {p k n : Int32} (h : RB n_ S) : GS n_ (s_ahead p k n S) := by
  intro v_ S_ e
  unfold s_ahead at e
  all_goals (try split at e)
  all_goals (try split at e)
  all_goals (try split at e)
  all_goals first | (cases e; exact h.s) | (cases e)
theorem gs_says {n_ : Nat} {S : Row} {p n : Int32} (h : RB n_ S) : GS n_ (s_says p n S) := by
  intro v_ S_ e
  unfold s_says at e
  all_goals (try split at e)
  all_goals (try split at e)
  all_goals (try split at e)
  all_goals first | (cases e; exact h.s) | (cases e)
theorem gs_fed {n_ : Nat} {S : Row} {m n : Int32} (h : RB n_ S) : GS n_ (s_fed m n S) := by
  intro v_ S_ e
  unfold s_fed at e
  all_goals (try split at e)
  all_goals (try split at e)
  all_goals (try split at e)
  all_goals first | (cases e; exact h.s) | (cases e)
theorem gs_bare {n_ : Nat} {S : Row} {p : Int32} (h : RB n_ S) : GS n_ (s_bare p S) := by
  intro v_ S_ e
  unfold s_bare fst at e
  all_goals (try split at e)
  all_goals (try split at e)
  all_goals (try split at e)
  all_goals first | (cases e; exact h.s) | (cases e)
theorem gs_when {n_ : Nat} {S : Row} {p v : Int32} (h : RB n_ S) : GS n_ (s_when p v S) := by
  intro v_ S_ e
  unfold s_when fst at e
  all_goals (try split at e)
  all_goals (try split at e)
  all_goals (try split at e)
  all_goals first | (cases e; exact h.s) | (cases e)
theorem gs_settles {n_ : Nat} {S : Row} (h : RB n_ S) : GS n_ (s_settles S) := by
  intro v_ S_ e
  unfold s_settles fst at e
  all_goals (try split at e)
  all_goals (try split at e)
  all_goals (try split at e)
  all_goals first | (cases e; exact h.s) | (cases e)
theorem gs_alike {n_ : Nat} {S : Row} {a b : Int32} (h : RB n_ S) : GS n_ (s_alike a b S) := by
  intro v_ S_ e
  unfold s_alike fst at e
  all_goals (try split at e)
  all_goals (try split at e)
  all_goals (try split at e)
  all_goals first | (cases e; exact h.s) | (cases e)
theorem gs_swapFor {n_ : Nat} {S : Row} {p n : Int32} (h : RB n_ S) : GS n_ (s_swapFor p n S) := by
  intro v_ S_ e
  unfold s_swapFor at e
  all_goals (try split at e)
  all_goals (try split at e)
  all_goals (try split at e)
  all_goals first | (cases e; exact h.s) | (cases e)
theorem gs_out {n_ : Nat} {S : Row} {p n : Int32} (h : RB n_ S) : GS n_ (s_out p n S) := by
  intro v_ S_ e
  unfold s_out at e
  all_goals (try split at e)
  all_goals (try split at e)
  all_goals (try split at e)
  all_goals first | (cases e; exact h.s) | (cases e)
theorem gs_as {n_ : Nat} {S : Row} {s k : Int32} (h : RB n_ S) : GS n_ (s_as s k S) := by
  intro v_ S_ e
  unfold s_as at e
  all_goals (try split at e)
  all_goals (try split at e)
  all_goals (try split at e)
  all_goals first | (cases e; exact h.s) | (cases e)
theorem gs_best {n_ W : Nat} {S : Row} {m p n : Int32} (h : RB n_ S) : GS n_ (s_best W m p n S) := by
  intro v_ S_ e
  unfold s_best at e
  split at e
  · cases e; exact h.s
  · cases e
theorem RB_u {n : Nat} {S S' : Row} (h : RB n S) (h1 : SI S') (h2 : S' 1 = S 1) : RB (n + 1) S' := ⟨h1, by rw [h2]; exact h.s.2⟩
theorem gs_word {n_ : Nat} {S : Row} {p k v : Int32} (h : RB n_ S) : GS n_ (s_word p k v S) := by
  intro v_ S_ e
  unfold s_word at e
  split at e
  · rename_i c
    obtain ⟨c1, c2⟩ := and_tt c
    obtain ⟨c3, c4⟩ := and_tt c1
    obtain ⟨P, hP, rfl⟩ := inr_nat (n := 5) (by decide) c3
    obtain ⟨K, hK, rfl⟩ := inr_nat (n := 7) (by decide) c4
    obtain ⟨V, hV, rfl⟩ := inr_nat (n := 9) (by decide) c2
    cases e
    rw [cl_nI (by omega), cl_nI (by omega)]
    exact RB_u h (SI_wd (i := 8 * P + K) h.1 (by omega) hV) (upd_n (by omega))
  · cases e
theorem gs_copied {n_ : Nat} {S : Row} {a b : Int32} (h : RB n_ S) : GS n_ (s_copied a b S) := by
  intro v_ S_ e
  unfold s_copied at e
  split at e
  · rename_i c
    obtain ⟨c1, c2⟩ := and_tt c
    obtain ⟨A, hA, rfl⟩ := inr_nat (n := 5) (by decide) c1
    obtain ⟨B, hB, rfl⟩ := inr_nat (n := 5) (by decide) c2
    cases e
    rw [cl_nI (by omega), cl_nI (by omega)]
    exact RB_u h (SI_cpg h.1 (by omega) (by omega)) (if_neg (by omega))
  · cases e
theorem gs_moth {n_ : Nat} {S : Row} {k p : Int32} (h : RB n_ S) : GS n_ (s_moth k p S) := by
  intro v_ S_ e
  unfold s_moth at e
  split at e
  · rename_i c
    obtain ⟨c1, c2⟩ := and_tt c
    obtain ⟨K, hK, rfl⟩ := inr_nat (n := 6) (by decide) c1
    obtain ⟨P, hP, rfl⟩ := inr_nat (n := 5) (by decide) c2
    split at e
    · cases e
    · rename_i c8
      cases e
      obtain ⟨m8, m0⟩ := SI_cl0 h.1
      have hM : cl (S 0) < 8 := by
        rcases Nat.lt_or_eq_of_le m8 with q | q
        · exact q
        · exact absurd (by rw [m0, q]; decide) c8
      refine RB_u h (SI_addm h.1 hM hK hP) ?_
      unfold addm
      rw [upd_n (by omega), upd_n (by omega), upd_n (by omega), upd_n (by omega), upd_n (by omega)]
  · cases e
theorem kb_v : ∀ W, W < 4 → ∀ v, inr v (kLeast.getD W 0) (kMost.getD W 0) = true → ∃ V, V ≤ mx4 W ∧ v = nI V := by
  intro W hW v h
  match W, hW with
  | 0, _ => exact inr_nat (n := 6) (by decide) h
  | 1, _ => exact inr_nat (n := 5) (by decide) h
  | 2, _ => obtain ⟨k, -, a, b⟩ := inr_1 (n := 9) (by decide) h; exact ⟨k, a, b⟩
  | 3, _ => exact inr_nat (n := 9999) (by decide) h
theorem gs_change {n_ : Nat} {S : Row} {m w v : Int32} (h : RB n_ S) : GS n_ (s_change m w v S) := by
  intro v_ S_ e
  unfold s_change at e
  split at e
  · rename_i c
    obtain ⟨c1, c2⟩ := and_tt c
    obtain ⟨c3, c4⟩ := and_tt c1
    obtain ⟨M, m8, m0⟩ := h.1.1
    obtain ⟨j, hj, rfl⟩ := isM_nat m0 m8 c3
    obtain ⟨W, hW, rfl⟩ := inr_nat (n := 3) (by decide) c4
    rw [cl_nI (show W < 2 ^ 31 by omega)] at c2
    obtain ⟨V, hV, rfl⟩ := kb_v W (by omega) v c2
    cases e
    rw [cl_nI (show j < 2 ^ 31 by omega), cl_nI (show W < 2 ^ 31 by omega)]
    exact RB_u h (SI_tr h.1 (by omega) (by omega) hV) (upd_n (by omega))
  · cases e
theorem gs_go {n_ : Nat} {S : Row} {n : Int32} (h : RB n_ S) : GS n_ (s_go n S) := by
  intro v_ S_ e
  unfold s_go at e
  split at e
  · rename_i c
    obtain ⟨N, -, hN, rfl⟩ := inr_1 (n := 60) (by decide) c
    cases e
    rw [cl_nI (by omega)]
    obtain ⟨h1, T, h2, h3⟩ := h
    exact ⟨ngs_SI h1, T + N, by omega, ngs_1 h3⟩
  · cases e
theorem gs_lights {n_ : Nat} {S : Row} {n : Int32} (h : RB n_ S) : GS n_ (s_lights n S) := by
  intro v_ S_ e
  unfold s_lights at e
  split at e
  · rename_i c
    obtain ⟨N, -, hN, rfl⟩ := inr_1 (n := 20) (by decide) c
    cases e
    rw [cl_nI (by omega)]
    obtain ⟨h1, T, h2, h3⟩ := h
    exact ⟨lts_SI h1, T + N, by omega, lts_1 h3⟩
  · cases e
theorem gs_seed {n_ : Nat} {S : Row} {v : Int32} (h : RB n_ S) : GS n_ (s_seed v S) := by
  intro v_ S_ e
  unfold s_seed at e
  cases e
  exact RB_u h (SI_upd h.1 (Or.inr rfl)) (upd_n (by decide))
theorem gs_hold {n_ : Nat} {S : Row} {s m : Int32} (h : RB n_ S) : GS n_ (s_hold s m S) := by
  intro v_ S_ e
  unfold s_hold at e
  split at e
  · rename_i c
    obtain ⟨c1, c2⟩ := and_tt c
    obtain ⟨Q, hQ, rfl⟩ := inr_nat (n := 9) (by decide) c1
    cases e
    rw [cl_nI (by omega)]
    refine RB_u h (SI_sp h.1 (by omega) ?_) (upd_n (by omega))
    by_cases z : m = -1
    · exact Or.inl z
    · rw [decide_eq_false z, Bool.false_or] at c2
      obtain ⟨M, m8, m0⟩ := h.1.1
      obtain ⟨j, hj, e⟩ := isM_nat m0 m8 c2
      exact Or.inr ⟨j, by omega, e⟩
  · cases e
