/-! the same but for scratch cells: trial, eve, the tapes' tokens, before, aside, words -/
def SC (g h : Mem) : Prop := (∀ b, b ≠ 2 → b ≠ 3 → b ≠ 4 → b ≠ 14 → b ≠ 15 → b ≠ 21 → b ≠ 22 → g b = h b) ∧ g 4 0 = h 4 0 ∧ g 22 0 = h 22 0 ∧ g 22 1 = h 22 1
theorem SC.rfl {g : Mem} : SC g g := ⟨fun _ _ _ _ _ _ _ _ => Eq.refl _, Eq.refl _, Eq.refl _, Eq.refl _⟩
theorem SC.symm {g h : Mem} (q : SC g h) : SC h g := ⟨fun b h1 h2 h3 h4 h5 h6 h7 => (q.1 b h1 h2 h3 h4 h5 h6 h7).symm, q.2.1.symm, q.2.2.1.symm, q.2.2.2.symm⟩
theorem SC.trans {g h k : Mem} (p : SC g h) (q : SC h k) : SC g k := ⟨fun b h1 h2 h3 h4 h5 h6 h7 => (p.1 b h1 h2 h3 h4 h5 h6 h7).trans (q.1 b h1 h2 h3 h4 h5 h6 h7), p.2.1.trans q.2.1, p.2.2.1.trans q.2.2.1, p.2.2.2.trans q.2.2.2⟩
theorem SC.ubb {g h : Mem} {b : Nat} {S : Row} (q : SC g h) : SC (ub g b S) (ub h b S) := by
  have k : ∀ b', g b' = h b' → ub g b S b' = ub h b S b' := fun b' e => by
    by_cases hb : b' = b
    · subst hb; rw [ub_s, ub_s]
    · rw [ub_n hb, ub_n hb, e]
  have k' : ∀ b' i, g b' i = h b' i → ub g b S b' i = ub h b S b' i := fun b' i e => by
    by_cases hb : b' = b
    · subst hb; rw [ub_s, ub_s]
    · rw [ub_n hb, ub_n hb, e]
  exact ⟨fun b' h1 h2 h3 h4 h5 h6 h7 => k b' (q.1 b' h1 h2 h3 h4 h5 h6 h7), k' _ _ q.2.1, k' _ _ q.2.2.1, k' _ _ q.2.2.2⟩
theorem SC_ub {g : Mem} {b : Nat} {T : Row} (hb : b = 2 ∨ b = 3 ∨ b = 14 ∨ b = 15 ∨ b = 21) : SC (ub g b T) g := by
  refine ⟨fun b' h1 h2 h3 h4 h5 h6 h7 => ub_n (by omega), ?_, ?_, ?_⟩
  · rw [ub_n (by omega)]
  · rw [ub_n (by omega)]
  · rw [ub_n (by omega)]
/-! answers: a finding, or a number and the row behind it -/
abbrev Ans : Type := Nat ⊕ (Int32 × Row)
def nLOW (f : Nat) : Int32 := -1000001 - nI f
def FX (g : Mem) (f : Nat) : Mem := ub g 10 (upd (g 10) f (g 10 f + 1))
def FM (g : Mem) (f : Nat) : Mem := ub g 16 (upd (upd (g 16) 0 (g 16 0 + 1)) (f + 1) (g 16 (f + 1) + 1))
def cpX (o : Ans) (g : Mem) (r : Int32) (g' : Mem) : Prop := match o with
  | .inl f => f < 7 ∧ r = nLOW f ∧ SC g' (FX g f)
  | .inr (v, S) => r = v ∧ SC g' (ub g 0 S)
def cpM (o : Ans) (g : Mem) (r : Int32) (g' : Mem) : Prop := match o with
  | .inl f => f < 7 ∧ r = nLOW f ∧ SC g' (FM g f)
  | .inr (v, S) => r = v ∧ SC g' (ub g 12 S)
theorem cpX_f {o : Ans} {g g' : Mem} {r : Int32} {f : Nat} (ho : o = .inl f) (hf : f < 7) (hr : r = nLOW f) (hg : SC g' (FX g f)) : cpX o g r g' := by subst ho; exact ⟨hf, hr, hg⟩
theorem cpX_r {o : Ans} {g g' : Mem} {r v : Int32} {S : Row} (ho : o = .inr (v, S)) (hr : r = v) (hg : SC g' (ub g 0 S)) : cpX o g r g' := by subst ho; exact ⟨hr, hg⟩
theorem cpX_q {o : Ans} {g g' : Mem} {r v : Int32} (ho : o = .inr (v, g 0)) (hr : r = v) (hg : SC g' g) : cpX o g r g' := by subst ho; exact ⟨hr, by rw [ub_id]; exact hg⟩
theorem cpM_f {o : Ans} {g g' : Mem} {r : Int32} {f : Nat} (ho : o = .inl f) (hf : f < 7) (hr : r = nLOW f) (hg : SC g' (FM g f)) : cpM o g r g' := by subst ho; exact ⟨hf, hr, hg⟩
theorem cpM_r {o : Ans} {g g' : Mem} {r v : Int32} {S : Row} (ho : o = .inr (v, S)) (hr : r = v) (hg : SC g' (ub g 12 S)) : cpM o g r g' := by subst ho; exact ⟨hr, hg⟩
theorem cpM_q {o : Ans} {g g' : Mem} {r v : Int32} (ho : o = .inr (v, g 12)) (hr : r = v) (hg : SC g' g) : cpM o g r g' := by subst ho; exact ⟨hr, by rw [ub_id]; exact hg⟩
theorem FX_SC {g h : Mem} {f : Nat} (q : SC g h) : SC (FX g f) (FX h f) := by
  unfold FX
  rw [q.1 10 (by decide) (by decide) (by decide) (by decide) (by decide) (by decide) (by decide)]
  exact q.ubb
theorem FM_SC {g h : Mem} {f : Nat} (q : SC g h) : SC (FM g f) (FM h f) := by
  unfold FM
  rw [q.1 16 (by decide) (by decide) (by decide) (by decide) (by decide) (by decide) (by decide)]
  exact q.ubb
/-! what the calls answer -/
def isM (S : Row) (m : Int32) : Bool := inr m 0 (S 0 - 1)
def s_word (p k v : Int32) (S : Row) : Ans := if inr p 0 5 && inr k 0 7 && inr v 0 9 then .inr (wd S (cl p) (cl k), upd S (3 + (8 * cl p + cl k)) v) else .inl 0
def s_reads (p k : Int32) (S : Row) : Ans := if inr p 0 5 && inr k 0 7 then .inr (wd S (cl p) (cl k), S) else .inl 0
def pg (S : Row) (P W : Nat) : Int32 := if W = 0 then ss S P 8 else if W = 1 then nI (hp S P) else if W = 2 then bs (fun m => decide (tr S m 1 = nI P)) (cl (S 0)) else bs (pW S P) 8
def s_page (p w : Int32) (S : Row) : Ans := if inr p 0 5 && inr w 0 3 then .inr (pg S (cl p) (cl w), S) else .inl 0
def s_copied (a b : Int32) (S : Row) : Ans := if inr a 0 5 && inr b 0 5 then .inr (nI (ct (pU S (cl a) (cl b)) 8), cpg S (cl a) (cl b)) else .inl 0
def s_moth (k p : Int32) (S : Row) : Ans := if inr k 0 6 && inr p 0 5 then (if 8 ≤ S 0 then .inl 1 else .inr (S 0, addm S (cl (S 0)) k p)) else .inl 0
def s_of (m w : Int32) (S : Row) : Ans := if isM S m && inr w 0 4 then .inr (if w = 4 then bS S (cl m) else tr S (cl m) (cl w), S) else .inl 0
def s_change (m w v : Int32) (S : Row) : Ans := if isM S m && inr w 0 3 && inr v (kLeast.getD (cl w) 0) (kMost.getD (cl w) 0) then .inr (tr S (cl m) (cl w), upd S (51 + (4 * cl m + cl w)) v) else .inl 0
def s_leaves (m x w : Int32) (S : Row) : Ans := if isM S m && inr x 1 9 && inr w 0 1 then .inr (if w = 0 then lv (cl (tr S (cl m) 0)) x else gn (cl (tr S (cl m) 0)) x, S) else .inl 0
def hAll (S : Row) : Int32 := nI (sumN (hp S) 6)
def s_go (n : Int32) (S : Row) : Ans := if inr n 1 60 then .inr (hAll (ngs S 0 (cl n)), ngs S 0 (cl n)) else .inl 0
def nw (S : Row) (W : Nat) : Int32 := if W = 0 then S 1 else if W = 1 then hAll S else if W = 2 then sI (fun p => ss S p 8) 6 else if W = 3 then sI (fun m => tr S m 3) (cl (S 0)) else if W = 4 then bs (fun m => decide (bS S m = -1)) (cl (S 0)) else bs (bare S) 6
def s_now (w : Int32) (S : Row) : Ans := if inr w 0 5 then .inr (nw S (cl w), S) else .inl 0
def s_ahead (p k n : Int32) (S : Row) : Ans := if inr p 0 5 && inr k 0 7 && inr n 0 100 then .inr (wd (ngs S 0 (cl n)) (cl p) (cl k), S) else .inl 0
def s_says (p n : Int32) (S : Row) : Ans := if inr p 0 5 && inr n 0 100 then .inr (ss (ngs S 0 (cl n)) (cl p) 8, S) else .inl 0
def s_fed (m n : Int32) (S : Row) : Ans := if isM S m && inr n 0 100 then .inr (tr (ngs S 0 (cl n)) (cl m) 3, S) else .inl 0
/-- the first night of which p holds, up to the 200th -/
def fst (p : Nat → Bool) (S : Row) : Ans := if ff p 0 201 = -1 then .inl 3 else .inr (ff p 0 201, S)
def s_bare (p : Int32) (S : Row) : Ans := if inr p 0 5 then fst (fun n => bare (ngs S 0 n) (cl p)) S else .inl 0
def s_when (p v : Int32) (S : Row) : Ans := if inr p 0 5 && inr v 0 324 then fst (fun n => decide (ss (ngs S 0 n) (cl p) 8 = v)) S else .inl 0
def sam (S T : Row) : Bool := al (fun p => al (pE S T p) 8) 6
def s_settles (S : Row) : Ans := fst (fun n => sam (ngs S 0 (n + 1)) (ngs S 0 n)) S
def s_alike (a b : Int32) (S : Row) : Ans := if inr a 0 5 && inr b 0 5 && decide (¬ a = b) then fst (fun n => decide (ct (pU (ngs S 0 n) (cl a) (cl b)) 8 = 0)) S else .inl 0
/-- the best of k numbers from lo on, and what is most -/
def bst (f : Nat → Int32) (lo : Nat) : Nat → Int32 × Int32
  | 0 => (nI lo, -1)
  | k + 1 => if (bst f lo k).2 < f (lo + k) then (nI (lo + k), f (lo + k)) else bst f lo k
def fB (S : Row) (M W P N : Nat) (v : Nat) : Int32 := ss (ngs (upd S (51 + (4 * M + W)) (nI v)) 0 N) P 8
def lo3 (W : Nat) : Nat := [0, 0, 1].getD W 0
def hi3 (W : Nat) : Nat := [6, 5, 9].getD W 0
def s_best (W : Nat) (m p n : Int32) (S : Row) : Ans := if isM S m && inr p 0 5 && inr n 0 40 then .inr ((bst (fB S (cl m) W (cl p) (cl n)) (lo3 W) (hi3 W + 1 - lo3 W)).1, S) else .inl 0
/-- pairs a < b, b the k next behind a, from (best, most) on -/
def swb (S : Row) (P N a : Nat) (x : Int32 × Int32) : Nat → Int32 × Int32
  | 0 => x
  | k + 1 => if (swb S P N a x k).2 < ss (ngs (swp S a (a + 1 + k)) 0 N) P 8 then (nI (8 * a + (a + 1 + k)), ss (ngs (swp S a (a + 1 + k)) 0 N) P 8) else swb S P N a x k
def sws (S : Row) (P N M : Nat) (x : Int32 × Int32) : Nat → Int32 × Int32
  | 0 => x
  | a + 1 => swb S P N a (sws S P N M x a) (M - (a + 1))
def s_swapFor (p n : Int32) (S : Row) : Ans := if inr p 0 5 && inr n 0 40 then (if S 0 < 2 then .inl 3 else .inr ((sws S (cl p) (cl n) (cl (S 0)) (0, -1) (cl (S 0))).1, S)) else .inl 0
def lts (S : Row) : Nat → Row
  | 0 => S
  | k + 1 => ng (lgt (lts S k)) 0
def s_lights (n : Int32) (S : Row) : Ans := if inr n 1 20 then .inr (hAll (lts S (cl n)), lts S (cl n)) else .inl 0
def s_seed (v : Int32) (S : Row) : Ans := .inr (S 2, upd S 2 v)
def s_hold (s m : Int32) (S : Row) : Ans := if inr s 0 9 && (decide (m = -1) || isM S m) then .inr (1, upd S (83 + cl s) m) else .inl 0
def s_as (s k : Int32) (S : Row) : Ans := if inr s 0 9 && inr k 0 6 then (if S (83 + cl s) = -1 then .inl 5 else if isk (cl (tr S (cl (S (83 + cl s))) 0)) (cl k) then .inr (S (83 + cl s), S) else .inl 2) else .inl 0
/-! moths that there are -/
theorem isM_nat {S : Row} {M : Nat} (h : S 0 = nI M) (hM : M ≤ 8) {m : Int32} (q : isM S m = true) : ∃ j, j < M ∧ m = nI j := by
  unfold isM at q
  rw [h] at q
  cases M with
  | zero =>
    obtain ⟨h1, h2⟩ := of_decide_eq_true q
    exact absurd (Int32.le_trans h1 h2) (by decide)
  | succ M =>
    rw [nI_pred] at q
    obtain ⟨j, hj, e⟩ := inr_nat (by omega) q
    exact ⟨j, by omega, e⟩
theorem isM_of {S : Row} {M j : Nat} (h : S 0 = nI M) (hM : M ≤ 8) (hj : j < M) : isM S (nI j) = true := by
  unfold isM
  rw [h]
  cases M with
  | zero => omega
  | succ M => rw [nI_pred]; exact inr_nI (by omega) (by omega)
/-- the reference asks so -/
theorem isM_iff {S : Row} {M : Nat} (h : S 0 = nI M) (hM : M ≤ 8) (m : Int32) : isM S m = decide (0 ≤ m ∧ m < S 0) := by
  by_cases q : isM S m = true
  · obtain ⟨j, hj, rfl⟩ := isM_nat h hM q
    rw [q, h]
    exact (decide_eq_true ⟨nI_pos' (by omega), nI_lt hj (by omega)⟩).symm
  · rw [Bool.not_eq_true] at q
    rw [q]
    symm
    apply decide_eq_false
    rintro ⟨h1, h2⟩
    rw [h] at h2
    rcases pk_ix m (n := M) (by omega) with z | z | ⟨j, z1, rfl⟩
    · exact absurd z (Int32.not_lt.mpr h1)
    · exact absurd h2 (Int32.not_lt.mpr z)
    · rw [isM_of h hM z1] at q; cases q
theorem inr_1 {x : Int32} {n : Nat} (hn : n < 2 ^ 31) (h : inr x 1 (nI n) = true) : ∃ k, 1 ≤ k ∧ k ≤ n ∧ x = nI k := by
  obtain ⟨h1, h2⟩ := of_decide_eq_true h
  obtain ⟨k, hk, rfl⟩ := inr_nat hn (decide_eq_true ⟨Int32.le_trans (by decide) h1, h2⟩)
  refine ⟨k, ?_, hk, rfl⟩
  cases k with
  | zero => exact absurd h1 (by decide)
  | succ k => omega
