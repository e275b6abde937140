/-! a text, item by item: the row that it tells and the token at hand -/
abbrev PS : Type := Row × Tk
def nx (B : Nat → Nat) (m : Nat) (t : Tk) : Tk := stp B m t.2.2.1
def nmk (B : Nat → Nat) (k : Nat) (t : Tk) : Bool := decide (t.1 = 1) && decide (t.2.2.1 - t.2.1 = sl k) && al (fun j => decide (B (t.2.1 + j) = cl (chr k j))) (sl k)
def okn (t : Tk) (lo hi : Nat) : Bool := decide (t.1 = 2) && decide (lo ≤ t.2.2.2) && decide (t.2.2.2 ≤ hi)
def p_tr (B : Nat → Nat) (m k W lo hi M : Nat) (s : PS) : Bool × PS :=
  if nmk B k s.2 then (if okn (nx B m s.2) lo hi then (true, (upd s.1 (51 + (4 * M + W)) (nI (nx B m s.2).2.2.2), nx B m (nx B m s.2))) else (false, (s.1, nx B m s.2))) else (true, s)
def andp (r : Bool × PS) (f : PS → Bool × PS) : Bool × PS := if r.1 then f r.2 else r
def p_moth (B : Nat → Nat) (m K : Nat) (s : PS) : Bool × PS :=
  if 8 ≤ cl (s.1 0) then (false, s) else
  andp (andp (p_tr B m 2 1 0 5 (cl (s.1 0)) (addm s.1 (cl (s.1 0)) (nI K) 0, nx B m s.2)) (p_tr B m 3 2 1 9 (cl (s.1 0)))) (p_tr B m 4 3 0 999 (cl (s.1 0)))
def p_bare (B : Nat → Nat) (m : Nat) (s : PS) : Bool × PS :=
  if okn (nx B m s.2) 0 5 then (true, (hol s.1 (nx B m s.2).2.2.2 8, nx B m (nx B m s.2))) else (false, (s.1, nx B m s.2))
def p_wds (B : Nat → Nat) (m P : Nat) : Nat → Nat → PS → Bool × PS
  | _, 0, s => (true, s)
  | k, n + 1, s => if decide (0 < k) && decide (¬ s.2.1 = 2) then (true, s) else if okn s.2 0 9 then p_wds B m P (k + 1) n (upd s.1 (3 + (8 * P + k)) (nI s.2.2.2.2), nx B m s.2) else (false, s)
def p_page (B : Nat → Nat) (m : Nat) (s : PS) : Bool × PS := andp (p_bare B m s) (p_wds B m (nx B m s.2).2.2.2 0 8)
def p_kin (B : Nat → Nat) (m : Nat) : Nat → Nat → PS → Bool × PS
  | _, 0, s => (false, s)
  | k, n + 1, s => if nmk B (5 + k) s.2 then p_moth B m k s else p_kin B m (k + 1) n s
def p_item (B : Nat → Nat) (m : Nat) (s : PS) : Bool × PS := if nmk B 0 s.2 then p_page B m s else if nmk B 1 s.2 then p_bare B m s else p_kin B m 0 7 s
/-- the items from the i-th on, n of them at most -/
def p_txt (B : Nat → Nat) (m : Nat) : Nat → Nat → PS → Bool × Nat × PS
  | i, 0, s => (false, i, s)
  | i, n + 1, s => if (p_item B m s).1 then (if (p_item B m s).2.2.1 = 0 then (true, i, (p_item B m s).2) else if (p_item B m s).2.2.1 = 3 then p_txt B m (i + 1) n ((p_item B m s).2.1, nx B m (p_item B m s).2.2) else (false, i, (p_item B m s).2)) else (false, i, (p_item B m s).2)
/-- a token that may stand -/
def TOK (B : Nat → Nat) (m : Nat) (t : Tk) : Prop := t.2.1 ≤ t.2.2.1 ∧ t.2.2.1 ≤ m ∧ t.1 ≤ 4 ∧ (t.1 ≠ 0 → t.2.1 < t.2.2.1) ∧ t.2.2.2 < 10000
theorem stp_v {B : Nat → Nat} {m e : Nat} (h : e ≤ m) : (stp B m e).2.2.2 < 10000 := by
  unfold stp
  by_cases a : tkB B m e < tkL B m (tkB B m e)
  · rw [if_pos a]; simp only; omega
  · rw [if_neg a]
    by_cases b : tkB B m e < tkD B m (tkB B m e)
    · rw [if_pos b]
      refine vfo_lt (fun i hi => ?_)
      have := cnt_all (p := fun i => isDg (B i)) (n := m - tkB B m e) (k := tkB B m e) (j := tkB B m e + i) (by omega) (by unfold tkD at hi b; omega)
      exact (of_decide_eq_true this).2
    · rw [if_neg b]
      by_cases c : tkB B m e = m
      · rw [if_pos c]; simp only; omega
      · rw [if_neg c]; simp only; omega
theorem nx_TOK {B : Nat → Nat} {m : Nat} {t : Tk} (h : TOK B m t) : TOK B m (nx B m t) ∧ t.2.2.1 ≤ (nx B m t).2.1 := by
  have := stp_le (B := B) h.2.1
  exact ⟨⟨this.2.1, this.2.2.1, this.2.2.2.1, this.2.2.2.2, stp_v h.2.1⟩, this.1⟩
theorem stp_TOK {B : Nat → Nat} {m e : Nat} (h : e ≤ m) : TOK B m (stp B m e) := by
  have := stp_le (B := B) h
  exact ⟨this.2.1, this.2.2.1, this.2.2.2.1, this.2.2.2.2, stp_v h⟩
theorem chr_nI : ∀ i, i < 12 → ∀ j, j < sl i → chr i j = nI (cl (chr i j)) ∧ cl (chr i j) < 128 := by decide +kernel
/-! memory with the row and the token at hand -/
abbrev MM2 (g : Mem) (R U : Row) : Mem := ub (ub g 2 R) 4 U
theorem mm2 {g : Mem} {R U : Row} : MM2 g R U 2 = R := by show ub (ub g 2 R) 4 U 2 = R; rw [ub_n (by decide), ub_s]
theorem mm4 {g : Mem} {R U : Row} : MM2 g R U 4 = U := ub_s
theorem mm5 {g : Mem} {R U : Row} : MM2 g R U 5 = g 5 := by show ub (ub g 2 R) 4 U 5 = g 5; rw [ub_n (by decide), ub_n (by decide)]
theorem mm_4 {g : Mem} {R U U' : Row} : ub (MM2 g R U) 4 U' = MM2 g R U' := ub_ub
theorem mm_2 {g : Mem} {R U R' : Row} : ub (MM2 g R U) 2 R' = MM2 g R' U := by
  show ub (ub (ub g 2 R) 4 U) 2 R' = ub (ub g 2 R') 4 U
  rw [ub_comm (b := 4) (c := 2) (by decide), ub_ub]
theorem mm_id {g : Mem} : MM2 g (g 2) (g 4) = g := by show ub (ub g 2 (g 2)) 4 (g 4) = g; rw [ub_id, ub_id]
/-- what a parsing method ends with -/
def PE (g : Mem) (m : Nat) (s : PS) (g' : Mem) : Prop := ∃ U, g' = MM2 g s.1 U ∧ TKS U m s.2
