/-! numbers -/
theorem nI_inc (n : Nat) : nI n + Int32.ofInt 1 = nI (n + 1) := (nI_succ n).symm
theorem nI_dec (n : Nat) : nI (n + 1) + Int32.ofInt (-1) = nI n := pk_m1 n
theorem lc_0 : Int64.ofNat ((0 : Fin 2) : Nat) = 0 := by decide
theorem lc_1 : Int64.ofNat ((1 : Fin 2) : Nat) = 1 := by decide
theorem ix_w (P K : Nat) : nI P * 8 + nI K = nI (8 * P + K) := by
  show nI P * nI 8 + nI K = _
  rw [pk_mul, nI_add, Nat.mul_comm]
theorem ix_b (P : Nat) : nI P * 8 = nI (8 * P) := by
  show nI P * nI 8 = _
  rw [pk_mul, Nat.mul_comm]
theorem ix_t (M W : Nat) : nI M * 4 + nI W = nI (4 * M + W) := by
  show nI M * nI 4 + nI W = _
  rw [pk_mul, nI_add, Nat.mul_comm]
/-- 51 + 4 * m + w, as the reference has it -/
theorem ix_at (M W : Nat) : 51 + 4 * nI M + nI W = nI (51 + (4 * M + W)) := by
  show nI 51 + nI 4 * nI M + nI W = _
  rw [pk_mul, nI_add, nI_add, Nat.add_assoc]
theorem ix_wa (P K : Nat) : 3 + 8 * nI P + nI K = nI (3 + (8 * P + K)) := by
  show nI 3 + nI 8 * nI P + nI K = _
  rw [pk_mul, nI_add, nI_add, Nat.add_assoc]
/-- what lies between -/
def inr (x lo hi : Int32) : Bool := decide (lo ≤ x ∧ x ≤ hi)
def bi (b : Bool) : Int32 := if b then 1 else 0
theorem bi_t : bi true = 1 := rfl
theorem bi_f : bi false = 0 := rfl
theorem bi_0 {b : Bool} (h : bi b = 0) : b = false := by
  cases b with
  | true => exact absurd h (by decide)
  | false => rfl
theorem bi_n {b : Bool} (h : ¬ bi b = 0) : b = true := by
  cases b with
  | false => exact absurd rfl h
  | true => rfl
theorem inr_nat {x : Int32} {n : Nat} (hn : n < 2 ^ 31) (h : inr x 0 (nI n) = true) : ∃ k, k ≤ n ∧ x = nI k := by
  obtain ⟨h1, h2⟩ := of_decide_eq_true h
  rcases pk_ix x (n := n + 1 - 1 + 0) (by omega) with q | q | ⟨j, q1, q2⟩
  · exact absurd h1 (by intro z; exact absurd q (Int32.not_lt.mpr z))
  · have : x = nI n := by
      have q : nI n ≤ x := by simpa using q
      exact Int32.le_antisymm h2 q
    exact ⟨n, Nat.le_refl _, this⟩
  · exact ⟨j, by omega, q2⟩
theorem inr_nI {k n : Nat} (h : k ≤ n) (hn : n < 2 ^ 31) : inr (nI k) 0 (nI n) = true := decide_eq_true ⟨nI_pos' (by omega), nI_le h hn⟩
/-! the row of an image: N, NIGHT, Z, words from 3 on, moths from 51 on, spots from 83 on -/
abbrev Row : Type := Nat → Int32
def wd (S : Row) (p k : Nat) : Int32 := S (3 + (8 * p + k))
def tr (S : Row) (m w : Nat) : Int32 := S (51 + (4 * m + w))
abbrev cl (x : Int32) : Nat := x.toNatClampNeg
/-- the first place, from k on, n of them -/
def ff (p : Nat → Bool) : Nat → Nat → Int32
  | _, 0 => -1
  | k, n + 1 => if p k then nI k else ff p (k + 1) n
/-- the last place below n -/
def lf (p : Nat → Bool) : Nat → Int32
  | 0 => -1
  | n + 1 => if p n then nI n else lf p n
theorem ff_or {p : Nat → Bool} {k n : Nat} : ff p k n = -1 ∨ ∃ j, k ≤ j ∧ j < k + n ∧ ff p k n = nI j ∧ p j = true := by
  induction n generalizing k with
  | zero => exact Or.inl rfl
  | succ n ih =>
    by_cases h : p k = true
    · exact Or.inr ⟨k, Nat.le_refl _, by omega, by simp [ff, h], h⟩
    · rcases ih (k := k + 1) with q | ⟨j, q1, q2, q3, q4⟩
      · exact Or.inl (by simp [ff, h, q])
      · exact Or.inr ⟨j, by omega, by omega, by simp [ff, h, q3], q4⟩
theorem lf_or {p : Nat → Bool} {n : Nat} : lf p n = -1 ∨ ∃ j, j < n ∧ lf p n = nI j ∧ p j = true := by
  induction n with
  | zero => exact Or.inl rfl
  | succ n ih =>
    by_cases h : p n = true
    · exact Or.inr ⟨n, by omega, by simp [lf, h], h⟩
    · rcases ih with q | ⟨j, q1, q2, q3⟩
      · exact Or.inl (by simp [lf, h, q])
      · exact Or.inr ⟨j, by omega, by simp [lf, h, q2], q3⟩
def rm2 (x : Int32) : Int32 := x - x / 2 * 2
def pL (S : Row) (p : Nat) (t : Int32) : Nat → Bool := fun k => decide (wd S p k = t)
def pW (S : Row) (p : Nat) : Nat → Bool := fun k => decide (¬ wd S p k = 0)
def pP (S : Row) (p : Nat) (t : Int32) : Nat → Bool := fun k => decide (¬ wd S p k = 0 ∧ rm2 (wd S p k) = rm2 t)
/-- what a page says, of its first n places -/
def ss (S : Row) (p : Nat) : Nat → Int32
  | 0 => 0
  | n + 1 => ss S p n + wd S p n * nI (n + 1)
/-- the set of places of which p holds, of the first n -/
def bs (p : Nat → Bool) : Nat → Int32
  | 0 => 0
  | n + 1 => if p n then bs p n ||| (1 <<< (nI n &&& 31)) else bs p n
/-- how many of the first n -/
def ct (p : Nat → Bool) : Nat → Nat
  | 0 => 0
  | n + 1 => if p n then ct p n + 1 else ct p n
theorem tw_min : Cond.static Lib.Math.min.name ∈ TBL ∧ Cond.initialized "java/lang/Math" ∈ TBL ∧ Cond.code Lib.Math.min.name Lib.Math.min.code 2 (some .int) ∈ TBL := ⟨ms_J9_min_7cf53.2.1, ti_J9, tc_J9_min_7cf53⟩
theorem tw_max : Cond.static Lib.Math.max.name ∈ TBL ∧ Cond.initialized "java/lang/Math" ∈ TBL ∧ Cond.code Lib.Math.max.name Lib.Math.max.code 2 (some .int) ∈ TBL := ⟨ms_J9_max_7cf53.2.1, ti_J9, tc_J9_max_7cf53⟩
