/-! tokens of a tape of m bytes B -/
abbrev Tk : Type := Nat × Nat × Nat × Nat
def sg (c : Nat) : Int32 := if c < 128 then nI c else nI c - 256
def isLt (c : Nat) : Bool := decide (97 ≤ c ∧ c ≤ 122)
def isDg (c : Nat) : Bool := decide (48 ≤ c ∧ c ≤ 57)
theorem sg_eq : ∀ c, c < 256 → ∀ d, d < 128 → ((sg c = nI d) ↔ c = d) := by decide +kernel
theorem sg_lt : ∀ c, c < 256 → ((¬ sg c < 97 ∧ ¬ 122 < sg c) ↔ isLt c = true) := by decide +kernel
theorem sg_dg : ∀ c, c < 256 → ((¬ sg c < 48 ∧ ¬ 57 < sg c) ↔ isDg c = true) := by decide +kernel
theorem sg_va : ∀ c, c < 256 → isDg c = true → sg c = nI c := by decide +kernel
def tkB (B : Nat → Nat) (m e : Nat) : Nat := cnt (fun i => decide (B i = 32)) e (m - e)
def tkL (B : Nat → Nat) (m b : Nat) : Nat := cnt (fun i => isLt (B i)) b (m - b)
def tkD (B : Nat → Nat) (m b : Nat) : Nat := cnt (fun i => isDg (B i)) b (m - b)
def vfo (B : Nat → Nat) (b : Nat) : Nat → Nat
  | 0 => 0
  | n + 1 => if vfo B b n < 1000 then 10 * vfo B b n + (B (b + n) - 48) else vfo B b n
def stp (B : Nat → Nat) (m e : Nat) : Tk :=
  if tkB B m e < tkL B m (tkB B m e) then (1, tkB B m e, tkL B m (tkB B m e), 0) else
  if tkB B m e < tkD B m (tkB B m e) then (2, tkB B m e, tkD B m (tkB B m e), vfo B (tkB B m e) (tkD B m (tkB B m e) - tkB B m e)) else
  if tkB B m e = m then (0, tkB B m e, tkB B m e, 0) else (if B (tkB B m e) = 59 then 3 else 4, tkB B m e, tkB B m e + 1, 0)
theorem vfo_lt {B : Nat → Nat} {b : Nat} : ∀ {n : Nat}, (∀ i, i < n → B (b + i) ≤ 57) → vfo B b n < 10000 := by
  intro n
  induction n with
  | zero => intro _; show 0 < 10000; omega
  | succ n ih =>
    intro h
    unfold vfo
    have := ih (fun i hi => h i (by omega))
    have := h n (by omega)
    by_cases q : vfo B b n < 1000
    · rw [if_pos q]; omega
    · rw [if_neg q]; omega
/-- the tape's fields say this token -/
def TKS (U : Row) (m : Nat) (t : Tk) : Prop := U 0 = nI m ∧ U 1 = nI t.1 ∧ U 2 = nI t.2.1 ∧ U 3 = nI t.2.2.1 ∧ (t.1 = 2 → U 4 = nI t.2.2.2)
/-- the bytes -/
def BYT (R : Row) (B : Nat → Nat) (m : Nat) : Prop := m ≤ 120 ∧ ∀ i, i < m → B i < 256 ∧ R i = sg (B i)
theorem cnt_n2 {p : Nat → Bool} {a k z : Nat} {x : Nat} (h : x = cnt p k (z - k)) (hk : k < z) (hp : p k = true) : x = cnt p (k + 1) (z - (k + 1)) := by
  rw [h, show z - k = (z - (k + 1)) + 1 by omega]
  exact if_pos hp
theorem cnt_s2 {p : Nat → Bool} {k z x : Nat} (h : x = cnt p k (z - k)) (hk : k < z) (hp : ¬ p k = true) : x = k := by
  rw [h, show z - k = (z - (k + 1)) + 1 by omega]
  exact if_neg hp
theorem cnt_e2 {p : Nat → Bool} {k z x : Nat} (h : x = cnt p k (z - k)) (hk : z ≤ k) : x = k := by
  rw [h, show z - k = 0 by omega]; rfl
/-- what holds all along -/
theorem cnt_all {p : Nat → Bool} : ∀ {n k j : Nat}, k ≤ j → j < cnt p k n → p j = true := by
  intro n
  induction n with
  | zero => intro k j h1 h2; exact absurd h2 (by show ¬ j < k; omega)
  | succ n ih =>
    intro k j h1 h2
    unfold cnt at h2
    by_cases q : p k = true
    · rw [if_pos q] at h2
      by_cases e : j = k
      · subst e; exact q
      · exact ih (by omega) h2
    · rw [if_neg q] at h2; omega
theorem tkB_le {B : Nat → Nat} {m e : Nat} (h : e ≤ m) : e ≤ tkB B m e ∧ tkB B m e ≤ m := by
  have := cnt_le (p := fun i => decide (B i = 32)) (n := m - e) (k := e)
  unfold tkB; omega
theorem tkL_le {B : Nat → Nat} {m b : Nat} (h : b ≤ m) : b ≤ tkL B m b ∧ tkL B m b ≤ m := by
  have := cnt_le (p := fun i => isLt (B i)) (n := m - b) (k := b)
  unfold tkL; omega
theorem tkD_le {B : Nat → Nat} {m b : Nat} (h : b ≤ m) : b ≤ tkD B m b ∧ tkD B m b ≤ m := by
  have := cnt_le (p := fun i => isDg (B i)) (n := m - b) (k := b)
  unfold tkD; omega
theorem stp_le {B : Nat → Nat} {m e : Nat} (h : e ≤ m) : e ≤ (stp B m e).2.1 ∧ (stp B m e).2.1 ≤ (stp B m e).2.2.1 ∧ (stp B m e).2.2.1 ≤ m ∧ (stp B m e).1 ≤ 4 ∧ ((stp B m e).1 ≠ 0 → (stp B m e).2.1 < (stp B m e).2.2.1) := by
  have h1 := tkB_le (B := B) h
  have h2 := tkL_le (B := B) h1.2
  have h3 := tkD_le (B := B) h1.2
  unfold stp
  by_cases a : tkB B m e < tkL B m (tkB B m e)
  · rw [if_pos a]; simp only; omega
  · rw [if_neg a]
    by_cases b : tkB B m e < tkD B m (tkB B m e)
    · rw [if_pos b]; simp only; omega
    · rw [if_neg b]
      by_cases c : tkB B m e = m
      · rw [if_pos c]; simp only; omega
      · rw [if_neg c]
        by_cases d : B (tkB B m e) = 59
        · rw [if_pos d]; simp only; omega
        · rw [if_neg d]; simp only; omega
