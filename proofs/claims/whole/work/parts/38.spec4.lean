/-! answers of calls that reach beyond the row -/
abbrev AnM : Type := Nat ⊕ (Int32 × Mem)
def cgX (o : AnM) (g : Mem) (r : Int32) (g' : Mem) : Prop := match o with
  | .inl f => f < 7 ∧ r = nLOW f ∧ SC g' (FX g f)
  | .inr (v, h) => r = v ∧ SC g' h
def cgM (o : AnM) (g : Mem) (r : Int32) (g' : Mem) : Prop := match o with
  | .inl f => f < 7 ∧ r = nLOW f ∧ SC g' (FM g f)
  | .inr (v, h) => r = v ∧ SC g' h
theorem cgX_f {o : AnM} {g g' : Mem} {r : Int32} {f : Nat} (ho : o = .inl f) (hf : f < 7) (hr : r = nLOW f) (hg : SC g' (FX g f)) : cgX o g r g' := by subst ho; exact ⟨hf, hr, hg⟩
theorem cgX_r {o : AnM} {g g' h : Mem} {r v : Int32} (ho : o = .inr (v, h)) (hr : r = v) (hg : SC g' h) : cgX o g r g' := by subst ho; exact ⟨hr, hg⟩
theorem cgM_f {o : AnM} {g g' : Mem} {r : Int32} {f : Nat} (ho : o = .inl f) (hf : f < 7) (hr : r = nLOW f) (hg : SC g' (FM g f)) : cgM o g r g' := by subst ho; exact ⟨hf, hr, hg⟩
theorem cgM_r {o : AnM} {g g' h : Mem} {r v : Int32} (ho : o = .inr (v, h)) (hr : r = v) (hg : SC g' h) : cgM o g r g' := by subst ho; exact ⟨hr, hg⟩
/-! sheets of the class: bits, size, numbers from 2 on -/
def HI (g : Mem) : Prop := ∀ t, t < 4 → (g (6 + t) 0 = 0 ∨ g (6 + t) 0 = 8 ∨ g (6 + t) 0 = 16 ∨ g (6 + t) 0 = 32) ∧ ∃ n, n ≤ 40 ∧ g (6 + t) 1 = nI n
def okb (b : Int32) : Bool := decide (b = 0 ∨ b = 8 ∨ b = 16 ∨ b = 32)
def nar (b v : Int32) : Int32 := if b = 8 then v.toInt8.toInt32 else if b = 16 then v.toInt16.toInt32 else v
def mkS (b n : Int32) : Row := fun i => if i = 0 then b else if i = 1 then (if b = 0 then 0 else n) else 0
def x_sheet (s b n : Int32) (g : Mem) : AnM := if inr s 0 3 && okb b then (if n < 0 then .inl 6 else if 40 < n then .inl 0 else .inr (if b = 0 then 0 else n, ub g (6 + cl s) (mkS b n))) else .inl 0
def x_write (s i v : Int32) (g : Mem) : AnM := if inr s 0 3 then (if g (6 + cl s) 0 = 0 then .inl 5 else if inr i 0 (g (6 + cl s) 1 - 1) then .inr (1, ub g (6 + cl s) (upd (g (6 + cl s)) (2 + cl i) (nar (g (6 + cl s) 0) v))) else .inl 0) else .inl 0
def run (z f n : Int32) : Bool := decide (0 ≤ f ∧ 0 ≤ n ∧ f ≤ z - n)
def cpS (D S : Row) (F U N : Nat) : Row := fun i => if 2 + U ≤ i ∧ i < 2 + U + N then S (2 + (F + (i - (2 + U)))) else D i
def x_copy (s f t u n : Int32) (g : Mem) : AnM := if inr s 0 3 && inr t 0 3 then (if g (6 + cl s) 0 = 0 ∨ g (6 + cl t) 0 = 0 then .inl 5 else if ¬ g (6 + cl s) 0 = g (6 + cl t) 0 then .inl 2 else if run (g (6 + cl s) 1) f n && run (g (6 + cl t) 1) u n then .inr (n, ub g (6 + cl t) (cpS (g (6 + cl t)) (g (6 + cl s)) (cl f) (cl u) (cl n))) else .inl 0) else .inl 0
/-- how far p holds, from k on, n of them -/
def cnt (p : Nat → Bool) : Nat → Nat → Nat
  | k, 0 => k
  | k, n + 1 => if p k then cnt p (k + 1) n else k
def lds (S : Row) (f : Nat → Int32) : Nat → Row
  | 0 => S
  | k + 1 => upd (lds S f k) (3 + (8 * 0 + k)) (f k)
/-- a sheet's numbers, its size -/
abbrev num (g : Mem) (t : Nat) : Nat → Int32 := fun i => g (6 + t) (2 + i)
abbrev siz (g : Mem) (t : Nat) : Nat := cl (g (6 + t) 1)
/-- a sheet that is there -/
def sx (s : Int32) (g : Mem) (k : AnM) : AnM := if inr s 0 3 then (if g (6 + cl s) 0 = 0 then .inl 5 else k) else .inl 0
def ldc (f : Nat → Int32) (z : Nat) : Nat := cnt (fun i => inr (f i) 0 9) 0 (min z 8)
def x_load (s : Int32) (g : Mem) : AnM := sx s g (.inr (nI (ldc (num g (cl s)) (siz g (cl s))), ub g 0 (lds (g 0) (num g (cl s)) (ldc (num g (cl s)) (siz g (cl s))))))
def jdc (S : Row) (f : Nat → Int32) (z : Nat) : Nat := cnt (fun i => decide (i < 6) && decide (f i = ss S i 8)) 0 z
def jdr (S : Row) (f : Nat → Int32) (z : Nat) : Int32 := if jdc S f z < z then nI (1 + jdc S f z) else 0
def x_judge (s : Int32) (g : Mem) : AnM := sx s g (.inr (jdr (g 0) (num g (cl s)) (siz g (cl s)), g))
def told (f : Nat → Int32) (R : Row) (P : Nat) : Nat → Bool := fun i => decide (f i = -1 ∨ f i = wd R P i)
def fitv (S : Row) (f : Nat → Int32) (z P K N : Nat) : Nat → Bool := fun v => al (told f (ngs (upd S (3 + (8 * P + K)) (nI v)) 0 N) P) (min z 8)
def x_fits (s p k n : Int32) (g : Mem) : AnM := sx s g (if inr p 0 5 && inr k 0 7 && inr n 0 20 then .inr (bs (fitv (g 0) (num g (cl s)) (siz g (cl s)) (cl p) (cl k) (cl n)) 10, g) else .inl 0)
def fedt (f : Nat → Int32) (R : Row) (M : Nat) : Nat → Bool := fun i => decide (f i = -1 ∨ f i = tr (ngs R 0 i) M 3)
def kinv (S : Row) (f : Nat → Int32) (z M : Nat) : Nat → Bool := fun k => al (fedt f (upd S (51 + (4 * M + 0)) (nI k)) M) z
def x_kinds (s m : Int32) (g : Mem) : AnM := sx s g (if isM (g 0) m then .inr (bs (kinv (g 0) (num g (cl s)) (siz g (cl s)) (cl m)) 7, g) else .inl 0)
def x_image (g : Mem) : AnM := .inr (1, ub (ub g 1 (g 0)) 11 (upd (g 11) 0 1))
def x_undo (g : Mem) : AnM := if g 11 0 = 0 then .inl 3 else .inr (g 1 1, ub g 0 (g 1))
def x_tear (g : Mem) : AnM := .inr (if g 11 0 = 0 then 0 else 1, ub g 11 (upd (g 11) 0 0))
def cnt8 (S : Row) (z : Int32) (W : Nat) : Int32 := if W = 0 then S 1 else if W = 1 then S 0 else if W = 2 then hAll S else if W = 3 then sI (fun m => tr S m 3) (cl (S 0)) else if W = 4 then sI (fun p => ss S p 8) 6 else if W = 5 then z else if W = 6 then S 2 else nI (ct (fun i => decide (¬ S (83 + i) = -1)) 10)
def x_count (w : Int32) (g : Mem) : AnM := if inr w 0 7 then .inr (cnt8 (g 0) (g 4 0) (cl w), g) else .inl 0
def x_status (w : Int32) (g : Mem) : AnM := if w = -1 then .inr (sI (g 10) 7, g) else if inr w 0 6 then .inr (g 10 (cl w), g) else .inl 0
/-- the tape: byte i of n, the highest first -/
def byt (b : Int32) (i : Nat) : Int32 := (ush b (nI (8 * i))).toInt8.toInt32
/-- the bytes i - 1 .. 0 come behind m others -/
def apd (R : Row) (b : Int32) (m : Nat) : Nat → Row
  | 0 => R
  | i + 1 => apd (upd R m (byt b i)) b (m + 1) i
def x_feed (b n : Int32) (g : Mem) : AnM := if inr n 1 4 then (if 120 - n < g 4 0 then .inl 1 else .inr (g 4 0 + n, ub (ub g 5 (apd (g 5) b (cl (g 4 0)) (cl n))) 4 (upd (g 4) 0 (g 4 0 + n)))) else .inl 0
def x_wipe (g : Mem) : AnM := .inr (g 4 0, ub g 4 (upd (g 4) 0 0))
/-! odds -/
def wrt (S : Row) : Nat := 6 - ct (bare S) 6
/-- the greatest divisor of w and 6 -/
def gd6 (w : Nat) : Nat := [6, 1, 2, 3, 2, 1, 6].getD w 1
def pwl (b : Int64) : Nat → Int64
  | 0 => 1
  | n + 1 => pwl b n * b
def oddv (w n a : Nat) : Int64 := pwl (Int64.ofNat ((if a = 0 then w else 6) / gd6 w)) n
theorem SCrf {g h : Mem} (e : g = h) : SC g h := e ▸ SC.rfl
theorem cnt_k {p : Nat → Bool} {k n : Nat} : ∀ {j : Nat}, cnt p 0 k = cnt p j (k - j) → j ≤ k → n = k - j → cnt p 0 k = cnt p j n := by
  intro j h _ e; rw [e]; exact h
theorem cnt_le {p : Nat → Bool} : ∀ {n k : Nat}, k ≤ cnt p k n ∧ cnt p k n ≤ k + n := by
  intro n
  induction n with
  | zero => intro k; exact ⟨Nat.le_refl _, Nat.le_refl _⟩
  | succ n ih =>
    intro k
    unfold cnt
    by_cases h : p k = true
    · rw [if_pos h]
      have := ih (k := k + 1)
      omega
    · rw [if_neg h]; omega
theorem inr_sz {x : Int32} {n : Nat} (hn : n ≤ 40) (h : inr x 0 (nI n - 1) = true) : ∃ j, j < n ∧ x = nI j := by
  cases n with
  | zero =>
    obtain ⟨h1, h2⟩ := of_decide_eq_true h
    exact absurd (Int32.le_trans h1 h2) (by decide)
  | succ n =>
    rw [nI_pred] at h
    obtain ⟨j, hj, e⟩ := inr_nat (by omega) h
    exact ⟨j, by omega, e⟩
/-- numbers that run within a size -/
theorem run_nat {f n : Int32} {z : Nat} (hz : z ≤ 40) (h : run (nI z) f n = true) : ∃ F N, F + N ≤ z ∧ f = nI F ∧ n = nI N := by
  obtain ⟨h1, h2, h3⟩ := of_decide_eq_true h
  have hn : n ≤ nI 40 := by
    by_cases q : n ≤ nI 40
    · exact q
    · exfalso
      have h1' := Int32.le_iff_toInt_le.mp h1
      have h2' := Int32.le_iff_toInt_le.mp h2
      have h3' := Int32.le_iff_toInt_le.mp h3
      have q' : ¬ n.toInt ≤ (nI 40).toInt := fun z => q (Int32.le_iff_toInt_le.mpr z)
      rw [nI_toInt (by omega)] at q'
      rw [Int32.toInt_zero] at h1' h2'
      have hb : (nI z - n).toInt = (z : Int) - n.toInt := by
        rw [Int32.toInt_sub, nI_toInt (by omega)]
        have := Int32.toInt_lt n
        exact Int.bmod_eq_of_le (by omega) (by omega)
      omega
  obtain ⟨N, hN, rfl⟩ := inr_nat (n := 40) (by decide) (decide_eq_true ⟨h2, hn⟩)
  have h1' := Int32.le_iff_toInt_le.mp h1
  have h3' := Int32.le_iff_toInt_le.mp h3
  rw [Int32.toInt_zero] at h1'
  rw [pk_sub_toInt (by omega) (by omega)] at h3'
  have hf : f ≤ nI 40 := by rw [Int32.le_iff_toInt_le, nI_toInt (by omega)]; omega
  obtain ⟨F, hF, rfl⟩ := inr_nat (n := 40) (by decide) (decide_eq_true ⟨h1, hf⟩)
  rw [nI_toInt (by omega)] at h3'
  exact ⟨F, N, by omega, rfl, rfl⟩
