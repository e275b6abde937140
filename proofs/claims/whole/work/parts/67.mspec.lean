/-! the reference's sheets, images, counts, tape -/
def HZ (g : Mem) : Prop := ∀ t, t < 4 → (g 18 t = -1 ∨ g 18 t = 8 ∨ g 18 t = 16 ∨ g 18 t = 32) ∧ ∃ n, n ≤ 40 ∧ g 19 t = nI n
abbrev nuM (g : Mem) (t : Nat) : Nat → Int32 := fun i => g 20 (40 * t + i)
abbrev szM (g : Mem) (t : Nat) : Nat := cl (g 19 t)
def my (s : Int32) (g : Mem) (k : AnM) : AnM := if inr s 0 3 then (if g 18 (cl s) < 0 then .inl 5 else k) else .inl 0
def wn (s : Int32) (g : Mem) : Int32 := if inr s 0 3 then (if g 18 (cl s) < 0 then nLOW 5 else 0) else nLOW 0
theorem wn_or (s : Int32) (g : Mem) : (inr s 0 3 = false ∧ wn s g = nLOW 0) ∨ (inr s 0 3 = true ∧ g 18 (cl s) < 0 ∧ wn s g = nLOW 5) ∨ ∃ Q, Q ≤ 3 ∧ s = nI Q ∧ ¬ g 18 Q < 0 ∧ wn s g = 0 := by
  cases h : inr s 0 3 with
  | false => exact Or.inl ⟨rfl, by unfold wn; rw [h]; rfl⟩
  | true =>
    by_cases h2 : g 18 (cl s) < 0
    · exact Or.inr (Or.inl ⟨rfl, h2, by unfold wn; rw [h, if_pos h2]; rfl⟩)
    · obtain ⟨Q, hQ, rfl⟩ := inr_nat (n := 3) (by decide) h
      rw [cl_nI (by omega)] at h2
      exact Or.inr (Or.inr ⟨Q, hQ, rfl, h2, by unfold wn; rw [h, cl_nI (by omega), if_neg h2]; rfl⟩)
theorem my_0 {s : Int32} {g : Mem} {k : AnM} (h : inr s 0 3 = false) : my s g k = .inl 0 := by unfold my; rw [h]; rfl
theorem my_5 {s : Int32} {g : Mem} {k : AnM} (h : inr s 0 3 = true) (h2 : g 18 (cl s) < 0) : my s g k = .inl 5 := by unfold my; rw [h, if_pos h2]; rfl
theorem my_k {Q : Nat} {g : Mem} {k : AnM} (hQ : Q ≤ 3) (h2 : ¬ g 18 Q < 0) : my (nI Q) g k = k := by
  unfold my; rw [show inr (nI Q) 0 3 = true from inr_nI (n := 3) hQ (by decide), cl_nI (by omega), if_neg h2]; rfl
def zer (R : Row) (t k : Nat) : Row := fun i => if 40 * t ≤ i ∧ i < 40 * t + k then 0 else R i
theorem zer_0 {R : Row} {t : Nat} : zer R t 0 = R := by funext i; exact if_neg (by omega)
theorem zer_s {R : Row} {t k : Nat} : upd (zer R t k) (40 * t + k) 0 = zer R t (k + 1) := by
  funext i
  by_cases h : i = 40 * t + k
  · subst h; rw [upd_s]; exact (if_pos (by omega)).symm
  · rw [upd_n h]; unfold zer
    by_cases h2 : 40 * t ≤ i ∧ i < 40 * t + k
    · rw [if_pos h2, if_pos (by omega)]
    · rw [if_neg h2, if_neg (by omega)]
def shM (g : Mem) (t : Nat) (b n : Int32) : Mem := ub (ub (ub g 18 (upd (g 18) t (if b = 0 then -1 else b))) 19 (upd (g 19) t (if b = 0 then 0 else n))) 20 (zer (g 20) t 40)
def m_sheet (s b n : Int32) (g : Mem) : AnM := if inr s 0 3 && okb b then (if n < 0 then .inl 6 else if 40 < n then .inl 0 else .inr (if b = 0 then 0 else n, shM g (cl s) b n)) else .inl 0
def m_write (s i v : Int32) (g : Mem) : AnM := if inr s 0 3 then (if g 18 (cl s) < 0 then .inl 5 else if inr i 0 (g 19 (cl s) - 1) then .inr (1, ub g 20 (upd (g 20) (40 * cl s + cl i) (nar (g 18 (cl s)) v))) else .inl 0) else .inl 0
def m_load (s : Int32) (g : Mem) : AnM := my s g (.inr (nI (ldc (nuM g (cl s)) (szM g (cl s))), ub g 12 (lds (g 12) (nuM g (cl s)) (ldc (nuM g (cl s)) (szM g (cl s))))))
def m_judge (s : Int32) (g : Mem) : AnM := my s g (.inr (jdr (g 12) (nuM g (cl s)) (szM g (cl s)), g))
def m_fits (s p k n : Int32) (g : Mem) : AnM := my s g (if inr p 0 5 && inr k 0 7 && inr n 0 20 then .inr (bs (fitv (g 12) (nuM g (cl s)) (szM g (cl s)) (cl p) (cl k) (cl n)) 10, g) else .inl 0)
def m_kinds (s m : Int32) (g : Mem) : AnM := my s g (if isM (g 12) m then .inr (bs (kinv (g 12) (nuM g (cl s)) (szM g (cl s)) (cl m)) 7, g) else .inl 0)
def m_image (g : Mem) : AnM := .inr (1, ub (ub g 13 (g 12)) 22 (upd (g 22) 0 1))
def m_undo (g : Mem) : AnM := if g 22 0 = 0 then .inl 3 else .inr (g 13 1, ub g 12 (g 13))
def m_tear (g : Mem) : AnM := .inr (if g 22 0 = 0 then 0 else 1, ub g 22 (upd (g 22) 0 0))
def m_count (w : Int32) (g : Mem) : AnM := if inr w 0 7 then .inr (cnt8 (g 12) (g 22 1) (cl w), g) else .inl 0
def m_status (w : Int32) (g : Mem) : AnM := if inr w (-1) 6 then .inr (g 16 (cl (w + 1)), g) else .inl 0
def bym (b : Int32) (i : Nat) : Int32 := b >>> (8 * nI i &&& 31) &&& 255
def apm (R : Row) (b : Int32) (m : Nat) : Nat → Row
  | 0 => R
  | i + 1 => apm (upd R m (bym b i)) b (m + 1) i
def m_feed (b n : Int32) (g : Mem) : AnM := if inr n 1 4 then (if 120 < g 22 1 + n then .inl 1 else .inr (g 22 1 + n, ub (ub g 17 (apm (g 17) b (cl (g 22 1)) (cl n))) 22 (upd (g 22) 1 (g 22 1 + n)))) else .inl 0
def m_wipe (g : Mem) : AnM := .inr (g 22 1, ub g 22 (upd (g 22) 1 0))
theorem ix_n (Q k : Nat) : 40 * nI Q + nI k = nI (40 * Q + k) := by
  show nI 40 * nI Q + nI k = _
  rw [pk_mul, nI_add]
theorem al_mono {p : Nat → Bool} {k n : Nat} (h : al p k = false) (hk : k ≤ n) : al p n = false := by
  induction n with
  | zero => rw [show k = 0 by omega] at h; exact h
  | succ n ih =>
    by_cases e : k = n + 1
    · rw [← e]; exact h
    · unfold al; rw [ih (by omega)]; rfl
theorem inr_m1 {w : Int32} (h : inr w (-1) 6 = true) : ∃ j, j < 8 ∧ w + 1 = nI j := by
  obtain ⟨h1, h2⟩ := of_decide_eq_true h
  by_cases q : w = -1
  · subst q; exact ⟨0, by decide, by decide⟩
  · have h0 : 0 ≤ w := by
      rw [Int32.le_iff_toInt_le] at h1 ⊢
      rw [show (-1 : Int32).toInt = -1 by decide] at h1
      rw [Int32.toInt_zero]
      have : w.toInt ≠ -1 := fun e => q (Int32.toInt_inj.mp (e.trans (by decide)))
      omega
    obtain ⟨k, hk, rfl⟩ := inr_nat (n := 6) (by decide) (decide_eq_true ⟨h0, h2⟩)
    exact ⟨k + 1, by omega, (nI_succ k).symm⟩
