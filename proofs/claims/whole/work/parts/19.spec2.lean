/-- a cell's whole part of its bank is told anew -/
theorem WW_row {G : GT} {g : Mem} {D : va_G} {H : Heap} (k : Nat) {b : Nat} (S : Row) (hk : k < 40) (hb : cb k = b) (hS : ∀ i, i < clo k ∨ chi k ≤ i → S i = g b i) {e q : Nat × va_E} (hP : va_P D vwCl ((WW G g).set k e) H) (hq : (WW G (ub g b S))[k]? = some q) (he : va_at D vwCl e H → va_at D vwCl q H) : va_P D vwCl (WW G (ub g b S)) H := by
  subst hb
  intro k' q' hk'
  have hl : k' < 40 := (List.getElem?_eq_some_iff.mp hk').1
  by_cases hkk : k' = k
  · subst hkk
    rw [hq] at hk'
    obtain rfl := Option.some.inj hk'
    exact he (hP k' e (by rw [List.getElem?_set_self (by rw [WW_len]; exact hl)]))
  · have hq0 : (WW G g)[k']? = some ((WW G g)[k']'hl) := List.getElem?_eq_getElem hl
    refine WW_cell k' hq0 hk' (fun i i1 i2 => ?_) (hP k' _ (by rw [List.getElem?_set_ne (Ne.symm hkk)]; exact hq0))
    rcases cdis k hk k' hl (Ne.symm hkk) with h | h | h
    · rw [ub_n (Ne.symm h)]
    all_goals
      by_cases hb : cb k' = cb k
      · rw [hb, ub_s]
        exact (hS i (by omega)).symm
      · rw [ub_n hb]
/-- a page of holes, its first k places -/
def hol (S : Row) (P : Nat) : Nat → Row
  | 0 => S
  | k + 1 => upd (hol S P k) (3 + (8 * P + k)) 0
/-- holes of a page -/
def hp (S : Row) (P : Nat) : Nat := ct (fun k => decide (wd S P k = 0)) 8
theorem ct_not (p : Nat → Bool) (n : Nat) : ct p n + ct (fun k => !p k) n = n := by
  induction n with
  | zero => rfl
  | succ n ih =>
    unfold ct
    cases h : p n with
    | true => simp [h]; omega
    | false => simp [h]; omega
theorem hp_eq (S : Row) (P : Nat) : 8 - nI (ct (pW S P) 8) = nI (hp S P) := by
  have h := ct_not (pW S P) 8
  have e : ct (fun k => !pW S P k) 8 = hp S P := ct_congr (fun k _ => by
    unfold pW
    by_cases q : wd S P k = 0
    · simp [q]
    · simp [q])
  rw [e] at h
  show nI 8 - _ = _
  rw [pk_sub (by omega)]
  congr 1
  omega
theorem hp_le (S : Row) (P : Nat) : hp S P ≤ 8 := ct_le
def bare (S : Row) (P : Nat) : Bool := decide (bs (pW S P) 8 = 0)
/-- all below n -/
def al (p : Nat → Bool) : Nat → Bool
  | 0 => true
  | n + 1 => al p n && p n
theorem al_f {p : Nat → Bool} {n k : Nat} (hk : k < n) (h : p k = false) : al p n = false := by
  induction n with
  | zero => omega
  | succ n ih =>
    unfold al
    by_cases e : k = n
    · subst e; rw [h]; simp
    · rw [ih (by omega)]; rfl
theorem al_iff {p : Nat → Bool} {n : Nat} : al p n = true ↔ ∀ k, k < n → p k = true := by
  induction n with
  | zero => exact ⟨fun _ k hk => by omega, fun _ => rfl⟩
  | succ n ih =>
    unfold al
    rw [Bool.and_eq_true, ih]
    constructor
    · rintro ⟨h1, h2⟩ k hk
      by_cases e : k = n
      · subst e; exact h2
      · exact h1 k (by omega)
    · intro h
      exact ⟨fun k hk => h k (by omega), h n (by omega)⟩
def pE (S T : Row) (P : Nat) : Nat → Bool := fun k => decide (wd S P k = wd T P k)
def sumN (f : Nat → Nat) : Nat → Nat
  | 0 => 0
  | n + 1 => sumN f n + f n
def sI (f : Nat → Int32) : Nat → Int32
  | 0 => 0
  | n + 1 => sI f n + f n
/-- places at which two pages differ -/
def pU (S : Row) (A B : Nat) : Nat → Bool := fun k => decide (¬ wd S A k = wd S B k)
def cpg (S : Row) (F T : Nat) : Row := fun i => if 3 + 8 * T ≤ i ∧ i < 3 + 8 * T + 8 then S (3 + (8 * F + (i - (3 + 8 * T)))) else S i
def addm (S : Row) (M : Nat) (k p : Int32) : Row := upd (upd (upd (upd (upd S (51 + (4 * M + 0)) k) (51 + (4 * M + 1)) p) (51 + (4 * M + 2)) 1) (51 + (4 * M + 3)) 0) 0 (nI (M + 1))
def swp (S : Row) (a b : Nat) : Row := upd (upd S (51 + (4 * a + 1)) (tr S b 1)) (51 + (4 * b + 1)) (tr S a 1)
def dz (x : Int32) : Int32 := x * 1103515245 + 12345
def dn (x : Int32) : Nat := x.toBitVec.toNat / 256
theorem dn_lt (x : Int32) : dn x < 2 ^ 24 := by
  have h : x.toBitVec.toNat < 2 ^ 32 := x.toBitVec.isLt
  show x.toBitVec.toNat / 256 < _
  omega
theorem ush_8 (x : Int32) : ush x 8 = nI (dn x) := by
  have h : x.toBitVec.toNat < 2 ^ 32 := x.toBitVec.isLt
  have e : x = nI x.toBitVec.toNat := by
    apply Int32.toBitVec_inj.mp
    apply BitVec.eq_of_toNat_eq
    rw [pk_tn h]
  unfold ush
  have := pk_ushrN h 8 8 (by decide)
  rw [← e] at this
  exact this
/-- a light: a moth may go to another page -/
def lgt (S : Row) : Row :=
  let z1 := dz (S 2)
  let z2 := dz z1
  let T := upd S 2 z2
  if dn z1 % 8 < cl (S 0) then upd T (51 + (4 * (dn z1 % 8) + 1)) (nI (dn z2 % 6)) else T
