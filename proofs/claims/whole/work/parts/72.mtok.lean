/-! the reference's tokens -/
def BYM (R : Row) (B : Nat → Nat) (m : Nat) : Prop := m ≤ 120 ∧ ∀ i, i < m → B i < 256 ∧ R i = nI (B i)
def bat (B : Nat → Nat) (m j : Nat) : Int32 := if j < m then nI (B j) else -1
/-- the fields say this token -/
def TKM (V : Row) (m : Nat) (t : Tk) : Prop := V 1 = nI m ∧ V 2 = nI t.1 ∧ V 3 = nI t.2.1 ∧ V 4 = nI t.2.2.1 ∧ V 5 = nI t.2.2.2
abbrev MM3 (g : Mem) (R V : Row) : Mem := ub (ub g 12 R) 22 V
theorem m3_12 {g : Mem} {R V : Row} : MM3 g R V 12 = R := by show ub (ub g 12 R) 22 V 12 = R; rw [ub_n (by decide), ub_s]
theorem m3_22 {g : Mem} {R V : Row} : MM3 g R V 22 = V := ub_s
theorem m3_17 {g : Mem} {R V : Row} : MM3 g R V 17 = g 17 := by show ub (ub g 12 R) 22 V 17 = g 17; rw [ub_n (by decide), ub_n (by decide)]
theorem m3_v {g : Mem} {R V V' : Row} : ub (MM3 g R V) 22 V' = MM3 g R V' := ub_ub
theorem m3_r {g : Mem} {R V R' : Row} : ub (MM3 g R V) 12 R' = MM3 g R' V := by
  show ub (ub (ub g 12 R) 22 V) 12 R' = ub (ub g 12 R') 22 V
  rw [ub_comm (b := 22) (c := 12) (by decide), ub_ub]
theorem m3_id {g : Mem} : MM3 g (g 12) (g 22) = g := by show ub (ub g 12 (g 12)) 22 (g 22) = g; rw [ub_id, ub_id]
theorem m3_m3 {g : Mem} {R V R' V' : Row} : MM3 (MM3 g R V) R' V' = MM3 g R' V' := by
  show ub (ub (MM3 g R V) 12 R') 22 V' = _
  rw [m3_r, m3_v]
theorem bat_lt {B : Nat → Nat} {m j : Nat} (h : j < m) : bat B m j = nI (B j) := if_pos h
theorem bat_ge {B : Nat → Nat} {m j : Nat} (h : m ≤ j) : bat B m j = -1 := if_neg (by omega)
theorem bat_eq {B : Nat → Nat} {m j d : Nat} (hB : j < m → B j < 256) (hd : d < 2 ^ 31) : bat B m j = nI d ↔ j < m ∧ B j = d := by
  by_cases h : j < m
  · rw [bat_lt h, nI_eq (by have := hB h; omega) hd]; exact ⟨fun e => ⟨h, e⟩, fun e => e.2⟩
  · rw [bat_ge (by omega)]
    exact ⟨fun e => absurd e.symm (nI_nm1 hd), fun e => absurd e.1 h⟩
/-- letters, digits -/
def isLtI (x : Int32) : Bool := decide (97 ≤ x ∧ x ≤ 122)
def isDgI (x : Int32) : Bool := decide (48 ≤ x ∧ x ≤ 57)
theorem ltI : ∀ c, c < 256 → isLtI (nI c) = isLt c := by decide +kernel
theorem dgI : ∀ c, c < 256 → isDgI (nI c) = isDg c := by decide +kernel
theorem ltI_b {B : Nat → Nat} {m j : Nat} (hB : j < m → B j < 256) : isLtI (bat B m j) = (decide (j < m) && isLt (B j)) := by
  by_cases h : j < m
  · rw [bat_lt h, ltI _ (hB h), decide_eq_true h]; rfl
  · rw [bat_ge (by omega), decide_eq_false h]; rfl
theorem dgI_b {B : Nat → Nat} {m j : Nat} (hB : j < m → B j < 256) : isDgI (bat B m j) = (decide (j < m) && isDg (B j)) := by
  by_cases h : j < m
  · rw [bat_lt h, dgI _ (hB h), decide_eq_true h]; rfl
  · rw [bat_ge (by omega), decide_eq_false h]; rfl
