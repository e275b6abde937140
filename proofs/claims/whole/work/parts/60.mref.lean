/-! the reference: its rows by their own banks -/
theorem jl_A0 {X : XT} {G : GT} {own : String} {cc : ByteArray} {nL fr lo : Nat} {g : Mem} {L : List (Option Value)} {st : List Value} (pc : Nat) {i : Nat} (hi : i < 93) (C : CX X G own cc nL fr lo) (hd : decode cc pc = .ok (.iaload, 1)) (k : J X G nL g (pc + 1) L (.int (g 12 i) :: st)) : J X G nL g pc L (.int (nI i) :: .ref (ar G 0) :: st) := jl_A pc (j := 0) (Nat.le_of_ble_eq_true rfl) hi C hd k
theorem js_A0 {X : XT} {G : GT} {own : String} {cc : ByteArray} {nL fr lo : Nat} {g : Mem} {L : List (Option Value)} {st : List Value} (pc : Nat) {i : Nat} {x : Int32} (hi : i < 93) (C : CX X G own cc nL fr lo) (hd : decode cc pc = .ok (.iastore, 1)) (k : J X G nL (ub g 12 (upd (g 12) i x)) (pc + 1) L st) : J X G nL g pc L (.int x :: .int (nI i) :: .ref (ar G 0) :: st) := js_A pc (j := 0) (Nat.le_of_ble_eq_true rfl) hi C hd k
theorem jl_A1 {X : XT} {G : GT} {own : String} {cc : ByteArray} {nL fr lo : Nat} {g : Mem} {L : List (Option Value)} {st : List Value} (pc : Nat) {i : Nat} (hi : i < 93) (C : CX X G own cc nL fr lo) (hd : decode cc pc = .ok (.iaload, 1)) (k : J X G nL g (pc + 1) L (.int (g 13 i) :: st)) : J X G nL g pc L (.int (nI i) :: .ref (ar G 1) :: st) := jl_A pc (j := 1) (Nat.le_of_ble_eq_true rfl) hi C hd k
theorem js_A1 {X : XT} {G : GT} {own : String} {cc : ByteArray} {nL fr lo : Nat} {g : Mem} {L : List (Option Value)} {st : List Value} (pc : Nat) {i : Nat} {x : Int32} (hi : i < 93) (C : CX X G own cc nL fr lo) (hd : decode cc pc = .ok (.iastore, 1)) (k : J X G nL (ub g 13 (upd (g 13) i x)) (pc + 1) L st) : J X G nL g pc L (.int x :: .int (nI i) :: .ref (ar G 1) :: st) := js_A pc (j := 1) (Nat.le_of_ble_eq_true rfl) hi C hd k
theorem jl_A2 {X : XT} {G : GT} {own : String} {cc : ByteArray} {nL fr lo : Nat} {g : Mem} {L : List (Option Value)} {st : List Value} (pc : Nat) {i : Nat} (hi : i < 93) (C : CX X G own cc nL fr lo) (hd : decode cc pc = .ok (.iaload, 1)) (k : J X G nL g (pc + 1) L (.int (g 14 i) :: st)) : J X G nL g pc L (.int (nI i) :: .ref (ar G 2) :: st) := jl_A pc (j := 2) (Nat.le_of_ble_eq_true rfl) hi C hd k
theorem js_A2 {X : XT} {G : GT} {own : String} {cc : ByteArray} {nL fr lo : Nat} {g : Mem} {L : List (Option Value)} {st : List Value} (pc : Nat) {i : Nat} {x : Int32} (hi : i < 93) (C : CX X G own cc nL fr lo) (hd : decode cc pc = .ok (.iastore, 1)) (k : J X G nL (ub g 14 (upd (g 14) i x)) (pc + 1) L st) : J X G nL g pc L (.int x :: .int (nI i) :: .ref (ar G 2) :: st) := js_A pc (j := 2) (Nat.le_of_ble_eq_true rfl) hi C hd k
theorem jl_A3 {X : XT} {G : GT} {own : String} {cc : ByteArray} {nL fr lo : Nat} {g : Mem} {L : List (Option Value)} {st : List Value} (pc : Nat) {i : Nat} (hi : i < 93) (C : CX X G own cc nL fr lo) (hd : decode cc pc = .ok (.iaload, 1)) (k : J X G nL g (pc + 1) L (.int (g 15 i) :: st)) : J X G nL g pc L (.int (nI i) :: .ref (ar G 3) :: st) := jl_A pc (j := 3) (Nat.le_of_ble_eq_true rfl) hi C hd k
theorem js_A3 {X : XT} {G : GT} {own : String} {cc : ByteArray} {nL fr lo : Nat} {g : Mem} {L : List (Option Value)} {st : List Value} (pc : Nat) {i : Nat} {x : Int32} (hi : i < 93) (C : CX X G own cc nL fr lo) (hd : decode cc pc = .ok (.iastore, 1)) (k : J X G nL (ub g 15 (upd (g 15) i x)) (pc + 1) L st) : J X G nL g pc L (.int x :: .int (nI i) :: .ref (ar G 3) :: st) := js_A pc (j := 3) (Nat.le_of_ble_eq_true rfl) hi C hd k
theorem jl_A4 {X : XT} {G : GT} {own : String} {cc : ByteArray} {nL fr lo : Nat} {g : Mem} {L : List (Option Value)} {st : List Value} (pc : Nat) {i : Nat} (hi : i < 8) (C : CX X G own cc nL fr lo) (hd : decode cc pc = .ok (.iaload, 1)) (k : J X G nL g (pc + 1) L (.int (g 16 i) :: st)) : J X G nL g pc L (.int (nI i) :: .ref (ar G 4) :: st) := jl_A pc (j := 4) (Nat.le_of_ble_eq_true rfl) hi C hd k
theorem js_A4 {X : XT} {G : GT} {own : String} {cc : ByteArray} {nL fr lo : Nat} {g : Mem} {L : List (Option Value)} {st : List Value} (pc : Nat) {i : Nat} {x : Int32} (hi : i < 8) (C : CX X G own cc nL fr lo) (hd : decode cc pc = .ok (.iastore, 1)) (k : J X G nL (ub g 16 (upd (g 16) i x)) (pc + 1) L st) : J X G nL g pc L (.int x :: .int (nI i) :: .ref (ar G 4) :: st) := js_A pc (j := 4) (Nat.le_of_ble_eq_true rfl) hi C hd k
theorem jl_A5 {X : XT} {G : GT} {own : String} {cc : ByteArray} {nL fr lo : Nat} {g : Mem} {L : List (Option Value)} {st : List Value} (pc : Nat) {i : Nat} (hi : i < 120) (C : CX X G own cc nL fr lo) (hd : decode cc pc = .ok (.iaload, 1)) (k : J X G nL g (pc + 1) L (.int (g 17 i) :: st)) : J X G nL g pc L (.int (nI i) :: .ref (ar G 5) :: st) := jl_A pc (j := 5) (Nat.le_of_ble_eq_true rfl) hi C hd k
theorem js_A5 {X : XT} {G : GT} {own : String} {cc : ByteArray} {nL fr lo : Nat} {g : Mem} {L : List (Option Value)} {st : List Value} (pc : Nat) {i : Nat} {x : Int32} (hi : i < 120) (C : CX X G own cc nL fr lo) (hd : decode cc pc = .ok (.iastore, 1)) (k : J X G nL (ub g 17 (upd (g 17) i x)) (pc + 1) L st) : J X G nL g pc L (.int x :: .int (nI i) :: .ref (ar G 5) :: st) := js_A pc (j := 5) (Nat.le_of_ble_eq_true rfl) hi C hd k
theorem jl_A6 {X : XT} {G : GT} {own : String} {cc : ByteArray} {nL fr lo : Nat} {g : Mem} {L : List (Option Value)} {st : List Value} (pc : Nat) {i : Nat} (hi : i < 4) (C : CX X G own cc nL fr lo) (hd : decode cc pc = .ok (.iaload, 1)) (k : J X G nL g (pc + 1) L (.int (g 18 i) :: st)) : J X G nL g pc L (.int (nI i) :: .ref (ar G 6) :: st) := jl_A pc (j := 6) (Nat.le_of_ble_eq_true rfl) hi C hd k
theorem js_A6 {X : XT} {G : GT} {own : String} {cc : ByteArray} {nL fr lo : Nat} {g : Mem} {L : List (Option Value)} {st : List Value} (pc : Nat) {i : Nat} {x : Int32} (hi : i < 4) (C : CX X G own cc nL fr lo) (hd : decode cc pc = .ok (.iastore, 1)) (k : J X G nL (ub g 18 (upd (g 18) i x)) (pc + 1) L st) : J X G nL g pc L (.int x :: .int (nI i) :: .ref (ar G 6) :: st) := js_A pc (j := 6) (Nat.le_of_ble_eq_true rfl) hi C hd k
theorem jl_A7 {X : XT} {G : GT} {own : String} {cc : ByteArray} {nL fr lo : Nat} {g : Mem} {L : List (Option Value)} {st : List Value} (pc : Nat) {i : Nat} (hi : i < 4) (C : CX X G own cc nL fr lo) (hd : decode cc pc = .ok (.iaload, 1)) (k : J X G nL g (pc + 1) L (.int (g 19 i) :: st)) : J X G nL g pc L (.int (nI i) :: .ref (ar G 7) :: st) := jl_A pc (j := 7) (Nat.le_of_ble_eq_true rfl) hi C hd k
theorem js_A7 {X : XT} {G : GT} {own : String} {cc : ByteArray} {nL fr lo : Nat} {g : Mem} {L : List (Option Value)} {st : List Value} (pc : Nat) {i : Nat} {x : Int32} (hi : i < 4) (C : CX X G own cc nL fr lo) (hd : decode cc pc = .ok (.iastore, 1)) (k : J X G nL (ub g 19 (upd (g 19) i x)) (pc + 1) L st) : J X G nL g pc L (.int x :: .int (nI i) :: .ref (ar G 7) :: st) := js_A pc (j := 7) (Nat.le_of_ble_eq_true rfl) hi C hd k
theorem jl_A8 {X : XT} {G : GT} {own : String} {cc : ByteArray} {nL fr lo : Nat} {g : Mem} {L : List (Option Value)} {st : List Value} (pc : Nat) {i : Nat} (hi : i < 160) (C : CX X G own cc nL fr lo) (hd : decode cc pc = .ok (.iaload, 1)) (k : J X G nL g (pc + 1) L (.int (g 20 i) :: st)) : J X G nL g pc L (.int (nI i) :: .ref (ar G 8) :: st) := jl_A pc (j := 8) (Nat.le_of_ble_eq_true rfl) hi C hd k
theorem js_A8 {X : XT} {G : GT} {own : String} {cc : ByteArray} {nL fr lo : Nat} {g : Mem} {L : List (Option Value)} {st : List Value} (pc : Nat) {i : Nat} {x : Int32} (hi : i < 160) (C : CX X G own cc nL fr lo) (hd : decode cc pc = .ok (.iastore, 1)) (k : J X G nL (ub g 20 (upd (g 20) i x)) (pc + 1) L st) : J X G nL g pc L (.int x :: .int (nI i) :: .ref (ar G 8) :: st) := js_A pc (j := 8) (Nat.le_of_ble_eq_true rfl) hi C hd k
theorem jl_A9 {X : XT} {G : GT} {own : String} {cc : ByteArray} {nL fr lo : Nat} {g : Mem} {L : List (Option Value)} {st : List Value} (pc : Nat) {i : Nat} (hi : i < 48) (C : CX X G own cc nL fr lo) (hd : decode cc pc = .ok (.iaload, 1)) (k : J X G nL g (pc + 1) L (.int (g 21 i) :: st)) : J X G nL g pc L (.int (nI i) :: .ref (ar G 9) :: st) := jl_A pc (j := 9) (Nat.le_of_ble_eq_true rfl) hi C hd k
theorem js_A9 {X : XT} {G : GT} {own : String} {cc : ByteArray} {nL fr lo : Nat} {g : Mem} {L : List (Option Value)} {st : List Value} (pc : Nat) {i : Nat} {x : Int32} (hi : i < 48) (C : CX X G own cc nL fr lo) (hd : decode cc pc = .ok (.iastore, 1)) (k : J X G nL (ub g 21 (upd (g 21) i x)) (pc + 1) L st) : J X G nL g pc L (.int x :: .int (nI i) :: .ref (ar G 9) :: st) := js_A pc (j := 9) (Nat.le_of_ble_eq_true rfl) hi C hd k

theorem cbr2 : ∀ k, k < 40 → 12 ≤ cb k → cb k ≤ 15 → chi k ≤ 93 := by decide
theorem aLen93 {j : Nat} (h : j < 4) : aLen j = 93 := by
  have k : ∀ j, j < 4 → aLen j = 93 := by decide
  exact k j h
theorem i64_lt (x y : Int32) : x.toInt64 < y.toInt64 ↔ x < y := by
  rw [Int64.lt_iff_toInt_lt, Int32.lt_iff_toInt_lt, Int32.toInt_toInt64, Int32.toInt_toInt64]
theorem isin_t {x lo hi : Int32} {a b : Int64} (ha : a = lo.toInt64) (hb : b = hi.toInt64) (h1 : ¬ lg_cmp x.toInt64 a < 0) (h2 : ¬ 0 < lg_cmp x.toInt64 b) : 1 = bi (inr x lo hi) := by
  rw [ha, lg_cmp_lt, i64_lt] at h1
  rw [hb, lg_cmp_gt, i64_lt] at h2
  exact (if_pos (decide_eq_true ⟨Int32.not_lt.mp h1, Int32.not_lt.mp h2⟩)).symm
theorem isin_f1 {x lo hi : Int32} {a : Int64} (ha : a = lo.toInt64) (h1 : lg_cmp x.toInt64 a < 0) : 0 = bi (inr x lo hi) := by
  rw [ha, lg_cmp_lt, i64_lt] at h1
  refine (if_neg (fun q => ?_)).symm
  exact absurd h1 (Int32.not_lt.mpr (of_decide_eq_true q).1)
theorem isin_f2 {x lo hi : Int32} {b : Int64} (hb : b = hi.toInt64) (h1 : 0 < lg_cmp x.toInt64 b) : 0 = bi (inr x lo hi) := by
  rw [hb, lg_cmp_gt, i64_lt] at h1
  refine (if_neg (fun q => ?_)).symm
  exact absurd h1 (Int32.not_lt.mpr (of_decide_eq_true q).2)
theorem le_pre {x : Int32} {n : Nat} (hn : n < 2 ^ 31 - 1) : x < nI (n + 1) ↔ x ≤ nI n := by
  rw [Int32.lt_iff_toInt_lt, Int32.le_iff_toInt_le, nI_toInt (by omega), nI_toInt (by omega)]
  omega
theorem pg_t {x : Int32} {n : Nat} (hn : n < 2 ^ 31 - 1) (h1 : ¬ x < 0) (h2 : ¬ nI (n + 1) ≤ x) : 1 = bi (inr x 0 (nI n)) :=
  (if_pos (decide_eq_true ⟨Int32.not_lt.mp h1, (le_pre hn).mp (Int32.not_le.mp h2)⟩)).symm
theorem pg_f1 {x y : Int32} (h1 : x < 0) : 0 = bi (inr x 0 y) := (if_neg (fun q => absurd h1 (Int32.not_lt.mpr (of_decide_eq_true q).1))).symm
theorem pg_f2 {x : Int32} {n : Nat} (hn : n < 2 ^ 31 - 1) (h2 : nI (n + 1) ≤ x) : 0 = bi (inr x 0 (nI n)) :=
  (if_neg (fun q => absurd h2 (Int32.not_le.mpr ((le_pre hn).mpr (of_decide_eq_true q).2)))).symm
theorem wd_le {S : Row} {P k : Nat} (hW : IW S) (hP : P < 6) (hk : k < 8) : wd S P k ≤ 0 ↔ wd S P k = 0 := by
  obtain ⟨n, hn, e⟩ := hW.at hP hk
  rw [e]
  constructor
  · intro h
    cases n with
    | zero => rfl
    | succ n => exact absurd h (Int32.not_le.mpr (nI_lt (a := 0) (by omega) (by omega)))
  · intro h; rw [h]; exact Int32.le_refl _
theorem or_0 (x : Int32) : x ||| 0 = x := by
  apply Int32.toBitVec_inj.mp
  show x.toBitVec ||| 0 = x.toBitVec
  simp
/-- Kernighan's count -/
theorem pcn_0 : pcn 0 = 0 := by decide
theorem pcn_k : ∀ n, n < 256 → n ≠ 0 → (nI n &&& (nI n - 1) = nI (n &&& (n - 1))) ∧ pcn (n &&& (n - 1)) + 1 = pcn n ∧ n &&& (n - 1) < n := by decide +kernel
theorem nI_nz {n : Nat} (hn : n < 2 ^ 31) (h : ¬ nI n = 0) : n ≠ 0 := fun e => h (by rw [e]; rfl)
theorem lv_ref : ∀ K, K < 7 → ∀ n, n < 10 → (if (9 : Int32) < 11 - nI n then (9 : Int32) else 11 - nI n) = lrn (nI n) := by decide +kernel
theorem lv_6 : ∀ n, n < 10 → ((nI n < 2 → lv 6 (nI n) = 0) ∧ (¬ nI n < 2 → lv 6 (nI n) = nI n - 2)) := by decide +kernel
/-- holes, counted place by place -/
theorem ct_add (p : Nat → Bool) (a b : Nat) : ct p (a + b) = ct p a + ct (fun k => p (a + k)) b := by
  induction b with
  | zero => rfl
  | succ b ih =>
    show (if p (a + b) then ct p (a + b) + 1 else ct p (a + b)) = ct p a + (if p (a + b) then ct (fun k => p (a + k)) b + 1 else ct (fun k => p (a + k)) b)
    rw [ih]
    by_cases h : p (a + b) = true
    · rw [if_pos h, if_pos h]; omega
    · rw [if_neg h, if_neg h]
theorem hol48 (S : Row) : ct (fun i => decide (S (3 + i) = 0)) 48 = sumN (hp S) 6 := by
  have e : ∀ P, ct (fun i => decide (S (3 + i) = 0)) (8 * P) = sumN (hp S) P := by
    intro P
    induction P with
    | zero => rfl
    | succ P ih =>
      rw [show 8 * (P + 1) = 8 * P + 8 by omega, ct_add, ih]
      rfl
  exact e 6

