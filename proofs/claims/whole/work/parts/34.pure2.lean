/-! rows that stay rows -/
def mx4 (W : Nat) : Nat := [6, 5, 9, 9999].getD W 0
theorem SI_tr {S : Row} {M W v : Nat} (hS : SI S) (hM : M < 8) (hW : W < 4) (hv : v ≤ mx4 W) : SI (upd S (51 + (4 * M + W)) (nI v)) := by
  obtain ⟨⟨N, hN, e⟩, hw, hI, hp⟩ := hS
  refine ⟨⟨N, hN, by rw [upd_n (by omega)]; exact e⟩, fun q hq => by rw [upd_n (by omega)]; exact hw q hq, fun m hm => ?_, fun q hq => by rw [upd_n (by omega)]; exact hp q hq⟩
  obtain ⟨a, b, c, d⟩ := hI m hm
  have ne : ∀ w, w < 4 → ¬ (m = M ∧ w = W) → tr (upd S (51 + (4 * M + W)) (nI v)) m w = tr S m w := fun w hw h => by unfold tr; rw [upd_n (by omega)]
  have eq : m = M → tr (upd S (51 + (4 * M + W)) (nI v)) m W = nI v := fun h => by subst h; unfold tr; exact upd_s
  refine ⟨?_, ?_, ?_, ?_⟩
  · by_cases h : m = M ∧ 0 = W
    · obtain ⟨h1, rfl⟩ := h; rw [eq h1]; exact ⟨v, by have : v ≤ 6 := hv; omega, rfl⟩
    · rw [ne 0 (by omega) h]; exact a
  · by_cases h : m = M ∧ 1 = W
    · obtain ⟨h1, rfl⟩ := h; rw [eq h1]; exact ⟨v, by have : v ≤ 5 := hv; omega, rfl⟩
    · rw [ne 1 (by omega) h]; exact b
  · by_cases h : m = M ∧ 2 = W
    · obtain ⟨h1, rfl⟩ := h; rw [eq h1]; exact ⟨v, hv, rfl⟩
    · rw [ne 2 (by omega) h]; exact c
  · by_cases h : m = M ∧ 3 = W
    · obtain ⟨h1, rfl⟩ := h; rw [eq h1]; exact ⟨v, hv, rfl⟩
    · rw [ne 3 (by omega) h]; exact d
theorem SI_wd {S : Row} {i v : Nat} (hS : SI S) (hi : i < 48) (hv : v ≤ 9) : SI (upd S (3 + i) (nI v)) := by
  obtain ⟨⟨N, hN, e⟩, hw, hI, hp⟩ := hS
  refine ⟨⟨N, hN, by rw [upd_n (by omega)]; exact e⟩, fun q hq => ?_, fun m hm => ?_, fun q hq => by rw [upd_n (by omega)]; exact hp q hq⟩
  · by_cases h : q = i
    · subst h; rw [upd_s]; exact ⟨v, hv, rfl⟩
    · rw [upd_n (by omega)]; exact hw q hq
  · have t : ∀ w, tr (upd S (3 + i) (nI v)) m w = tr S m w := fun w => by unfold tr; rw [upd_n (by omega)]
    rw [t, t, t, t]; exact hI m hm
theorem SI_sp {S : Row} {i : Nat} {x : Int32} (hS : SI S) (hi : i < 10) (hx : x = -1 ∨ ∃ m, m < 8 ∧ x = nI m) : SI (upd S (83 + i) x) := by
  obtain ⟨⟨N, hN, e⟩, hw, hI, hp⟩ := hS
  refine ⟨⟨N, hN, by rw [upd_n (by omega)]; exact e⟩, fun q hq => by rw [upd_n (by omega)]; exact hw q hq, fun m hm => ?_, fun q hq => ?_⟩
  · have t : ∀ w, w < 4 → tr (upd S (83 + i) x) m w = tr S m w := fun w hw => by unfold tr; rw [upd_n (by omega)]
    rw [t 0 (by omega), t 1 (by omega), t 2 (by omega), t 3 (by omega)]; exact hI m hm
  · by_cases h : q = i
    · subst h; rw [upd_s]; exact hx
    · rw [upd_n (by omega)]; exact hp q hq
theorem SI_0 {S : Row} {N : Nat} (hS : SI S) (hN : N ≤ 8) : SI (upd S 0 (nI N)) := by
  obtain ⟨-, hw, hI, hp⟩ := hS
  refine ⟨⟨N, hN, upd_s⟩, fun q hq => by rw [upd_n (by omega)]; exact hw q hq, fun m hm => ?_, fun q hq => by rw [upd_n (by omega)]; exact hp q hq⟩
  have t : ∀ w, tr (upd S 0 (nI N)) m w = tr S m w := fun w => by unfold tr; rw [upd_n (by omega)]
  rw [t, t, t, t]; exact hI m hm
theorem SI_swp {S : Row} {a b : Nat} (hS : SI S) (ha : a < 8) (hb : b < 8) : SI (swp S a b) := by
  unfold swp
  obtain ⟨-, ⟨A, hA, eA⟩, -⟩ := hS.2.2.1 a ha
  obtain ⟨-, ⟨B, hB, eB⟩, -⟩ := hS.2.2.1 b hb
  rw [eA, eB]
  exact SI_tr (SI_tr hS ha (by omega) (show B ≤ 5 by omega)) hb (by omega) (show A ≤ 5 by omega)
theorem SI_lgt {S : Row} (hS : SI S) : SI (lgt S) := by
  unfold lgt
  have h2 := SI_upd (x := dz (dz (S 2))) hS (Or.inr rfl)
  have h8 := (SI_cl0 hS).1
  by_cases h : dn (dz (S 2)) % 8 < cl (S 0)
  · simp only [h, if_true]
    exact SI_tr h2 (by omega) (by omega) (show dn (dz (dz (S 2))) % 6 ≤ 5 by omega)
  · simp only [h, if_false]
    exact h2
theorem lgt_1 {S : Row} : lgt S 1 = S 1 := by
  unfold lgt
  by_cases h : dn (dz (S 2)) % 8 < cl (S 0)
  · simp only [h, if_true]; rw [upd_n (by omega), upd_n (by omega)]
  · simp only [h, if_false]; rw [upd_n (by omega)]
theorem lgt_0 {S : Row} : lgt S 0 = S 0 := by
  unfold lgt
  by_cases h : dn (dz (S 2)) % 8 < cl (S 0)
  · simp only [h, if_true]; rw [upd_n (by omega), upd_n (by omega)]
  · simp only [h, if_false]; rw [upd_n (by omega)]
theorem lts_SI {S : Row} {k : Nat} (hS : SI S) : SI (lts S k) := by
  induction k with
  | zero => exact hS
  | succ k ih => exact ng_SI (SI_lgt ih)
theorem lts_1 {S : Row} {k T : Nat} (h : S 1 = nI T) : lts S k 1 = nI (T + k) := by
  induction k with
  | zero => exact h
  | succ k ih => show ng (lgt (lts S k)) 0 1 = _; rw [ng_1, lgt_1, ih]; exact (nI_succ _).symm
theorem lts_0 {S : Row} {k : Nat} : lts S k 0 = S 0 := by
  induction k with
  | zero => rfl
  | succ k ih => show ng (lgt (lts S k)) 0 0 = _; rw [ng_0, lgt_0, ih]
theorem kL3 : ∀ W, W < 3 → kLeast.getD W 0 = nI (lo3 W) := by decide
theorem kM3 : ∀ W, W < 3 → kMost.getD W 0 = nI (hi3 W) := by decide
theorem hi3_mx : ∀ W, W < 3 → hi3 W = mx4 W ∧ lo3 W ≤ hi3 W ∧ hi3 W ≤ 9 := by decide
theorem SI_hol {S : Row} {P k : Nat} (hS : SI S) (hP : P < 6) (hk : k ≤ 8) : SI (hol S P k) := by
  induction k with
  | zero => exact hS
  | succ k ih => exact SI_wd (i := 8 * P + k) (v := 0) (ih (by omega)) (by omega) (by omega)
theorem SI_cpg {S : Row} {F T : Nat} (hS : SI S) (hF : F < 6) (hT : T < 6) : SI (cpg S F T) := by
  obtain ⟨⟨N, hN, e⟩, hw, hI, hp⟩ := hS
  refine ⟨⟨N, hN, ?_⟩, fun q hq => ?_, fun m hm => ?_, fun q hq => ?_⟩
  · unfold cpg; rw [if_neg (by omega)]; exact e
  · unfold cpg
    by_cases h : 3 + 8 * T ≤ 3 + q ∧ 3 + q < 3 + 8 * T + 8
    · rw [if_pos h]; exact hw (8 * F + (3 + q - (3 + 8 * T))) (by omega)
    · rw [if_neg h]; exact hw q hq
  · have t : ∀ w, tr (cpg S F T) m w = tr S m w := fun w => by unfold tr cpg; rw [if_neg (by omega)]
    rw [t, t, t, t]; exact hI m hm
  · unfold cpg; rw [if_neg (by omega)]; exact hp q hq
theorem SI_addm {S : Row} {M K P : Nat} (hS : SI S) (hM : M < 8) (hK : K ≤ 6) (hP : P ≤ 5) : SI (addm S M (nI K) (nI P)) := by
  unfold addm
  exact SI_0 (SI_tr (v := 0) (SI_tr (v := 1) (SI_tr (SI_tr hS hM (by omega) (show K ≤ 6 from hK)) hM (by omega) (show P ≤ 5 from hP)) hM (by omega) (show 1 ≤ 9 by omega)) hM (by omega) (show 0 ≤ 9999 by omega)) (by omega)
