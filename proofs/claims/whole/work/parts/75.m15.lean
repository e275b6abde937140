theorem bat_c {B : Nat → Nat} {m : Nat} {t : Tk} (hB : ∀ j, j < m → B j < 256) (ht : TOK B m t) {k : Nat} (hk : k < 12) (hw : t.2.2.1 - t.2.1 = sl k) {j : Nat} (hj : j < sl k) : decide (bat B m (t.2.1 + j) = chr k j) = decide (B (t.2.1 + j) = cl (chr k j)) := by
  have h1 := ht.1
  have h2 := ht.2.1
  obtain ⟨e1, e2⟩ := chr_nI k hk j hj
  have h3 : (bat B m (t.2.1 + j) = chr k j) ↔ B (t.2.1 + j) = cl (chr k j) := by
    rw [e1, bat_eq (fun h => hB _ h) (by omega), ← e1]
    exact ⟨fun e => e.2, fun e => ⟨by omega, e⟩⟩
  by_cases q : B (t.2.1 + j) = cl (chr k j)
  · rw [decide_eq_true q, decide_eq_true (h3.mpr q)]
  · rw [decide_eq_false q, decide_eq_false (fun z => q (h3.mp z))]
theorem nmk_iw {B : Nat → Nat} {m : Nat} {t : Tk} (hB : ∀ j, j < m → B j < 256) (ht : TOK B m t) {k n : Nat} (hk : k < 12) (hn : sl k = n) : nmk B k t = (iw t n && al (fun j => decide (bat B m (t.2.1 + j) = chr k j)) n) := by
  subst hn
  unfold nmk iw
  by_cases h1 : t.1 = 1
  · by_cases h2 : t.2.2.1 - t.2.1 = sl k
    · rw [al_congr (fun j hj => (bat_c hB ht hk h2 hj).symm)]
    · rw [decide_eq_false h2, Bool.and_false]; rfl
  · rw [decide_eq_false h1]; rfl
theorem al2 (p : Nat → Bool) : al p 2 = (p 0 && p 1) := by show ((true && p 0) && p 1) = _; cases p 0 <;> cases p 1 <;> rfl
theorem al3 (p : Nat → Bool) : al p 3 = (p 0 && p 1 && p 2) := by show (((true && p 0) && p 1) && p 2) = _; cases p 0 <;> cases p 1 <;> cases p 2 <;> rfl
theorem al4 (p : Nat → Bool) : al p 4 = ((p 0 && p 1 && p 2) && (p 1 && p 2 && p 3)) := by show ((((true && p 0) && p 1) && p 2) && p 3) = _; cases p 0 <;> cases p 1 <;> cases p 2 <;> cases p 3 <;> rfl
theorem al5 (p : Nat → Bool) : al p 5 = ((p 0 && p 1 && p 2) && (p 2 && p 3 && p 4)) := by show (((((true && p 0) && p 1) && p 2) && p 3) && p 4) = _; cases p 0 <;> cases p 1 <;> cases p 2 <;> cases p 3 <;> cases p 4 <;> rfl
theorem al6 (p : Nat → Bool) : al p 6 = ((p 0 && p 1 && p 2) && (p 3 && p 4 && p 5)) := by show ((((((true && p 0) && p 1) && p 2) && p 3) && p 4) && p 5) = _; cases p 0 <;> cases p 1 <;> cases p 2 <;> cases p 3 <;> cases p 4 <;> cases p 5 <;> rfl
theorem al7 (p : Nat → Bool) : al p 7 = (((p 0 && p 1 && p 2) && (p 3 && p 4 && p 5)) && (p 4 && p 5 && p 6)) := by show (((((((true && p 0) && p 1) && p 2) && p 3) && p 4) && p 5) && p 6) = _; cases p 0 <;> cases p 1 <;> cases p 2 <;> cases p 3 <;> cases p 4 <;> cases p 5 <;> cases p 6 <;> rfl
