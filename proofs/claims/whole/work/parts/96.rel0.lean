theorem r0_z {i : Nat} (h1 : i ≠ 2) (h2 : i < 83) : r0 i = nI 0 := by unfold r0; rw [if_neg h1, if_neg (by omega)]; rfl
theorem r0_m {i : Nat} (h : 83 ≤ i) : r0 i = -1 := by unfold r0; rw [if_neg (by omega), if_pos h]
theorem g0_r {b : Nat} (h : b < 4 ∨ b = 12) : g0 b = r0 := by funext i; exact if_pos h
theorem g0_z {b i : Nat} (h1 : ¬ (b < 4 ∨ b = 12)) (h2 : b ≠ 18) : g0 b i = 0 := by unfold g0; rw [if_neg h1, if_neg h2]
theorem REL0 : REL 0 g0 := by
  have hSI : SI r0 := by
    refine ⟨⟨0, by decide, r0_z (by decide) (by decide)⟩, fun i hi => ⟨0, by decide, r0_z (by omega) (by omega)⟩, fun m hm => ⟨⟨0, by decide, r0_z (by omega) (by omega)⟩, ⟨0, by decide, r0_z (by omega) (by omega)⟩, ⟨0, by decide, r0_z (by omega) (by omega)⟩, ⟨0, by decide, r0_z (by omega) (by omega)⟩⟩, fun i hi => Or.inl (r0_m (by omega))⟩
  have h18 : ∀ t, g0 18 t = -1 := fun t => by unfold g0; rw [if_neg (by decide), if_pos rfl]
  refine ⟨?_, ?_, ⟨?_, fun z => ?_⟩, ⟨?_, fun k hk => ?_⟩, RT_0 (g0_z (by decide) (by decide)) (g0_z (by decide) (by decide)), ⟨fun t ht => ⟨Or.inl (g0_z (by omega) (by omega)), 0, by decide, g0_z (by omega) (by omega)⟩, fun t ht => ⟨?_, ?_, fun i hi => ?_⟩⟩⟩
  · rw [g0_r (Or.inr rfl), g0_r (Or.inl (by decide))]
  · rw [g0_r (Or.inl (by decide))]; exact ⟨hSI, 0, by decide, r0_z (by decide) (by decide)⟩
  · rw [g0_z (by decide) (by decide), g0_z (by decide) (by decide)]
  · exact absurd (g0_z (by decide) (by decide)) z
  · decide +kernel
  · rw [g0_z (by decide) (by decide), g0_z (by decide) (by decide)]
  · rw [h18, if_pos (g0_z (by omega) (by omega))]
  · rw [g0_z (by decide) (by decide), g0_z (by omega) (by omega)]
  · rw [g0_z (by decide) (by decide), g0_z (by omega) (by omega)]
theorem WW_fst2 (G : GT) (g : Mem) : (WW G g).map Prod.fst = (List.range 40).map (gq G) := rfl
theorem WW_k {G : GT} {g : Mem} {k : Nat} {q : Nat × va_E} (h : (WW G g)[k]? = some q) : k < 40 ∧ q.1 = gq G k := by
  have hk : k < 40 := (List.getElem?_eq_some_iff.mp h).1
  refine ⟨hk, ?_⟩
  have h1 : ((WW G g).map Prod.fst)[k]? = some q.1 := by rw [List.getElem?_map, h]; rfl
  rw [WW_fst2, List.getElem?_map, List.getElem?_range hk] at h1
  exact (Option.some.inj h1).symm
theorem WW_e {G : GT} {g : Mem} {k : Nat} (hk : k < 40) : ∃ q, (WW G g)[k]? = some q ∧ q.1 = gq G k := by
  have h : (WW G g)[k]? = some ((WW G g)[k]'hk) := List.getElem?_eq_getElem hk
  exact ⟨_, h, (WW_k h).2⟩
