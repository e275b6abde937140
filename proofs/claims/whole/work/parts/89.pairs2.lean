theorem RS_neg {g : Mem} (r : RS g) {t : Nat} (ht : t < 4) : g 18 t < 0 ↔ g (6 + t) 0 = 0 := by
  obtain ⟨hb, -⟩ := r.1 t ht
  rw [(r.2 t ht).1]
  rcases hb with e | e | e | e
  · rw [e]; decide
  · rw [e]; decide
  · rw [e]; decide
  · rw [e]; decide
theorem RS_b {g : Mem} (r : RS g) {t : Nat} (ht : t < 4) (h : ¬ g (6 + t) 0 = 0) : g 18 t = g (6 + t) 0 := by rw [(r.2 t ht).1, if_neg h]
theorem HZ_of {g : Mem} (r : RS g) : HZ g := by
  intro t ht
  obtain ⟨hb, n, hn, e⟩ := r.1 t ht
  refine ⟨?_, n, hn, by rw [(r.2 t ht).2.1]; exact e⟩
  rw [(r.2 t ht).1]
  rcases hb with e | e | e | e
  · rw [e]; exact Or.inl rfl
  · rw [e]; exact Or.inr (Or.inl rfl)
  · rw [e]; exact Or.inr (Or.inr (Or.inl rfl))
  · rw [e]; exact Or.inr (Or.inr (Or.inr rfl))
theorem cnt_congr {p q : Nat → Bool} : ∀ {n k : Nat}, (∀ i, k ≤ i → i < k + n → p i = q i) → cnt p k n = cnt q k n := by
  intro n
  induction n with
  | zero => intro k _; rfl
  | succ n ih =>
    intro k h
    show (if p k then cnt p (k + 1) n else k) = if q k then cnt q (k + 1) n else k
    rw [h k (Nat.le_refl k) (by omega), ih (k := k + 1) (fun i h1 h2 => h i (by omega) (by omega))]
theorem RS_num {g : Mem} (r : RS g) {t : Nat} (ht : t < 4) {i : Nat} (hi : i < 40) : nuM g t i = num g t i := (r.2 t ht).2.2 i hi
theorem RS_siz {g : Mem} (r : RS g) {t : Nat} (ht : t < 4) : szM g t = siz g t := by show cl (g 19 t) = cl (g (6 + t) 1); rw [(r.2 t ht).2.1]
theorem RS_sz4 {g : Mem} (r : RS g) {t : Nat} (ht : t < 4) : siz g t ≤ 40 := by
  obtain ⟨-, n, hn, e⟩ := r.1 t ht
  show cl (g (6 + t) 1) ≤ 40
  rw [e, cl_nI (by omega)]; exact hn
/-- the numbers alike, so are what comes of them -/
theorem ldc_congr {f f' : Nat → Int32} {z : Nat} (h : ∀ i, i < 40 → f i = f' i) : ldc f z = ldc f' z := by
  unfold ldc
  exact cnt_congr (fun i _ hi => by rw [h i (by omega)])
theorem ldc_8 {f : Nat → Int32} {z : Nat} : ldc f z ≤ 8 := by
  have := (cnt_le (p := fun i => inr (f i) 0 9) (n := min z 8) (k := 0)).2
  unfold ldc; omega
theorem lds_congr {S : Row} {f f' : Nat → Int32} (h : ∀ i, i < 40 → f i = f' i) : ∀ {k : Nat}, k ≤ 8 → lds S f k = lds S f' k := by
  intro k
  induction k with
  | zero => intro _; rfl
  | succ k ih =>
    intro hk
    show upd (lds S f k) _ (f k) = upd (lds S f' k) _ (f' k)
    rw [ih (by omega), h k (by omega)]
theorem lds_RB {n : Nat} {S : Row} {f : Nat → Int32} (hS : RB n S) : ∀ {k : Nat}, k ≤ 8 → (∀ i, i < k → inr (f i) 0 9 = true) → SI (lds S f k) ∧ lds S f k 1 = S 1 := by
  intro k
  induction k with
  | zero => intro _ _; exact ⟨hS.1, rfl⟩
  | succ k ih =>
    intro hk h
    obtain ⟨a, b⟩ := ih (by omega) (fun i hi => h i (by omega))
    obtain ⟨V, hV, e⟩ := inr_nat (n := 9) (by decide) (h k (by omega))
    show SI (upd (lds S f k) (3 + (8 * 0 + k)) (f k)) ∧ upd (lds S f k) (3 + (8 * 0 + k)) (f k) 1 = S 1
    rw [e]
    exact ⟨SI_wd a (by omega) hV, by rw [upd_n (by omega)]; exact b⟩
theorem ldc_in {f : Nat → Int32} {z i : Nat} (h : i < ldc f z) : inr (f i) 0 9 = true := cnt_all (p := fun i => inr (f i) 0 9) (Nat.zero_le i) h
theorem jdr_congr {S : Row} {f f' : Nat → Int32} {z : Nat} (hz : z ≤ 40) (h : ∀ i, i < 40 → f i = f' i) : jdr S f z = jdr S f' z := by
  have e : jdc S f z = jdc S f' z := by
    unfold jdc
    exact cnt_congr (fun i _ hi => by rw [h i (by omega)])
  unfold jdr; rw [e]
theorem fitv_congr {S : Row} {f f' : Nat → Int32} {z P K N : Nat} (h : ∀ i, i < 40 → f i = f' i) : fitv S f z P K N = fitv S f' z P K N := by
  funext v
  unfold fitv told
  exact al_congr (fun j hj => by rw [h j (by omega)])
theorem kinv_congr {S : Row} {f f' : Nat → Int32} {z M : Nat} (hz : z ≤ 40) (h : ∀ i, i < 40 → f i = f' i) : kinv S f z M = kinv S f' z M := by
  funext v
  unfold kinv fedt
  exact al_congr (fun j hj => by rw [h j (by omega)])
/-- a sheet that the class has, the reference has -/
theorem my_eq {n : Nat} {g h : Mem} {s : Int32} {k : AnM} (r : REL n g) (e18 : h 18 = g 18) : my s h k = sx s g k := by
  unfold my sx
  by_cases c : inr s 0 3 = true
  · obtain ⟨Q, hQ, -, hc⟩ := inr3 c
    rw [if_pos c, if_pos c, hc, e18]
    by_cases z : g (6 + Q) 0 = 0
    · rw [if_pos ((RS_neg r.2.2.2.2.2 (by omega)).mpr z), if_pos z]
    · rw [if_neg (fun q => z ((RS_neg r.2.2.2.2.2 (by omega)).mp q)), if_neg z]
  · rw [if_neg c, if_neg c]
theorem sx_or (s : Int32) (g : Mem) (k : AnM) : (∃ f, f < 7 ∧ ∀ k', sx s g k' = .inl f) ∨ (∃ Q, Q ≤ 3 ∧ s = nI Q ∧ cl s = Q ∧ ∀ k', sx s g k' = k') := by
  unfold sx
  by_cases c : inr s 0 3 = true
  · obtain ⟨Q, hQ, e, hc⟩ := inr3 c
    by_cases z : g (6 + cl s) 0 = 0
    · exact Or.inl ⟨5, by decide, fun k' => by rw [if_pos c, if_pos z]⟩
    · exact Or.inr ⟨Q, hQ, e, hc, fun k' => by rw [if_pos c, if_neg z]⟩
  · exact Or.inl ⟨0, by decide, fun k' => by rw [if_neg c]⟩
theorem pr_load {n : Nat} {g g1 g2 : Mem} {r1 r2 s : Int32} (hR : REL n g) (h1 : cgX (x_load s g) g r1 g1) (h2 : cgM (m_load s g1) g1 r2 g2) : r1 = r2 ∧ REL (n + 1) g2 := by
  have hS := hR.2.2.2.2.2
  rcases sx_or s g (.inl 0) with ⟨f, hf, e⟩ | ⟨Q, hQ, es, hc, e⟩
  · unfold x_load at h1
    rw [e] at h1
    exact pr_l (m_load s) mc_load hR h1 h2 (by unfold m_load; rw [my_eq hR (FX_n (by decide)), e])
  · unfold x_load at h1
    rw [e] at h1
    refine pr_r (m_load s) mc_load h1 h2 (h' := ub (ub g 0 (lds (g 0) (num g (cl s)) (ldc (num g (cl s)) (siz g (cl s))))) 12 (lds (g 0) (num g (cl s)) (ldc (num g (cl s)) (siz g (cl s))))) ?_ (REL_row ?_ hR)
    · unfold m_load
      rw [my_eq hR (ub_n (by decide)), e, hc]
      have e1 : ∀ i, i < 40 → nuM (ub g 0 (lds (g 0) (num g Q) (ldc (num g Q) (siz g Q)))) Q i = num g Q i := fun i hi => by
        show ub g 0 _ 20 (40 * Q + i) = _
        rw [ub_n (by decide)]; exact RS_num hS (by omega) hi
      have e2 : szM (ub g 0 (lds (g 0) (num g Q) (ldc (num g Q) (siz g Q)))) Q = siz g Q := by
        show cl (ub g 0 _ 19 Q) = _
        rw [ub_n (by decide)]; exact RS_siz hS (by omega)
      rw [e2, ldc_congr e1, lds_congr e1 ldc_8, ub_n (by decide), hR.1]
    · obtain ⟨a, b⟩ := lds_RB (f := num g (cl s)) hR.2.1 ldc_8 (fun i hi => ldc_in hi)
      exact RB_u hR.2.1 a b
theorem pr_judge {n : Nat} {g g1 g2 : Mem} {r1 r2 s : Int32} (hR : REL n g) (h1 : cgX (x_judge s g) g r1 g1) (h2 : cgM (m_judge s g1) g1 r2 g2) : r1 = r2 ∧ REL (n + 1) g2 := by
  have hS := hR.2.2.2.2.2
  rcases sx_or s g (.inl 0) with ⟨f, hf, e⟩ | ⟨Q, hQ, es, hc, e⟩
  · unfold x_judge at h1
    rw [e] at h1
    exact pr_l (m_judge s) mc_judge hR h1 h2 (by unfold m_judge; rw [my_eq hR (FX_n (by decide)), e])
  · unfold x_judge at h1
    rw [e] at h1
    refine pr_r (m_judge s) mc_judge h1 h2 (h' := g) ?_ hR.s
    unfold m_judge
    rw [my_eq hR rfl, e, hc, RS_siz hS (by omega), jdr_congr (RS_sz4 hS (by omega)) (fun i hi => RS_num hS (by omega) hi), hR.1]
theorem pr_fits {n_ : Nat} {g g1 g2 : Mem} {r1 r2 s p k n : Int32} (hR : REL n_ g) (h1 : cgX (x_fits s p k n g) g r1 g1) (h2 : cgM (m_fits s p k n g1) g1 r2 g2) : r1 = r2 ∧ REL (n_ + 1) g2 := by
  have hS := hR.2.2.2.2.2
  rcases sx_or s g (.inl 0) with ⟨f, hf, e⟩ | ⟨Q, hQ, es, hc, e⟩
  · unfold x_fits at h1
    rw [e] at h1
    exact pr_l (m_fits s p k n) mc_fits hR h1 h2 (by unfold m_fits; rw [my_eq hR (FX_n (by decide)), e])
  · unfold x_fits at h1
    rw [e] at h1
    by_cases c : (inr p 0 5 && inr k 0 7 && inr n 0 20) = true
    · rw [if_pos c] at h1
      refine pr_r (m_fits s p k n) mc_fits h1 h2 (h' := g) ?_ hR.s
      unfold m_fits
      rw [my_eq hR rfl, e, if_pos c, hc, RS_siz hS (by omega), fitv_congr (f := nuM g Q) (f' := num g Q) (fun i hi => RS_num hS (by omega) hi), hR.1]
    · rw [if_neg c] at h1
      exact pr_l (m_fits s p k n) mc_fits hR h1 h2 (by unfold m_fits; rw [my_eq hR (FX_n (by decide)), e, if_neg c])
theorem pr_kinds {n : Nat} {g g1 g2 : Mem} {r1 r2 s m : Int32} (hR : REL n g) (h1 : cgX (x_kinds s m g) g r1 g1) (h2 : cgM (m_kinds s m g1) g1 r2 g2) : r1 = r2 ∧ REL (n + 1) g2 := by
  have hS := hR.2.2.2.2.2
  rcases sx_or s g (.inl 0) with ⟨f, hf, e⟩ | ⟨Q, hQ, es, hc, e⟩
  · unfold x_kinds at h1
    rw [e] at h1
    exact pr_l (m_kinds s m) mc_kinds hR h1 h2 (by unfold m_kinds; rw [my_eq hR (FX_n (by decide)), e])
  · unfold x_kinds at h1
    rw [e] at h1
    by_cases c : isM (g 0) m = true
    · rw [if_pos c] at h1
      refine pr_r (m_kinds s m) mc_kinds h1 h2 (h' := g) ?_ hR.s
      unfold m_kinds
      rw [my_eq hR rfl, e, hR.1, if_pos c, hc, RS_siz hS (by omega), kinv_congr (f := nuM g Q) (f' := num g Q) (RS_sz4 hS (by omega)) (fun i hi => RS_num hS (by omega) hi)]
    · rw [if_neg c] at h1
      exact pr_l (m_kinds s m) mc_kinds hR h1 h2 (by unfold m_kinds; rw [my_eq hR (FX_n (by decide)), e, FX_n (by decide), hR.1, if_neg c])
theorem pr_count {n : Nat} {g g1 g2 : Mem} {r1 r2 w : Int32} (hR : REL n g) (h1 : cgX (x_count w g) g r1 g1) (h2 : cgM (m_count w g1) g1 r2 g2) : r1 = r2 ∧ REL (n + 1) g2 := by
  obtain ⟨m, B, t1, t2, -, -⟩ := hR.2.2.2.2.1
  unfold x_count at h1
  by_cases c : inr w 0 7 = true
  · rw [if_pos c] at h1
    exact pr_r (m_count w) mc_count h1 h2 (h' := g) (by unfold m_count; rw [if_pos c, hR.1, t2, t1]) hR.s
  · rw [if_neg c] at h1
    exact pr_l (m_count w) mc_count hR h1 h2 (by unfold m_count; rw [if_neg c])
theorem pr_status {n : Nat} {g g1 g2 : Mem} {r1 r2 w : Int32} (hR : REL n g) (h1 : cgX (x_status w g) g r1 g1) (h2 : cgM (m_status w g1) g1 r2 g2) : r1 = r2 ∧ REL (n + 1) g2 := by
  have hF := hR.2.2.2.1
  unfold x_status at h1
  by_cases c : w = -1
  · rw [if_pos c] at h1
    refine pr_r (m_status w) mc_status h1 h2 (h' := g) ?_ hR.s
    unfold m_status
    rw [c, if_pos (by decide), show cl (-1 + 1) = 0 from by decide, hF.1]
  · rw [if_neg c] at h1
    by_cases c2 : inr w 0 6 = true
    · rw [if_pos c2] at h1
      obtain ⟨j, hj, rfl⟩ := inr_nat (n := 6) (by decide) c2
      refine pr_r (m_status (nI j)) mc_status h1 h2 (h' := g) ?_ hR.s
      unfold m_status
      have c3 : inr (nI j) (-1) 6 = true := by
        have c4 := of_decide_eq_true c2
        exact decide_eq_true ⟨Int32.le_trans (by decide) c4.1, c4.2⟩
      rw [if_pos c3, nI_1 j, cl_nI (by omega), cl_nI (by omega), hF.2 j (by omega)]
    · rw [if_neg c2] at h1
      refine pr_l (m_status w) mc_status hR h1 h2 ?_
      unfold m_status
      refine if_neg (fun z => ?_)
      have z2 := of_decide_eq_true z
      apply c2
      refine decide_eq_true ⟨?_, z2.2⟩
      have z3 := Int32.le_iff_toInt_le.mp z2.1
      rw [Int32.le_iff_toInt_le]
      have z4 : ¬ w.toInt = -1 := fun q => c (Int32.toInt_inj.mp (by rw [q]; decide))
      rw [show (-1 : Int32).toInt = -1 from by decide] at z3
      rw [show (0 : Int32).toInt = 0 from by decide]
      omega
