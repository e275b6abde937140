theorem pr_image {n : Nat} {g g1 g2 : Mem} {r1 r2 : Int32} (hR : REL n g) (h1 : cgX (x_image g) g r1 g1) (h2 : cgM (m_image g1) g1 r2 g2) : r1 = r2 ∧ REL (n + 1) g2 := by
  unfold x_image at h1
  refine pr_r m_image mc_image h1 h2 rfl ?_
  obtain ⟨r1, r2, r3, r4, r5, r6⟩ := hR
  generalize hk : ub (ub g 1 (g 0)) 11 (upd (g 11) 0 1) = k
  have e : ∀ b, b ≠ 1 → b ≠ 11 → k b = g b := fun b h1 h2 => by rw [← hk, ub_n h2, ub_n h1]
  have k1 : k 1 = g 0 := by rw [← hk, ub_n (by decide), ub_s]
  have k11 : k 11 0 = 1 := by rw [← hk, ub_s, upd_s]
  have e2 : ∀ b, b ≠ 13 → b ≠ 22 → ub (ub k 13 (k 12)) 22 (upd (k 22) 0 1) b = k b := fun b h1 h2 => by rw [ub_n h2, ub_n h1]
  refine ⟨?_, ?_, ⟨?_, fun _ => ⟨?_, ?_⟩⟩, ?_, ?_, ?_⟩
  · rw [e2 12 (by decide) (by decide), e2 0 (by decide) (by decide), e 12 (by decide) (by decide), e 0 (by decide) (by decide)]; exact r1
  · rw [e2 0 (by decide) (by decide), e 0 (by decide) (by decide)]; exact r2.s
  · rw [ub_s, upd_s, e2 11 (by decide) (by decide), k11]
  · rw [ub_n (by decide), ub_s, e2 1 (by decide) (by decide), k1, e 12 (by decide) (by decide)]; exact r1
  · rw [e2 1 (by decide) (by decide), k1]; exact r2.s
  · rw [e2 10 (by decide) (by decide), e2 16 (by decide) (by decide), e 10 (by decide) (by decide), e 16 (by decide) (by decide)]; exact r4
  · refine RT_of ?_ ?_ ?_ ?_ r5
    · rw [e2 4 (by decide) (by decide), e 4 (by decide) (by decide)]
    · rw [ub_s, upd_n (by decide), e 22 (by decide) (by decide)]
    · rw [e2 5 (by decide) (by decide), e 5 (by decide) (by decide)]
    · rw [e2 17 (by decide) (by decide), e 17 (by decide) (by decide)]
  · refine RS_of (fun t ht => ?_) ?_ ?_ ?_ r6
    · rw [e2 _ (by omega) (by omega), e _ (by omega) (by omega)]
    · rw [e2 18 (by decide) (by decide), e 18 (by decide) (by decide)]
    · rw [e2 19 (by decide) (by decide), e 19 (by decide) (by decide)]
    · rw [e2 20 (by decide) (by decide), e 20 (by decide) (by decide)]
theorem pr_undo {n : Nat} {g g1 g2 : Mem} {r1 r2 : Int32} (hR : REL n g) (h1 : cgX (x_undo g) g r1 g1) (h2 : cgM (m_undo g1) g1 r2 g2) : r1 = r2 ∧ REL (n + 1) g2 := by
  have hK := hR.2.2.1
  unfold x_undo at h1
  by_cases c : g 11 0 = 0
  · rw [if_pos c] at h1
    exact pr_l m_undo mc_undo hR h1 h2 (by unfold m_undo; rw [FX_n (by decide), hK.1, if_pos c])
  · rw [if_neg c] at h1
    obtain ⟨k1, k2⟩ := hK.2 c
    refine pr_r m_undo mc_undo h1 h2 (h' := ub (ub g 0 (g 1)) 12 (g 1)) ?_ (REL_row k2.s hR)
    unfold m_undo
    rw [ub_n (by decide), ub_n (by decide), hK.1, if_neg c, k1]
theorem pr_tear {n : Nat} {g g1 g2 : Mem} {r1 r2 : Int32} (hR : REL n g) (h1 : cgX (x_tear g) g r1 g1) (h2 : cgM (m_tear g1) g1 r2 g2) : r1 = r2 ∧ REL (n + 1) g2 := by
  have hK := hR.2.2.1
  unfold x_tear at h1
  refine pr_r m_tear mc_tear h1 h2 (h' := ub (ub g 11 (upd (g 11) 0 0)) 22 (upd (g 22) 0 0)) (by unfold m_tear; rw [ub_n (by decide), hK.1]) ?_
  obtain ⟨r1, r2, r3, r4, r5, r6⟩ := hR
  have e2 : ∀ b, b ≠ 11 → b ≠ 22 → ub (ub g 11 (upd (g 11) 0 0)) 22 (upd (g 22) 0 0) b = g b := fun b h1 h2 => by rw [ub_n h2, ub_n h1]
  refine ⟨?_, ?_, ⟨?_, fun z => ?_⟩, ?_, ?_, ?_⟩
  · rw [e2 12 (by decide) (by decide), e2 0 (by decide) (by decide)]; exact r1
  · rw [e2 0 (by decide) (by decide)]; exact r2.s
  · rw [ub_s, upd_s, ub_n (by decide), ub_s, upd_s]
  · exact absurd (by rw [ub_n (by decide), ub_s, upd_s]) z
  · rw [e2 10 (by decide) (by decide), e2 16 (by decide) (by decide)]; exact r4
  · refine RT_of ?_ ?_ ?_ ?_ r5
    · rw [e2 4 (by decide) (by decide)]
    · rw [ub_s, upd_n (by decide)]
    · exact e2 5 (by decide) (by decide)
    · exact e2 17 (by decide) (by decide)
  · exact RS_of (fun t ht => e2 _ (by omega) (by omega)) (e2 18 (by decide) (by decide)) (e2 19 (by decide) (by decide)) (e2 20 (by decide) (by decide)) r6
theorem okb_or {b : Int32} (h : okb b = true) : b = 0 ∨ b = 8 ∨ b = 16 ∨ b = 32 := of_decide_eq_true h
/-- a change of sheets alone -/
theorem REL_sh {n : Nat} {g h : Mem} (hR : REL n g) (e : ∀ b, b < 6 ∨ (10 ≤ b ∧ b < 18) ∨ 20 < b → h b = g b) (r : RS h) : REL (n + 1) h := by
  obtain ⟨r1, r2, r3, r4, r5, r6⟩ := hR
  refine ⟨?_, ?_, ?_, ?_, ?_, r⟩
  · rw [e 12 (by decide), e 0 (by decide)]; exact r1
  · rw [e 0 (by decide)]; exact r2.s
  · exact RK_of (Nat.le_succ n) (by rw [e 11 (by decide)]) (by rw [e 22 (by decide)]) (e 13 (by decide)) (e 1 (by decide)) r3
  · rw [e 10 (by decide), e 16 (by decide)]; exact r4
  · exact RT_of (by rw [e 4 (by decide)]) (by rw [e 22 (by decide)]) (e 5 (by decide)) (e 17 (by decide)) r5
theorem mkS_0 {b n : Int32} : mkS b n 0 = b := rfl
theorem mkS_1 {b n : Int32} : mkS b n 1 = if b = 0 then 0 else n := rfl
theorem mkS_2 {b n : Int32} {i : Nat} : mkS b n (2 + i) = 0 := by unfold mkS; rw [if_neg (by omega), if_neg (by omega)]
theorem pr_sheet {n_ : Nat} {g g1 g2 : Mem} {r1 r2 s b n : Int32} (hR : REL n_ g) (h1 : cgX (x_sheet s b n g) g r1 g1) (h2 : cgM (m_sheet s b n g1) g1 r2 g2) : r1 = r2 ∧ REL (n_ + 1) g2 := by
  have hS := hR.2.2.2.2.2
  unfold x_sheet at h1
  by_cases c : (inr s 0 3 && okb b) = true
  · rw [if_pos c] at h1
    by_cases c2 : n < 0
    · rw [if_pos c2] at h1
      exact pr_l (m_sheet s b n) mc_sheet hR h1 h2 (by unfold m_sheet; rw [if_pos c, if_pos c2])
    · rw [if_neg c2] at h1
      by_cases c3 : 40 < n
      · rw [if_pos c3] at h1
        exact pr_l (m_sheet s b n) mc_sheet hR h1 h2 (by unfold m_sheet; rw [if_pos c, if_neg c2, if_pos c3])
      · rw [if_neg c3] at h1
        obtain ⟨Q, hQ, -, hc⟩ := inr3 (and_tt c).1
        have ob := okb_or (and_tt c).2
        obtain ⟨N, hN, rfl⟩ := inr_nat (n := 40) (by decide) (decide_eq_true ⟨Int32.not_lt.mp c2, Int32.not_lt.mp c3⟩)
        rw [hc] at h1
        refine pr_r (m_sheet s b (nI N)) mc_sheet h1 h2 (h' := shM (ub g (6 + Q) (mkS b (nI N))) Q b (nI N)) (by unfold m_sheet; rw [if_pos c, if_neg c2, if_neg c3, hc]) ?_
        have e : ∀ x, x ≠ 18 → x ≠ 19 → x ≠ 20 → shM (ub g (6 + Q) (mkS b (nI N))) Q b (nI N) x = ub g (6 + Q) (mkS b (nI N)) x := fun x q1 q2 q3 => by unfold shM; rw [ub_n q3, ub_n q2, ub_n q1]
        refine REL_sh hR (fun x hx => by rw [e x (by omega) (by omega) (by omega), ub_n (by omega)]) ⟨fun t ht => ?_, fun t ht => ?_⟩
        · rw [e _ (by omega) (by omega) (by omega)]
          by_cases q : t = Q
          · rw [q, ub_s, mkS_0, mkS_1]
            refine ⟨ob, ?_⟩
            by_cases z : b = 0
            · rw [if_pos z]; exact ⟨0, by decide, rfl⟩
            · rw [if_neg z]; exact ⟨N, hN, rfl⟩
          · rw [ub_n (by omega)]; exact hS.1 t ht
        · rw [e (6 + t) (by omega) (by omega) (by omega)]
          have u18 : shM (ub g (6 + Q) (mkS b (nI N))) Q b (nI N) 18 = upd (g 18) Q (if b = 0 then -1 else b) := by unfold shM; rw [ub_n (by decide), ub_n (by decide), ub_s, ub_n (by omega)]
          have u19 : shM (ub g (6 + Q) (mkS b (nI N))) Q b (nI N) 19 = upd (g 19) Q (if b = 0 then 0 else nI N) := by unfold shM; rw [ub_n (by decide), ub_s, ub_n (by omega)]
          have u20 : shM (ub g (6 + Q) (mkS b (nI N))) Q b (nI N) 20 = zer (g 20) Q 40 := by unfold shM; rw [ub_s, ub_n (by omega)]
          rw [u18, u19, u20]
          by_cases q : t = Q
          · rw [q, ub_s, upd_s, upd_s, mkS_0, mkS_1]
            refine ⟨rfl, rfl, fun i hi => ?_⟩
            rw [mkS_2]; exact if_pos (by omega)
          · rw [ub_n (by omega), upd_n q, upd_n q]
            refine ⟨(hS.2 t ht).1, (hS.2 t ht).2.1, fun i hi => ?_⟩
            rw [← (hS.2 t ht).2.2 i hi]; exact if_neg (by omega)
  · rw [if_neg c] at h1
    exact pr_l (m_sheet s b n) mc_sheet hR h1 h2 (by unfold m_sheet; rw [if_neg c])
theorem pr_write {n : Nat} {g g1 g2 : Mem} {r1 r2 s i v : Int32} (hR : REL n g) (h1 : cgX (x_write s i v g) g r1 g1) (h2 : cgM (m_write s i v g1) g1 r2 g2) : r1 = r2 ∧ REL (n + 1) g2 := by
  have hS := hR.2.2.2.2.2
  unfold x_write at h1
  by_cases c : inr s 0 3 = true
  · rw [if_pos c] at h1
    obtain ⟨Q, hQ, -, hc⟩ := inr3 c
    rw [hc] at h1
    by_cases c2 : g (6 + Q) 0 = 0
    · rw [if_pos c2] at h1
      exact pr_l (m_write s i v) mc_write hR h1 h2 (by unfold m_write; rw [if_pos c, hc, FX_n (by decide), if_pos ((RS_neg hS (by omega)).mpr c2)])
    · rw [if_neg c2] at h1
      have c4 : ¬ g 18 Q < 0 := fun q => c2 ((RS_neg hS (by omega)).mp q)
      have c5 := (hS.2 Q (by omega)).2.1
      by_cases c3 : inr i 0 (g (6 + Q) 1 - 1) = true
      · rw [if_pos c3] at h1
        obtain ⟨-, z, hz, ez⟩ := hS.1 Q (by omega)
        obtain ⟨I, hI, rfl⟩ := inr_sz hz (by rw [← ez]; exact c3)
        rw [cl_nI (show I < 2 ^ 31 by omega)] at h1
        generalize hw : nar (g (6 + Q) 0) v = w at h1
        refine pr_r (m_write s (nI I) v) mc_write h1 h2 (h' := ub (ub g (6 + Q) (upd (g (6 + Q)) (2 + I) w)) 20 (upd (g 20) (40 * Q + I) w)) ?_ ?_
        · unfold m_write
          rw [if_pos c, hc, ub_n (by omega), ub_n (by omega), ub_n (by omega), if_neg c4, c5, if_pos c3, cl_nI (show I < 2 ^ 31 by omega), RS_b hS (by omega) c2, hw]
        · have e : ∀ x, x ≠ 20 → ub (ub g (6 + Q) (upd (g (6 + Q)) (2 + I) w)) 20 (upd (g 20) (40 * Q + I) w) x = ub g (6 + Q) (upd (g (6 + Q)) (2 + I) w) x := fun x q => ub_n q
          refine REL_sh hR (fun x hx => by rw [e x (by omega), ub_n (by omega)]) ⟨fun t ht => ?_, fun t ht => ?_⟩
          · rw [e _ (by omega)]
            by_cases q : t = Q
            · rw [q, ub_s, upd_n (by omega), upd_n (by omega)]; exact hS.1 Q (by omega)
            · rw [ub_n (by omega)]; exact hS.1 t ht
          · rw [e (6 + t) (by omega), e 18 (by decide), e 19 (by decide), ub_s, ub_n (show 18 ≠ 6 + Q by omega), ub_n (show 19 ≠ 6 + Q by omega)]
            by_cases q : t = Q
            · rw [q, ub_s, upd_n (show 0 ≠ 2 + I by omega), upd_n (show 1 ≠ 2 + I by omega)]
              refine ⟨(hS.2 Q (by omega)).1, c5, fun j hj => ?_⟩
              by_cases ej : j = I
              · rw [ej, upd_s, upd_s]
              · rw [upd_n (by omega), upd_n (by omega)]; exact (hS.2 Q (by omega)).2.2 j hj
            · rw [ub_n (by omega)]
              refine ⟨(hS.2 t ht).1, (hS.2 t ht).2.1, fun j hj => ?_⟩
              rw [upd_n (by omega)]; exact (hS.2 t ht).2.2 j hj
      · rw [if_neg c3] at h1
        exact pr_l (m_write s i v) mc_write hR h1 h2 (by unfold m_write; rw [if_pos c, hc, FX_n (by decide), FX_n (by decide), if_neg c4, c5, if_neg c3])
  · rw [if_neg c] at h1
    exact pr_l (m_write s i v) mc_write hR h1 h2 (by unfold m_write; rw [if_neg c])
theorem pr_copy {n_ : Nat} {g g1 g2 : Mem} {r1 r2 s f t u n : Int32} (hR : REL n_ g) (h1 : cgX (x_copy s f t u n g) g r1 g1) (h2 : cgM (m_copy s f t u n g1) g1 r2 g2) : r1 = r2 ∧ REL (n_ + 1) g2 := by
  have hS := hR.2.2.2.2.2
  unfold x_copy at h1
  by_cases c : (inr s 0 3 && inr t 0 3) = true
  · rw [if_pos c] at h1
    obtain ⟨Q, hQ, -, hc⟩ := inr3 (and_tt c).1
    obtain ⟨V, hV, -, hd⟩ := inr3 (and_tt c).2
    rw [hc, hd] at h1
    have n1 := RS_neg hS (show Q < 4 by omega)
    have n2 := RS_neg hS (show V < 4 by omega)
    have z1 := (hS.2 Q (by omega)).2.1
    have z2 := (hS.2 V (by omega)).2.1
    by_cases c2 : g (6 + Q) 0 = 0 ∨ g (6 + V) 0 = 0
    · rw [if_pos c2] at h1
      refine pr_l (m_copy s f t u n) mc_copy hR h1 h2 ?_
      unfold m_copy
      rw [if_pos c, hc, hd, FX_n (by decide)]
      exact if_pos (c2.elim (fun q => Or.inl (n1.mpr q)) (fun q => Or.inr (n2.mpr q)))
    · rw [if_neg c2] at h1
      have c2a : ¬ g (6 + Q) 0 = 0 := fun q => c2 (Or.inl q)
      have c2b : ¬ g (6 + V) 0 = 0 := fun q => c2 (Or.inr q)
      have b1 := RS_b hS (show Q < 4 by omega) c2a
      have b2 := RS_b hS (show V < 4 by omega) c2b
      have m2 : ¬ (g 18 Q < 0 ∨ g 18 V < 0) := fun q => q.elim (fun q => c2a (n1.mp q)) (fun q => c2b (n2.mp q))
      by_cases c3 : ¬ g (6 + Q) 0 = g (6 + V) 0
      · rw [if_pos c3] at h1
        refine pr_l (m_copy s f t u n) mc_copy hR h1 h2 ?_
        unfold m_copy
        rw [if_pos c, hc, hd, FX_n (by decide), if_neg m2]
        exact if_pos (by rw [b1, b2]; exact c3)
      · rw [if_neg c3] at h1
        by_cases c4 : (run (g (6 + Q) 1) f n && run (g (6 + V) 1) u n) = true
        · rw [if_pos c4] at h1
          obtain ⟨-, z, hz, ez⟩ := hS.1 Q (by omega)
          obtain ⟨-, y, hy, ey⟩ := hS.1 V (by omega)
          obtain ⟨F, N, hF, rfl, rfl⟩ := run_nat hz (by rw [← ez]; exact (and_tt c4).1)
          obtain ⟨U, N2, hU, rfl, eN⟩ := run_nat hy (by rw [← ey]; exact (and_tt c4).2)
          have eN : N = N2 := (nI_eq (by omega) (by omega)).mp eN
          rw [cl_nI (show F < 2 ^ 31 by omega), cl_nI (show U < 2 ^ 31 by omega), cl_nI (show N < 2 ^ 31 by omega)] at h1
          refine pr_r (m_copy s (nI F) t (nI U) (nI N)) mc_copy h1 h2 (h' := ub (ub g (6 + V) (cpS (g (6 + V)) (g (6 + Q)) F U N)) 20 (cpn (g 20) (40 * Q + F) (40 * V + U) 0 N)) ?_ ?_
          · unfold m_copy
            rw [if_pos c, hc, hd, ub_n (show 18 ≠ 6 + V by omega), ub_n (show 19 ≠ 6 + V by omega), ub_n (show 20 ≠ 6 + V by omega), if_neg m2, if_neg (by rw [b1, b2]; exact c3), z1, z2, if_pos c4, cl_nI (show F < 2 ^ 31 by omega), cl_nI (show U < 2 ^ 31 by omega), cl_nI (show N < 2 ^ 31 by omega)]
          · have e : ∀ x, x ≠ 20 → ub (ub g (6 + V) (cpS (g (6 + V)) (g (6 + Q)) F U N)) 20 (cpn (g 20) (40 * Q + F) (40 * V + U) 0 N) x = ub g (6 + V) (cpS (g (6 + V)) (g (6 + Q)) F U N) x := fun x q => ub_n q
            have s0 : cpS (g (6 + V)) (g (6 + Q)) F U N 0 = g (6 + V) 0 := if_neg (by omega)
            have s1 : cpS (g (6 + V)) (g (6 + Q)) F U N 1 = g (6 + V) 1 := if_neg (by omega)
            refine REL_sh hR (fun x hx => by rw [e x (by omega), ub_n (by omega)]) ⟨fun t ht => ?_, fun t ht => ?_⟩
            · rw [e _ (by omega)]
              by_cases q : t = V
              · rw [q, ub_s, s0, s1]; exact hS.1 V (by omega)
              · rw [ub_n (by omega)]; exact hS.1 t ht
            · rw [e (6 + t) (by omega), e 18 (by decide), e 19 (by decide), ub_s, ub_n (show 18 ≠ 6 + V by omega), ub_n (show 19 ≠ 6 + V by omega)]
              by_cases q : t = V
              · rw [q, ub_s, s0, s1]
                refine ⟨(hS.2 V (by omega)).1, z2, fun j hj => ?_⟩
                unfold cpn cpS
                by_cases ej : U ≤ j ∧ j < U + N
                · rw [if_pos (by omega), if_pos (by omega), show 40 * Q + F + (40 * V + j - (40 * V + U)) = 40 * Q + (F + (j - U)) by omega, (hS.2 Q (by omega)).2.2 _ (by omega), show 2 + j - (2 + U) = j - U by omega]
                · rw [if_neg (by omega), if_neg (by omega)]; exact (hS.2 V (by omega)).2.2 j hj
              · rw [ub_n (by omega)]
                refine ⟨(hS.2 t ht).1, (hS.2 t ht).2.1, fun j hj => ?_⟩
                unfold cpn
                rw [if_neg (by omega)]; exact (hS.2 t ht).2.2 j hj
        · rw [if_neg c4] at h1
          refine pr_l (m_copy s f t u n) mc_copy hR h1 h2 ?_
          unfold m_copy
          rw [if_pos c, hc, hd, FX_n (show 18 ≠ 10 by decide), FX_n (show 19 ≠ 10 by decide), if_neg m2, if_neg (by rw [b1, b2]; exact c3), z1, z2, if_neg c4]
  · rw [if_neg c] at h1
    exact pr_l (m_copy s f t u n) mc_copy hR h1 h2 (by unfold m_copy; rw [if_neg c])
