/-! calls that reach beyond the row: the reference's answers don't hang on scratch cells -/
theorem cM_if {c : Prop} [Decidable c] {a b a' b' : AnM} {g h k : Mem} {r : Int32} (ha : c → cgM a g r k → cgM a' h r k) (hb : ¬ c → cgM b g r k → cgM b' h r k) : cgM (if c then a else b) g r k → cgM (if c then a' else b') h r k := by
  by_cases q : c
  · rw [if_pos q, if_pos q]; exact ha q
  · rw [if_neg q, if_neg q]; exact hb q
theorem cM_l {f : Nat} {g h k : Mem} {r : Int32} (q : SC g h) (p : cgM (.inl f) g r k) : cgM (.inl f) h r k := by
  obtain ⟨a, b, d⟩ := p
  exact ⟨a, b, d.trans (FM_SC q)⟩
theorem cM_r {v : Int32} {m1 m2 g h k : Mem} {r : Int32} (q : SC m1 m2) (p : cgM (.inr (v, m1)) g r k) : cgM (.inr (v, m2)) h r k := by
  obtain ⟨a, d⟩ := p
  exact ⟨a, d.trans q⟩
theorem SC_22 {a b : Mem} {V V' : Row} (q : SC a b) (h0 : V 0 = V' 0) (h1 : V 1 = V' 1) : SC (ub a 22 V) (ub b 22 V') := by
  refine ⟨fun b' e1 e2 e3 e4 e5 e6 e7 => ?_, ?_, ?_, ?_⟩
  · rw [ub_n e7, ub_n e7]; exact q.1 b' e1 e2 e3 e4 e5 e6 e7
  · rw [ub_n (by decide), ub_n (by decide)]; exact q.2.1
  · rw [ub_s, ub_s]; exact h0
  · rw [ub_s, ub_s]; exact h1
theorem SC_if {c : Prop} [Decidable c] {a b a' b' : Mem} (ha : SC a a') (hb : SC b b') : SC (if c then a else b) (if c then a' else b') := by
  by_cases q : c
  · rw [if_pos q, if_pos q]; exact ha
  · rw [if_neg q, if_neg q]; exact hb
theorem mc_sheet {s b n : Int32} {g h k : Mem} {r : Int32} (q : SC g h) : cgM (m_sheet s b n g) g r k → cgM (m_sheet s b n h) h r k := by
  have e : SC (shM g (cl s) b n) (shM h (cl s) b n) := by
    unfold shM
    rw [q.at 18 rfl, q.at 19 rfl, q.at 20 rfl]
    exact q.ubb.ubb.ubb
  unfold m_sheet
  exact cM_if (fun _ => cM_if (fun _ => cM_l q) (fun _ => cM_if (fun _ => cM_l q) (fun _ => cM_r e))) (fun _ => cM_l q)
theorem mc_write {s i v : Int32} {g h k : Mem} {r : Int32} (q : SC g h) : cgM (m_write s i v g) g r k → cgM (m_write s i v h) h r k := by
  unfold m_write
  rw [q.at 18 rfl, q.at 19 rfl, q.at 20 rfl]
  exact cM_if (fun _ => cM_if (fun _ => cM_l q) (fun _ => cM_if (fun _ => cM_r q.ubb) (fun _ => cM_l q))) (fun _ => cM_l q)
theorem mc_copy {s f t u n : Int32} {g h k : Mem} {r : Int32} (q : SC g h) : cgM (m_copy s f t u n g) g r k → cgM (m_copy s f t u n h) h r k := by
  unfold m_copy
  rw [q.at 18 rfl, q.at 19 rfl, q.at 20 rfl]
  exact cM_if (fun _ => cM_if (fun _ => cM_l q) (fun _ => cM_if (fun _ => cM_l q) (fun _ => cM_if (fun _ => cM_r q.ubb) (fun _ => cM_l q)))) (fun _ => cM_l q)
theorem mc_load {s : Int32} {g h k : Mem} {r : Int32} (q : SC g h) : cgM (m_load s g) g r k → cgM (m_load s h) h r k := by
  unfold m_load my nuM szM
  rw [q.at 12 rfl, q.at 18 rfl, q.at 19 rfl, q.at 20 rfl]
  exact cM_if (fun _ => cM_if (fun _ => cM_l q) (fun _ => cM_r q.ubb)) (fun _ => cM_l q)
theorem mc_judge {s : Int32} {g h k : Mem} {r : Int32} (q : SC g h) : cgM (m_judge s g) g r k → cgM (m_judge s h) h r k := by
  unfold m_judge my nuM szM
  rw [q.at 12 rfl, q.at 18 rfl, q.at 19 rfl, q.at 20 rfl]
  exact cM_if (fun _ => cM_if (fun _ => cM_l q) (fun _ => cM_r q)) (fun _ => cM_l q)
theorem mc_fits {s p k0 n : Int32} {g h k : Mem} {r : Int32} (q : SC g h) : cgM (m_fits s p k0 n g) g r k → cgM (m_fits s p k0 n h) h r k := by
  unfold m_fits my nuM szM
  rw [q.at 12 rfl, q.at 18 rfl, q.at 19 rfl, q.at 20 rfl]
  exact cM_if (fun _ => cM_if (fun _ => cM_l q) (fun _ => cM_if (fun _ => cM_r q) (fun _ => cM_l q))) (fun _ => cM_l q)
theorem mc_kinds {s m : Int32} {g h k : Mem} {r : Int32} (q : SC g h) : cgM (m_kinds s m g) g r k → cgM (m_kinds s m h) h r k := by
  unfold m_kinds my nuM szM
  rw [q.at 12 rfl, q.at 18 rfl, q.at 19 rfl, q.at 20 rfl]
  exact cM_if (fun _ => cM_if (fun _ => cM_l q) (fun _ => cM_if (fun _ => cM_r q) (fun _ => cM_l q))) (fun _ => cM_l q)
theorem mc_image {g h k : Mem} {r : Int32} (q : SC g h) : cgM (m_image g) g r k → cgM (m_image h) h r k := by
  unfold m_image
  rw [q.at 12 rfl]
  exact cM_r (SC_22 q.ubb (by rw [upd_s, upd_s]) (by rw [upd_n (by decide), upd_n (by decide)]; exact q.2.2.2))
theorem mc_undo {g h k : Mem} {r : Int32} (q : SC g h) : cgM (m_undo g) g r k → cgM (m_undo h) h r k := by
  unfold m_undo
  rw [q.2.2.1, q.at 13 rfl]
  exact cM_if (fun _ => cM_l q) (fun _ => cM_r q.ubb)
theorem mc_tear {g h k : Mem} {r : Int32} (q : SC g h) : cgM (m_tear g) g r k → cgM (m_tear h) h r k := by
  unfold m_tear
  rw [q.2.2.1]
  exact cM_r (SC_22 q (by rw [upd_s, upd_s]) (by rw [upd_n (by decide), upd_n (by decide)]; exact q.2.2.2))
theorem mc_count {w : Int32} {g h k : Mem} {r : Int32} (q : SC g h) : cgM (m_count w g) g r k → cgM (m_count w h) h r k := by
  unfold m_count
  rw [q.at 12 rfl, q.2.2.2]
  exact cM_if (fun _ => cM_r q) (fun _ => cM_l q)
theorem mc_status {w : Int32} {g h k : Mem} {r : Int32} (q : SC g h) : cgM (m_status w g) g r k → cgM (m_status w h) h r k := by
  unfold m_status
  rw [q.at 16 rfl]
  exact cM_if (fun _ => cM_r q) (fun _ => cM_l q)
theorem mc_feed {b n : Int32} {g h k : Mem} {r : Int32} (q : SC g h) : cgM (m_feed b n g) g r k → cgM (m_feed b n h) h r k := by
  unfold m_feed
  rw [q.2.2.2, q.at 17 rfl]
  exact cM_if (fun _ => cM_if (fun _ => cM_l q) (fun _ => cM_r (SC_22 q.ubb (by rw [upd_n (by decide), upd_n (by decide)]; exact q.2.2.1) (by rw [upd_s, upd_s])))) (fun _ => cM_l q)
theorem mc_wipe {g h k : Mem} {r : Int32} (q : SC g h) : cgM (m_wipe g) g r k → cgM (m_wipe h) h r k := by
  unfold m_wipe
  rw [q.2.2.2]
  exact cM_r (SC_22 q (by rw [upd_n (by decide), upd_n (by decide)]; exact q.2.2.1) (by rw [upd_s, upd_s]))
theorem mc_text {B : Nat → Nat} {m : Nat} {g h k : Mem} {r : Int32} (q : SC g h) : cgM (m_text B m g) g r k → cgM (m_text B m h) h r k := by
  unfold m_text
  rw [q.at 12 rfl]
  exact cM_r (SC_if (SC_22 q.ubb (by rw [upd_n (by decide), upd_n (by decide)]; exact q.2.2.1) (by rw [upd_s, upd_s])) (SC_22 q (by rw [upd_n (by decide), upd_n (by decide)]; exact q.2.2.1) (by rw [upd_s, upd_s])))
theorem pr_l (m : Mem → AnM) {n : Nat} {g g1 g2 : Mem} {r1 r2 : Int32} {f : Nat} (hm : ∀ {a b : Mem} {r : Int32} {k : Mem}, SC a b → cgM (m a) a r k → cgM (m b) b r k) (hR : REL n g) (h1 : cgX (.inl f) g r1 g1) (h2 : cgM (m g1) g1 r2 g2) (e : m (FX g f) = .inl f) : r1 = r2 ∧ REL (n + 1) g2 := by
  obtain ⟨hf, a1, q1⟩ := h1
  have h3 := hm q1 h2
  rw [e] at h3
  obtain ⟨-, a2, q2⟩ := h3
  exact ⟨a1.trans a2.symm, REL_SC q2 (REL_F hf hR)⟩
theorem pr_r (m : Mem → AnM) {n : Nat} {g g1 g2 h h' : Mem} {r1 r2 v : Int32} (hm : ∀ {a b : Mem} {r : Int32} {k : Mem}, SC a b → cgM (m a) a r k → cgM (m b) b r k) (h1 : cgX (.inr (v, h)) g r1 g1) (h2 : cgM (m g1) g1 r2 g2) (e : m h = .inr (v, h')) (hR : REL (n + 1) h') : r1 = r2 ∧ REL (n + 1) g2 := by
  obtain ⟨a1, q1⟩ := h1
  have h3 := hm q1 h2
  rw [e] at h3
  obtain ⟨a2, q2⟩ := h3
  exact ⟨a1.trans a2.symm, REL_SC q2 hR⟩
theorem MP_SC {g h k : Mem} (q : SC g h) (p : MP h k) : MP g k := ⟨fun b hb => by rw [q.1 b (by omega) (by omega) (by omega) (by omega) (by omega) (by omega) (by omega)]; exact p.1 b hb, q.2.2.1.trans p.2.1, q.2.2.2.trans p.2.2⟩
theorem MP_rf {g : Mem} : MP g g := ⟨fun _ _ => rfl, rfl, rfl⟩
theorem MP_u {g h : Mem} {b : Nat} {R : Row} (hb : b < 12) (p : MP h g) : MP (ub h b R) g := ⟨fun b' hb' => by rw [ub_n (by omega)]; exact p.1 b' hb', by rw [ub_n (by omega)]; exact p.2.1, by rw [ub_n (by omega)]; exact p.2.2⟩
/-- what the class's call leaves of the reference's part -/
def GX (g : Mem) (a : AnM) : Prop := ∀ v h, a = .inr (v, h) → MP h g
theorem MP_G {o : AnM} {g g' : Mem} {r : Int32} (hs : GX g o) (h : cgX o g r g') : MP g' g := by
  cases o with
  | inl f => obtain ⟨-, -, q⟩ := h; exact MP_SC q (MP_u (by decide) MP_rf)
  | inr p => obtain ⟨v, k⟩ := p; obtain ⟨-, q⟩ := h; exact MP_SC q (hs v k rfl)
theorem inr3 {s : Int32} (h : inr s 0 3 = true) : ∃ Q, Q ≤ 3 ∧ s = nI Q ∧ cl s = Q := by
  obtain ⟨Q, hQ, rfl⟩ := inr_nat (n := 3) (by decide) h
  exact ⟨Q, hQ, rfl, cl_nI (by omega)⟩
theorem gx_sheet {s b n : Int32} {g : Mem} : GX g (x_sheet s b n g) := by
  intro v h e
  unfold x_sheet at e
  split at e
  · rename_i c
    obtain ⟨Q, hQ, -, hc⟩ := inr3 (and_tt c).1
    split at e
    · cases e
    · split at e
      · cases e
      · cases e; exact MP_u (by omega) MP_rf
  · cases e
theorem gx_write {s i v : Int32} {g : Mem} : GX g (x_write s i v g) := by
  intro v_ h e
  unfold x_write at e
  split at e
  · rename_i c
    obtain ⟨Q, hQ, -, hc⟩ := inr3 c
    split at e
    · cases e
    · split at e
      · cases e; exact MP_u (by omega) MP_rf
      · cases e
  · cases e
theorem gx_copy {s f t u n : Int32} {g : Mem} : GX g (x_copy s f t u n g) := by
  intro v h e
  unfold x_copy at e
  split at e
  · rename_i c
    obtain ⟨Q, hQ, -, hc⟩ := inr3 (and_tt c).2
    split at e
    · cases e
    · split at e
      · cases e
      · split at e
        · cases e; exact MP_u (by omega) MP_rf
        · cases e
  · cases e
theorem gx_load {s : Int32} {g : Mem} : GX g (x_load s g) := by
  intro v h e
  unfold x_load sx at e
  split at e
  · split at e
    · cases e
    · cases e; exact MP_u (by decide) MP_rf
  · cases e
theorem gx_judge {s : Int32} {g : Mem} : GX g (x_judge s g) := by
  intro v h e
  unfold x_judge sx at e
  split at e
  · split at e
    · cases e
    · cases e; exact MP_rf
  · cases e
theorem gx_fits {s p k n : Int32} {g : Mem} : GX g (x_fits s p k n g) := by
  intro v h e
  unfold x_fits sx at e
  split at e
  · split at e
    · cases e
    · split at e
      · cases e; exact MP_rf
      · cases e
  · cases e
theorem gx_kinds {s m : Int32} {g : Mem} : GX g (x_kinds s m g) := by
  intro v h e
  unfold x_kinds sx at e
  split at e
  · split at e
    · cases e
    · split at e
      · cases e; exact MP_rf
      · cases e
  · cases e
theorem gx_image {g : Mem} : GX g (x_image g) := by
  intro v h e
  unfold x_image at e
  cases e; exact MP_u (by decide) (MP_u (by decide) MP_rf)
theorem gx_undo {g : Mem} : GX g (x_undo g) := by
  intro v h e
  unfold x_undo at e
  split at e
  · cases e
  · cases e; exact MP_u (by decide) MP_rf
theorem gx_tear {g : Mem} : GX g (x_tear g) := by
  intro v h e
  unfold x_tear at e
  cases e; exact MP_u (by decide) MP_rf
theorem gx_count {w : Int32} {g : Mem} : GX g (x_count w g) := by
  intro v h e
  unfold x_count at e
  split at e
  · cases e; exact MP_rf
  · cases e
theorem gx_status {w : Int32} {g : Mem} : GX g (x_status w g) := by
  intro v h e
  unfold x_status at e
  split at e
  · cases e; exact MP_rf
  · split at e
    · cases e; exact MP_rf
    · cases e
theorem gx_feed {b n : Int32} {g : Mem} : GX g (x_feed b n g) := by
  intro v h e
  unfold x_feed at e
  split at e
  · split at e
    · cases e
    · cases e; exact MP_u (by decide) (MP_u (by decide) MP_rf)
  · cases e
theorem gx_wipe {g : Mem} : GX g (x_wipe g) := by
  intro v h e
  unfold x_wipe at e
  cases e; exact MP_u (by decide) MP_rf
theorem gx_text {B : Nat → Nat} {m : Nat} {g : Mem} : GX g (x_text B m g) := by
  intro v h e
  unfold x_text at e
  cases e
  split
  · exact MP_u (by decide) (MP_u (by decide) MP_rf)
  · exact MP_u (by decide) MP_rf
