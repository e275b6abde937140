theorem andp_t {r : Bool × PS} {f : PS → Bool × PS} (h : r.1 = true) : andp r f = f r.2 := if_pos h
theorem andp_f {r : Bool × PS} {f : PS → Bool × PS} (h : r.1 = false) : andp r f = r := if_neg (by rw [h]; decide)
/-- a token that stands, not ahead of another -/
def TKG (B : Nat → Nat) (m b : Nat) (t : Tk) : Prop := TOK B m t ∧ b ≤ t.2.1
theorem TKG.nx {B : Nat → Nat} {m b : Nat} {t : Tk} (h : TKG B m b t) : TKG B m b (nx B m t) := by
  have q := nx_TOK h.1
  exact ⟨q.1, by have := h.1.1; have := h.2; omega⟩
theorem p_tr_G {B : Nat → Nat} {m k W lo hi M b : Nat} {s : PS} (h : TKG B m b s.2) : TKG B m b (p_tr B m k W lo hi M s).2.2 := by
  unfold p_tr
  by_cases q : nmk B k s.2 = true
  · rw [if_pos q]
    by_cases r : okn (nx B m s.2) lo hi = true
    · rw [if_pos r]; exact h.nx.nx
    · rw [if_neg r]; exact h.nx
  · rw [if_neg q]; exact h
theorem andp_G {B : Nat → Nat} {m b : Nat} {r : Bool × PS} {f : PS → Bool × PS} (h : TKG B m b r.2.2) (hf : ∀ s : PS, TKG B m b s.2 → TKG B m b (f s).2.2) : TKG B m b (andp r f).2.2 := by
  unfold andp
  by_cases q : r.1 = true
  · rw [if_pos q]; exact hf r.2 h
  · rw [if_neg q]; exact h
theorem p_moth_G {B : Nat → Nat} {m K b : Nat} {s : PS} (h : TKG B m b s.2) : TKG B m b (p_moth B m K s).2.2 := by
  unfold p_moth
  by_cases q : 8 ≤ cl (s.1 0)
  · rw [if_pos q]; exact h
  · rw [if_neg q]
    exact andp_G (andp_G (p_tr_G (s := (addm s.1 (cl (s.1 0)) (nI K) 0, nx B m s.2)) h.nx) (fun _ => p_tr_G)) (fun _ => p_tr_G)
theorem p_bare_G {B : Nat → Nat} {m b : Nat} {s : PS} (h : TKG B m b s.2) : TKG B m b (p_bare B m s).2.2 := by
  unfold p_bare
  by_cases q : okn (nx B m s.2) 0 5 = true
  · rw [if_pos q]; exact h.nx.nx
  · rw [if_neg q]; exact h.nx
theorem p_wds_G {B : Nat → Nat} {m P b : Nat} : ∀ {n k : Nat} {s : PS}, TKG B m b s.2 → TKG B m b (p_wds B m P k n s).2.2 := by
  intro n
  induction n with
  | zero => intro k s h; exact h
  | succ n ih =>
    intro k s h
    unfold p_wds
    by_cases q : (decide (0 < k) && decide (¬ s.2.1 = 2)) = true
    · rw [if_pos q]; exact h
    · rw [if_neg q]
      by_cases r : okn s.2 0 9 = true
      · rw [if_pos r]; exact ih (s := (_, nx B m s.2)) h.nx
      · rw [if_neg r]; exact h
theorem p_kin_G {B : Nat → Nat} {m b : Nat} : ∀ {n k : Nat} {s : PS}, TKG B m b s.2 → TKG B m b (p_kin B m k n s).2.2 := by
  intro n
  induction n with
  | zero => intro k s h; exact h
  | succ n ih =>
    intro k s h
    unfold p_kin
    by_cases q : nmk B (5 + k) s.2 = true
    · rw [if_pos q]; exact p_moth_G h
    · rw [if_neg q]; exact ih h
theorem p_item_G {B : Nat → Nat} {m b : Nat} {s : PS} (h : TKG B m b s.2) : TKG B m b (p_item B m s).2.2 := by
  unfold p_item
  by_cases q : nmk B 0 s.2 = true
  · rw [if_pos q]; exact andp_G (p_bare_G h) (fun _ => p_wds_G)
  · rw [if_neg q]
    by_cases r : nmk B 1 s.2 = true
    · rw [if_pos r]; exact p_bare_G h
    · rw [if_neg r]; exact p_kin_G h
set_option maxRecDepth 20000 in
theorem c_X3_takeBarePage {G : GT} {g : Mem} {R U : Row} {B : Nat → Nat} {m : Nat} {t : Tk} (hB : BYT (g 5) B m) (hU : TKS U m t) (ht : TOK B m t) : Cti G yX3_takeBarePage cX3_takeBarePage 3 .int 2 45 [.ref (tp G), .ref (dr G 2)] (MM2 g R U) (fun r g' => r = (if okn (nx B m t) 0 5 then nI (nx B m t).2.2.2 else -1) ∧ PE g m (p_bare B m (R, t)).2 g') := by
  refine ent_i (by decide) (Nat.le_of_ble_eq_true rfl) [some (.ref (tp G)), some (.ref (dr G 2)), none] rfl ?_
  intro X C hR
  have C : CX X G RX3 cX3_takeBarePage 3 2 45 := C
  have ht1 := (nx_TOK ht).1
  refine j_al0 0 C dX3_takeBarePage_0 ?_
  refine j_vv 1 C dX3_takeBarePage_1 mv_X3_step lk_X3_31 (c_X3_step (g := MM2 g R U) (by rw [mm5]; exact hB) ht.2.1 (by rw [mm4]; exact hU.1) (by rw [mm4]; exact hU.2.2.2.1)) rc_t rfl rfl ⟨(Nat.le_of_ble_eq_true rfl), (Nat.le_of_ble_eq_true rfl)⟩ (Nat.le_of_ble_eq_true rfl) (fun g1 hp1 => ?_)
  obtain ⟨U1, rfl, hU1⟩ := hp1
  have hU1 : TKS U1 m (nx B m t) := hU1
  rw [mm_4]
  refine j_al0 4 C dX3_takeBarePage_4 ?_
  refine j_iconst 5 C dX3_takeBarePage_5 ic_0 ?_
  refine j_iconst 6 C dX3_takeBarePage_6 ic_5 ?_
  refine j_vi 7 C dX3_takeBarePage_7 mv_X3_takeNumber lk_X3_88 (c_X3_takeNumber (R := R) (lw := 0) (up := 5) hB hU1 ht1 (by decide) (by decide)) rc_t rfl rfl ⟨(Nat.le_of_ble_eq_true rfl), (Nat.le_of_ble_eq_true rfl)⟩ (Nat.le_of_ble_eq_true rfl) (fun r7 g7 hp7 => ?_)
  cases hk : okn (nx B m t) 0 5 with
  | false =>
    obtain ⟨hr7, U2, rfl, hU2⟩ := hp7
    dsimp only at hU2 ⊢
    rw [hk] at hr7 hU2
    simp only [Bool.false_eq_true, if_false, if_true] at hr7 hU2
    subst hr7
    have hU2 : TKS U2 m (nx B m t) := hU2
    refine j_is2 10 C dX3_takeBarePage_10 rfl (Nat.le_of_ble_eq_true rfl) ?_
    refine j_il2 11 C dX3_takeBarePage_11 ?_
    refine j_iconst 12 C dX3_takeBarePage_12 ic_m1 ?_
    refine j_iceq 13 21 C dX3_takeBarePage_13 (by decide) (fun c13 => ?_) (fun c13 => ?_)
    · refine j_il2 21 C dX3_takeBarePage_21 ?_
      exact hR dX3_takeBarePage_22 ⟨by rw [hk]; rfl, by unfold p_bare; rw [show okn (nx B m (R, t).2) 0 5 = false from hk]; exact ⟨U2, rfl, hU2⟩⟩
    · exact absurd rfl c13
  | true =>
    obtain ⟨hr7, U2, rfl, hU2⟩ := hp7
    dsimp only at hU2 ⊢
    rw [hk] at hr7 hU2
    simp only [Bool.false_eq_true, if_false, if_true] at hr7 hU2
    subst hr7
    have hU2 : TKS U2 m (nx B m (nx B m t)) := hU2
    have hv5 : (nx B m t).2.2.2 ≤ 5 := by unfold okn at hk; simp only [Bool.and_eq_true, decide_eq_true_eq] at hk; exact hk.2
    refine j_is2 10 C dX3_takeBarePage_10 rfl (Nat.le_of_ble_eq_true rfl) ?_
    refine j_il2 11 C dX3_takeBarePage_11 ?_
    refine j_iconst 12 C dX3_takeBarePage_12 ic_m1 ?_
    refine j_iceq 13 21 C dX3_takeBarePage_13 (by decide) (fun c13 => ?_) (fun c13 => ?_)
    · exact absurd c13 (nI_nm1 (by omega))
    · refine j_al1 16 C dX3_takeBarePage_16 ?_
      refine j_il2 17 C dX3_takeBarePage_17 ?_
      refine j_vv 18 C dX3_takeBarePage_18 mv_X0_setHoles lk_X3_98 (c_X0_setHoles lt4_2 (by omega)) (rc_d lt4_2) rfl rfl ⟨(Nat.le_of_ble_eq_true rfl), (Nat.le_of_ble_eq_true rfl)⟩ (Nat.le_of_ble_eq_true rfl) (fun g18 hp18 => ?_)
      obtain rfl := hp18
      rw [mm_2, mm2]
      refine j_il2 21 C dX3_takeBarePage_21 ?_
      exact hR dX3_takeBarePage_22 ⟨by rw [hk]; rfl, by unfold p_bare; rw [show okn (nx B m (R, t).2) 0 5 = true from hk]; exact ⟨U2, rfl, hU2⟩⟩
set_option maxRecDepth 20000 in
theorem c_X3_readTrait {G : GT} {g : Mem} {R U : Row} {B : Nat → Nat} {m : Nat} {t : Tk} (hB : BYT (g 5) B m) (hU : TKS U m t) (ht : TOK B m t) {i W lw up M : Nat} (hi12 : i < 12) (hW : W < 4) (hM : M < 8) (hlw : kLeast.getD W 0 = nI lw) (hl9 : lw < 10000) (hup : up < 10000) : Cti G yX3_readTrait cX3_readTrait 7 .boolean 6 128 [.ref (tp G), .ref (dr G 2), .int (nI M), .ref (gK G i), .int (nI W), .int (nI up)] (MM2 g R U) (fun r g' => r = bi (p_tr B m i W lw up M (R, t)).1 ∧ PE g m (p_tr B m i W lw up M (R, t)).2 g') := by
  refine ent_z (by decide) (Nat.le_of_ble_eq_true rfl) [some (.ref (tp G)), some (.ref (dr G 2)), some (.int (nI M)), some (.ref (gK G i)), some (.int (nI W)), some (.int (nI up)), none] rfl ?_
  intro X C hR
  have C : CX X G RX3 cX3_readTrait 7 6 128 := C
  have ht1 := (nx_TOK ht).1
  refine j_al0 0 C dX3_readTrait_0 ?_
  refine j_al3 1 C dX3_readTrait_1 ?_
  refine j_vi 2 C dX3_readTrait_2 mv_X3_isName lk_X3_40 (c_X3_isName hB hU ht hi12) rc_t rfl rfl ⟨(Nat.le_of_ble_eq_true rfl), (Nat.le_of_ble_eq_true rfl)⟩ (Nat.le_of_ble_eq_true rfl) (fun r2 g2 hp2 => ?_)
  obtain ⟨rfl, rfl⟩ := hp2
  refine j_ifne 5 10 C dX3_readTrait_5 (by decide) (fun c5 => ?_) (fun c5 => ?_)
  · have v5 := bi_n c5
    refine j_al0 10 C dX3_readTrait_10 ?_
    refine j_vv 11 C dX3_readTrait_11 mv_X3_step lk_X3_31 (c_X3_step (g := MM2 g R U) (by rw [mm5]; exact hB) ht.2.1 (by rw [mm4]; exact hU.1) (by rw [mm4]; exact hU.2.2.2.1)) rc_t rfl rfl ⟨(Nat.le_of_ble_eq_true rfl), (Nat.le_of_ble_eq_true rfl)⟩ (Nat.le_of_ble_eq_true rfl) (fun g11 hp11 => ?_)
    obtain ⟨U1, rfl, hU1⟩ := hp11
    have hU1 : TKS U1 m (nx B m t) := hU1
    rw [mm_4]
    refine j_al0 14 C dX3_readTrait_14 ?_
    refine jgs_X3_85 15 C dX3_readTrait_15 ?_
    refine j_il4 18 C dX3_readTrait_18 ?_
    refine jl_st0 20 (by omega) C dX3_readTrait_20 ?_
    refine j_top (nI lw) hlw ?_
    refine j_il5 21 C dX3_readTrait_21 ?_
    refine j_vi 23 C dX3_readTrait_23 mv_X3_takeNumber lk_X3_88 (c_X3_takeNumber (R := R) hB hU1 ht1 hup hl9) rc_t rfl rfl ⟨(Nat.le_of_ble_eq_true rfl), (Nat.le_of_ble_eq_true rfl)⟩ (Nat.le_of_ble_eq_true rfl) (fun r23 g23 hp23 => ?_)
    cases hk : okn (nx B m t) lw up with
    | false =>
      obtain ⟨hr23, U2, rfl, hU2⟩ := hp23
      dsimp only at hU2 ⊢
      rw [hk] at hr23 hU2
      simp only [Bool.false_eq_true, if_false] at hr23 hU2
      subst hr23
      have he : (p_tr B m i W lw up M (R, t)) = (false, (R, nx B m t)) := by unfold p_tr; rw [if_pos (show nmk B i (R, t).2 = true from v5), if_neg (by rw [show okn (nx B m (R, t).2) lw up = false from hk]; decide)]
      refine j_is6 26 C dX3_readTrait_26 rfl (Nat.le_of_ble_eq_true rfl) ?_
      refine j_il6 28 C dX3_readTrait_28 ?_
      refine j_iconst 30 C dX3_readTrait_30 ic_m1 ?_
      refine j_icne 31 36 C dX3_readTrait_31 (by decide) (fun c31 => ?_) (fun c31 => ?_)
      · exact absurd rfl c31
      · refine j_iconst 34 C dX3_readTrait_34 ic_0 ?_
        exact hR dX3_readTrait_35 (Or.inl rfl) ⟨by rw [he]; rfl, by rw [he]; exact ⟨U2, rfl, hU2⟩⟩
    | true =>
      obtain ⟨hr23, U2, rfl, hU2⟩ := hp23
      dsimp only at hU2 ⊢
      rw [hk] at hr23 hU2
      simp only [if_true] at hr23 hU2
      subst hr23
      have hv := ht1.2.2.2.2
      have he : (p_tr B m i W lw up M (R, t)) = (true, (upd R (51 + (4 * M + W)) (nI (nx B m t).2.2.2), nx B m (nx B m t))) := by unfold p_tr; rw [if_pos (show nmk B i (R, t).2 = true from v5), if_pos (show okn (nx B m (R, t).2) lw up = true from hk)]
      refine j_is6 26 C dX3_readTrait_26 rfl (Nat.le_of_ble_eq_true rfl) ?_
      refine j_il6 28 C dX3_readTrait_28 ?_
      refine j_iconst 30 C dX3_readTrait_30 ic_m1 ?_
      refine j_icne 31 36 C dX3_readTrait_31 (by decide) (fun c31 => ?_) (fun c31 => ?_)
      · refine j_al1 36 C dX3_readTrait_36 ?_
        refine j_il2 37 C dX3_readTrait_37 ?_
        refine j_il4 38 C dX3_readTrait_38 ?_
        refine j_il6 40 C dX3_readTrait_40 ?_
        refine j_vv 42 C dX3_readTrait_42 mv_X0_setTrait lk_X3_91 (c_X0_setTrait lt4_2 hM hW) (rc_d lt4_2) rfl rfl ⟨(Nat.le_of_ble_eq_true rfl), (Nat.le_of_ble_eq_true rfl)⟩ (Nat.le_of_ble_eq_true rfl) (fun g42 hp42 => ?_)
        obtain rfl := hp42
        rw [mm_2, mm2]
        refine j_iconst 45 C dX3_readTrait_45 ic_1 ?_
        exact hR dX3_readTrait_46 (Or.inr rfl) ⟨by rw [he]; rfl, by rw [he]; exact ⟨U2, rfl, hU2⟩⟩
      · exact absurd c31 (nI_nm1 (by omega))
  · have v5 := bi_0 c5
    have he : (p_tr B m i W lw up M (R, t)) = (true, (R, t)) := by unfold p_tr; rw [if_neg (by rw [show nmk B i (R, t).2 = false from v5]; decide)]
    refine j_iconst 8 C dX3_readTrait_8 ic_1 ?_
    exact hR dX3_readTrait_9 (Or.inr rfl) ⟨by rw [he]; rfl, by rw [he]; exact ⟨U, rfl, hU⟩⟩
