theorem bp_121 : (Int8.ofInt (121)).toInt32 = 121 := by decide
/-- what the reference's items end with: a ninth number of a page is a fault there at once -/
def PT (g : Mem) (m : Nat) (p : Bool × PS) (r : Int32) (g' : Mem) : Prop := ∃ b : Bool, r = bi b ∧ (b = true → p.1 = true) ∧ (b = false → p.1 = false ∨ p.2.2.1 = 2) ∧ ∃ R V, g' = MM3 g R V ∧ (b = true → R = p.2.1) ∧ TKM V m p.2.2 ∧ V 0 = g 22 0 ∧ (b = false → V 6 = nI p.2.2.2.1)
theorem PQ_PT {g g' : Mem} {m : Nat} {p : Bool × PS} {r : Int32} (h : PQ g m p r g') : PT g m p r g' := by
  obtain ⟨h1, R, V, h2, h3, h4, h5, h6⟩ := h
  exact ⟨p.1, h1, id, fun z => Or.inl z, R, V, h2, h3, h4, h5, h6⟩
theorem PT_z {g g' : Mem} {m : Nat} {p : Bool × PS} {r : Int32} (h : PT g m p r g') : r = 0 ∨ r = 1 := by
  obtain ⟨b, h1, -⟩ := h
  cases b with
  | true => exact Or.inr h1
  | false => exact Or.inl h1
theorem nm_ex : ∀ k, k < 12 → ∀ k', k' < 12 → sl k = sl k' → al (fun j => decide (cl (chr k j) = cl (chr k' j))) (sl k) = true → k = k' := by decide +kernel
theorem al_at {p : Nat → Bool} {n : Nat} (h : al p n = true) {j : Nat} (hj : j < n) : p j = true := by
  cases e : p j with
  | true => rfl
  | false => rw [al_f hj e] at h; cases h
theorem al_of {p : Nat → Bool} : ∀ {n : Nat}, (∀ j, j < n → p j = true) → al p n = true := by
  intro n
  induction n with
  | zero => intro _; rfl
  | succ n ih =>
    intro h
    show (al p n && p n) = true
    rw [ih (fun j hj => h j (by omega)), h n (by omega)]; rfl
/-- a token has one name -/
theorem nmk_ex {B : Nat → Nat} {k k' : Nat} {t : Tk} (hk : k < 12) (hk' : k' < 12) (h : nmk B k t = true) (h' : nmk B k' t = true) : k = k' := by
  unfold nmk at h h'
  obtain ⟨h1, h2⟩ := and_tt h
  obtain ⟨h1', h2'⟩ := and_tt h'
  have e : sl k = sl k' := (of_decide_eq_true (and_tt h1).2).symm.trans (of_decide_eq_true (and_tt h1').2)
  refine nm_ex k hk k' hk' e (al_of (fun j hj => decide_eq_true ?_))
  have a := of_decide_eq_true (al_at h2 hj)
  have b := of_decide_eq_true (al_at h2' (show j < sl k' by omega))
  exact a.symm.trans b
theorem p_kin_f {B : Nat → Nat} {m : Nat} {s : PS} : ∀ {n k : Nat}, k + n < 2 ^ 31 → ff (fun k => nmk B (5 + k) s.2) k n = -1 → p_kin B m k n s = (false, s) := by
  intro n
  induction n with
  | zero => intro k _ _; rfl
  | succ n ih =>
    intro k hk h
    unfold ff at h
    unfold p_kin
    by_cases q : nmk B (5 + k) s.2 = true
    · rw [if_pos q] at h; exact absurd h (nI_nm1 (by omega))
    · rw [if_neg q] at h ⊢; exact ih (by omega) h
theorem p_kin_t {B : Nat → Nat} {m : Nat} {s : PS} {j : Nat} : ∀ {n k : Nat}, k + n < 2 ^ 31 → j < 2 ^ 31 → ff (fun k => nmk B (5 + k) s.2) k n = nI j → p_kin B m k n s = p_moth B m j s := by
  intro n
  induction n with
  | zero => intro k _ hj h; exact absurd h.symm (nI_nm1 hj)
  | succ n ih =>
    intro k hk hj h
    unfold ff at h
    unfold p_kin
    by_cases q : nmk B (5 + k) s.2 = true
    · rw [if_pos q] at h ⊢
      rw [(nI_eq (by omega) hj).mp h]
    · rw [if_neg q] at h ⊢; exact ih (by omega) hj h
set_option maxRecDepth 20000 in
theorem c_X5_pageHere {G : GT} {g : Mem} {B : Nat → Nat} {m : Nat} (hB : BYM (g 17) B m) {t : Tk} (hV : TKM (g 22) m t) (ht : TOK B m t) : Cti G yX5_pageHere cX5_pageHere 3 .boolean 2 47 [.ref (mo G)] g (fun r g' => PT g m (p_page B m (g 12, t)) r g') := by
  refine ent_z (by decide) (Nat.le_of_ble_eq_true rfl) [some (.ref (mo G)), none, none] rfl ?_
  intro X C hR
  have C : CX X G RX5 cX5_pageHere 3 2 47 := C
  have ht1 := (nx_TOK ht).1
  refine j_al0 0 C dX5_pageHere_0 ?_
  refine j_vv 1 C dX5_pageHere_1 mv_X5_nextToken lk_X5_261 (c_X5_nextToken hB hV.1 (e := _) ht.2.1 hV.2.2.2.1) rc_m rfl rfl ⟨(Nat.le_of_ble_eq_true rfl), (Nat.le_of_ble_eq_true rfl)⟩ (Nat.le_of_ble_eq_true rfl) (fun g1 hp1 => ?_)
  obtain ⟨V1, rfl, hV1, k0, k6⟩ := hp1
  have hV1 : TKM V1 m (nx B m t) := hV1
  refine j_al0 4 C dX5_pageHere_4 ?_
  refine j_iconst 5 C dX5_pageHere_5 ic_0 ?_
  refine j_iconst 6 C dX5_pageHere_6 ic_5 ?_
  refine j_vi 7 C dX5_pageHere_7 mv_X5_isNumber lk_X5_264 (c_X5_isNumber (g := ub g 22 V1) (t := nx B m t) (by rw [ub_n (by decide)]; exact hB) (by rw [ub_s]; exact hV1) ht1 (lo := 0) (hi := 5) (by decide) (by decide)) rc_m rfl rfl ⟨(Nat.le_of_ble_eq_true rfl), (Nat.le_of_ble_eq_true rfl)⟩ (Nat.le_of_ble_eq_true rfl) (fun r7 g7 hp7 => ?_)
  obtain ⟨rfl, rfl⟩ := hp7
  refine j_ifne 10 15 C dX5_pageHere_10 (by decide) (fun c10 => ?_) (fun c10 => ?_)
  · have hyes : okn (nx B m t) 0 5 = true := bi_n c10
    rw [if_pos hyes]
    have h5 : (nx B m t).2.2.2 ≤ 5 := (okn_hi hyes).2.2
    have hp : p_page B m (g 12, t) = p_wds B m (nx B m t).2.2.2 0 8 (hol (g 12) (nx B m t).2.2.2 8, nx B m (nx B m t)) := by unfold p_page; rw [andp_t (show (p_bare B m (g 12, t)).1 = true by unfold p_bare; rw [if_pos (show okn (nx B m (g 12, t).2) 0 5 = true from hyes)])]; unfold p_bare; rw [if_pos (show okn (nx B m (g 12, t).2) 0 5 = true from hyes)]
    have loop : ∀ n k, k + n = 8 → ∀ (s : PS) (V : Row), TOK B m s.2 → TKM V m s.2 → V 0 = g 22 0 → (k = 0 → okn s.2 0 9 = true) → p_page B m (g 12, t) = p_wds B m (nx B m t).2.2.2 k n s → J X G 3 (MM3 g s.1 V) 43 [some (.ref (mo G)), some (.int (nI (nx B m t).2.2.2)), some (.int (nI k))] [] := by
      intro n
      induction n with
      | zero =>
        intro k hk s V hts hV kv h0 hf
        obtain rfl : k = 8 := by omega
        have hf : p_page B m (g 12, t) = (true, s) := hf
        refine j_al0 43 C dX5_pageHere_43 ?_
        refine jg_X5_231 44 C dX5_pageHere_44 ?_
        refine j_top (nI s.2.1) (by rw [m3_22]; exact hV.2.1) ?_
        refine j_iconst 47 C dX5_pageHere_47 ic_2 ?_
        refine j_icne 48 98 C dX5_pageHere_48 (by decide) (fun c48 => ?_) (fun c48 => ?_)
        · refine j_iconst 98 C dX5_pageHere_98 ic_1 ?_
          exact hR dX5_pageHere_99 (Or.inr rfl) (by rw [hf]; exact ⟨true, rfl, fun _ => rfl, fun z => (by cases z), s.1, V, rfl, fun _ => rfl, hV, kv, fun z => (by cases z)⟩)
        · have h2 : s.2.1 = 2 := (nI_eq (b := 2) (by have := hts.2.2.1; omega) (by decide)).mp c48
          refine j_il2 51 C dX5_pageHere_51 ?_
          refine j_bipush 52 C dX5_pageHere_52 bp_8 ?_
          refine j_iceq 54 66 C dX5_pageHere_54 (by decide) (fun c54 => ?_) (fun c54 => ?_)
          · refine j_al0 66 C dX5_pageHere_66 ?_
            refine j_vi 67 C dX5_pageHere_67 mv_X5_fails lk_X5_247 (c_X5_fails) rc_m rfl rfl ⟨(Nat.le_of_ble_eq_true rfl), (Nat.le_of_ble_eq_true rfl)⟩ (Nat.le_of_ble_eq_true rfl) (fun r67 g67 hp67 => ?_)
            obtain ⟨rfl, rfl⟩ := hp67
            rw [m3_22, m3_v]
            exact hR dX5_pageHere_70 (Or.inl rfl) (by rw [hf]; exact ⟨false, rfl, fun z => (by cases z), fun _ => Or.inr h2, s.1, upd V 6 (V 3), rfl, fun z => (by cases z), TKM_6 hV, (by rw [upd_n (by decide)]; exact kv), fun _ => upd_s.trans hV.2.2.1⟩)
          · exact absurd rfl c54
      | succ n ih =>
        intro k hk s V hts hV kv h0 hf
        refine j_al0 43 C dX5_pageHere_43 ?_
        refine jg_X5_231 44 C dX5_pageHere_44 ?_
        refine j_top (nI s.2.1) (by rw [m3_22]; exact hV.2.1) ?_
        refine j_iconst 47 C dX5_pageHere_47 ic_2 ?_
        refine j_icne 48 98 C dX5_pageHere_48 (by decide) (fun c48 => ?_) (fun c48 => ?_)
        · have hk0 : 0 < k := Nat.pos_of_ne_zero (fun z => c48 (by rw [(okn_hi (h0 z)).1]; rfl))
          have h2 : ¬ s.2.1 = 2 := fun z => c48 (by rw [z]; rfl)
          have hf : p_page B m (g 12, t) = (true, s) := hf.trans (if_pos (by rw [decide_eq_true hk0, decide_eq_true h2]; rfl))
          refine j_iconst 98 C dX5_pageHere_98 ic_1 ?_
          exact hR dX5_pageHere_99 (Or.inr rfl) (by rw [hf]; exact ⟨true, rfl, fun _ => rfl, fun z => (by cases z), s.1, V, rfl, fun _ => rfl, hV, kv, fun z => (by cases z)⟩)
        · have h2 : s.2.1 = 2 := (nI_eq (b := 2) (by have := hts.2.2.1; omega) (by decide)).mp c48
          have hv4 := hts.2.2.2.2
          refine j_il2 51 C dX5_pageHere_51 ?_
          refine j_bipush 52 C dX5_pageHere_52 bp_8 ?_
          refine j_iceq 54 66 C dX5_pageHere_54 (by decide) (fun c54 => ?_) (fun c54 => ?_)
          · exact absurd ((nI_eq (a := k) (b := 8) (by omega) (by decide)).mp c54) (by omega)
          · refine j_al0 57 C dX5_pageHere_57 ?_
            refine jg_X5_234 58 C dX5_pageHere_58 ?_
            refine j_top (nI s.2.2.2.2) (by rw [m3_22]; exact hV.2.2.2.2) ?_
            refine j_bipush 61 C dX5_pageHere_61 bp_9 ?_
            refine j_icle 63 71 C dX5_pageHere_63 (by decide) (fun c63 => ?_) (fun c63 => ?_)
            · have h9 : s.2.2.2.2 ≤ 9 := Nat.le_of_not_lt (fun q => absurd c63 (Int32.not_le.mpr (nI_lt (a := 9) (b := s.2.2.2.2) q (by omega))))
              have hok : okn s.2 0 9 = true := by unfold okn; rw [decide_eq_true h2, decide_eq_true (Nat.zero_le _), decide_eq_true h9]; rfl
              have hf2 : p_page B m (g 12, t) = p_wds B m (nx B m t).2.2.2 (k + 1) n (upd s.1 (3 + (8 * (nx B m t).2.2.2 + k)) (nI s.2.2.2.2), nx B m s.2) := hf.trans ((if_neg (by rw [decide_eq_false (p := ¬ s.2.1 = 2) (fun z => z h2)]; simp)).trans (if_pos hok))
              refine j_al0 71 C dX5_pageHere_71 ?_
              refine jg_X5_7 72 C dX5_pageHere_72 ?_
              refine j_iconst 75 C dX5_pageHere_75 ic_3 ?_
              refine j_bipush 76 C dX5_pageHere_76 bp_8 ?_
              refine j_il1 78 C dX5_pageHere_78 ?_
              refine j_imul 79 C dX5_pageHere_79 ?_
              refine j_iadd 80 C dX5_pageHere_80 ?_
              refine j_il2 81 C dX5_pageHere_81 ?_
              refine j_iadd 82 C dX5_pageHere_82 ?_
              refine j_top (nI (3 + (8 * (nx B m t).2.2.2 + k))) (ix_wa _ k) ?_
              refine j_al0 83 C dX5_pageHere_83 ?_
              refine jg_X5_234 84 C dX5_pageHere_84 ?_
              refine j_top (nI s.2.2.2.2) (by rw [m3_22]; exact hV.2.2.2.2) ?_
              refine js_A0 87 (by omega) C dX5_pageHere_87 ?_
              rw [m3_r, m3_12]
              refine j_inc2 88 C dX5_pageHere_88 rfl (nI_inc _) (Nat.le_of_ble_eq_true rfl) ?_
              refine j_al0 91 C dX5_pageHere_91 ?_
              refine j_vv 92 C dX5_pageHere_92 mv_X5_nextToken lk_X5_261 (c_X5_nextToken (by rw [m3_17]; exact hB) (by rw [m3_22]; exact hV.1) hts.2.1 (by rw [m3_22]; exact hV.2.2.2.1)) rc_m rfl rfl ⟨(Nat.le_of_ble_eq_true rfl), (Nat.le_of_ble_eq_true rfl)⟩ (Nat.le_of_ble_eq_true rfl) (fun g92 hp92 => ?_)
              obtain ⟨V2, rfl, hV2, k2, k26⟩ := hp92
              rw [m3_22] at k2
              rw [m3_v]
              refine j_goto 95 43 C dX5_pageHere_95 (by decide) ?_
              exact ih (k + 1) (by omega) (upd s.1 (3 + (8 * (nx B m t).2.2.2 + k)) (nI s.2.2.2.2), nx B m s.2) V2 (nx_TOK hts).1 hV2 (k2.trans kv) (fun z => absurd z (by omega)) hf2
            · have hno : okn s.2 0 9 = false := by unfold okn; rw [decide_eq_false (p := s.2.2.2.2 ≤ 9) (fun z => c63 (nI_le (b := 9) z (by decide)))]; simp
              have hf : p_page B m (g 12, t) = (false, s) := hf.trans ((if_neg (by rw [decide_eq_false (p := ¬ s.2.1 = 2) (fun z => z h2)]; simp)).trans (if_neg (by rw [hno]; decide)))
              refine j_al0 66 C dX5_pageHere_66 ?_
              refine j_vi 67 C dX5_pageHere_67 mv_X5_fails lk_X5_247 (c_X5_fails) rc_m rfl rfl ⟨(Nat.le_of_ble_eq_true rfl), (Nat.le_of_ble_eq_true rfl)⟩ (Nat.le_of_ble_eq_true rfl) (fun r67 g67 hp67 => ?_)
              obtain ⟨rfl, rfl⟩ := hp67
              rw [m3_22, m3_v]
              exact hR dX5_pageHere_70 (Or.inl rfl) (by rw [hf]; exact ⟨false, rfl, fun z => (by cases z), fun _ => Or.inl rfl, s.1, upd V 6 (V 3), rfl, fun z => (by cases z), TKM_6 hV, (by rw [upd_n (by decide)]; exact kv), fun _ => upd_s.trans hV.2.2.1⟩)
    refine j_al0 15 C dX5_pageHere_15 ?_
    refine jg_X5_234 16 C dX5_pageHere_16 ?_
    refine j_top (nI (nx B m t).2.2.2) (by rw [ub_s]; exact hV1.2.2.2.2) ?_
    refine j_is1 19 C dX5_pageHere_19 rfl (Nat.le_of_ble_eq_true rfl) ?_
    refine j_al0 20 C dX5_pageHere_20 ?_
    refine j_il1 21 C dX5_pageHere_21 ?_
    refine j_vv 22 C dX5_pageHere_22 mv_X5_empties lk_X5_274 (c_X5_empties (show (nx B m t).2.2.2 < 6 by omega)) rc_m rfl rfl ⟨(Nat.le_of_ble_eq_true rfl), (Nat.le_of_ble_eq_true rfl)⟩ (Nat.le_of_ble_eq_true rfl) (fun g22 hp22 => ?_)
    obtain rfl := hp22
    rw [ub_n (b' := 12) (b := 22) (by decide), ub_comm (show (22 : Nat) ≠ 12 by decide)]
    refine j_al0 25 C dX5_pageHere_25 ?_
    refine j_vv 26 C dX5_pageHere_26 mv_X5_nextToken lk_X5_261 (c_X5_nextToken (by rw [ub_n (by decide), ub_n (by decide)]; exact hB) (by rw [ub_s]; exact hV1.1) ht1.2.1 (by rw [ub_s]; exact hV1.2.2.2.1)) rc_m rfl rfl ⟨(Nat.le_of_ble_eq_true rfl), (Nat.le_of_ble_eq_true rfl)⟩ (Nat.le_of_ble_eq_true rfl) (fun g26 hp26 => ?_)
    obtain ⟨V2, rfl, hV2, k2, k26⟩ := hp26
    rw [ub_s] at k2
    rw [ub_ub]
    have hV2 : TKM V2 m (nx B m (nx B m t)) := hV2
    have ht2 := (nx_TOK ht1).1
    have kk : V2 0 = g 22 0 := k2.trans k0
    refine j_al0 29 C dX5_pageHere_29 ?_
    refine j_iconst 30 C dX5_pageHere_30 ic_0 ?_
    refine j_bipush 31 C dX5_pageHere_31 bp_9 ?_
    refine j_vi 33 C dX5_pageHere_33 mv_X5_isNumber lk_X5_264 (c_X5_isNumber (g := MM3 g (hol (g 12) (nx B m t).2.2.2 8) V2) (t := nx B m (nx B m t)) (by rw [m3_17]; exact hB) (by rw [m3_22]; exact hV2) ht2 (lo := 0) (hi := 9) (by decide) (by decide)) rc_m rfl rfl ⟨(Nat.le_of_ble_eq_true rfl), (Nat.le_of_ble_eq_true rfl)⟩ (Nat.le_of_ble_eq_true rfl) (fun r33 g33 hp33 => ?_)
    obtain ⟨rfl, rfl⟩ := hp33
    refine j_ifne 36 41 C dX5_pageHere_36 (by decide) (fun c36 => ?_) (fun c36 => ?_)
    · have hyes9 : okn (nx B m (nx B m t)) 0 9 = true := bi_n c36
      rw [if_pos hyes9]
      refine j_iconst 41 C dX5_pageHere_41 ic_0 ?_
      refine j_is2 42 C dX5_pageHere_42 rfl (Nat.le_of_ble_eq_true rfl) ?_
      exact loop 8 0 rfl (hol (g 12) (nx B m t).2.2.2 8, nx B m (nx B m t)) V2 ht2 hV2 kk (fun _ => hyes9) hp
    · have hno : okn (nx B m (nx B m t)) 0 9 = false := bi_0 c36
      rw [if_neg (by rw [hno]; decide)]
      have hp : p_page B m (g 12, t) = (false, (hol (g 12) (nx B m t).2.2.2 8, nx B m (nx B m t))) := hp.trans ((if_neg (by simp)).trans (if_neg (by rw [show okn ((hol (g 12) (nx B m t).2.2.2 8, nx B m (nx B m t)) : PS).2 0 9 = false from hno]; decide)))
      refine j_iconst 39 C dX5_pageHere_39 ic_0 ?_
      exact hR dX5_pageHere_40 (Or.inl rfl) (by rw [hp]; exact ⟨false, rfl, fun z => (by cases z), fun _ => Or.inl rfl, (hol (g 12) (nx B m t).2.2.2 8), upd V2 6 (nI (nx B m (nx B m t)).2.1), (by rw [m3_22, m3_v]), fun z => (by cases z), TKM_6 hV2, (by rw [upd_n (by decide)]; exact kk), fun _ => upd_s⟩)
  · have hno : okn (nx B m t) 0 5 = false := bi_0 c10
    rw [if_neg (by rw [hno]; decide)]
    have hb : p_bare B m (g 12, t) = (false, (g 12, nx B m t)) := by unfold p_bare; exact if_neg (by rw [hno]; decide)
    have hp : p_page B m (g 12, t) = (false, (g 12, nx B m t)) := by unfold p_page; rw [andp_f (by rw [hb]), hb]
    refine j_iconst 13 C dX5_pageHere_13 ic_0 ?_
    exact hR dX5_pageHere_14 (Or.inl rfl) (by rw [hp]; exact ⟨false, rfl, fun z => (by cases z), fun _ => Or.inl rfl, g 12, upd V1 6 (nI (nx B m t).2.1), (by rw [ub_ub, ub_s]; exact m3_o), fun z => (by cases z), TKM_6 hV1, (by rw [upd_n (by decide)]; exact k0), fun _ => upd_s⟩)
set_option maxRecDepth 20000 in
theorem c_X5_itemHere {G : GT} {g : Mem} {B : Nat → Nat} {m : Nat} (hB : BYM (g 17) B m) {t : Tk} (hV : TKM (g 22) m t) (ht : TOK B m t) (hS : SI (g 12)) : Cti G yX5_itemHere cX5_itemHere 2 .boolean 4 92 [.ref (mo G)] g (fun r g' => PT g m (p_item B m (g 12, t)) r g') := by
  refine ent_z (by decide) (Nat.le_of_ble_eq_true rfl) [some (.ref (mo G)), none] rfl ?_
  intro X C hR
  have C : CX X G RX5 cX5_itemHere 2 4 92 := C
  refine j_al0 0 C dX5_itemHere_0 ?_
  refine j_vi 1 C dX5_itemHere_1 mv_X5_kindHere lk_X5_277 (c_X5_kindHere hB hV ht) rc_m rfl rfl ⟨(Nat.le_of_ble_eq_true rfl), (Nat.le_of_ble_eq_true rfl)⟩ (Nat.le_of_ble_eq_true rfl) (fun r1 g1 hp1 => ?_)
  obtain ⟨rfl, rfl⟩ := hp1
  rcases ff_or (p := fun k => nmk B (5 + k) t) (k := 0) (n := 7) with q | ⟨j, -, q2, q3, q4⟩
  · rw [q]
    refine j_is1 4 C dX5_itemHere_4 rfl (Nat.le_of_ble_eq_true rfl) ?_
    refine j_il1 5 C dX5_itemHere_5 ?_
    refine j_iflt 6 15 C dX5_itemHere_6 (by decide) (fun c6 => ?_) (fun c6 => ?_)
    · refine j_al0 15 C dX5_itemHere_15 ?_
      refine j_bipush 16 C dX5_itemHere_16 bp_112 ?_
      refine j_bipush 18 C dX5_itemHere_18 bp_97 ?_
      refine j_bipush 20 C dX5_itemHere_20 bp_103 ?_
      refine j_bipush 22 C dX5_itemHere_22 bp_101 ?_
      refine j_vi 24 C dX5_itemHere_24 mv_X5_isFour lk_X5_250 (c_X5_isFour hB hV ht (k := 0) (by decide) (by decide) (by decide) (by decide) (by decide) (by decide)) rc_m rfl rfl ⟨(Nat.le_of_ble_eq_true rfl), (Nat.le_of_ble_eq_true rfl)⟩ (Nat.le_of_ble_eq_true rfl) (fun r24 g24 hp24 => ?_)
      obtain ⟨rfl, rfl⟩ := hp24
      refine j_ifeq 27 35 C dX5_itemHere_27 (by decide) (fun c27 => ?_) (fun c27 => ?_)
      · have v27 := bi_0 c27
        refine j_al0 35 C dX5_itemHere_35 ?_
        refine j_bipush 36 C dX5_itemHere_36 bp_101 ?_
        refine j_bipush 38 C dX5_itemHere_38 bp_109 ?_
        refine j_bipush 40 C dX5_itemHere_40 bp_112 ?_
        refine j_bipush 42 C dX5_itemHere_42 bp_116 ?_
        refine j_bipush 44 C dX5_itemHere_44 bp_121 ?_
        refine j_vi 46 C dX5_itemHere_46 mv_X5_isFive lk_X5_253 (c_X5_isFive hB hV ht (k := 1) (by decide) (by decide) (by decide) (by decide) (by decide) (by decide) (by decide)) rc_m rfl rfl ⟨(Nat.le_of_ble_eq_true rfl), (Nat.le_of_ble_eq_true rfl)⟩ (Nat.le_of_ble_eq_true rfl) (fun r46 g46 hp46 => ?_)
        obtain ⟨rfl, rfl⟩ := hp46
        refine j_ifeq 49 59 C dX5_itemHere_49 (by decide) (fun c49 => ?_) (fun c49 => ?_)
        · have v49 := bi_0 c49
          have he : p_item B m (g 12, t) = (false, (g 12, t)) := by
            unfold p_item
            rw [if_neg (by rw [show nmk B 0 (g 12, t).2 = false from v27]; decide), if_neg (by rw [show nmk B 1 (g 12, t).2 = false from v49]; decide)]
            exact p_kin_f (s := (g 12, t)) (by decide) q
          refine j_al0 59 C dX5_itemHere_59 ?_
          refine j_vi 60 C dX5_itemHere_60 mv_X5_fails lk_X5_247 (c_X5_fails) rc_m rfl rfl ⟨(Nat.le_of_ble_eq_true rfl), (Nat.le_of_ble_eq_true rfl)⟩ (Nat.le_of_ble_eq_true rfl) (fun r60 g60 hp60 => ?_)
          obtain ⟨rfl, rfl⟩ := hp60
          exact hR dX5_itemHere_63 (Or.inl rfl) (by rw [he]; exact ⟨false, rfl, fun z => (by cases z), fun _ => Or.inl rfl, g 12, upd (g 22) 6 (g 22 3), m3_o, fun z => (by cases z), TKM_6 hV, upd_n (by decide), fun _ => upd_s.trans hV.2.2.1⟩)
        · have v49 := bi_n c49
          have he : p_item B m (g 12, t) = p_bare B m (g 12, t) := by
            unfold p_item
            rw [if_neg (by rw [show nmk B 0 (g 12, t).2 = false from v27]; decide), if_pos (show nmk B 1 (g 12, t).2 = true from v49)]
          refine j_al0 52 C dX5_itemHere_52 ?_
          refine j_vi 53 C dX5_itemHere_53 mv_X5_emptyHere lk_X5_286 (c_X5_emptyHere hB hV ht) rc_m rfl rfl ⟨(Nat.le_of_ble_eq_true rfl), (Nat.le_of_ble_eq_true rfl)⟩ (Nat.le_of_ble_eq_true rfl) (fun r53 g53 hp53 => ?_)
          refine j_goto 56 63 C dX5_itemHere_56 (by decide) ?_
          exact hR dX5_itemHere_63 (PT_z (PQ_PT hp53)) (by rw [he]; exact PQ_PT hp53)
      · have v27 := bi_n c27
        have he : p_item B m (g 12, t) = p_page B m (g 12, t) := by unfold p_item; rw [if_pos (show nmk B 0 (g 12, t).2 = true from v27)]
        refine j_al0 30 C dX5_itemHere_30 ?_
        refine j_vi 31 C dX5_itemHere_31 mv_X5_pageHere lk_X5_283 (c_X5_pageHere hB hV ht) rc_m rfl rfl ⟨(Nat.le_of_ble_eq_true rfl), (Nat.le_of_ble_eq_true rfl)⟩ (Nat.le_of_ble_eq_true rfl) (fun r31 g31 hp31 => ?_)
        exact hR dX5_itemHere_34 (PT_z hp31) (by rw [he]; exact hp31)
    · exact absurd (show (-1 : Int32) < 0 by decide) c6
  · rw [q3]
    have n0 : ¬ nmk B 0 (g 12, t).2 = true := fun z => absurd (nmk_ex (by decide) (by omega) z q4) (by omega)
    have n1 : ¬ nmk B 1 (g 12, t).2 = true := fun z => absurd (nmk_ex (by decide) (by omega) z q4) (by omega)
    have he : p_item B m (g 12, t) = p_moth B m j (g 12, t) := by
      unfold p_item
      rw [if_neg n0, if_neg n1]
      exact p_kin_t (s := (g 12, t)) (by decide) (by omega) q3
    refine j_is1 4 C dX5_itemHere_4 rfl (Nat.le_of_ble_eq_true rfl) ?_
    refine j_il1 5 C dX5_itemHere_5 ?_
    refine j_iflt 6 15 C dX5_itemHere_6 (by decide) (fun c6 => ?_) (fun c6 => ?_)
    · exact absurd c6 (nI_pos (by omega))
    · refine j_al0 9 C dX5_itemHere_9 ?_
      refine j_il1 10 C dX5_itemHere_10 ?_
      refine j_vi 11 C dX5_itemHere_11 mv_X5_mothHere lk_X5_280 (c_X5_mothHere hB hV ht hS (K := j) (by omega)) rc_m rfl rfl ⟨(Nat.le_of_ble_eq_true rfl), (Nat.le_of_ble_eq_true rfl)⟩ (Nat.le_of_ble_eq_true rfl) (fun r11 g11 hp11 => ?_)
      exact hR dX5_itemHere_14 (PT_z (PQ_PT hp11)) (by rw [he]; exact PQ_PT hp11)
