theorem okn_hi {t : Tk} {lo hi : Nat} (h : okn t lo hi = true) : t.1 = 2 ∧ lo ≤ t.2.2.2 ∧ t.2.2.2 ≤ hi := by
  unfold okn at h
  simp only [Bool.and_eq_true, decide_eq_true_eq] at h
  exact ⟨h.1.1, h.1.2, h.2⟩
theorem nmk_1 {B : Nat → Nat} {k : Nat} {t : Tk} (h : nmk B k t = true) : t.1 = 1 := by
  unfold nmk at h
  simp only [Bool.and_eq_true, decide_eq_true_eq] at h
  exact h.1.1
theorem p_tr_SI {B : Nat → Nat} {m k W lo hi M : Nat} {s : PS} (hS : SI s.1) (hM : M < 8) (hW : W < 4) (hh : hi ≤ mx4 W) : SI (p_tr B m k W lo hi M s).2.1 := by
  unfold p_tr
  by_cases q : nmk B k s.2 = true
  · rw [if_pos q]
    by_cases r : okn (nx B m s.2) lo hi = true
    · rw [if_pos r]; exact SI_tr hS hM hW (Nat.le_trans (okn_hi r).2.2 hh)
    · rw [if_neg r]; exact hS
  · rw [if_neg q]; exact hS
theorem andp_SI {r : Bool × PS} {f : PS → Bool × PS} (h : SI r.2.1) (hf : ∀ s : PS, SI s.1 → SI (f s).2.1) : SI (andp r f).2.1 := by
  unfold andp
  by_cases q : r.1 = true
  · rw [if_pos q]; exact hf r.2 h
  · rw [if_neg q]; exact h
theorem p_moth_SI {B : Nat → Nat} {m K : Nat} {s : PS} (hS : SI s.1) (hK : K ≤ 6) : SI (p_moth B m K s).2.1 := by
  unfold p_moth
  by_cases q : 8 ≤ cl (s.1 0)
  · rw [if_pos q]; exact hS
  · rw [if_neg q]
    have h0 : SI (addm s.1 (cl (s.1 0)) (nI K) 0) := SI_addm (P := 0) hS (by omega) hK (by omega)
    exact andp_SI (andp_SI (p_tr_SI (s := (_, nx B m s.2)) h0 (by omega) (by decide) (by decide)) (fun _ h => p_tr_SI h (by omega) (by decide) (by decide))) (fun _ h => p_tr_SI h (by omega) (by decide) (by decide))
theorem p_bare_SI {B : Nat → Nat} {m : Nat} {s : PS} (hS : SI s.1) : SI (p_bare B m s).2.1 := by
  unfold p_bare
  by_cases q : okn (nx B m s.2) 0 5 = true
  · rw [if_pos q]; exact SI_hol hS (by have := (okn_hi q).2.2; omega) (Nat.le_refl _)
  · rw [if_neg q]; exact hS
theorem p_wds_SI {B : Nat → Nat} {m P : Nat} (hP : P < 6) : ∀ {n k : Nat} {s : PS}, k + n ≤ 8 → SI s.1 → SI (p_wds B m P k n s).2.1 := by
  intro n
  induction n with
  | zero => intro k s _ h; exact h
  | succ n ih =>
    intro k s hk h
    unfold p_wds
    by_cases q : (decide (0 < k) && decide (¬ s.2.1 = 2)) = true
    · rw [if_pos q]; exact h
    · rw [if_neg q]
      by_cases r : okn s.2 0 9 = true
      · rw [if_pos r]; exact ih (s := (_, nx B m s.2)) (by omega) (SI_wd (i := 8 * P + k) h (by omega) (okn_hi r).2.2)
      · rw [if_neg r]; exact h
theorem p_page_SI {B : Nat → Nat} {m : Nat} {s : PS} (hS : SI s.1) : SI (p_page B m s).2.1 := by
  unfold p_page
  by_cases q : okn (nx B m s.2) 0 5 = true
  · exact andp_SI (p_bare_SI hS) (fun _ h => p_wds_SI (by have := (okn_hi q).2.2; omega) (by omega) h)
  · have e : (p_bare B m s).1 = false := by unfold p_bare; rw [if_neg q]
    rw [andp_f e]; exact p_bare_SI hS
theorem p_kin_SI {B : Nat → Nat} {m : Nat} : ∀ {n k : Nat} {s : PS}, k + n ≤ 7 → SI s.1 → SI (p_kin B m k n s).2.1 := by
  intro n
  induction n with
  | zero => intro k s _ h; exact h
  | succ n ih =>
    intro k s hk h
    unfold p_kin
    by_cases q : nmk B (5 + k) s.2 = true
    · rw [if_pos q]; exact p_moth_SI h (by omega)
    · rw [if_neg q]; exact ih (by omega) h
theorem p_item_SI {B : Nat → Nat} {m : Nat} {s : PS} (hS : SI s.1) : SI (p_item B m s).2.1 := by
  unfold p_item
  by_cases q : nmk B 0 s.2 = true
  · rw [if_pos q]; exact p_page_SI hS
  · rw [if_neg q]
    by_cases r : nmk B 1 s.2 = true
    · rw [if_pos r]; exact p_bare_SI hS
    · rw [if_neg r]; exact p_kin_SI (by omega) hS
/-- an item that is read takes its word -/
theorem nx_G {B : Nat → Nat} {m : Nat} {t : Tk} (h : TOK B m t) : TKG B m t.2.2.1 (nx B m t) := ⟨(nx_TOK h).1, (nx_TOK h).2⟩
theorem p_bare_adv {B : Nat → Nat} {m : Nat} {s : PS} (h : TOK B m s.2) : TKG B m s.2.2.2.1 (p_bare B m s).2.2 := by
  unfold p_bare
  by_cases q : okn (nx B m s.2) 0 5 = true
  · rw [if_pos q]; exact (nx_G h).nx
  · rw [if_neg q]; exact nx_G h
theorem p_kin_adv {B : Nat → Nat} {m : Nat} : ∀ {n k : Nat} {s : PS}, TOK B m s.2 → (p_kin B m k n s).1 = true → s.2.1 = 1 ∧ TKG B m s.2.2.2.1 (p_kin B m k n s).2.2 := by
  intro n
  induction n with
  | zero => intro k s _ h; cases h
  | succ n ih =>
    intro k s h ht
    unfold p_kin at ht ⊢
    by_cases q : nmk B (5 + k) s.2 = true
    · rw [if_pos q] at ht ⊢
      refine ⟨nmk_1 q, ?_⟩
      unfold p_moth at ht ⊢
      by_cases f : 8 ≤ cl (s.1 0)
      · rw [if_pos f] at ht; cases ht
      · rw [if_neg f]
        exact andp_G (andp_G (p_tr_G (s := (_, nx B m s.2)) (nx_G h)) (fun _ => p_tr_G)) (fun _ => p_tr_G)
    · rw [if_neg q] at ht ⊢; exact ih h ht
theorem p_item_adv {B : Nat → Nat} {m : Nat} {s : PS} (h : TOK B m s.2) (ht : (p_item B m s).1 = true) : s.2.2.1 + 1 ≤ (p_item B m s).2.2.2.1 := by
  have key : s.2.1 = 1 ∧ TKG B m s.2.2.2.1 (p_item B m s).2.2 := by
    unfold p_item at ht ⊢
    by_cases q : nmk B 0 s.2 = true
    · rw [if_pos q]; exact ⟨nmk_1 q, andp_G (p_bare_adv h) (fun _ => p_wds_G)⟩
    · rw [if_neg q] at ht ⊢
      by_cases r : nmk B 1 s.2 = true
      · rw [if_pos r]; exact ⟨nmk_1 r, p_bare_adv h⟩
      · rw [if_neg r] at ht ⊢; exact p_kin_adv h ht
  have h1 := h.2.2.2.1 (by omega)
  have := key.2.2
  omega
theorem mm_in {g : Mem} {S : Row} : ub g 2 S = MM2 g S (g 4) := by
  show ub g 2 S = ub (ub g 2 S) 4 (g 4)
  rw [show g 4 = ub g 2 S 4 from (ub_n (by decide)).symm, ub_id]
/-- the answer of a text: the items, or -1 less the fault -/
def tv (r : Bool × Nat × PS) : Int32 := if r.1 then nI r.2.1 else -1 - nI r.2.2.2.2.1
def x_text (B : Nat → Nat) (m : Nat) (g : Mem) : AnM := .inr (tv (p_txt B m 1 120 (g 0, stp B m 0)), if (p_txt B m 1 120 (g 0, stp B m 0)).1 then ub (ub g 0 (p_txt B m 1 120 (g 0, stp B m 0)).2.2.1) 4 (upd (g 4) 0 0) else ub g 4 (upd (g 4) 0 0))
/-- items are counted from 1, and not many -/
theorem p_txt_i {B : Nat → Nat} {m : Nat} : ∀ {n i : Nat} {s : PS}, i ≤ (p_txt B m i n s).2.1 ∧ (p_txt B m i n s).2.1 ≤ i + n := by
  intro n
  induction n with
  | zero => intro i s; exact ⟨Nat.le_refl _, Nat.le_refl _⟩
  | succ n ih =>
    intro i s
    unfold p_txt
    by_cases a : (p_item B m s).1 = true
    · rw [if_pos a]
      by_cases b : (p_item B m s).2.2.1 = 0
      · rw [if_pos b]; exact ⟨Nat.le_refl _, by show i ≤ i + (n + 1); omega⟩
      · rw [if_neg b]
        by_cases c : (p_item B m s).2.2.1 = 3
        · rw [if_pos c]
          have := ih (i := i + 1) (s := ((p_item B m s).2.1, nx B m (p_item B m s).2.2))
          omega
        · rw [if_neg c]; exact ⟨Nat.le_refl _, by show i ≤ i + (n + 1); omega⟩
    · rw [if_neg a]; exact ⟨Nat.le_refl _, by show i ≤ i + (n + 1); omega⟩
theorem p_txt_b {B : Nat → Nat} {m : Nat} : ∀ {n i : Nat} {s : PS}, TKG B m 0 s.2 → TKG B m 0 (p_txt B m i n s).2.2.2 := by
  intro n
  induction n with
  | zero => intro i s h; exact h
  | succ n ih =>
    intro i s h
    unfold p_txt
    have hi := p_item_G (s := s) h
    by_cases a : (p_item B m s).1 = true
    · rw [if_pos a]
      by_cases b : (p_item B m s).2.2.1 = 0
      · rw [if_pos b]; exact hi
      · rw [if_neg b]
        by_cases c : (p_item B m s).2.2.1 = 3
        · rw [if_pos c]; exact ih (s := (_, nx B m (p_item B m s).2.2)) hi.nx
        · rw [if_neg c]; exact hi
    · rw [if_neg a]; exact hi
theorem p_txt_SI {B : Nat → Nat} {m : Nat} : ∀ {n i : Nat} {s : PS}, SI s.1 → SI (p_txt B m i n s).2.2.1 := by
  intro n
  induction n with
  | zero => intro i s h; exact h
  | succ n ih =>
    intro i s h
    unfold p_txt
    have hi := p_item_SI (B := B) (m := m) (s := s) h
    by_cases a : (p_item B m s).1 = true
    · rw [if_pos a]
      by_cases b : (p_item B m s).2.2.1 = 0
      · rw [if_pos b]; exact hi
      · rw [if_neg b]
        by_cases c : (p_item B m s).2.2.1 = 3
        · rw [if_pos c]; exact ih (s := (_, nx B m (p_item B m s).2.2)) hi
        · rw [if_neg c]; exact hi
    · rw [if_neg a]; exact hi
set_option maxRecDepth 20000 in
theorem c_X3_readInto {G : GT} {g : Mem} {R U : Row} {B : Nat → Nat} {m : Nat} (hB : BYT (g 5) B m) (hU0 : U 0 = nI m) (hSR : SI R) : Cti G yX3_readInto cX3_readInto 3 .int 9 199 [.ref (tp G), .ref (dr G 2)] (MM2 g R U) (fun r g' => r = tv (p_txt B m 1 120 (R, stp B m 0)) ∧ PE g m (p_txt B m 1 120 (R, stp B m 0)).2.2 g') := by
  refine ent_i (by decide) (Nat.le_of_ble_eq_true rfl) [some (.ref (tp G)), some (.ref (dr G 2)), none] rfl ?_
  intro X C hR
  have C : CX X G RX3 cX3_readInto 3 9 199 := C
  have hm120 := hB.1
  have loop : ∀ n i, i + n = 121 → 1 ≤ i → ∀ (s : PS) (V : Row), TOK B m s.2 → TKS V m s.2 → SI s.1 → 2 * (i - 1) ≤ s.2.2.1 → (p_txt B m 1 120 (R, stp B m 0)) = p_txt B m i n s → J X G 3 (MM2 g s.1 V) 11 [some (.ref (tp G)), some (.ref (dr G 2)), some (.int (nI i))] [] := by
    intro n
    induction n with
    | zero =>
      intro i hi h1 s V ht hV hSs hb hf
      have := ht.1
      have := ht.2.1
      omega
    | succ n ih =>
      intro i hi h1 s V ht hV hSs hb hf
      obtain ⟨N, hN8, hN0⟩ := hSs.1
      have hgi : TKG B m 0 (p_item B m s).2.2 := p_item_G (s := s) ⟨ht, Nat.zero_le _⟩
      have hfu : p_txt B m i (n + 1) s = if (p_item B m s).1 then (if (p_item B m s).2.2.1 = 0 then (true, i, (p_item B m s).2) else if (p_item B m s).2.2.1 = 3 then p_txt B m (i + 1) n ((p_item B m s).2.1, nx B m (p_item B m s).2.2) else (false, i, (p_item B m s).2)) else (false, i, (p_item B m s).2) := rfl
      refine j_il2 11 C dX3_readInto_11 ?_
      refine j_bipush 12 C dX3_readInto_12 bp_120 ?_
      refine j_icgt 14 58 C dX3_readInto_14 (by decide) (fun c14 => ?_) (fun c14 => ?_)
      · exact absurd c14 (nI_nlt (a := 120) (b := i) (by omega) (by decide))
      · refine j_al0 17 C dX3_readInto_17 ?_
        refine j_al1 18 C dX3_readInto_18 ?_
        refine j_vi 19 C dX3_readInto_19 mv_X3_readItem lk_X3_34 (c_X3_readItem (R := s.1) (t := s.2) hB hV ht hN8 hN0) rc_t rfl rfl ⟨(Nat.le_of_ble_eq_true rfl), (Nat.le_of_ble_eq_true rfl)⟩ (Nat.le_of_ble_eq_true rfl) (fun r19 g19 hp19 => ?_)
        obtain ⟨rfl, V3, rfl, hV3⟩ := hp19
        have hV3 : TKS V3 m (p_item B m s).2.2 := hV3
        refine j_ifne 22 28 C dX3_readInto_22 (by decide) (fun c22 => ?_) (fun c22 => ?_)
        · have v22 := bi_n c22
          rw [if_pos v22] at hfu
          refine j_al0 28 C dX3_readInto_28 ?_
          refine jg_X3_19 29 C dX3_readInto_29 ?_
          refine j_top (nI (p_item B m s).2.2.1) (by rw [mm4]; exact hV3.2.1) ?_
          refine j_ifne 32 37 C dX3_readInto_32 (by decide) (fun c32 => ?_) (fun c32 => ?_)
          · have h0 : ¬ (p_item B m s).2.2.1 = 0 := fun z => c32 (by rw [z]; rfl)
            rw [if_neg h0] at hfu
            refine j_al0 37 C dX3_readInto_37 ?_
            refine jg_X3_19 38 C dX3_readInto_38 ?_
            refine j_top (nI (p_item B m s).2.2.1) (by rw [mm4]; exact hV3.2.1) ?_
            refine j_iconst 41 C dX3_readInto_41 ic_3 ?_
            refine j_iceq 42 48 C dX3_readInto_42 (by decide) (fun c42 => ?_) (fun c42 => ?_)
            · have h3 : (p_item B m s).2.2.1 = 3 := (nI_eq (by have := hgi.1.2.2.1; omega) (by decide)).mp c42
              rw [if_pos h3] at hfu
              have ha := p_item_adv ht v22
              have hb1 := hgi.1.2.2.2.1 h0
              have hb2 := (nx_TOK hgi.1).2
              refine j_al0 48 C dX3_readInto_48 ?_
              refine j_vv 49 C dX3_readInto_49 mv_X3_step lk_X3_31 (c_X3_step (g := MM2 g (p_item B m s).2.1 V3) (e := (p_item B m s).2.2.2.2.1) (by rw [mm5]; exact hB) hgi.1.2.1 (by rw [mm4]; exact hV3.1) (by rw [mm4]; exact hV3.2.2.2.1)) rc_t rfl rfl ⟨(Nat.le_of_ble_eq_true rfl), (Nat.le_of_ble_eq_true rfl)⟩ (Nat.le_of_ble_eq_true rfl) (fun g49 hp49 => ?_)
              obtain ⟨V4, rfl, hV4⟩ := hp49
              rw [mm_4]
              refine j_inc2 52 C dX3_readInto_52 rfl (nI_inc _) (Nat.le_of_ble_eq_true rfl) ?_
              refine j_goto 55 11 C dX3_readInto_55 (by decide) ?_
              exact ih (i + 1) (by omega) (by omega) ((p_item B m s).2.1, nx B m (p_item B m s).2.2) V4 (nx_TOK hgi.1).1 hV4 (p_item_SI hSs) (by show 2 * (i + 1 - 1) ≤ (nx B m (p_item B m s).2.2).2.1; omega) (hf.trans hfu)
            · have h3 : ¬ (p_item B m s).2.2.1 = 3 := fun z => c42 (by rw [z]; rfl)
              have hres : (p_txt B m 1 120 (R, stp B m 0)) = (false, i, (p_item B m s).2) := by rw [hf, hfu, if_neg h3]
              refine j_goto 45 58 C dX3_readInto_45 (by decide) ?_
              refine j_iconst 58 C dX3_readInto_58 ic_m1 ?_
              refine j_al0 59 C dX3_readInto_59 ?_
              refine jg_X3_22 60 C dX3_readInto_60 ?_
              refine j_top (nI (p_item B m s).2.2.2.1) (by rw [mm4]; exact hV3.2.2.1) ?_
              refine j_isub 63 C dX3_readInto_63 ?_
              exact hR dX3_readInto_64 ⟨by rw [hres]; rfl, by rw [hres]; exact ⟨V3, rfl, hV3⟩⟩
          · have h0 : (p_item B m s).2.2.1 = 0 := (nI_eq (b := 0) (by have := hgi.1.2.2.1; omega) (by decide)).mp c32
            have hres : (p_txt B m 1 120 (R, stp B m 0)) = (true, i, (p_item B m s).2) := by rw [hf, hfu, if_pos h0]
            refine j_il2 35 C dX3_readInto_35 ?_
            exact hR dX3_readInto_36 ⟨by rw [hres]; rfl, by rw [hres]; exact ⟨V3, rfl, hV3⟩⟩
        · have v22 := bi_0 c22
          have hres : (p_txt B m 1 120 (R, stp B m 0)) = (false, i, (p_item B m s).2) := by rw [hf, hfu, if_neg (by rw [v22]; decide)]
          refine j_goto 25 58 C dX3_readInto_25 (by decide) ?_
          refine j_iconst 58 C dX3_readInto_58 ic_m1 ?_
          refine j_al0 59 C dX3_readInto_59 ?_
          refine jg_X3_22 60 C dX3_readInto_60 ?_
          refine j_top (nI (p_item B m s).2.2.2.1) (by rw [mm4]; exact hV3.2.2.1) ?_
          refine j_isub 63 C dX3_readInto_63 ?_
          exact hR dX3_readInto_64 ⟨by rw [hres]; rfl, by rw [hres]; exact ⟨V3, rfl, hV3⟩⟩
  refine j_al0 0 C dX3_readInto_0 ?_
  refine j_iconst 1 C dX3_readInto_1 ic_0 ?_
  refine jp_X3_25 2 C dX3_readInto_2 ?_
  rw [mm_4, mm4]
  refine j_al0 5 C dX3_readInto_5 ?_
  refine j_vv 6 C dX3_readInto_6 mv_X3_step lk_X3_31 (c_X3_step (g := MM2 g R (upd U 3 0)) (e := 0) (by rw [mm5]; exact hB) (Nat.zero_le m) (by rw [mm4, upd_n (by decide)]; exact hU0) (by rw [mm4, upd_s]; rfl)) rc_t rfl rfl ⟨(Nat.le_of_ble_eq_true rfl), (Nat.le_of_ble_eq_true rfl)⟩ (Nat.le_of_ble_eq_true rfl) (fun g6 hp6 => ?_)
  obtain ⟨U1, rfl, hU1⟩ := hp6
  rw [mm_4]
  refine j_iconst 9 C dX3_readInto_9 ic_1 ?_
  refine j_is2 10 C dX3_readInto_10 rfl (Nat.le_of_ble_eq_true rfl) ?_
  exact loop 120 1 rfl (Nat.le_refl _) (R, stp B m 0) U1 (stp_TOK (Nat.zero_le m)) hU1 hSR (Nat.zero_le _) rfl
theorem m1_le {b : Nat} (h : b ≤ 120) : -1 - nI b ≤ 0 := by
  have k : ∀ b, b < 121 → -1 - nI b ≤ 0 := by decide +kernel
  exact k b (by omega)
theorem tx_SC {g : Mem} {R U : Row} : SC (MM2 g R (upd U 0 0)) (ub g 4 (upd (g 4) 0 0)) := by
  refine ⟨fun b h1 h2 h3 h4 h5 h6 h7 => ?_, ?_, ?_, ?_⟩
  · show ub (ub g 2 R) 4 _ b = _; rw [ub_n h3, ub_n h1, ub_n h3]
  · rw [mm4, ub_s, upd_s, upd_s]
  · show ub (ub g 2 R) 4 _ 22 0 = _; rw [ub_n (by decide), ub_n (by decide), ub_n (by decide)]
  · show ub (ub g 2 R) 4 _ 22 1 = _; rw [ub_n (by decide), ub_n (by decide), ub_n (by decide)]
theorem tx_SC0 {g : Mem} {R U : Row} : SC (ub (MM2 g R (upd U 0 0)) 0 R) (ub (ub g 0 R) 4 (upd (g 4) 0 0)) := by
  refine ⟨fun b h1 h2 h3 h4 h5 h6 h7 => ?_, ?_, ?_, ?_⟩
  · by_cases h0 : b = 0
    · subst h0; rw [ub_s, ub_n (by decide), ub_s]
    · rw [ub_n h0]; show ub (ub g 2 R) 4 _ b = _; rw [ub_n h3, ub_n h1, ub_n h3, ub_n h0]
  · rw [ub_n (by decide), mm4, ub_s, upd_s, upd_s]
  · rw [ub_n (by decide)]; show ub (ub g 2 R) 4 _ 22 0 = _; rw [ub_n (by decide), ub_n (by decide), ub_n (by decide), ub_n (by decide)]
  · rw [ub_n (by decide)]; show ub (ub g 2 R) 4 _ 22 1 = _; rw [ub_n (by decide), ub_n (by decide), ub_n (by decide), ub_n (by decide)]
set_option maxRecDepth 20000 in
theorem c_X4_text {G : GT} {g : Mem} (hS : SI (g 0)) {B : Nat → Nat} {m : Nat} (hB : BYT (g 5) B m) (h40 : g 4 0 = nI m) : Cti G yX4_text cX4_text 2 .int 10 221 [.ref (xo G)] g (fun r g' => cgX (x_text B m g) g r g') := by
  refine ent_i (by decide) (Nat.le_of_ble_eq_true rfl) [some (.ref (xo G)), none] rfl ?_
  intro X C hR
  have C : CX X G RX4 cX4_text 2 10 221 := C
  have hi := p_txt_i (B := B) (m := m) (n := 120) (i := 1) (s := (g 0, stp B m 0))
  have hbb := p_txt_b (B := B) (m := m) (n := 120) (i := 1) (s := (g 0, stp B m 0)) ⟨stp_TOK (Nat.zero_le m), Nat.zero_le _⟩
  have hm120 := hB.1
  refine j_al0 0 C dX4_text_0 ?_
  refine jg_X4_19 1 C dX4_text_1 ?_
  refine j_al0 4 C dX4_text_4 ?_
  refine jg_X4_12 5 C dX4_text_5 ?_
  refine j_vv 8 C dX4_text_8 mv_X0_become lk_X4_168 (c_X0_become lt4_2 lt4_0 (by decide)) (rc_d lt4_2) rfl rfl ⟨(Nat.le_of_ble_eq_true rfl), (Nat.le_of_ble_eq_true rfl)⟩ (Nat.le_of_ble_eq_true rfl) (fun g8 hp8 => ?_)
  obtain rfl := hp8
  rw [mm_in]
  refine j_al0 11 C dX4_text_11 ?_
  refine jg_X4_28 12 C dX4_text_12 ?_
  refine j_al0 15 C dX4_text_15 ?_
  refine jg_X4_19 16 C dX4_text_16 ?_
  refine j_vi 19 C dX4_text_19 mv_X3_readInto lk_X4_220 (c_X3_readInto hB h40 hS) rc_t rfl rfl ⟨(Nat.le_of_ble_eq_true rfl), (Nat.le_of_ble_eq_true rfl)⟩ (Nat.le_of_ble_eq_true rfl) (fun r19 g19 hp19 => ?_)
  obtain ⟨rfl, U1, rfl, hU1⟩ := hp19
  refine j_is1 22 C dX4_text_22 rfl (Nat.le_of_ble_eq_true rfl) ?_
  refine j_al0 23 C dX4_text_23 ?_
  refine jg_X4_28 24 C dX4_text_24 ?_
  refine j_vi 27 C dX4_text_27 mv_X3_empty lk_X4_217 (c_X3_empty) rc_t rfl rfl ⟨(Nat.le_of_ble_eq_true rfl), (Nat.le_of_ble_eq_true rfl)⟩ (Nat.le_of_ble_eq_true rfl) (fun r27 g27 hp27 => ?_)
  obtain ⟨rfl, rfl⟩ := hp27
  rw [mm_4, mm4]
  refine j_pop 30 C dX4_text_30 rfl ?_
  refine j_il1 31 C dX4_text_31 ?_
  refine j_ifle 32 46 C dX4_text_32 (by decide) (fun c32 => ?_) (fun c32 => ?_)
  · have hf : ¬ (p_txt B m 1 120 (g 0, stp B m 0)).1 = true := fun z => by
      unfold tv at c32; rw [if_pos z] at c32; exact nI_nle (by omega) (by omega) c32
    refine j_il1 46 C dX4_text_46 ?_
    exact hR dX4_text_47 (cgX_r rfl rfl (by rw [if_neg hf]; exact tx_SC))
  · have hf : (p_txt B m 1 120 (g 0, stp B m 0)).1 = true := by
      cases z : (p_txt B m 1 120 (g 0, stp B m 0)).1 with
      | true => rfl
      | false =>
        exfalso; apply c32; unfold tv; rw [if_neg (by rw [z]; decide)]; exact m1_le (by have := hbb.1.1; have := hbb.1.2.1; omega)
    refine j_al0 35 C dX4_text_35 ?_
    refine jg_X4_12 36 C dX4_text_36 ?_
    refine j_al0 39 C dX4_text_39 ?_
    refine jg_X4_19 40 C dX4_text_40 ?_
    refine j_vv 43 C dX4_text_43 mv_X0_become lk_X4_168 (c_X0_become lt4_0 lt4_2 (by decide)) (rc_d lt4_0) rfl rfl ⟨(Nat.le_of_ble_eq_true rfl), (Nat.le_of_ble_eq_true rfl)⟩ (Nat.le_of_ble_eq_true rfl) (fun g43 hp43 => ?_)
    obtain rfl := hp43
    rw [mm2]
    refine j_il1 46 C dX4_text_46 ?_
    exact hR dX4_text_47 (cgX_r rfl rfl (by rw [if_pos hf]; exact tx_SC0))
