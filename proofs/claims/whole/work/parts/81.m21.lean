def m_text (B : Nat → Nat) (m : Nat) (g : Mem) : AnM := .inr (tv (p_txt B m 1 120 (g 12, stp B m 0)), if (p_txt B m 1 120 (g 12, stp B m 0)).1 then ub (ub g 12 (p_txt B m 1 120 (g 12, stp B m 0)).2.2.1) 22 (upd (g 22) 1 0) else ub g 22 (upd (g 22) 1 0))
theorem tm_SC {g : Mem} {A R V : Row} (h0 : V 0 = g 22 0) : SC (MM3 (ub g 14 A) R (upd V 1 0)) (ub (ub g 12 R) 22 (upd (g 22) 1 0)) := by
  refine ⟨fun b h1 h2 h3 h4 h5 h6 h7 => ?_, ?_, ?_, ?_⟩
  · show ub (ub (ub g 14 A) 12 R) 22 _ b = _
    rw [ub_n h7, ub_n h7]
    by_cases e : b = 12
    · subst e; rw [ub_s, ub_s]
    · rw [ub_n e, ub_n e, ub_n h4]
  · show ub (ub (ub g 14 A) 12 R) 22 _ 4 0 = _
    rw [ub_n (by decide), ub_n (by decide), ub_n (by decide), ub_n (by decide), ub_n (by decide)]
  · rw [m3_22, ub_s, upd_n (by decide), upd_n (by decide)]; exact h0
  · rw [m3_22, ub_s, upd_s, upd_s]
theorem tm_SCf {g : Mem} {A V : Row} (h0 : V 0 = g 22 0) : SC (MM3 (ub g 14 A) (g 12) (upd V 1 0)) (ub g 22 (upd (g 22) 1 0)) := by
  have h := tm_SC (A := A) (R := g 12) h0
  rw [show ub g 12 (g 12) = g from ub_id] at h
  exact h
theorem m3_14 {g : Mem} {R V : Row} : MM3 g R V 14 = g 14 := by show ub (ub g 12 R) 22 V 14 = g 14; rw [ub_n (by decide), ub_n (by decide)]
set_option maxRecDepth 20000 in
theorem c_X5_text {G : GT} {g : Mem} {B : Nat → Nat} {m : Nat} (hB : BYM (g 17) B m) (h1 : g 22 1 = nI m) (hS : SI (g 12)) : Cti G yX5_text cX5_text 3 .int 5 113 [.ref (mo G)] g (fun r g' => cgM (m_text B m g) g r g') := by
  refine ent_i (by decide) (Nat.le_of_ble_eq_true rfl) [some (.ref (mo G)), none, none] rfl ?_
  intro X C hR
  have C : CX X G RX5 cX5_text 3 5 113 := C
  have hm120 := hB.1
  have hB1 : BYM ((ub g 14 (g 12)) 17) B m := by rw [ub_n (by decide)]; exact hB
  have endF : ∀ (R V : Row) (x y : Int32), V 0 = g 22 0 → V 6 = nI (p_txt B m 1 120 (g 12, stp B m 0)).2.2.2.2.1 → (p_txt B m 1 120 (g 12, stp B m 0)).1 = false → J X G 3 (MM3 (ub g 14 (g 12)) R V) 76 [some (.ref (mo G)), some (.int (x)), some (.int (y))] [] := by
    intro R V x y k0 k6 hf
    refine j_iconst 76 C dX5_text_76 ic_0 ?_
    refine j_is2 77 C dX5_text_77 rfl (Nat.le_of_ble_eq_true rfl) ?_
    refine j_al0 78 C dX5_text_78 ?_
    refine j_iconst 79 C dX5_text_79 ic_0 ?_
    refine jp_X5_212 80 C dX5_text_80 ?_
    rw [m3_v, m3_22]
    refine j_il2 83 C dX5_text_83 ?_
    refine j_ifne 84 98 C dX5_text_84 (by decide) (fun c84 => ?_) (fun c84 => ?_)
    · exact absurd rfl c84
    · refine j_al0 87 C dX5_text_87 ?_
      refine jg_X5_16 88 C dX5_text_88 ?_
      refine j_al0 91 C dX5_text_91 ?_
      refine jg_X5_7 92 C dX5_text_92 ?_
      refine j_sv 95 C dX5_text_95 ms_X5_copyRow lk_X5_160 (c_X5_copyRow (i := 2) (j := 0) (by decide) (by decide) (by decide)) rfl rfl ⟨(Nat.le_of_ble_eq_true rfl), (Nat.le_of_ble_eq_true rfl)⟩ (Nat.le_of_ble_eq_true rfl) (fun g95 hp95 => ?_)
      have hp95 : g95 = ub (MM3 (ub g 14 (g 12)) R (upd V 1 0)) 12 (MM3 (ub g 14 (g 12)) R (upd V 1 0) 14) := hp95
      rw [m3_r, m3_14, ub_s] at hp95
      subst hp95
      refine j_il2 98 C dX5_text_98 ?_
      refine j_ifeq 99 106 C dX5_text_99 (by decide) (fun c99 => ?_) (fun c99 => ?_)
      · refine j_iconst 106 C dX5_text_106 ic_m1 ?_
        refine j_al0 107 C dX5_text_107 ?_
        refine jg_X5_237 108 C dX5_text_108 ?_
        refine j_top (nI (p_txt B m 1 120 (g 12, stp B m 0)).2.2.2.2.1) (by rw [m3_22, upd_n (by decide)]; exact k6) ?_
        refine j_isub 111 C dX5_text_111 ?_
        exact hR dX5_text_112 (cgM_r (v := tv (p_txt B m 1 120 (g 12, stp B m 0))) rfl (by unfold tv; rw [if_neg (by rw [hf]; decide)]) (by rw [if_neg (by rw [hf]; decide)]; exact tm_SCf k0))
      · exact absurd rfl c99
  have endT : ∀ (V : Row) (i : Nat) (y : Int32), V 0 = g 22 0 → tv (p_txt B m 1 120 (g 12, stp B m 0)) = nI i → (p_txt B m 1 120 (g 12, stp B m 0)).1 = true → J X G 3 (MM3 (ub g 14 (g 12)) (p_txt B m 1 120 (g 12, stp B m 0)).2.2.1 V) 72 [some (.ref (mo G)), some (.int (nI i)), some (.int (y))] [] := by
    intro V i y k0 hi ht
    refine j_iconst 72 C dX5_text_72 ic_1 ?_
    refine j_goto 73 77 C dX5_text_73 (by decide) ?_
    refine j_is2 77 C dX5_text_77 rfl (Nat.le_of_ble_eq_true rfl) ?_
    refine j_al0 78 C dX5_text_78 ?_
    refine j_iconst 79 C dX5_text_79 ic_0 ?_
    refine jp_X5_212 80 C dX5_text_80 ?_
    rw [m3_v, m3_22]
    refine j_il2 83 C dX5_text_83 ?_
    refine j_ifne 84 98 C dX5_text_84 (by decide) (fun c84 => ?_) (fun c84 => ?_)
    · refine j_il2 98 C dX5_text_98 ?_
      refine j_ifeq 99 106 C dX5_text_99 (by decide) (fun c99 => ?_) (fun c99 => ?_)
      · exact absurd c99 (by decide)
      · refine j_il1 102 C dX5_text_102 ?_
        refine j_goto 103 112 C dX5_text_103 (by decide) ?_
        exact hR dX5_text_112 (cgM_r (v := tv (p_txt B m 1 120 (g 12, stp B m 0))) rfl hi.symm (by rw [if_pos ht]; exact tm_SC k0))
    · exact absurd c84 (by decide)
  have loop : ∀ n i, i + n = 121 → 1 ≤ i → ∀ (s : PS) (b : Bool) (R V : Row), TOK B m s.2 → SI s.1 → 2 * (i - 1) ≤ s.2.2.1 → (p_txt B m 1 120 (g 12, stp B m 0)) = p_txt B m i n s → (b = true → (p_item B m s).1 = true) → (b = false → (p_item B m s).1 = false ∨ (p_item B m s).2.2.1 = 2) → (b = true → R = (p_item B m s).2.1) → TKM V m (p_item B m s).2.2 → V 0 = g 22 0 → (b = false → V 6 = nI (p_item B m s).2.2.2.1) → J X G 3 (MM3 (ub g 14 (g 12)) R V) 27 [some (.ref (mo G)), some (.int (nI i)), some (.int (bi b))] [] := by
    intro n
    induction n with
    | zero =>
      intro i hi h1 s b R V ht hSs hb
      exfalso
      have := ht.1
      have := ht.2.1
      omega
    | succ n ih =>
      intro i hi h1 s b R V ht hSs hb hf q1 q2 q3 hV k0 k6
      have hgi : TKG B m 0 (p_item B m s).2.2 := p_item_G (s := s) ⟨ht, Nat.zero_le _⟩
      have hfu : p_txt B m i (n + 1) s = if (p_item B m s).1 then (if (p_item B m s).2.2.1 = 0 then (true, i, (p_item B m s).2) else if (p_item B m s).2.2.1 = 3 then p_txt B m (i + 1) n ((p_item B m s).2.1, nx B m (p_item B m s).2.2) else (false, i, (p_item B m s).2)) else (false, i, (p_item B m s).2) := rfl
      refine j_il2 27 C dX5_text_27 ?_
      refine j_ifeq 28 54 C dX5_text_28 (by decide) (fun c28 => ?_) (fun c28 => ?_)
      · have hb0 : b = false := bi_0 c28
        have hres : (p_txt B m 1 120 (g 12, stp B m 0)) = (false, i, (p_item B m s).2) := by
          rw [hf, hfu]
          by_cases z : (p_item B m s).1 = true
          · have z2 : (p_item B m s).2.2.1 = 2 := (q2 hb0).resolve_left (by rw [z]; decide)
            rw [if_pos z, if_neg (by omega), if_neg (by omega)]
          · rw [if_neg z]
        refine j_il2 54 C dX5_text_54 ?_
        refine j_ifeq 55 76 C dX5_text_55 (by decide) (fun c55 => ?_) (fun c55 => ?_)
        · exact endF R V _ _ k0 (by rw [hres]; exact k6 hb0) (by rw [hres])
        · exact absurd c28 c55
      · have hb1 : b = true := bi_n c28
        rw [if_pos (q1 hb1)] at hfu
        refine j_al0 31 C dX5_text_31 ?_
        refine jg_X5_231 32 C dX5_text_32 ?_
        refine j_top (nI (p_item B m s).2.2.1) (by rw [m3_22]; exact hV.2.1) ?_
        refine j_iconst 35 C dX5_text_35 ic_3 ?_
        refine j_icne 36 54 C dX5_text_36 (by decide) (fun c36 => ?_) (fun c36 => ?_)
        · have h3 : ¬ (p_item B m s).2.2.1 = 3 := fun z => c36 (by rw [z]; rfl)
          rw [if_neg h3] at hfu
          refine j_il2 54 C dX5_text_54 ?_
          refine j_ifeq 55 76 C dX5_text_55 (by decide) (fun c55 => ?_) (fun c55 => ?_)
          · exact absurd c55 (by rw [hb1]; decide)
          · refine j_al0 58 C dX5_text_58 ?_
            refine jg_X5_231 59 C dX5_text_59 ?_
            refine j_top (nI (p_item B m s).2.2.1) (by rw [m3_22]; exact hV.2.1) ?_
            refine j_ifeq 62 72 C dX5_text_62 (by decide) (fun c62 => ?_) (fun c62 => ?_)
            · have h0 : (p_item B m s).2.2.1 = 0 := (nI_eq (b := 0) (by have := hgi.1.2.2.1; omega) (by decide)).mp c62
              have hres : (p_txt B m 1 120 (g 12, stp B m 0)) = (true, i, (p_item B m s).2) := by rw [hf, hfu, if_pos h0]
              have e : R = (p_txt B m 1 120 (g 12, stp B m 0)).2.2.1 := by rw [hres]; exact q3 hb1
              rw [e]
              exact endT V i _ k0 (by rw [hres]; rfl) (by rw [hres])
            · have h0 : ¬ (p_item B m s).2.2.1 = 0 := fun z => c62 (by rw [z]; rfl)
              have hres : (p_txt B m 1 120 (g 12, stp B m 0)) = (false, i, (p_item B m s).2) := by rw [hf, hfu, if_neg h0]
              refine j_al0 65 C dX5_text_65 ?_
              refine j_vi 66 C dX5_text_66 mv_X5_fails lk_X5_247 (c_X5_fails) rc_m rfl rfl ⟨(Nat.le_of_ble_eq_true rfl), (Nat.le_of_ble_eq_true rfl)⟩ (Nat.le_of_ble_eq_true rfl) (fun r66 g66 hp66 => ?_)
              obtain ⟨rfl, rfl⟩ := hp66
              rw [m3_22, m3_v]
              refine j_ifeq 69 76 C dX5_text_69 (by decide) (fun c69 => ?_) (fun c69 => ?_)
              · exact endF R _ _ _ (by rw [upd_n (by decide)]; exact k0) (by rw [upd_s, hres]; exact hV.2.2.1) (by rw [hres])
              · exact absurd rfl c69
        · have h3 : (p_item B m s).2.2.1 = 3 := (nI_eq (by have := hgi.1.2.2.1; omega) (by decide)).mp c36
          rw [if_neg (show ¬ (p_item B m s).2.2.1 = 0 by omega), if_pos h3] at hfu
          have ha := p_item_adv ht (q1 hb1)
          have hb1x := hgi.1.2.2.2.1 (show (p_item B m s).2.2.1 ≠ 0 by omega)
          have hb2 := (nx_TOK hgi.1).2
          obtain rfl := q3 hb1
          refine j_al0 39 C dX5_text_39 ?_
          refine j_vv 40 C dX5_text_40 mv_X5_nextToken lk_X5_261 (c_X5_nextToken (e := (p_item B m s).2.2.2.2.1) (by rw [m3_17]; exact hB1) (by rw [m3_22]; exact hV.1) hgi.1.2.1 (by rw [m3_22]; exact hV.2.2.2.1)) rc_m rfl rfl ⟨(Nat.le_of_ble_eq_true rfl), (Nat.le_of_ble_eq_true rfl)⟩ (Nat.le_of_ble_eq_true rfl) (fun g40 hp40 => ?_)
          obtain ⟨V2, rfl, hV2, k2, k26⟩ := hp40
          rw [m3_22] at k2
          rw [m3_v]
          have hV2 : TKM V2 m (nx B m (p_item B m s).2.2) := hV2
          refine j_al0 43 C dX5_text_43 ?_
          refine j_vi 44 C dX5_text_44 mv_X5_itemHere lk_X5_289 (c_X5_itemHere (g := MM3 (ub g 14 (g 12)) (p_item B m s).2.1 V2) (t := nx B m (p_item B m s).2.2) (by rw [m3_17]; exact hB1) (by rw [m3_22]; exact hV2) (nx_TOK hgi.1).1 (by rw [m3_12]; exact p_item_SI hSs)) rc_m rfl rfl ⟨(Nat.le_of_ble_eq_true rfl), (Nat.le_of_ble_eq_true rfl)⟩ (Nat.le_of_ble_eq_true rfl) (fun r44 g44 hp44 => ?_)
          rw [m3_12] at hp44
          obtain ⟨b3, rfl, u1, u2, R3, V3, rfl, u3, u4, u5, u6⟩ := hp44
          rw [m3_22] at u5
          rw [m3_m3]
          refine j_is2 47 C dX5_text_47 rfl (Nat.le_of_ble_eq_true rfl) ?_
          refine j_inc1 48 C dX5_text_48 rfl (nI_inc _) (Nat.le_of_ble_eq_true rfl) ?_
          refine j_goto 51 27 C dX5_text_51 (by decide) ?_
          exact ih (i + 1) (by omega) (by omega) ((p_item B m s).2.1, nx B m (p_item B m s).2.2) b3 R3 V3 (nx_TOK hgi.1).1 (p_item_SI hSs) (by show 2 * (i + 1 - 1) ≤ (nx B m (p_item B m s).2.2).2.1; omega) (hf.trans hfu) u1 u2 u3 u4 (u5.trans (k2.trans k0)) u6
  refine j_al0 0 C dX5_text_0 ?_
  refine jg_X5_7 1 C dX5_text_1 ?_
  refine j_al0 4 C dX5_text_4 ?_
  refine jg_X5_16 5 C dX5_text_5 ?_
  refine j_sv 8 C dX5_text_8 ms_X5_copyRow lk_X5_160 (c_X5_copyRow (i := 0) (j := 2) (by decide) (by decide) (by decide)) rfl rfl ⟨(Nat.le_of_ble_eq_true rfl), (Nat.le_of_ble_eq_true rfl)⟩ (Nat.le_of_ble_eq_true rfl) (fun g8 hp8 => ?_)
  have hp8 : g8 = (ub g 14 (g 12)) := hp8
  subst hp8
  refine j_al0 11 C dX5_text_11 ?_
  refine j_iconst 12 C dX5_text_12 ic_0 ?_
  refine jp_X5_216 13 C dX5_text_13 ?_
  rw [ub_n (b' := 22) (b := 14) (by decide)]
  refine j_al0 16 C dX5_text_16 ?_
  refine j_vv 17 C dX5_text_17 mv_X5_nextToken lk_X5_261 (c_X5_nextToken (e := 0) (by rw [ub_n (by decide)]; exact hB1) (by rw [ub_s, upd_n (by decide)]; exact h1) (Nat.zero_le m) (by rw [ub_s, upd_s]; rfl)) rc_m rfl rfl ⟨(Nat.le_of_ble_eq_true rfl), (Nat.le_of_ble_eq_true rfl)⟩ (Nat.le_of_ble_eq_true rfl) (fun g17 hp17 => ?_)
  obtain ⟨V0, rfl, hV0, k0, k06⟩ := hp17
  rw [ub_s, upd_n (by decide)] at k0
  rw [ub_ub]
  rw [m3_o, show (ub g 14 (g 12)) 12 = g 12 from ub_n (by decide)]
  refine j_iconst 20 C dX5_text_20 ic_1 ?_
  refine j_is1 21 C dX5_text_21 rfl (Nat.le_of_ble_eq_true rfl) ?_
  refine j_al0 22 C dX5_text_22 ?_
  refine j_vi 23 C dX5_text_23 mv_X5_itemHere lk_X5_289 (c_X5_itemHere (g := MM3 (ub g 14 (g 12)) (g 12) V0) (t := stp B m 0) (by rw [m3_17]; exact hB1) (by rw [m3_22]; exact hV0) (stp_TOK (Nat.zero_le m)) (by rw [m3_12]; exact hS)) rc_m rfl rfl ⟨(Nat.le_of_ble_eq_true rfl), (Nat.le_of_ble_eq_true rfl)⟩ (Nat.le_of_ble_eq_true rfl) (fun r23 g23 hp23 => ?_)
  rw [m3_12] at hp23
  obtain ⟨b3, rfl, u1, u2, R3, V3, rfl, u3, u4, u5, u6⟩ := hp23
  rw [m3_22] at u5
  rw [m3_m3]
  refine j_is2 26 C dX5_text_26 rfl (Nat.le_of_ble_eq_true rfl) ?_
  exact loop 120 1 rfl (Nat.le_refl _) (g 12, stp B m 0) b3 R3 V3 (stp_TOK (Nat.zero_le m)) hS (Nat.zero_le _) rfl u1 u2 u3 u4 (u5.trans k0) u6
