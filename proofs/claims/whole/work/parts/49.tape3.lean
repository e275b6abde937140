theorem sq_999 : (Int16.ofInt (999)).toInt32 = 999 := by decide
set_option maxRecDepth 20000 in
theorem c_X3_readMoth {G : GT} {g : Mem} {R U : Row} {B : Nat → Nat} {m : Nat} {t : Tk} (hB : BYT (g 5) B m) (hU : TKS U m t) (ht : TOK B m t) {K N : Nat} (hN8 : N ≤ 8) (hN0 : R 0 = nI N) : Cti G yX3_readMoth cX3_readMoth 4 .boolean 7 154 [.ref (tp G), .ref (dr G 2), .int (nI K)] (MM2 g R U) (fun r g' => r = bi (p_moth B m K (R, t)).1 ∧ PE g m (p_moth B m K (R, t)).2 g') := by
  refine ent_z (by decide) (Nat.le_of_ble_eq_true rfl) [some (.ref (tp G)), some (.ref (dr G 2)), some (.int (nI K)), none] rfl ?_
  intro X C hR
  have C : CX X G RX3 cX3_readMoth 4 7 154 := C
  have hg : TKG B m 0 t := ⟨ht, Nat.zero_le _⟩
  have g1 : TKG B m 0 (nx B m t) := hg.nx
  have g2 : TKG B m 0 (p_tr B m 2 1 0 5 N ((addm R N (nI K) 0), (nx B m t))).2.2 := p_tr_G (s := ((addm R N (nI K) 0), (nx B m t))) g1
  have g3 : TKG B m 0 (p_tr B m 3 2 1 9 N (p_tr B m 2 1 0 5 N ((addm R N (nI K) 0), (nx B m t))).2).2.2 := p_tr_G (s := (p_tr B m 2 1 0 5 N ((addm R N (nI K) 0), (nx B m t))).2) g2
  have hcl : cl ((R, t).1 0) = N := by show cl (R 0) = N; rw [hN0]; exact cl_nI (by omega)
  refine j_al1 0 C dX3_readMoth_0 ?_
  refine j_vi 1 C dX3_readMoth_1 mv_X0_isFull lk_X3_61 (c_X0_isFull lt4_2) (rc_d lt4_2) rfl rfl ⟨(Nat.le_of_ble_eq_true rfl), (Nat.le_of_ble_eq_true rfl)⟩ (Nat.le_of_ble_eq_true rfl) (fun r1 g1 hp1 => ?_)
  obtain ⟨rfl, rfl⟩ := hp1
  refine j_ifeq 4 9 C dX3_readMoth_4 (by decide) (fun c4 => ?_) (fun c4 => ?_)
  · have v4 := of_decide_eq_false (bi_0 c4)
    rw [mm2, hN0] at v4
    have h8 : N < 8 := Nat.lt_of_not_le (fun z => v4 (nI_le (a := 8) z (by omega)))
    have hpm : p_moth B m K (R, t) = andp (andp (p_tr B m 2 1 0 5 N ((addm R N (nI K) 0), (nx B m t))) (p_tr B m 3 2 1 9 N)) (p_tr B m 4 3 0 999 N) := by unfold p_moth; rw [hcl, if_neg (by omega)]
    refine j_al0 9 C dX3_readMoth_9 ?_
    refine j_vv 10 C dX3_readMoth_10 mv_X3_step lk_X3_31 (c_X3_step (g := MM2 g R U) (by rw [mm5]; exact hB) ht.2.1 (by rw [mm4]; exact hU.1) (by rw [mm4]; exact hU.2.2.2.1)) rc_t rfl rfl ⟨(Nat.le_of_ble_eq_true rfl), (Nat.le_of_ble_eq_true rfl)⟩ (Nat.le_of_ble_eq_true rfl) (fun g10 hp10 => ?_)
    obtain ⟨U1, rfl, hU1⟩ := hp10
    have hU1 : TKS U1 m (nx B m t) := hU1
    rw [mm_4]
    refine j_al1 13 C dX3_readMoth_13 ?_
    refine j_il2 14 C dX3_readMoth_14 ?_
    refine j_iconst 15 C dX3_readMoth_15 ic_0 ?_
    refine j_vi 16 C dX3_readMoth_16 mv_X0_addMoth lk_X3_67 (c_X0_addMoth (M := N) lt4_2 h8 (by rw [mm2]; exact hN0)) (rc_d lt4_2) rfl rfl ⟨(Nat.le_of_ble_eq_true rfl), (Nat.le_of_ble_eq_true rfl)⟩ (Nat.le_of_ble_eq_true rfl) (fun r16 g16 hp16 => ?_)
    obtain ⟨rfl, rfl⟩ := hp16
    rw [mm_2, mm2]
    refine j_is3 19 C dX3_readMoth_19 rfl (Nat.le_of_ble_eq_true rfl) ?_
    refine j_al0 20 C dX3_readMoth_20 ?_
    refine j_al1 21 C dX3_readMoth_21 ?_
    refine j_il3 22 C dX3_readMoth_22 ?_
    refine j_ldcS 23 2 (by decide) rfl C dX3_readMoth_23 ?_
    refine j_iconst 25 C dX3_readMoth_25 ic_1 ?_
    refine jgs_X3_73 26 C dX3_readMoth_26 ?_
    refine j_iconst 29 C dX3_readMoth_29 ic_1 ?_
    refine j_top (nI (1)) rfl ?_
    refine jl_st1 30 (by decide) C dX3_readMoth_30 ?_
    refine j_top (nI 5) (by decide) ?_
    refine j_vi 31 C dX3_readMoth_31 mv_X3_readTrait lk_X3_77 (c_X3_readTrait (R := (addm R N (nI K) 0)) (t := (nx B m t)) (i := 2) (W := 1) (lw := 0) (up := 5) (M := N) hB hU1 g1.1 (by decide) (by decide) (by omega) (by decide) (by decide) (by decide)) rc_t rfl rfl ⟨(Nat.le_of_ble_eq_true rfl), (Nat.le_of_ble_eq_true rfl)⟩ (Nat.le_of_ble_eq_true rfl) (fun r31 g31 hp31 => ?_)
    obtain ⟨rfl, U3, rfl, hU3⟩ := hp31
    refine j_ifeq 34 73 C dX3_readMoth_34 (by decide) (fun c34 => ?_) (fun c34 => ?_)
    · have v34 : (p_tr B m 2 1 0 5 N ((addm R N (nI K) 0), (nx B m t))).1 = false := bi_0 c34
      have he : p_moth B m K (R, t) = (p_tr B m 2 1 0 5 N ((addm R N (nI K) 0), (nx B m t))) := by rw [hpm, andp_f v34, andp_f v34]
      refine j_iconst 73 C dX3_readMoth_73 ic_0 ?_
      exact hR dX3_readMoth_74 (Or.inl rfl) ⟨by rw [he, v34]; rfl, by rw [he]; exact ⟨U3, rfl, hU3⟩⟩
    · have v34 : (p_tr B m 2 1 0 5 N ((addm R N (nI K) 0), (nx B m t))).1 = true := bi_n c34
      refine j_al0 37 C dX3_readMoth_37 ?_
      refine j_al1 38 C dX3_readMoth_38 ?_
      refine j_il3 39 C dX3_readMoth_39 ?_
      refine j_ldcS 40 3 (by decide) rfl C dX3_readMoth_40 ?_
      refine j_iconst 42 C dX3_readMoth_42 ic_2 ?_
      refine jgs_X3_73 43 C dX3_readMoth_43 ?_
      refine j_iconst 46 C dX3_readMoth_46 ic_2 ?_
      refine j_top (nI (2)) rfl ?_
      refine jl_st1 47 (by decide) C dX3_readMoth_47 ?_
      refine j_top (nI 9) (by decide) ?_
      refine j_vi 48 C dX3_readMoth_48 mv_X3_readTrait lk_X3_77 (c_X3_readTrait (R := (p_tr B m 2 1 0 5 N ((addm R N (nI K) 0), (nx B m t))).2.1) (t := (p_tr B m 2 1 0 5 N ((addm R N (nI K) 0), (nx B m t))).2.2) (i := 3) (W := 2) (lw := 1) (up := 9) (M := N) hB hU3 g2.1 (by decide) (by decide) (by omega) (by decide) (by decide) (by decide)) rc_t rfl rfl ⟨(Nat.le_of_ble_eq_true rfl), (Nat.le_of_ble_eq_true rfl)⟩ (Nat.le_of_ble_eq_true rfl) (fun r48 g48 hp48 => ?_)
      obtain ⟨rfl, U4, rfl, hU4⟩ := hp48
      refine j_ifeq 51 73 C dX3_readMoth_51 (by decide) (fun c51 => ?_) (fun c51 => ?_)
      · have v51 : (p_tr B m 3 2 1 9 N (p_tr B m 2 1 0 5 N ((addm R N (nI K) 0), (nx B m t))).2).1 = false := bi_0 c51
        have he : p_moth B m K (R, t) = (p_tr B m 3 2 1 9 N (p_tr B m 2 1 0 5 N ((addm R N (nI K) 0), (nx B m t))).2) := by rw [hpm, andp_t v34, andp_f v51]
        refine j_iconst 73 C dX3_readMoth_73 ic_0 ?_
        exact hR dX3_readMoth_74 (Or.inl rfl) ⟨by rw [he, v51]; rfl, by rw [he]; exact ⟨U4, rfl, hU4⟩⟩
      · have v51 : (p_tr B m 3 2 1 9 N (p_tr B m 2 1 0 5 N ((addm R N (nI K) 0), (nx B m t))).2).1 = true := bi_n c51
        have he : p_moth B m K (R, t) = (p_tr B m 4 3 0 999 N (p_tr B m 3 2 1 9 N (p_tr B m 2 1 0 5 N ((addm R N (nI K) 0), (nx B m t))).2).2) := by rw [hpm, andp_t v34, andp_t v51]
        refine j_al0 54 C dX3_readMoth_54 ?_
        refine j_al1 55 C dX3_readMoth_55 ?_
        refine j_il3 56 C dX3_readMoth_56 ?_
        refine j_ldcS 57 4 (by decide) rfl C dX3_readMoth_57 ?_
        refine j_iconst 59 C dX3_readMoth_59 ic_3 ?_
        refine j_sipush 60 C dX3_readMoth_60 sq_999 ?_
        refine j_vi 63 C dX3_readMoth_63 mv_X3_readTrait lk_X3_77 (c_X3_readTrait (R := (p_tr B m 3 2 1 9 N (p_tr B m 2 1 0 5 N ((addm R N (nI K) 0), (nx B m t))).2).2.1) (t := (p_tr B m 3 2 1 9 N (p_tr B m 2 1 0 5 N ((addm R N (nI K) 0), (nx B m t))).2).2.2) (i := 4) (W := 3) (lw := 0) (up := 999) (M := N) hB hU4 g3.1 (by decide) (by decide) (by omega) (by decide) (by decide) (by decide)) rc_t rfl rfl ⟨(Nat.le_of_ble_eq_true rfl), (Nat.le_of_ble_eq_true rfl)⟩ (Nat.le_of_ble_eq_true rfl) (fun r63 g63 hp63 => ?_)
        obtain ⟨rfl, U5, rfl, hU5⟩ := hp63
        refine j_ifeq 66 73 C dX3_readMoth_66 (by decide) (fun c66 => ?_) (fun c66 => ?_)
        · have v66 : (p_tr B m 4 3 0 999 N (p_tr B m 3 2 1 9 N (p_tr B m 2 1 0 5 N ((addm R N (nI K) 0), (nx B m t))).2).2).1 = false := bi_0 c66
          refine j_iconst 73 C dX3_readMoth_73 ic_0 ?_
          exact hR dX3_readMoth_74 (Or.inl rfl) ⟨by rw [he, v66]; rfl, by rw [he]; exact ⟨U5, rfl, hU5⟩⟩
        · have v66 : (p_tr B m 4 3 0 999 N (p_tr B m 3 2 1 9 N (p_tr B m 2 1 0 5 N ((addm R N (nI K) 0), (nx B m t))).2).2).1 = true := bi_n c66
          refine j_iconst 69 C dX3_readMoth_69 ic_1 ?_
          refine j_goto 70 74 C dX3_readMoth_70 (by decide) ?_
          exact hR dX3_readMoth_74 (Or.inr rfl) ⟨by rw [he, v66]; rfl, by rw [he]; exact ⟨U5, rfl, hU5⟩⟩
  · have v4 := of_decide_eq_true (bi_n c4)
    rw [mm2, hN0] at v4
    have h8 : 8 ≤ cl ((R, t).1 0) := by rw [hcl]; exact Nat.le_of_not_lt (fun z => nI_ge z (by omega) v4)
    refine j_iconst 7 C dX3_readMoth_7 ic_0 ?_
    exact hR dX3_readMoth_8 (Or.inl rfl) ⟨by unfold p_moth; rw [if_pos h8]; rfl, by unfold p_moth; rw [if_pos h8]; exact ⟨U, rfl, hU⟩⟩
set_option maxRecDepth 20000 in
theorem c_X3_readPage {G : GT} {g : Mem} {R U : Row} {B : Nat → Nat} {m : Nat} {t : Tk} (hB : BYT (g 5) B m) (hU : TKS U m t) (ht : TOK B m t) : Cti G yX3_readPage cX3_readPage 5 .boolean 3 67 [.ref (tp G), .ref (dr G 2)] (MM2 g R U) (fun r g' => r = bi (p_page B m (R, t)).1 ∧ PE g m (p_page B m (R, t)).2 g') := by
  refine ent_z (by decide) (Nat.le_of_ble_eq_true rfl) [some (.ref (tp G)), some (.ref (dr G 2)), none, none, none] rfl ?_
  intro X C hR
  have C : CX X G RX3 cX3_readPage 5 3 67 := C
  have hg : TKG B m 0 t := ⟨ht, Nat.zero_le _⟩
  have gb : TKG B m 0 (p_bare B m (R, t)).2.2 := p_bare_G (s := (R, t)) hg
  refine j_al0 0 C dX3_readPage_0 ?_
  refine j_al1 1 C dX3_readPage_1 ?_
  refine j_vi 2 C dX3_readPage_2 mv_X3_takeBarePage lk_X3_49 (c_X3_takeBarePage hB hU ht) rc_t rfl rfl ⟨(Nat.le_of_ble_eq_true rfl), (Nat.le_of_ble_eq_true rfl)⟩ (Nat.le_of_ble_eq_true rfl) (fun r2 g2 hp2 => ?_)
  cases hk : okn (nx B m t) 0 5 with
  | false =>
    obtain ⟨hr2, U2, rfl, hU2⟩ := hp2
    rw [hk] at hr2
    simp only [Bool.false_eq_true, if_false] at hr2
    subst hr2
    have he : p_page B m (R, t) = p_bare B m (R, t) := andp_f (by unfold p_bare; rw [if_neg (by rw [show okn (nx B m (R, t).2) 0 5 = false from hk]; decide)])
    have he1 : (p_bare B m (R, t)).1 = false := by unfold p_bare; rw [if_neg (by rw [show okn (nx B m (R, t).2) 0 5 = false from hk]; decide)]
    refine j_is2 5 C dX3_readPage_5 rfl (Nat.le_of_ble_eq_true rfl) ?_
    refine j_il2 6 C dX3_readPage_6 ?_
    refine j_iconst 7 C dX3_readPage_7 ic_m1 ?_
    refine j_icne 8 13 C dX3_readPage_8 (by decide) (fun c8 => ?_) (fun c8 => ?_)
    · exact absurd rfl c8
    · refine j_iconst 11 C dX3_readPage_11 ic_0 ?_
      exact hR dX3_readPage_12 (Or.inl rfl) ⟨by rw [he, he1]; rfl, by rw [he]; exact ⟨U2, rfl, hU2⟩⟩
  | true =>
    obtain ⟨hr2, U2, rfl, hU2⟩ := hp2
    rw [hk] at hr2
    simp only [if_true] at hr2
    subst hr2
    have hv5 : (nx B m t).2.2.2 ≤ 5 := by unfold okn at hk; simp only [Bool.and_eq_true, decide_eq_true_eq] at hk; exact hk.2
    have he : p_page B m (R, t) = p_wds B m (nx B m t).2.2.2 0 8 (p_bare B m (R, t)).2 := andp_t (by unfold p_bare; rw [if_pos (show okn (nx B m (R, t).2) 0 5 = true from hk)])
    have loop : ∀ n k, k + n = 8 → ∀ (s : PS) (V : Row) (o : Option Value), TOK B m s.2 → TKS V m s.2 → p_page B m (R, t) = p_wds B m (nx B m t).2.2.2 k n s → J X G 5 (MM2 g s.1 V) 15 [some (.ref (tp G)), some (.ref (dr G 2)), some (.int (nI (nx B m t).2.2.2)), some (.int (nI k)), o] [] := by
      intro n
      induction n with
      | zero =>
        intro k hk s V o hts hV hf
        obtain rfl : k = 8 := by omega
        have hf : p_page B m (R, t) = (true, s) := hf
        refine j_il3 15 C dX3_readPage_15 ?_
        refine j_bipush 16 C dX3_readPage_16 bp_8 ?_
        refine j_icge 18 66 C dX3_readPage_18 (by decide) (fun c18 => ?_) (fun c18 => ?_)
        · refine j_iconst 66 C dX3_readPage_66 ic_1 ?_
          exact hR dX3_readPage_67 (Or.inr rfl) ⟨by rw [hf]; rfl, by rw [hf]; exact ⟨V, rfl, hV⟩⟩
        · exact absurd (by decide) c18
      | succ n ih =>
        intro k hk s V o hts hV hf
        refine j_il3 15 C dX3_readPage_15 ?_
        refine j_bipush 16 C dX3_readPage_16 bp_8 ?_
        refine j_icge 18 66 C dX3_readPage_18 (by decide) (fun c18 => ?_) (fun c18 => ?_)
        · exact absurd c18 (nI_ge (a := k) (b := 8) (by omega) (by decide))
        · refine j_il3 21 C dX3_readPage_21 ?_
          refine j_ifle 22 35 C dX3_readPage_22 (by decide) (fun c22 => ?_) (fun c22 => ?_)
          · have hk0 : k = 0 := Nat.eq_zero_of_not_pos (fun z => nI_nle z (by omega) c22)
            have hf : p_page B m (R, t) = if okn s.2 0 9 then p_wds B m (nx B m t).2.2.2 (k + 1) n (upd s.1 (3 + (8 * (nx B m t).2.2.2 + k)) (nI s.2.2.2.2), nx B m s.2) else (false, s) := hf.trans (if_neg (by rw [hk0]; simp))
            refine j_al0 35 C dX3_readPage_35 ?_
            refine j_iconst 36 C dX3_readPage_36 ic_0 ?_
            refine j_bipush 37 C dX3_readPage_37 bp_9 ?_
            refine j_vi 39 C dX3_readPage_39 mv_X3_takeNumber lk_X3_88 (c_X3_takeNumber (R := s.1) (t := s.2) (lw := 0) (up := 9) hB hV hts (by decide) (by decide)) rc_t rfl rfl ⟨(Nat.le_of_ble_eq_true rfl), (Nat.le_of_ble_eq_true rfl)⟩ (Nat.le_of_ble_eq_true rfl) (fun r39 g39 hp39 => ?_)
            cases hk9 : okn s.2 0 9 with
            | false =>
              obtain ⟨hr39, V2, rfl, hV2⟩ := hp39
              dsimp only at hV2 ⊢
              rw [hk9] at hr39 hV2
              simp only [Bool.false_eq_true, if_false] at hr39 hV2
              subst hr39
              rw [hk9] at hf
              have hf : p_page B m (R, t) = (false, s) := hf
              refine j_is4 42 C dX3_readPage_42 rfl (Nat.le_of_ble_eq_true rfl) ?_
              refine j_il4 44 C dX3_readPage_44 ?_
              refine j_iconst 46 C dX3_readPage_46 ic_m1 ?_
              refine j_icne 47 52 C dX3_readPage_47 (by decide) (fun c47 => ?_) (fun c47 => ?_)
              · exact absurd rfl c47
              · refine j_iconst 50 C dX3_readPage_50 ic_0 ?_
                exact hR dX3_readPage_51 (Or.inl rfl) ⟨by rw [hf]; rfl, by rw [hf]; exact ⟨V2, rfl, hV2⟩⟩
            | true =>
              obtain ⟨hr39, V2, rfl, hV2⟩ := hp39
              dsimp only at hV2 ⊢
              rw [hk9] at hr39 hV2
              simp only [if_true] at hr39 hV2
              subst hr39
              rw [hk9] at hf
              have hv := hts.2.2.2.2
              refine j_is4 42 C dX3_readPage_42 rfl (Nat.le_of_ble_eq_true rfl) ?_
              refine j_il4 44 C dX3_readPage_44 ?_
              refine j_iconst 46 C dX3_readPage_46 ic_m1 ?_
              refine j_icne 47 52 C dX3_readPage_47 (by decide) (fun c47 => ?_) (fun c47 => ?_)
              · refine j_al1 52 C dX3_readPage_52 ?_
                refine j_il2 53 C dX3_readPage_53 ?_
                refine j_il3 54 C dX3_readPage_54 ?_
                refine j_il4 55 C dX3_readPage_55 ?_
                refine j_vv 57 C dX3_readPage_57 mv_X0_setWord lk_X3_95 (c_X0_setWord lt4_2 (by omega) (by omega)) (rc_d lt4_2) rfl rfl ⟨(Nat.le_of_ble_eq_true rfl), (Nat.le_of_ble_eq_true rfl)⟩ (Nat.le_of_ble_eq_true rfl) (fun g57 hp57 => ?_)
                obtain rfl := hp57
                rw [mm_2, mm2]
                refine j_inc3 60 C dX3_readPage_60 rfl (nI_inc _) (Nat.le_of_ble_eq_true rfl) ?_
                refine j_goto 63 15 C dX3_readPage_63 (by decide) ?_
                exact ih (k + 1) (by omega) (upd s.1 (3 + (8 * (nx B m t).2.2.2 + k)) (nI s.2.2.2.2), nx B m s.2) V2 _ (nx_TOK hts).1 hV2 hf
              · exact absurd c47 (nI_nm1 (by omega))
          · have hk0 : 0 < k := Nat.pos_of_ne_zero (fun z => c22 (by rw [z]; decide))
            refine j_al0 25 C dX3_readPage_25 ?_
            refine jg_X3_19 26 C dX3_readPage_26 ?_
            refine j_top (nI s.2.1) (by rw [mm4]; exact hV.2.1) ?_
            refine j_iconst 29 C dX3_readPage_29 ic_2 ?_
            refine j_iceq 30 35 C dX3_readPage_30 (by decide) (fun c30 => ?_) (fun c30 => ?_)
            · have h2 : s.2.1 = 2 := (nI_eq (by have := hts.2.2.1; omega) (by decide)).mp c30
              have hf : p_page B m (R, t) = if okn s.2 0 9 then p_wds B m (nx B m t).2.2.2 (k + 1) n (upd s.1 (3 + (8 * (nx B m t).2.2.2 + k)) (nI s.2.2.2.2), nx B m s.2) else (false, s) := hf.trans (if_neg (by rw [decide_eq_false (p := ¬ s.2.1 = 2) (fun z => z h2)]; simp))
              refine j_al0 35 C dX3_readPage_35 ?_
              refine j_iconst 36 C dX3_readPage_36 ic_0 ?_
              refine j_bipush 37 C dX3_readPage_37 bp_9 ?_
              refine j_vi 39 C dX3_readPage_39 mv_X3_takeNumber lk_X3_88 (c_X3_takeNumber (R := s.1) (t := s.2) (lw := 0) (up := 9) hB hV hts (by decide) (by decide)) rc_t rfl rfl ⟨(Nat.le_of_ble_eq_true rfl), (Nat.le_of_ble_eq_true rfl)⟩ (Nat.le_of_ble_eq_true rfl) (fun r39 g39 hp39 => ?_)
              cases hk9 : okn s.2 0 9 with
              | false =>
                obtain ⟨hr39, V2, rfl, hV2⟩ := hp39
                dsimp only at hV2 ⊢
                rw [hk9] at hr39 hV2
                simp only [Bool.false_eq_true, if_false] at hr39 hV2
                subst hr39
                rw [hk9] at hf
                have hf : p_page B m (R, t) = (false, s) := hf
                refine j_is4 42 C dX3_readPage_42 rfl (Nat.le_of_ble_eq_true rfl) ?_
                refine j_il4 44 C dX3_readPage_44 ?_
                refine j_iconst 46 C dX3_readPage_46 ic_m1 ?_
                refine j_icne 47 52 C dX3_readPage_47 (by decide) (fun c47 => ?_) (fun c47 => ?_)
                · exact absurd rfl c47
                · refine j_iconst 50 C dX3_readPage_50 ic_0 ?_
                  exact hR dX3_readPage_51 (Or.inl rfl) ⟨by rw [hf]; rfl, by rw [hf]; exact ⟨V2, rfl, hV2⟩⟩
              | true =>
                obtain ⟨hr39, V2, rfl, hV2⟩ := hp39
                dsimp only at hV2 ⊢
                rw [hk9] at hr39 hV2
                simp only [if_true] at hr39 hV2
                subst hr39
                rw [hk9] at hf
                have hv := hts.2.2.2.2
                refine j_is4 42 C dX3_readPage_42 rfl (Nat.le_of_ble_eq_true rfl) ?_
                refine j_il4 44 C dX3_readPage_44 ?_
                refine j_iconst 46 C dX3_readPage_46 ic_m1 ?_
                refine j_icne 47 52 C dX3_readPage_47 (by decide) (fun c47 => ?_) (fun c47 => ?_)
                · refine j_al1 52 C dX3_readPage_52 ?_
                  refine j_il2 53 C dX3_readPage_53 ?_
                  refine j_il3 54 C dX3_readPage_54 ?_
                  refine j_il4 55 C dX3_readPage_55 ?_
                  refine j_vv 57 C dX3_readPage_57 mv_X0_setWord lk_X3_95 (c_X0_setWord lt4_2 (by omega) (by omega)) (rc_d lt4_2) rfl rfl ⟨(Nat.le_of_ble_eq_true rfl), (Nat.le_of_ble_eq_true rfl)⟩ (Nat.le_of_ble_eq_true rfl) (fun g57 hp57 => ?_)
                  obtain rfl := hp57
                  rw [mm_2, mm2]
                  refine j_inc3 60 C dX3_readPage_60 rfl (nI_inc _) (Nat.le_of_ble_eq_true rfl) ?_
                  refine j_goto 63 15 C dX3_readPage_63 (by decide) ?_
                  exact ih (k + 1) (by omega) (upd s.1 (3 + (8 * (nx B m t).2.2.2 + k)) (nI s.2.2.2.2), nx B m s.2) V2 _ (nx_TOK hts).1 hV2 hf
                · exact absurd c47 (nI_nm1 (by omega))
            · have h2 : ¬ s.2.1 = 2 := fun z => c30 (by rw [z]; rfl)
              have hf : p_page B m (R, t) = (true, s) := hf.trans (if_pos (by rw [decide_eq_true hk0, decide_eq_true h2]; rfl))
              refine j_iconst 33 C dX3_readPage_33 ic_1 ?_
              exact hR dX3_readPage_34 (Or.inr rfl) ⟨by rw [hf]; rfl, by rw [hf]; exact ⟨V, rfl, hV⟩⟩
    refine j_is2 5 C dX3_readPage_5 rfl (Nat.le_of_ble_eq_true rfl) ?_
    refine j_il2 6 C dX3_readPage_6 ?_
    refine j_iconst 7 C dX3_readPage_7 ic_m1 ?_
    refine j_icne 8 13 C dX3_readPage_8 (by decide) (fun c8 => ?_) (fun c8 => ?_)
    · refine j_iconst 13 C dX3_readPage_13 ic_0 ?_
      refine j_is3 14 C dX3_readPage_14 rfl (Nat.le_of_ble_eq_true rfl) ?_
      exact loop 8 0 rfl (p_bare B m (R, t)).2 U2 none gb.1 hU2 he
    · exact absurd c8 (nI_nm1 (by omega))
set_option maxRecDepth 20000 in
theorem c_X3_readItem {G : GT} {g : Mem} {R U : Row} {B : Nat → Nat} {m : Nat} {t : Tk} (hB : BYT (g 5) B m) (hU : TKS U m t) (ht : TOK B m t) {N : Nat} (hN8 : N ≤ 8) (hN0 : R 0 = nI N) : Cti G yX3_readItem cX3_readItem 3 .boolean 8 177 [.ref (tp G), .ref (dr G 2)] (MM2 g R U) (fun r g' => r = bi (p_item B m (R, t)).1 ∧ PE g m (p_item B m (R, t)).2 g') := by
  refine ent_z (by decide) (Nat.le_of_ble_eq_true rfl) [some (.ref (tp G)), some (.ref (dr G 2)), none] rfl ?_
  intro X C hR
  have C : CX X G RX3 cX3_readItem 3 8 177 := C
  have hg : TKG B m 0 t := ⟨ht, Nat.zero_le _⟩
  refine j_al0 0 C dX3_readItem_0 ?_
  refine j_ldcS 1 0 (by decide) rfl C dX3_readItem_1 ?_
  refine j_vi 3 C dX3_readItem_3 mv_X3_isName lk_X3_40 (c_X3_isName (i := 0) hB hU ht (by decide)) rc_t rfl rfl ⟨(Nat.le_of_ble_eq_true rfl), (Nat.le_of_ble_eq_true rfl)⟩ (Nat.le_of_ble_eq_true rfl) (fun r3 g3 hp3 => ?_)
  obtain ⟨rfl, rfl⟩ := hp3
  refine j_ifeq 6 15 C dX3_readItem_6 (by decide) (fun c6 => ?_) (fun c6 => ?_)
  · have v6 := bi_0 c6
    have n0 : ¬ nmk B 0 (R, t).2 = true := by rw [show nmk B 0 (R, t).2 = false from v6]; decide
    refine j_al0 15 C dX3_readItem_15 ?_
    refine j_ldcS 16 1 (by decide) rfl C dX3_readItem_16 ?_
    refine j_vi 18 C dX3_readItem_18 mv_X3_isName lk_X3_40 (c_X3_isName (i := 1) hB hU ht (by decide)) rc_t rfl rfl ⟨(Nat.le_of_ble_eq_true rfl), (Nat.le_of_ble_eq_true rfl)⟩ (Nat.le_of_ble_eq_true rfl) (fun r18 g18 hp18 => ?_)
    obtain ⟨rfl, rfl⟩ := hp18
    refine j_ifeq 21 39 C dX3_readItem_21 (by decide) (fun c21 => ?_) (fun c21 => ?_)
    · have v21 := bi_0 c21
      have loop : ∀ n k, k + n = 7 → p_item B m (R, t) = p_kin B m k n (R, t) → J X G 3 (MM2 g R U) 41 [some (.ref (tp G)), some (.ref (dr G 2)), some (.int (nI k))] [] := by
        intro n
        induction n with
        | zero =>
          intro k hk hf
          obtain rfl : k = 7 := by omega
          refine j_il2 41 C dX3_readItem_41 ?_
          refine j_bipush 42 C dX3_readItem_42 bp_7 ?_
          refine j_icge 44 71 C dX3_readItem_44 (by decide) (fun c44 => ?_) (fun c44 => ?_)
          · have hf : p_item B m (R, t) = (false, (R, t)) := hf
            refine j_iconst 71 C dX3_readItem_71 ic_0 ?_
            exact hR dX3_readItem_72 (Or.inl rfl) ⟨by rw [hf]; rfl, by rw [hf]; exact ⟨U, rfl, hU⟩⟩
          · exact absurd (nI_le (Nat.le_refl _) (by decide)) c44
        | succ n ih =>
          intro k hk hf
          refine j_il2 41 C dX3_readItem_41 ?_
          refine j_bipush 42 C dX3_readItem_42 bp_7 ?_
          refine j_icge 44 71 C dX3_readItem_44 (by decide) (fun c44 => ?_) (fun c44 => ?_)
          · exact absurd c44 (nI_ge (a := k) (b := 7) (by omega) (by decide))
          · refine j_al0 47 C dX3_readItem_47 ?_
            refine j_il2 48 C dX3_readItem_48 ?_
            refine j_sr 49 C dX3_readItem_49 ms_X3_kindName lk_X3_53 (c_X3_kindName (K := k) (by omega)) rfl rfl ⟨(Nat.le_of_ble_eq_true rfl), (Nat.le_of_ble_eq_true rfl)⟩ (Nat.le_of_ble_eq_true rfl) (fun a49 g49 hp49 => ?_)
            obtain ⟨rfl, rfl⟩ := hp49
            refine j_vi 52 C dX3_readItem_52 mv_X3_isName lk_X3_40 (c_X3_isName (i := 5 + k) hB hU ht (by omega)) rc_t rfl rfl ⟨(Nat.le_of_ble_eq_true rfl), (Nat.le_of_ble_eq_true rfl)⟩ (Nat.le_of_ble_eq_true rfl) (fun r52 g52 hp52 => ?_)
            obtain ⟨rfl, rfl⟩ := hp52
            refine j_ifeq 55 65 C dX3_readItem_55 (by decide) (fun c55 => ?_) (fun c55 => ?_)
            · have v55 := bi_0 c55
              have hf2 : p_item B m (R, t) = p_kin B m (k + 1) n (R, t) := hf.trans (if_neg (by rw [show nmk B (5 + k) (R, t).2 = false from v55]; decide))
              refine j_inc2 65 C dX3_readItem_65 rfl (nI_inc _) (Nat.le_of_ble_eq_true rfl) ?_
              refine j_goto 68 41 C dX3_readItem_68 (by decide) ?_
              exact ih (k + 1) (by omega) hf2
            · have v55 := bi_n c55
              have he : p_item B m (R, t) = p_moth B m k (R, t) := hf.trans (if_pos v55)
              refine j_al0 58 C dX3_readItem_58 ?_
              refine j_al1 59 C dX3_readItem_59 ?_
              refine j_il2 60 C dX3_readItem_60 ?_
              refine j_vi 61 C dX3_readItem_61 mv_X3_readMoth lk_X3_57 (c_X3_readMoth (K := k) hB hU ht hN8 hN0) rc_t rfl rfl ⟨(Nat.le_of_ble_eq_true rfl), (Nat.le_of_ble_eq_true rfl)⟩ (Nat.le_of_ble_eq_true rfl) (fun r61 g61 hp61 => ?_)
              obtain ⟨rfl, U3, rfl, hU3⟩ := hp61
              exact hR dX3_readItem_64 (by cases (p_moth B m k (R, t)).1 with | true => exact Or.inr rfl | false => exact Or.inl rfl) ⟨by rw [he], by rw [he]; exact ⟨U3, rfl, hU3⟩⟩
      refine j_iconst 39 C dX3_readItem_39 ic_0 ?_
      refine j_is2 40 C dX3_readItem_40 rfl (Nat.le_of_ble_eq_true rfl) ?_
      exact loop 7 0 rfl (by unfold p_item; rw [if_neg n0, if_neg (by rw [show nmk B 1 (R, t).2 = false from v21]; decide)])
    · have v21 := bi_n c21
      have he : p_item B m (R, t) = p_bare B m (R, t) := by unfold p_item; rw [if_neg n0, if_pos (show nmk B 1 (R, t).2 = true from v21)]
      refine j_al0 24 C dX3_readItem_24 ?_
      refine j_al1 25 C dX3_readItem_25 ?_
      refine j_vi 26 C dX3_readItem_26 mv_X3_takeBarePage lk_X3_49 (c_X3_takeBarePage hB hU ht) rc_t rfl rfl ⟨(Nat.le_of_ble_eq_true rfl), (Nat.le_of_ble_eq_true rfl)⟩ (Nat.le_of_ble_eq_true rfl) (fun r26 g26 hp26 => ?_)
      cases hk : okn (nx B m t) 0 5 with
      | false =>
        have he1 : (p_bare B m (R, t)).1 = false := by unfold p_bare; rw [if_neg (by rw [show okn (nx B m (R, t).2) 0 5 = false from hk]; decide)]
        obtain ⟨hr26, U3, rfl, hU3⟩ := hp26
        rw [hk] at hr26
        simp only [Bool.false_eq_true, if_false] at hr26
        subst hr26
        refine j_iconst 29 C dX3_readItem_29 ic_m1 ?_
        refine j_iceq 30 37 C dX3_readItem_30 (by decide) (fun c30 => ?_) (fun c30 => ?_)
        · refine j_iconst 37 C dX3_readItem_37 ic_0 ?_
          exact hR dX3_readItem_38 (Or.inl rfl) ⟨by rw [he, he1]; rfl, by rw [he]; exact ⟨U3, rfl, hU3⟩⟩
        · exact absurd rfl c30
      | true =>
        have he1 : (p_bare B m (R, t)).1 = true := by unfold p_bare; rw [if_pos (show okn (nx B m (R, t).2) 0 5 = true from hk)]
        obtain ⟨hr26, U3, rfl, hU3⟩ := hp26
        rw [hk] at hr26
        simp only [if_true] at hr26
        subst hr26
        have hv := (nx_TOK ht).1.2.2.2.2
        refine j_iconst 29 C dX3_readItem_29 ic_m1 ?_
        refine j_iceq 30 37 C dX3_readItem_30 (by decide) (fun c30 => ?_) (fun c30 => ?_)
        · exact absurd c30 (nI_nm1 (by omega))
        · refine j_iconst 33 C dX3_readItem_33 ic_1 ?_
          refine j_goto 34 38 C dX3_readItem_34 (by decide) ?_
          exact hR dX3_readItem_38 (Or.inr rfl) ⟨by rw [he, he1]; rfl, by rw [he]; exact ⟨U3, rfl, hU3⟩⟩
  · have v6 := bi_n c6
    have he : p_item B m (R, t) = p_page B m (R, t) := by unfold p_item; rw [if_pos (show nmk B 0 (R, t).2 = true from v6)]
    refine j_al0 9 C dX3_readItem_9 ?_
    refine j_al1 10 C dX3_readItem_10 ?_
    refine j_vi 11 C dX3_readItem_11 mv_X3_readPage lk_X3_44 (c_X3_readPage hB hU ht) rc_t rfl rfl ⟨(Nat.le_of_ble_eq_true rfl), (Nat.le_of_ble_eq_true rfl)⟩ (Nat.le_of_ble_eq_true rfl) (fun r11 g11 hp11 => ?_)
    obtain ⟨rfl, U3, rfl, hU3⟩ := hp11
    exact hR dX3_readItem_14 (by cases (p_page B m (R, t)).1 with | true => exact Or.inr rfl | false => exact Or.inl rfl) ⟨by rw [he], by rw [he]; exact ⟨U3, rfl, hU3⟩⟩
