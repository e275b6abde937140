/-- what an upper method of the reference's parser ends with -/
def PQ (g : Mem) (m : Nat) (p : Bool × PS) (r : Int32) (g' : Mem) : Prop := r = bi p.1 ∧ ∃ R V, g' = MM3 g R V ∧ (p.1 = true → R = p.2.1) ∧ TKM V m p.2.2 ∧ V 0 = g 22 0 ∧ (p.1 = false → V 6 = nI p.2.2.2.1)
theorem TKM_6 {V : Row} {m : Nat} {t : Tk} {x : Int32} (h : TKM V m t) : TKM (upd V 6 x) m t := ⟨by rw [upd_n (by decide)]; exact h.1, by rw [upd_n (by decide)]; exact h.2.1, by rw [upd_n (by decide)]; exact h.2.2.1, by rw [upd_n (by decide)]; exact h.2.2.2.1, by rw [upd_n (by decide)]; exact h.2.2.2.2⟩
theorem m3_o {g : Mem} {V : Row} : ub g 22 V = MM3 g (g 12) V := by show _ = ub (ub g 12 (g 12)) 22 V; rw [ub_id]
set_option maxRecDepth 20000 in
theorem c_X5_emptyHere {G : GT} {g : Mem} {B : Nat → Nat} {m : Nat} (hB : BYM (g 17) B m) {t : Tk} (hV : TKM (g 22) m t) (ht : TOK B m t) : Cti G yX5_emptyHere cX5_emptyHere 1 .boolean 2 47 [.ref (mo G)] g (fun r g' => PQ g m (p_bare B m (g 12, t)) r g') := by
  refine ent_z (by decide) (Nat.le_of_ble_eq_true rfl) [some (.ref (mo G))] rfl ?_
  intro X C hR
  have C : CX X G RX5 cX5_emptyHere 1 2 47 := C
  have ht1 := (nx_TOK ht).1
  refine j_al0 0 C dX5_emptyHere_0 ?_
  refine j_vv 1 C dX5_emptyHere_1 mv_X5_nextToken lk_X5_261 (c_X5_nextToken hB hV.1 (e := _) ht.2.1 hV.2.2.2.1) rc_m rfl rfl ⟨(Nat.le_of_ble_eq_true rfl), (Nat.le_of_ble_eq_true rfl)⟩ (Nat.le_of_ble_eq_true rfl) (fun g1 hp1 => ?_)
  obtain ⟨V1, rfl, hV1, k0, k6⟩ := hp1
  have hV1 : TKM V1 m (nx B m t) := hV1
  refine j_al0 4 C dX5_emptyHere_4 ?_
  refine j_iconst 5 C dX5_emptyHere_5 ic_0 ?_
  refine j_iconst 6 C dX5_emptyHere_6 ic_5 ?_
  refine j_vi 7 C dX5_emptyHere_7 mv_X5_isNumber lk_X5_264 (c_X5_isNumber (g := ub g 22 V1) (t := nx B m t) (by rw [ub_n (by decide)]; exact hB) (by rw [ub_s]; exact hV1) ht1 (lo := 0) (hi := 5) (by decide) (by decide)) rc_m rfl rfl ⟨(Nat.le_of_ble_eq_true rfl), (Nat.le_of_ble_eq_true rfl)⟩ (Nat.le_of_ble_eq_true rfl) (fun r7 g7 hp7 => ?_)
  obtain ⟨rfl, rfl⟩ := hp7
  refine j_ifne 10 15 C dX5_emptyHere_10 (by decide) (fun c10 => ?_) (fun c10 => ?_)
  · have hyes : okn (nx B m t) 0 5 = true := bi_n c10
    rw [if_pos hyes]
    have hp : p_bare B m (g 12, t) = (true, (hol (g 12) (nx B m t).2.2.2 8, nx B m (nx B m t))) := by unfold p_bare; exact if_pos hyes
    have h5 : (nx B m t).2.2.2 ≤ 5 := by
      unfold okn at hyes
      exact of_decide_eq_true (and_tt hyes).2
    refine j_al0 15 C dX5_emptyHere_15 ?_
    refine j_al0 16 C dX5_emptyHere_16 ?_
    refine jg_X5_234 17 C dX5_emptyHere_17 ?_
    refine j_top (nI (nx B m t).2.2.2) (by rw [ub_s]; exact hV1.2.2.2.2) ?_
    refine j_vv 20 C dX5_emptyHere_20 mv_X5_empties lk_X5_274 (c_X5_empties (show (nx B m t).2.2.2 < 6 by omega)) rc_m rfl rfl ⟨(Nat.le_of_ble_eq_true rfl), (Nat.le_of_ble_eq_true rfl)⟩ (Nat.le_of_ble_eq_true rfl) (fun g20 hp20 => ?_)
    obtain rfl := hp20
    rw [ub_n (b' := 12) (b := 22) (by decide), ub_comm (show (22 : Nat) ≠ 12 by decide)]
    refine j_al0 23 C dX5_emptyHere_23 ?_
    refine j_vv 24 C dX5_emptyHere_24 mv_X5_nextToken lk_X5_261 (c_X5_nextToken (by rw [ub_n (by decide), ub_n (by decide)]; exact hB) (by rw [ub_s]; exact hV1.1) ht1.2.1 (by rw [ub_s]; exact hV1.2.2.2.1)) rc_m rfl rfl ⟨(Nat.le_of_ble_eq_true rfl), (Nat.le_of_ble_eq_true rfl)⟩ (Nat.le_of_ble_eq_true rfl) (fun g24 hp24 => ?_)
    obtain ⟨V2, rfl, hV2, k2, k26⟩ := hp24
    rw [ub_s] at k2
    rw [ub_ub]
    have ht2 := (nx_TOK ht1).1
    refine j_iconst 27 C dX5_emptyHere_27 ic_1 ?_
    exact hR dX5_emptyHere_28 (Or.inr rfl) (by rw [hp]; exact ⟨rfl, _, V2, rfl, fun _ => rfl, hV2, k2.trans k0, fun z => by cases z⟩)
  · have hno : okn (nx B m t) 0 5 = false := bi_0 c10
    rw [if_neg (by rw [hno]; decide)]
    have hp : p_bare B m (g 12, t) = (false, (g 12, nx B m t)) := by unfold p_bare; exact if_neg (by rw [hno]; decide)
    refine j_iconst 13 C dX5_emptyHere_13 ic_0 ?_
    exact hR dX5_emptyHere_14 (Or.inl rfl) (by rw [hp]; exact ⟨rfl, g 12, upd V1 6 (nI (nx B m t).2.1), by rw [ub_ub, ub_s]; exact m3_o, fun z => (by cases z), TKM_6 hV1, by rw [upd_n (by decide)]; exact k0, fun _ => upd_s⟩)
