set_option maxRecDepth 20000 in
theorem c_X5_perhaps {G : GT} {g : Mem} {B : Nat → Nat} {m : Nat} (hB : BYM (g 17) B m) {t : Tk} (hV : TKM (g 22) m t) (ht : TOK B m t) {fl : Bool} {k W lo hi M : Nat} (hfl : nmk B k t = fl) (hW : W < 4) (hlo : lo < 2 ^ 31) (hhi : hi < 2 ^ 31) (hM : M < 8) (hM0 : g 12 0 = nI (M + 1)) : Cti G yX5_perhaps cX5_perhaps 5 .boolean 2 47 [.ref (mo G), .int (bi fl), .int (nI W), .int (nI lo), .int (nI hi)] g (fun r g' => PQ g m (p_tr B m k W lo hi M (g 12, t)) r g') := by
  refine ent_z (by decide) (Nat.le_of_ble_eq_true rfl) [some (.ref (mo G)), some (.int (bi fl)), some (.int (nI W)), some (.int (nI lo)), some (.int (nI hi))] rfl ?_
  intro X C hR
  have C : CX X G RX5 cX5_perhaps 5 2 47 := C
  have ht1 := (nx_TOK ht).1
  refine j_il1 0 C dX5_perhaps_0 ?_
  refine j_ifne 1 6 C dX5_perhaps_1 (by decide) (fun c1 => ?_) (fun c1 => ?_)
  · have v1 := bi_n c1
    have hy : nmk B k t = true := hfl.trans v1
    refine j_al0 6 C dX5_perhaps_6 ?_
    refine j_vv 7 C dX5_perhaps_7 mv_X5_nextToken lk_X5_261 (c_X5_nextToken hB hV.1 (e := _) ht.2.1 hV.2.2.2.1) rc_m rfl rfl ⟨(Nat.le_of_ble_eq_true rfl), (Nat.le_of_ble_eq_true rfl)⟩ (Nat.le_of_ble_eq_true rfl) (fun g7 hp7 => ?_)
    obtain ⟨V1, rfl, hV1, k0, k6⟩ := hp7
    have hV1 : TKM V1 m (nx B m t) := hV1
    refine j_al0 10 C dX5_perhaps_10 ?_
    refine j_il3 11 C dX5_perhaps_11 ?_
    refine j_il4 12 C dX5_perhaps_12 ?_
    refine j_vi 14 C dX5_perhaps_14 mv_X5_isNumber lk_X5_264 (c_X5_isNumber (g := ub g 22 V1) (t := nx B m t) (by rw [ub_n (by decide)]; exact hB) (by rw [ub_s]; exact hV1) ht1 (lo := lo) (hi := hi) hlo hhi) rc_m rfl rfl ⟨(Nat.le_of_ble_eq_true rfl), (Nat.le_of_ble_eq_true rfl)⟩ (Nat.le_of_ble_eq_true rfl) (fun r14 g14 hp14 => ?_)
    obtain ⟨rfl, rfl⟩ := hp14
    refine j_ifne 17 22 C dX5_perhaps_17 (by decide) (fun c17 => ?_) (fun c17 => ?_)
    · have hyes : okn (nx B m t) lo hi = true := bi_n c17
      rw [if_pos hyes]
      have hp : p_tr B m k W lo hi M (g 12, t) = (true, (upd (g 12) (51 + (4 * M + W)) (nI (nx B m t).2.2.2), nx B m (nx B m t))) := by unfold p_tr; rw [if_pos hy]; exact if_pos hyes
      refine j_al0 22 C dX5_perhaps_22 ?_
      refine jg_X5_7 23 C dX5_perhaps_23 ?_
      refine j_al0 26 C dX5_perhaps_26 ?_
      refine jg_X5_7 27 C dX5_perhaps_27 ?_
      refine j_iconst 30 C dX5_perhaps_30 ic_0 ?_
      refine j_top (nI (0)) rfl ?_
      refine jl_A0 31 (by omega) C dX5_perhaps_31 ?_
      refine j_top (nI (M + 1)) (by rw [ub_n (by decide)]; exact hM0) ?_
      refine j_iconst 32 C dX5_perhaps_32 ic_1 ?_
      refine j_isub 33 C dX5_perhaps_33 ?_
      rw [nI_pred]
      refine j_il2 34 C dX5_perhaps_34 ?_
      refine j_si 35 C dX5_perhaps_35 ms_X5_at lk_X5_84 (c_X5_at) rfl rfl ⟨(Nat.le_of_ble_eq_true rfl), (Nat.le_of_ble_eq_true rfl)⟩ (Nat.le_of_ble_eq_true rfl) (fun r35 g35 hp35 => ?_)
      obtain ⟨rfl, rfl⟩ := hp35
      refine j_al0 38 C dX5_perhaps_38 ?_
      refine jg_X5_234 39 C dX5_perhaps_39 ?_
      refine j_top (nI (nx B m t).2.2.2) (by rw [ub_s]; exact hV1.2.2.2.2) ?_
      refine js_A0 42 (by omega) C dX5_perhaps_42 ?_
      rw [ub_n (b' := 12) (b := 22) (by decide), ub_comm (show (22 : Nat) ≠ 12 by decide)]
      refine j_al0 43 C dX5_perhaps_43 ?_
      refine j_vv 44 C dX5_perhaps_44 mv_X5_nextToken lk_X5_261 (c_X5_nextToken (by rw [ub_n (by decide), ub_n (by decide)]; exact hB) (by rw [ub_s]; exact hV1.1) ht1.2.1 (by rw [ub_s]; exact hV1.2.2.2.1)) rc_m rfl rfl ⟨(Nat.le_of_ble_eq_true rfl), (Nat.le_of_ble_eq_true rfl)⟩ (Nat.le_of_ble_eq_true rfl) (fun g44 hp44 => ?_)
      obtain ⟨V2, rfl, hV2, k2, k26⟩ := hp44
      rw [ub_s] at k2
      rw [ub_ub]
      refine j_iconst 47 C dX5_perhaps_47 ic_1 ?_
      exact hR dX5_perhaps_48 (Or.inr rfl) (by rw [hp]; exact ⟨rfl, _, V2, rfl, fun _ => rfl, hV2, k2.trans k0, fun z => (by cases z)⟩)
    · have hno : okn (nx B m t) lo hi = false := bi_0 c17
      rw [if_neg (by rw [hno]; decide)]
      have hp : p_tr B m k W lo hi M (g 12, t) = (false, (g 12, nx B m t)) := by unfold p_tr; rw [if_pos hy]; exact if_neg (by rw [hno]; decide)
      refine j_iconst 20 C dX5_perhaps_20 ic_0 ?_
      exact hR dX5_perhaps_21 (Or.inl rfl) (by rw [hp]; exact ⟨rfl, g 12, upd V1 6 (nI (nx B m t).2.1), (by rw [ub_ub, ub_s]; exact m3_o), fun z => (by cases z), TKM_6 hV1, (by rw [upd_n (by decide)]; exact k0), fun _ => upd_s⟩)
  · have v1 := bi_0 c1
    have hp : p_tr B m k W lo hi M (g 12, t) = (true, (g 12, t)) := by unfold p_tr; exact if_neg (by rw [hfl, v1]; decide)
    refine j_iconst 4 C dX5_perhaps_4 ic_1 ?_
    exact hR dX5_perhaps_5 (Or.inr rfl) (by rw [hp]; exact ⟨rfl, g 12, g 22, m3_id.symm, fun _ => rfl, hV, rfl, fun z => (by cases z)⟩)
