theorem bp_48 : (Int8.ofInt (48)).toInt32 = 48 := by decide
theorem bp_57 : (Int8.ofInt (57)).toInt32 = 57 := by decide
theorem bp_59 : (Int8.ofInt (59)).toInt32 = 59 := by decide
theorem bp_97 : (Int8.ofInt (97)).toInt32 = 97 := by decide
theorem bp_122 : (Int8.ofInt (122)).toInt32 = 122 := by decide
theorem sq_255 : (Int16.ofInt (255)).toInt32 = 255 := by decide
theorem sq_1000 : (Int16.ofInt (1000)).toInt32 = 1000 := by decide
set_option maxRecDepth 20000 in
theorem c_J0_coder_7d493 {G : GT} {g : Mem} {i : Nat} (hi12 : i < 12) : Cti G yJ0_coder_7d493 cJ0_coder_7d493 1 .byte 0 0 [.ref (gK G i)] g (fun r g' => r = 0 ∧ g = g') := by
  refine ent_n (by decide) (Nat.le_of_ble_eq_true rfl) [some (.ref (gK G i))] rfl ?_
  intro X C hR
  have C : CX X G RJ0 cJ0_coder_7d493 1 0 0 := C
  refine jgs_J0_38 0 C dJ0_coder_7d493_0 ?_
  refine j_ifeq 3 13 C dJ0_coder_7d493_3 (by decide) (fun c3 => ?_) (fun c3 => ?_)
  · exact absurd c3 (by decide)
  · refine j_al0 6 C dJ0_coder_7d493_6 ?_
    refine jg_J0_15 7 hi12 C dJ0_coder_7d493_7 ?_
    refine j_goto 10 14 C dJ0_coder_7d493_10 (by decide) ?_
    exact hR dJ0_coder_7d493_14 (by decide) ⟨rfl, rfl⟩
set_option maxRecDepth 20000 in
theorem c_J0_isLatin1_aae02 {G : GT} {g : Mem} {i : Nat} (hi12 : i < 12) : Cti G yJ0_isLatin1_aae02 cJ0_isLatin1_aae02 1 .boolean 0 0 [.ref (gK G i)] g (fun r g' => r = 1 ∧ g = g') := by
  refine ent_z (by decide) (Nat.le_of_ble_eq_true rfl) [some (.ref (gK G i))] rfl ?_
  intro X C hR
  have C : CX X G RJ0 cJ0_isLatin1_aae02 1 0 0 := C
  refine jgs_J0_38 0 C dJ0_isLatin1_aae02_0 ?_
  refine j_ifeq 3 17 C dJ0_isLatin1_aae02_3 (by decide) (fun c3 => ?_) (fun c3 => ?_)
  · exact absurd c3 (by decide)
  · refine j_al0 6 C dJ0_isLatin1_aae02_6 ?_
    refine jg_J0_15 7 hi12 C dJ0_isLatin1_aae02_7 ?_
    refine j_ifne 10 17 C dJ0_isLatin1_aae02_10 (by decide) (fun c10 => ?_) (fun c10 => ?_)
    · exact absurd rfl c10
    · refine j_iconst 13 C dJ0_isLatin1_aae02_13 ic_1 ?_
      refine j_goto 14 18 C dJ0_isLatin1_aae02_14 (by decide) ?_
      exact hR dJ0_isLatin1_aae02_18 (Or.inr rfl) ⟨rfl, rfl⟩
theorem shr0 : ∀ n : Nat, n ≤ 7 → nI n >>> ((0 : Int32) &&& 31) = nI n := by
  have h : ∀ n, n < 8 → nI n >>> ((0 : Int32) &&& 31) = nI n := by decide +kernel
  exact fun n hn => h n (by omega)
set_option maxRecDepth 20000 in
theorem c_J0_length_8abf5 {G : GT} {g : Mem} {i : Nat} (hi12 : i < 12) : Cti G yJ0_length_8abf5 cJ0_length_8abf5 1 .int 1 20 [.ref (gK G i)] g (fun r g' => r = nI (sl i) ∧ g = g') := by
  refine ent_i (by decide) (Nat.le_of_ble_eq_true rfl) [some (.ref (gK G i))] rfl ?_
  intro X C hR
  have C : CX X G RJ0 cJ0_length_8abf5 1 1 20 := C
  refine j_al0 0 C dJ0_length_8abf5_0 ?_
  refine jg_J0_9 1 hi12 C dJ0_length_8abf5_1 ?_
  refine j_slen 4 hi12 C dJ0_length_8abf5_4 ?_
  refine j_al0 5 C dJ0_length_8abf5_5 ?_
  refine j_vi 6 C dJ0_length_8abf5_6 mv_J0_coder_7d493 lk_J0_335 (c_J0_coder_7d493 hi12) (rc_k hi12) rfl rfl ⟨(Nat.le_of_ble_eq_true rfl), (Nat.le_of_ble_eq_true rfl)⟩ (Nat.le_of_ble_eq_true rfl) (fun r6 g6 hp6 => ?_)
  obtain ⟨rfl, rfl⟩ := hp6
  refine j_ishr 9 C dJ0_length_8abf5_9 ?_
  refine j_top (nI (sl i)) (by have := (sl_le i hi12).1; revert this; generalize sl i = n; revert n; exact shr0) ?_
  exact hR dJ0_length_8abf5_10 ⟨rfl, rfl⟩
set_option maxRecDepth 20000 in
theorem c_J3_ck_n {G : GT} {g : Mem} {x y a : Nat} (hxy : x < y) (hy : y < 2 ^ 31) : Cti G yJ3_checkIndex_8e157 cJ3_checkIndex_8e157 3 .int 0 0 [.int (nI x), .int (nI y), .null] g (fun r g' => r = nI x ∧ g = g') := by
  refine ent_i (by decide) (Nat.le_of_ble_eq_true rfl) [some (.int (nI x)), some (.int (nI y)), some (.null)] rfl ?_
  intro X C hR
  have C : CX X G RJ3 cJ3_checkIndex_8e157 3 0 0 := C
  refine j_il0 0 C dJ3_checkIndex_8e157_0 ?_
  refine j_iflt 1 9 C dJ3_checkIndex_8e157_1 (by decide) (fun c1 => ?_) (fun c1 => ?_)
  · exact absurd c1 (nI_pos (by omega))
  · refine j_il0 4 C dJ3_checkIndex_8e157_4 ?_
    refine j_il1 5 C dJ3_checkIndex_8e157_5 ?_
    refine j_iclt 6 16 C dJ3_checkIndex_8e157_6 (by decide) (fun c6 => ?_) (fun c6 => ?_)
    · refine j_il0 16 C dJ3_checkIndex_8e157_16 ?_
      exact hR dJ3_checkIndex_8e157_17 ⟨rfl, rfl⟩
    · exact absurd (nI_lt hxy (by omega)) c6
set_option maxRecDepth 20000 in
theorem c_J3_ck_r {G : GT} {g : Mem} {x y a : Nat} (hxy : x < y) (hy : y < 2 ^ 31) : Cti G yJ3_checkIndex_8e157 cJ3_checkIndex_8e157 3 .int 0 0 [.int (nI x), .int (nI y), .ref a] g (fun r g' => r = nI x ∧ g = g') := by
  refine ent_i (by decide) (Nat.le_of_ble_eq_true rfl) [some (.int (nI x)), some (.int (nI y)), some (.ref a)] rfl ?_
  intro X C hR
  have C : CX X G RJ3 cJ3_checkIndex_8e157 3 0 0 := C
  refine j_il0 0 C dJ3_checkIndex_8e157_0 ?_
  refine j_iflt 1 9 C dJ3_checkIndex_8e157_1 (by decide) (fun c1 => ?_) (fun c1 => ?_)
  · exact absurd c1 (nI_pos (by omega))
  · refine j_il0 4 C dJ3_checkIndex_8e157_4 ?_
    refine j_il1 5 C dJ3_checkIndex_8e157_5 ?_
    refine j_iclt 6 16 C dJ3_checkIndex_8e157_6 (by decide) (fun c6 => ?_) (fun c6 => ?_)
    · refine j_il0 16 C dJ3_checkIndex_8e157_16 ?_
      exact hR dJ3_checkIndex_8e157_17 ⟨rfl, rfl⟩
    · exact absurd (nI_lt hxy (by omega)) c6
set_option maxRecDepth 20000 in
theorem c_J0_checkIndex_df160 {G : GT} {g : Mem} {x y : Nat} (hxy : x < y) (hy : y < 2 ^ 31) : Ctv G yJ0_checkIndex_df160 cJ0_checkIndex_df160 2 1 22 [.int (nI x), .int (nI y)] g (fun g' => g = g') := by
  refine ent_v (by decide) (Nat.le_of_ble_eq_true rfl) [some (.int (nI x)), some (.int (nI y))] rfl ?_
  intro X C hR
  have C : CX X G RJ0 cJ0_checkIndex_df160 2 1 22 := C
  refine j_il0 0 C dJ0_checkIndex_df160_0 ?_
  refine j_il1 1 C dJ0_checkIndex_df160_1 ?_
  refine jgs_J0_1053 2 C dJ0_checkIndex_df160_2 ?_
  rcases gv_or C with h | ⟨a, h⟩
  · rw [h]
    refine j_si 5 C dJ0_checkIndex_df160_5 ms_J3_checkIndex_8e157 lk_J0_1059 (c_J3_ck_n (a := 0) hxy hy) rfl rfl ⟨(Nat.le_of_ble_eq_true rfl), (Nat.le_of_ble_eq_true rfl)⟩ (Nat.le_of_ble_eq_true rfl) (fun r5 g5 hp5 => ?_)
    obtain ⟨rfl, rfl⟩ := hp5
    refine j_pop 8 C dJ0_checkIndex_df160_8 rfl ?_
    exact hR dJ0_checkIndex_df160_9 rfl
  · rw [h]
    refine j_si 5 C dJ0_checkIndex_df160_5 ms_J3_checkIndex_8e157 lk_J0_1059 (c_J3_ck_r (a := a) hxy hy) rfl rfl ⟨(Nat.le_of_ble_eq_true rfl), (Nat.le_of_ble_eq_true rfl)⟩ (Nat.le_of_ble_eq_true rfl) (fun r5 g5 hp5 => ?_)
    obtain ⟨rfl, rfl⟩ := hp5
    refine j_pop 8 C dJ0_checkIndex_df160_8 rfl ?_
    exact hR dJ0_checkIndex_df160_9 rfl
set_option maxRecDepth 20000 in
theorem c_J1_charAt_3b067 {G : GT} {g : Mem} {i : Nat} (hi12 : i < 12) {j : Nat} (hj : j < sl i) : Cti G yJ1_charAt_3b067 cJ1_charAt_3b067 2 .char 2 43 [.ref (gV G i), .int (nI j)] g (fun r g' => r = chr i j ∧ g = g') := by
  refine ent_n (by decide) (Nat.le_of_ble_eq_true rfl) [some (.ref (gV G i)), some (.int (nI j))] rfl ?_
  intro X C hR
  have C : CX X G RJ1 cJ1_charAt_3b067 2 2 43 := C
  refine j_il1 0 C dJ1_charAt_3b067_0 ?_
  refine j_al0 1 C dJ1_charAt_3b067_1 ?_
  refine j_slen 2 hi12 C dJ1_charAt_3b067_2 ?_
  refine j_sv 3 C dJ1_charAt_3b067_3 ms_J0_checkIndex_df160 lk_J1_9 (c_J0_checkIndex_df160 hj (by have := (sl_le i hi12).1; omega)) rfl rfl ⟨(Nat.le_of_ble_eq_true rfl), (Nat.le_of_ble_eq_true rfl)⟩ (Nat.le_of_ble_eq_true rfl) (fun g3 hp3 => ?_)
  obtain rfl := hp3
  refine j_al0 6 C dJ1_charAt_3b067_6 ?_
  refine j_il1 7 C dJ1_charAt_3b067_7 ?_
  refine jl_sb 8 hi12 hj C dJ1_charAt_3b067_8 ?_
  refine j_sipush 9 C dJ1_charAt_3b067_9 sq_255 ?_
  refine j_iand 12 C dJ1_charAt_3b067_12 ?_
  refine j_i2c 13 C dJ1_charAt_3b067_13 ?_
  refine j_top (chr i j) (chr_i2c i hi12 j hj).1 ?_
  exact hR dJ1_charAt_3b067_14 (chr_i2c i hi12 j hj).2 ⟨rfl, rfl⟩
set_option maxRecDepth 20000 in
theorem c_J0_charAt_5068e {G : GT} {g : Mem} {i : Nat} (hi12 : i < 12) {j : Nat} (hj : j < sl i) : Cti G yJ0_charAt_5068e cJ0_charAt_5068e 2 .char 4 85 [.ref (gK G i), .int (nI j)] g (fun r g' => r = chr i j ∧ g = g') := by
  refine ent_n (by decide) (Nat.le_of_ble_eq_true rfl) [some (.ref (gK G i)), some (.int (nI j))] rfl ?_
  intro X C hR
  have C : CX X G RJ0 cJ0_charAt_5068e 2 4 85 := C
  refine j_al0 0 C dJ0_charAt_5068e_0 ?_
  refine j_vi 1 C dJ0_charAt_5068e_1 mv_J0_isLatin1_aae02 lk_J0_492 (c_J0_isLatin1_aae02 hi12) (rc_k hi12) rfl rfl ⟨(Nat.le_of_ble_eq_true rfl), (Nat.le_of_ble_eq_true rfl)⟩ (Nat.le_of_ble_eq_true rfl) (fun r1 g1 hp1 => ?_)
  obtain ⟨rfl, rfl⟩ := hp1
  refine j_ifeq 4 16 C dJ0_charAt_5068e_4 (by decide) (fun c4 => ?_) (fun c4 => ?_)
  · exact absurd c4 (by decide)
  · refine j_al0 7 C dJ0_charAt_5068e_7 ?_
    refine jg_J0_9 8 hi12 C dJ0_charAt_5068e_8 ?_
    refine j_il1 11 C dJ0_charAt_5068e_11 ?_
    refine j_si 12 C dJ0_charAt_5068e_12 ms_J1_charAt_3b067 lk_J0_495 (c_J1_charAt_3b067 hi12 hj) rfl rfl ⟨(Nat.le_of_ble_eq_true rfl), (Nat.le_of_ble_eq_true rfl)⟩ (Nat.le_of_ble_eq_true rfl) (fun r12 g12 hp12 => ?_)
    obtain ⟨rfl, rfl⟩ := hp12
    exact hR dJ0_charAt_5068e_15 (chr_i2c i hi12 j hj).2 ⟨rfl, rfl⟩
set_option maxRecDepth 20000 in
theorem c_X3_kindName {G : GT} {g : Mem} {K : Nat} (hK : K < 7) : Ctr G yX3_kindName cX3_kindName 1 (.object "java/lang/String") 0 0 [.int (nI K)] g (fun a g' => a = gK G (5 + K) ∧ g = g') := by
  refine ent_r (by decide) (Nat.le_of_ble_eq_true rfl) [some (.int (nI K))] rfl ?_
  intro X C hR
  have C : CX X G RX3 cX3_kindName 1 0 0 := C
  match K, hK with
  | 0, _ =>
    refine j_il0 0 C dX3_kindName_0 ?_
    refine j_tsOut 1 58 C dX3_kindName_1 (by decide) (by decide) ?_
    refine j_ldcS 58 5 (by decide) rfl C dX3_kindName_58 ?_
    exact hR dX3_kindName_60 ⟨rfl, rfl⟩
  | 1, _ =>
    refine j_il0 0 C dX3_kindName_0 ?_
    refine j_tsIn 1 40 (off := 39) C dX3_kindName_1 (by decide) (by decide) (by decide) (by decide) ?_
    refine j_ldcS 40 6 (by decide) rfl C dX3_kindName_40 ?_
    exact hR dX3_kindName_42 ⟨rfl, rfl⟩
  | 2, _ =>
    refine j_il0 0 C dX3_kindName_0 ?_
    refine j_tsIn 1 43 (off := 42) C dX3_kindName_1 (by decide) (by decide) (by decide) (by decide) ?_
    refine j_ldcS 43 7 (by decide) rfl C dX3_kindName_43 ?_
    exact hR dX3_kindName_45 ⟨rfl, rfl⟩
  | 3, _ =>
    refine j_il0 0 C dX3_kindName_0 ?_
    refine j_tsIn 1 46 (off := 45) C dX3_kindName_1 (by decide) (by decide) (by decide) (by decide) ?_
    refine j_ldcS 46 8 (by decide) rfl C dX3_kindName_46 ?_
    exact hR dX3_kindName_48 ⟨rfl, rfl⟩
  | 4, _ =>
    refine j_il0 0 C dX3_kindName_0 ?_
    refine j_tsIn 1 49 (off := 48) C dX3_kindName_1 (by decide) (by decide) (by decide) (by decide) ?_
    refine j_ldcS 49 9 (by decide) rfl C dX3_kindName_49 ?_
    exact hR dX3_kindName_51 ⟨rfl, rfl⟩
  | 5, _ =>
    refine j_il0 0 C dX3_kindName_0 ?_
    refine j_tsIn 1 52 (off := 51) C dX3_kindName_1 (by decide) (by decide) (by decide) (by decide) ?_
    refine j_ldcS 52 10 (by decide) rfl C dX3_kindName_52 ?_
    exact hR dX3_kindName_54 ⟨rfl, rfl⟩
  | 6, _ =>
    refine j_il0 0 C dX3_kindName_0 ?_
    refine j_tsIn 1 55 (off := 54) C dX3_kindName_1 (by decide) (by decide) (by decide) (by decide) ?_
    refine j_ldcS 55 11 (by decide) rfl C dX3_kindName_55 ?_
    exact hR dX3_kindName_57 ⟨rfl, rfl⟩
theorem dg_val {v c : Nat} (h : 48 ≤ c) : nI v * 10 + nI c - 48 = nI (10 * v + (c - 48)) := by
  have e : nI v * nI 10 + nI c - nI 48 = nI (10 * v + (c - 48)) := by
    rw [pk_mul, nI_add, pk_sub (by omega)]
    congr 1
    omega
  exact e
theorem n42 {a : Nat} (ha : a ≠ 2) {P : Prop} (h : a = 2) : P := absurd h ha
set_option maxHeartbeats 1000000 in
set_option maxRecDepth 20000 in
theorem c_X3_step {G : GT} {g : Mem} {B : Nat → Nat} {m : Nat} (hB : BYT (g 5) B m) {e : Nat} (he : e ≤ m) (h0 : g 4 0 = nI m) (h3 : g 4 3 = nI e) : Ctv G yX3_step cX3_step 1 0 0 [.ref (tp G)] g (fun g' => ∃ U : Row, g' = ub g 4 U ∧ TKS U m (stp B m e)) := by
  refine ent_v (by decide) (Nat.le_of_ble_eq_true rfl) [some (.ref (tp G))] rfl ?_
  intro X C hR
  have C : CX X G RX3 cX3_step 1 0 0 := C
  obtain ⟨hm120, hBB⟩ := id hB
  have hbm := tkB_le (B := B) he
  obtain ⟨b, hb⟩ : ∃ b, b = tkB B m e := ⟨_, rfl⟩
  have hbm : e ≤ b ∧ b ≤ m := by rw [hb]; exact hbm
  have t3 : ∀ (q : Nat) (U : Row), q = tkD B m b → b = tkL B m b → U 0 = nI m → U 2 = nI b → U 3 = nI q → U 4 = nI (vfo B b (q - b)) → J X G 1 (ub g 4 U) 214 [some (.ref (tp G))] [] := by
    intro q U hq hl h0 h2 h3 h4
    have hqm := tkD_le (B := B) hbm.2
    rw [← hq] at hqm
    have hnl : ¬ b < tkL B m b := by omega
    refine j_al0 214 C dX3_step_214 ?_
    refine jg_X3_25 215 C dX3_step_215 ?_
    refine j_top (nI (q)) (by rw [ub_s]; exact h3) ?_
    refine j_al0 218 C dX3_step_218 ?_
    refine jg_X3_22 219 C dX3_step_219 ?_
    refine j_top (nI (b)) (by rw [ub_s]; exact h2) ?_
    refine j_icle 222 233 C dX3_step_222 (by decide) (fun c222 => ?_) (fun c222 => ?_)
    · have hqb : q = b := by rcases Nat.lt_or_ge b q with z | z; exact absurd c222 (nI_ge (a := b) (b := q) z (by omega)); omega
      have hnd : ¬ b < tkD B m b := by omega
      refine j_al0 233 C dX3_step_233 ?_
      refine jg_X3_22 234 C dX3_step_234 ?_
      refine j_top (nI (b)) (by rw [ub_s]; exact h2) ?_
      refine j_al0 237 C dX3_step_237 ?_
      refine jg_X3_15 238 C dX3_step_238 ?_
      refine j_top (nI (m)) (by rw [ub_s]; exact h0) ?_
      refine j_icne 241 252 C dX3_step_241 (by decide) (fun c241 => ?_) (fun c241 => ?_)
      · have hbm2 : b ≠ m := fun z => c241 (by rw [z])
        refine j_al0 252 C dX3_step_252 ?_
        refine j_al0 253 C dX3_step_253 ?_
        refine jg_X3_9 254 C dX3_step_254 ?_
        refine j_al0 257 C dX3_step_257 ?_
        refine jg_X3_22 258 C dX3_step_258 ?_
        refine j_top (nI (b)) (by rw [ub_s]; exact h2) ?_
        refine jl_tb 261 (by omega) C dX3_step_261 ?_
        rw [ub_n (b' := 5) (b := 4) (by decide), (hB.2 b (by omega)).2]
        refine j_bipush 262 C dX3_step_262 bp_59 ?_
        refine j_icne 264 271 C dX3_step_264 (by decide) (fun c264 => ?_) (fun c264 => ?_)
        · have hs : stp B m e = (4, b, b + 1, 0) := by unfold stp; rw [← hb, if_neg hnl, if_neg hnd, if_neg hbm2, if_neg (fun z => c264 (by rw [z]; rfl))]
          refine j_iconst 271 C dX3_step_271 ic_4 ?_
          refine jp_X3_19 272 C dX3_step_272 ?_
          rw [ub_ub, ub_s]
          refine j_al0 275 C dX3_step_275 ?_
          refine j_dup 276 C dX3_step_276 rfl ?_
          refine jg_X3_25 277 C dX3_step_277 ?_
          refine j_top (nI b) (by rw [ub_s, upd_n (by decide), h3, hqb]) ?_
          refine j_iconst 280 C dX3_step_280 ic_1 ?_
          refine j_iadd 281 C dX3_step_281 ?_
          refine j_top (nI (b + 1)) (nI_succ b).symm ?_
          refine jp_X3_25 282 C dX3_step_282 ?_
          rw [ub_ub, ub_s]
          exact hR dX3_step_285 ⟨_, rfl, by rw [hs]; exact ⟨(by rw [upd_n (by decide), upd_n (by decide)]; exact h0), (by rw [upd_n (by decide), upd_s]; rfl), (by rw [upd_n (by decide), upd_n (by decide)]; exact h2), upd_s, (fun z => absurd (show (4 : Nat) = 2 from z) (by decide))⟩⟩
        · have hs : stp B m e = (3, b, b + 1, 0) := by unfold stp; rw [← hb, if_neg hnl, if_neg hnd, if_neg hbm2, if_pos ((sg_eq _ (hBB b (by omega)).1 59 (by decide)).mp c264)]
          refine j_iconst 267 C dX3_step_267 ic_3 ?_
          refine j_goto 268 272 C dX3_step_268 (by decide) ?_
          refine jp_X3_19 272 C dX3_step_272 ?_
          rw [ub_ub, ub_s]
          refine j_al0 275 C dX3_step_275 ?_
          refine j_dup 276 C dX3_step_276 rfl ?_
          refine jg_X3_25 277 C dX3_step_277 ?_
          refine j_top (nI b) (by rw [ub_s, upd_n (by decide), h3, hqb]) ?_
          refine j_iconst 280 C dX3_step_280 ic_1 ?_
          refine j_iadd 281 C dX3_step_281 ?_
          refine j_top (nI (b + 1)) (nI_succ b).symm ?_
          refine jp_X3_25 282 C dX3_step_282 ?_
          rw [ub_ub, ub_s]
          exact hR dX3_step_285 ⟨_, rfl, by rw [hs]; exact ⟨(by rw [upd_n (by decide), upd_n (by decide)]; exact h0), (by rw [upd_n (by decide), upd_s]; rfl), (by rw [upd_n (by decide), upd_n (by decide)]; exact h2), upd_s, (fun z => absurd (show (3 : Nat) = 2 from z) (by decide))⟩⟩
      · have hbm2 : b = m := (nI_eq (by omega) (by omega)).mp c241
        have hs : stp B m e = (0, b, b, 0) := by unfold stp; rw [← hb, if_neg hnl, if_neg hnd, if_pos hbm2]
        refine j_al0 244 C dX3_step_244 ?_
        refine j_iconst 245 C dX3_step_245 ic_0 ?_
        refine jp_X3_19 246 C dX3_step_246 ?_
        rw [ub_ub, ub_s]
        refine j_goto 249 285 C dX3_step_249 (by decide) ?_
        exact hR dX3_step_285 ⟨_, rfl, by rw [hs]; exact ⟨(by rw [upd_n (by decide)]; exact h0), upd_s, (by rw [upd_n (by decide)]; exact h2), (by rw [upd_n (by decide), h3, hqb]), (fun z => absurd (show (0 : Nat) = 2 from z) (by decide))⟩⟩
    · have hqb : b < q := Nat.not_le.mp (fun z => c222 (nI_le z (by omega)))
      have hs : stp B m e = (2, b, q, vfo B b (q - b)) := by unfold stp; rw [← hb, if_neg hnl, ← hq, if_pos hqb]
      refine j_al0 225 C dX3_step_225 ?_
      refine j_iconst 226 C dX3_step_226 ic_2 ?_
      refine jp_X3_19 227 C dX3_step_227 ?_
      rw [ub_ub, ub_s]
      refine j_goto 230 285 C dX3_step_230 (by decide) ?_
      exact hR dX3_step_285 ⟨_, rfl, by rw [hs]; exact ⟨(by rw [upd_n (by decide)]; exact h0), upd_s, (by rw [upd_n (by decide)]; exact h2), (by rw [upd_n (by decide)]; exact h3), (fun _ => (by rw [upd_n (by decide)]; exact h4))⟩⟩
  have l3 : ∀ n q, q + n = m → ∀ U : Row, b ≤ q → (∀ i, b ≤ i → i < q → isDg (B i) = true) → tkD B m b = cnt (fun i => isDg (B i)) q (m - q) → b = tkL B m b → U 0 = nI m → U 2 = nI b → U 3 = nI q → U 4 = nI (vfo B b (q - b)) → J X G 1 (ub g 4 U) 128 [some (.ref (tp G))] [] := by
    intro n
    induction n with
    | zero =>
      intro q hq U hbq hdd hc hl h0 h2 h3 h4
      refine j_al0 128 C dX3_step_128 ?_
      refine jg_X3_25 129 C dX3_step_129 ?_
      refine j_top (nI (q)) (by rw [ub_s]; exact h3) ?_
      refine j_al0 132 C dX3_step_132 ?_
      refine jg_X3_15 133 C dX3_step_133 ?_
      refine j_top (nI (m)) (by rw [ub_s]; exact h0) ?_
      refine j_icge 136 214 C dX3_step_136 (by decide) (fun c136 => ?_) (fun c136 => ?_)
      · exact t3 q U (cnt_e2 hc (by omega)).symm hl h0 h2 h3 h4
      · exact absurd (show nI m ≤ nI q by rw [show q = m by omega]; exact nI_le (Nat.le_refl _) (by omega)) c136
    | succ n ih =>
      intro q hq U hbq hdd hc hl h0 h2 h3 h4
      have hBq := hBB q (by omega)
      refine j_al0 128 C dX3_step_128 ?_
      refine jg_X3_25 129 C dX3_step_129 ?_
      refine j_top (nI (q)) (by rw [ub_s]; exact h3) ?_
      refine j_al0 132 C dX3_step_132 ?_
      refine jg_X3_15 133 C dX3_step_133 ?_
      refine j_top (nI (m)) (by rw [ub_s]; exact h0) ?_
      refine j_icge 136 214 C dX3_step_136 (by decide) (fun c136 => ?_) (fun c136 => ?_)
      · exact absurd c136 (nI_ge (a := q) (b := m) (by omega) (by omega))
      · refine j_al0 139 C dX3_step_139 ?_
        refine jg_X3_9 140 C dX3_step_140 ?_
        refine j_al0 143 C dX3_step_143 ?_
        refine jg_X3_25 144 C dX3_step_144 ?_
        refine j_top (nI (q)) (by rw [ub_s]; exact h3) ?_
        refine jl_tb 147 (by omega) C dX3_step_147 ?_
        rw [ub_n (b' := 5) (b := 4) (by decide), (hB.2 q (by omega)).2]
        refine j_bipush 148 C dX3_step_148 bp_48 ?_
        refine j_iclt 150 214 C dX3_step_150 (by decide) (fun c150 => ?_) (fun c150 => ?_)
        · exact t3 q U (cnt_s2 hc (by omega) (fun z => ((sg_dg _ hBq.1).mpr z).1 c150)).symm hl h0 h2 h3 h4
        · refine j_al0 153 C dX3_step_153 ?_
          refine jg_X3_9 154 C dX3_step_154 ?_
          refine j_al0 157 C dX3_step_157 ?_
          refine jg_X3_25 158 C dX3_step_158 ?_
          refine j_top (nI (q)) (by rw [ub_s]; exact h3) ?_
          refine jl_tb 161 (by omega) C dX3_step_161 ?_
          rw [ub_n (b' := 5) (b := 4) (by decide), (hB.2 q (by omega)).2]
          refine j_bipush 162 C dX3_step_162 bp_57 ?_
          refine j_icgt 164 214 C dX3_step_164 (by decide) (fun c164 => ?_) (fun c164 => ?_)
          · exact t3 q U (cnt_s2 hc (by omega) (fun z => ((sg_dg _ hBq.1).mpr z).2 c164)).symm hl h0 h2 h3 h4
          · have hd : isDg (B q) = true := (sg_dg _ hBq.1).mp ⟨c150, c164⟩
            have hdr := of_decide_eq_true hd
            have hc2 := cnt_n2 (a := 0) hc (by omega) hd
            have hdd2 : ∀ i, b ≤ i → i < q + 1 → isDg (B i) = true := fun i h1 h2 => by
              by_cases z : i = q
              · subst z; exact hd
              · exact hdd i h1 (by omega)
            have hv := vfo_lt (B := B) (b := b) (n := q - b) (fun i hi => (of_decide_eq_true (hdd (b + i) (by omega) (by omega))).2)
            have hbi : b + (q - b) = q := by omega
            refine j_al0 167 C dX3_step_167 ?_
            refine jg_X3_28 168 C dX3_step_168 ?_
            refine j_top (nI (vfo B b (q - b))) (by rw [ub_s]; exact h4) ?_
            refine j_sipush 171 C dX3_step_171 sq_1000 ?_
            refine j_icge 174 201 C dX3_step_174 (by decide) (fun c174 => ?_) (fun c174 => ?_)
            · have e9 : vfo B b (q + 1 - b) = vfo B b (q - b) := by rw [show q + 1 - b = (q - b) + 1 by omega]; exact if_neg (fun z => nI_ge (a := vfo B b (q - b)) (b := 1000) z (by decide) c174)
              refine j_al0 201 C dX3_step_201 ?_
              refine j_dup 202 C dX3_step_202 rfl ?_
              refine jg_X3_25 203 C dX3_step_203 ?_
              refine j_top (nI q) (by first | (rw [ub_s]; exact h3) | (rw [ub_s, upd_n (by decide)]; exact h3)) ?_
              refine j_iconst 206 C dX3_step_206 ic_1 ?_
              refine j_iadd 207 C dX3_step_207 ?_
              refine j_top (nI (q + 1)) (nI_succ q).symm ?_
              refine jp_X3_25 208 C dX3_step_208 ?_
              rw [ub_ub, ub_s]
              refine j_goto 211 128 C dX3_step_211 (by decide) ?_
              exact ih (q + 1) (by omega) _ (by omega) hdd2 hc2 hl (by rw [upd_n (by decide)]; exact h0) (by rw [upd_n (by decide)]; exact h2) upd_s (by rw [upd_n (by decide), e9]; exact h4)
            · have e9 : vfo B b (q + 1 - b) = 10 * vfo B b (q - b) + (B q - 48) := by rw [show q + 1 - b = (q - b) + 1 by omega]; show (if _ then _ else _) = _; rw [if_pos (Nat.not_le.mp (fun z => c174 (nI_le z (by omega)))), hbi]
              refine j_al0 177 C dX3_step_177 ?_
              refine j_al0 178 C dX3_step_178 ?_
              refine jg_X3_28 179 C dX3_step_179 ?_
              refine j_top (nI (vfo B b (q - b))) (by rw [ub_s]; exact h4) ?_
              refine j_bipush 182 C dX3_step_182 bp_10 ?_
              refine j_imul 184 C dX3_step_184 ?_
              refine j_al0 185 C dX3_step_185 ?_
              refine jg_X3_9 186 C dX3_step_186 ?_
              refine j_al0 189 C dX3_step_189 ?_
              refine jg_X3_25 190 C dX3_step_190 ?_
              refine j_top (nI (q)) (by rw [ub_s]; exact h3) ?_
              refine jl_tb 193 (by omega) C dX3_step_193 ?_
              rw [ub_n (b' := 5) (b := 4) (by decide), (hB.2 q (by omega)).2]
              refine j_iadd 194 C dX3_step_194 ?_
              refine j_bipush 195 C dX3_step_195 bp_48 ?_
              refine j_isub 197 C dX3_step_197 ?_
              refine j_top (nI (vfo B b (q + 1 - b))) (by rw [e9, sg_va _ hBq.1 hd]; exact dg_val hdr.1) ?_
              refine jp_X3_28 198 C dX3_step_198 ?_
              rw [ub_ub, ub_s]
              refine j_al0 201 C dX3_step_201 ?_
              refine j_dup 202 C dX3_step_202 rfl ?_
              refine jg_X3_25 203 C dX3_step_203 ?_
              refine j_top (nI q) (by first | (rw [ub_s]; exact h3) | (rw [ub_s, upd_n (by decide)]; exact h3)) ?_
              refine j_iconst 206 C dX3_step_206 ic_1 ?_
              refine j_iadd 207 C dX3_step_207 ?_
              refine j_top (nI (q + 1)) (nI_succ q).symm ?_
              refine jp_X3_25 208 C dX3_step_208 ?_
              rw [ub_ub, ub_s]
              refine j_goto 211 128 C dX3_step_211 (by decide) ?_
              exact ih (q + 1) (by omega) _ (by omega) hdd2 hc2 hl (by rw [upd_n (by decide), upd_n (by decide)]; exact h0) (by rw [upd_n (by decide), upd_n (by decide)]; exact h2) upd_s (by rw [upd_n (by decide), upd_s])
  have t2 : ∀ (q : Nat) (U : Row), q = tkL B m b → U 0 = nI m → U 2 = nI b → U 3 = nI q → J X G 1 (ub g 4 U) 106 [some (.ref (tp G))] [] := by
    intro q U hq h0 h2 h3
    have hqm := tkL_le (B := B) hbm.2
    rw [← hq] at hqm
    refine j_al0 106 C dX3_step_106 ?_
    refine jg_X3_25 107 C dX3_step_107 ?_
    refine j_top (nI (q)) (by rw [ub_s]; exact h3) ?_
    refine j_al0 110 C dX3_step_110 ?_
    refine jg_X3_22 111 C dX3_step_111 ?_
    refine j_top (nI (b)) (by rw [ub_s]; exact h2) ?_
    refine j_icle 114 123 C dX3_step_114 (by decide) (fun c114 => ?_) (fun c114 => ?_)
    · have hqb : q = b := by rcases Nat.lt_or_ge b q with z | z; exact absurd c114 (nI_ge (a := b) (b := q) z (by omega)); omega
      subst hqb
      refine j_al0 123 C dX3_step_123 ?_
      refine j_iconst 124 C dX3_step_124 ic_0 ?_
      refine jp_X3_28 125 C dX3_step_125 ?_
      rw [ub_ub, ub_s]
      exact l3 (m - q) q (by omega) _ (Nat.le_refl _) (fun i h1 h2 => absurd h2 (by omega)) rfl hq (by rw [upd_n (by decide)]; exact h0) (by rw [upd_n (by decide)]; exact h2) (by rw [upd_n (by decide)]; exact h3) (by rw [upd_s, Nat.sub_self]; rfl)
    · have hqb : b < q := Nat.not_le.mp (fun z => c114 (nI_le z (by omega)))
      have hs : stp B m e = (1, b, q, 0) := by unfold stp; rw [← hb, ← hq, if_pos hqb]
      refine j_al0 117 C dX3_step_117 ?_
      refine j_iconst 118 C dX3_step_118 ic_1 ?_
      refine jp_X3_19 119 C dX3_step_119 ?_
      rw [ub_ub, ub_s]
      exact hR dX3_step_122 ⟨_, rfl, by rw [hs]; exact ⟨(by rw [upd_n (by decide)]; exact h0), upd_s, (by rw [upd_n (by decide)]; exact h2), (by rw [upd_n (by decide)]; exact h3), (fun z => absurd (show (1 : Nat) = 2 from z) (by decide))⟩⟩
  have l2 : ∀ n q, q + n = m → ∀ U : Row, tkL B m b = cnt (fun i => isLt (B i)) q (m - q) → U 0 = nI m → U 2 = nI b → U 3 = nI q → J X G 1 (ub g 4 U) 54 [some (.ref (tp G))] [] := by
    intro n
    induction n with
    | zero =>
      intro q hq U hc h0 h2 h3
      refine j_al0 54 C dX3_step_54 ?_
      refine jg_X3_25 55 C dX3_step_55 ?_
      refine j_top (nI (q)) (by rw [ub_s]; exact h3) ?_
      refine j_al0 58 C dX3_step_58 ?_
      refine jg_X3_15 59 C dX3_step_59 ?_
      refine j_top (nI (m)) (by rw [ub_s]; exact h0) ?_
      refine j_icge 62 106 C dX3_step_62 (by decide) (fun c62 => ?_) (fun c62 => ?_)
      · exact t2 q U (cnt_e2 hc (by omega)).symm h0 h2 h3
      · exact absurd (show nI m ≤ nI q by rw [show q = m by omega]; exact nI_le (Nat.le_refl _) (by omega)) c62
    | succ n ih =>
      intro q hq U hc h0 h2 h3
      have hBq := hBB q (by omega)
      refine j_al0 54 C dX3_step_54 ?_
      refine jg_X3_25 55 C dX3_step_55 ?_
      refine j_top (nI (q)) (by rw [ub_s]; exact h3) ?_
      refine j_al0 58 C dX3_step_58 ?_
      refine jg_X3_15 59 C dX3_step_59 ?_
      refine j_top (nI (m)) (by rw [ub_s]; exact h0) ?_
      refine j_icge 62 106 C dX3_step_62 (by decide) (fun c62 => ?_) (fun c62 => ?_)
      · exact absurd c62 (nI_ge (a := q) (b := m) (by omega) (by omega))
      · refine j_al0 65 C dX3_step_65 ?_
        refine jg_X3_9 66 C dX3_step_66 ?_
        refine j_al0 69 C dX3_step_69 ?_
        refine jg_X3_25 70 C dX3_step_70 ?_
        refine j_top (nI (q)) (by rw [ub_s]; exact h3) ?_
        refine jl_tb 73 (by omega) C dX3_step_73 ?_
        rw [ub_n (b' := 5) (b := 4) (by decide), (hB.2 q (by omega)).2]
        refine j_bipush 74 C dX3_step_74 bp_97 ?_
        refine j_iclt 76 106 C dX3_step_76 (by decide) (fun c76 => ?_) (fun c76 => ?_)
        · exact t2 q U (cnt_s2 hc (by omega) (fun z => ((sg_lt _ hBq.1).mpr z).1 c76)).symm h0 h2 h3
        · refine j_al0 79 C dX3_step_79 ?_
          refine jg_X3_9 80 C dX3_step_80 ?_
          refine j_al0 83 C dX3_step_83 ?_
          refine jg_X3_25 84 C dX3_step_84 ?_
          refine j_top (nI (q)) (by rw [ub_s]; exact h3) ?_
          refine jl_tb 87 (by omega) C dX3_step_87 ?_
          rw [ub_n (b' := 5) (b := 4) (by decide), (hB.2 q (by omega)).2]
          refine j_bipush 88 C dX3_step_88 bp_122 ?_
          refine j_icgt 90 106 C dX3_step_90 (by decide) (fun c90 => ?_) (fun c90 => ?_)
          · exact t2 q U (cnt_s2 hc (by omega) (fun z => ((sg_lt _ hBq.1).mpr z).2 c90)).symm h0 h2 h3
          · have hc2 := cnt_n2 (a := 0) hc (by omega) ((sg_lt _ hBq.1).mp ⟨c76, c90⟩)
            refine j_al0 93 C dX3_step_93 ?_
            refine j_dup 94 C dX3_step_94 rfl ?_
            refine jg_X3_25 95 C dX3_step_95 ?_
            refine j_top (nI (q)) (by rw [ub_s]; exact h3) ?_
            refine j_iconst 98 C dX3_step_98 ic_1 ?_
            refine j_iadd 99 C dX3_step_99 ?_
            refine j_top (nI (q + 1)) (nI_succ q).symm ?_
            refine jp_X3_25 100 C dX3_step_100 ?_
            rw [ub_ub, ub_s]
            refine j_goto 103 54 C dX3_step_103 (by decide) ?_
            exact ih (q + 1) (by omega) _ hc2 (by rw [upd_n (by decide)]; exact h0) (by rw [upd_n (by decide)]; exact h2) upd_s
  have t1 : ∀ U : Row, U 0 = nI m → U 2 = nI b → J X G 1 (ub g 4 U) 46 [some (.ref (tp G))] [] := by
    intro U h0 h2
    refine j_al0 46 C dX3_step_46 ?_
    refine j_al0 47 C dX3_step_47 ?_
    refine jg_X3_22 48 C dX3_step_48 ?_
    refine j_top (nI (b)) (by rw [ub_s]; exact h2) ?_
    refine jp_X3_25 51 C dX3_step_51 ?_
    rw [ub_ub, ub_s]
    exact l2 (m - b) b (by omega) _ rfl (by rw [upd_n (by decide)]; exact h0) (by rw [upd_n (by decide)]; exact h2) upd_s
  have l1 : ∀ n q, q + n = m → ∀ U : Row, b = cnt (fun i => decide (B i = 32)) q (m - q) → U 0 = nI m → U 2 = nI q → J X G 1 (ub g 4 U) 8 [some (.ref (tp G))] [] := by
    intro n
    induction n with
    | zero =>
      intro q hq U hc h0 h2
      refine j_al0 8 C dX3_step_8 ?_
      refine jg_X3_22 9 C dX3_step_9 ?_
      refine j_top (nI (q)) (by rw [ub_s]; exact h2) ?_
      refine j_al0 12 C dX3_step_12 ?_
      refine jg_X3_15 13 C dX3_step_13 ?_
      refine j_top (nI (m)) (by rw [ub_s]; exact h0) ?_
      refine j_icge 16 46 C dX3_step_16 (by decide) (fun c16 => ?_) (fun c16 => ?_)
      · exact t1 U h0 (by rw [h2, cnt_e2 hc (by omega)])
      · exact absurd (show nI m ≤ nI q by rw [show q = m by omega]; exact nI_le (Nat.le_refl _) (by omega)) c16
    | succ n ih =>
      intro q hq U hc h0 h2
      have hBq := hBB q (by omega)
      refine j_al0 8 C dX3_step_8 ?_
      refine jg_X3_22 9 C dX3_step_9 ?_
      refine j_top (nI (q)) (by rw [ub_s]; exact h2) ?_
      refine j_al0 12 C dX3_step_12 ?_
      refine jg_X3_15 13 C dX3_step_13 ?_
      refine j_top (nI (m)) (by rw [ub_s]; exact h0) ?_
      refine j_icge 16 46 C dX3_step_16 (by decide) (fun c16 => ?_) (fun c16 => ?_)
      · exact absurd c16 (nI_ge (a := q) (b := m) (by omega) (by omega))
      · refine j_al0 19 C dX3_step_19 ?_
        refine jg_X3_9 20 C dX3_step_20 ?_
        refine j_al0 23 C dX3_step_23 ?_
        refine jg_X3_22 24 C dX3_step_24 ?_
        refine j_top (nI (q)) (by rw [ub_s]; exact h2) ?_
        refine jl_tb 27 (by omega) C dX3_step_27 ?_
        rw [ub_n (b' := 5) (b := 4) (by decide), (hB.2 q (by omega)).2]
        refine j_bipush 28 C dX3_step_28 bp_32 ?_
        refine j_icne 30 46 C dX3_step_30 (by decide) (fun c30 => ?_) (fun c30 => ?_)
        · exact t1 U h0 (by rw [h2, cnt_s2 hc (by omega) (fun z => c30 ((sg_eq _ hBq.1 32 (by decide)).mpr (of_decide_eq_true z)))])
        · have hc2 := cnt_n2 (a := 0) hc (by omega) (decide_eq_true ((sg_eq _ hBq.1 32 (by decide)).mp c30))
          refine j_al0 33 C dX3_step_33 ?_
          refine j_dup 34 C dX3_step_34 rfl ?_
          refine jg_X3_22 35 C dX3_step_35 ?_
          refine j_top (nI (q)) (by rw [ub_s]; exact h2) ?_
          refine j_iconst 38 C dX3_step_38 ic_1 ?_
          refine j_iadd 39 C dX3_step_39 ?_
          refine j_top (nI (q + 1)) (nI_succ q).symm ?_
          refine jp_X3_22 40 C dX3_step_40 ?_
          rw [ub_ub, ub_s]
          refine j_goto 43 8 C dX3_step_43 (by decide) ?_
          exact ih (q + 1) (by omega) _ hc2 (by rw [upd_n (by decide)]; exact h0) upd_s
  refine j_al0 0 C dX3_step_0 ?_
  refine j_al0 1 C dX3_step_1 ?_
  refine jg_X3_25 2 C dX3_step_2 ?_
  refine j_top (nI e) h3 ?_
  refine jp_X3_22 5 C dX3_step_5 ?_
  exact l1 (m - e) e (by omega) _ hb (by rw [upd_n (by decide)]; exact h0) upd_s
