set_option maxRecDepth 20000 in
theorem c_X5_isLetter {G : GT} {g : Mem} {x : Int32} : Cti G yX5_isLetter cX5_isLetter 1 .boolean 0 0 [.int x] g (fun r g' => r = bi (isLtI x) ∧ g = g') := by
  refine ent_z (by decide) (Nat.le_of_ble_eq_true rfl) [some (.int x)] rfl ?_
  intro X C hR
  have C : CX X G RX5 cX5_isLetter 1 0 0 := C
  refine j_il0 0 C dX5_isLetter_0 ?_
  refine j_bipush 1 C dX5_isLetter_1 bp_97 ?_
  refine j_iclt 3 16 C dX5_isLetter_3 (by decide) (fun c3 => ?_) (fun c3 => ?_)
  · refine j_iconst 16 C dX5_isLetter_16 ic_0 ?_
    exact hR dX5_isLetter_17 (by first | exact Or.inl rfl | exact Or.inr rfl) ⟨by first | exact (if_pos (decide_eq_true ⟨Int32.not_lt.mp c3, Int32.not_lt.mp c9⟩)).symm | exact (if_neg (fun q => absurd c3 (Int32.not_lt.mpr (of_decide_eq_true q).1))).symm | exact (if_neg (fun q => absurd c9 (Int32.not_lt.mpr (of_decide_eq_true q).2))).symm, rfl⟩
  · refine j_il0 6 C dX5_isLetter_6 ?_
    refine j_bipush 7 C dX5_isLetter_7 bp_122 ?_
    refine j_icgt 9 16 C dX5_isLetter_9 (by decide) (fun c9 => ?_) (fun c9 => ?_)
    · refine j_iconst 16 C dX5_isLetter_16 ic_0 ?_
      exact hR dX5_isLetter_17 (by first | exact Or.inl rfl | exact Or.inr rfl) ⟨by first | exact (if_pos (decide_eq_true ⟨Int32.not_lt.mp c3, Int32.not_lt.mp c9⟩)).symm | exact (if_neg (fun q => absurd c3 (Int32.not_lt.mpr (of_decide_eq_true q).1))).symm | exact (if_neg (fun q => absurd c9 (Int32.not_lt.mpr (of_decide_eq_true q).2))).symm, rfl⟩
    · refine j_iconst 12 C dX5_isLetter_12 ic_1 ?_
      refine j_goto 13 17 C dX5_isLetter_13 (by decide) ?_
      exact hR dX5_isLetter_17 (by first | exact Or.inl rfl | exact Or.inr rfl) ⟨by first | exact (if_pos (decide_eq_true ⟨Int32.not_lt.mp c3, Int32.not_lt.mp c9⟩)).symm | exact (if_neg (fun q => absurd c3 (Int32.not_lt.mpr (of_decide_eq_true q).1))).symm | exact (if_neg (fun q => absurd c9 (Int32.not_lt.mpr (of_decide_eq_true q).2))).symm, rfl⟩
set_option maxRecDepth 20000 in
theorem c_X5_isDigit {G : GT} {g : Mem} {x : Int32} : Cti G yX5_isDigit cX5_isDigit 1 .boolean 0 0 [.int x] g (fun r g' => r = bi (isDgI x) ∧ g = g') := by
  refine ent_z (by decide) (Nat.le_of_ble_eq_true rfl) [some (.int x)] rfl ?_
  intro X C hR
  have C : CX X G RX5 cX5_isDigit 1 0 0 := C
  refine j_il0 0 C dX5_isDigit_0 ?_
  refine j_bipush 1 C dX5_isDigit_1 bp_48 ?_
  refine j_iclt 3 16 C dX5_isDigit_3 (by decide) (fun c3 => ?_) (fun c3 => ?_)
  · refine j_iconst 16 C dX5_isDigit_16 ic_0 ?_
    exact hR dX5_isDigit_17 (by first | exact Or.inl rfl | exact Or.inr rfl) ⟨by first | exact (if_pos (decide_eq_true ⟨Int32.not_lt.mp c3, Int32.not_lt.mp c9⟩)).symm | exact (if_neg (fun q => absurd c3 (Int32.not_lt.mpr (of_decide_eq_true q).1))).symm | exact (if_neg (fun q => absurd c9 (Int32.not_lt.mpr (of_decide_eq_true q).2))).symm, rfl⟩
  · refine j_il0 6 C dX5_isDigit_6 ?_
    refine j_bipush 7 C dX5_isDigit_7 bp_57 ?_
    refine j_icgt 9 16 C dX5_isDigit_9 (by decide) (fun c9 => ?_) (fun c9 => ?_)
    · refine j_iconst 16 C dX5_isDigit_16 ic_0 ?_
      exact hR dX5_isDigit_17 (by first | exact Or.inl rfl | exact Or.inr rfl) ⟨by first | exact (if_pos (decide_eq_true ⟨Int32.not_lt.mp c3, Int32.not_lt.mp c9⟩)).symm | exact (if_neg (fun q => absurd c3 (Int32.not_lt.mpr (of_decide_eq_true q).1))).symm | exact (if_neg (fun q => absurd c9 (Int32.not_lt.mpr (of_decide_eq_true q).2))).symm, rfl⟩
    · refine j_iconst 12 C dX5_isDigit_12 ic_1 ?_
      refine j_goto 13 17 C dX5_isDigit_13 (by decide) ?_
      exact hR dX5_isDigit_17 (by first | exact Or.inl rfl | exact Or.inr rfl) ⟨by first | exact (if_pos (decide_eq_true ⟨Int32.not_lt.mp c3, Int32.not_lt.mp c9⟩)).symm | exact (if_neg (fun q => absurd c3 (Int32.not_lt.mpr (of_decide_eq_true q).1))).symm | exact (if_neg (fun q => absurd c9 (Int32.not_lt.mpr (of_decide_eq_true q).2))).symm, rfl⟩
set_option maxRecDepth 20000 in
theorem c_X5_byteAt {G : GT} {g : Mem} {B : Nat → Nat} {m : Nat} (hB : BYM (g 17) B m) (h1 : g 22 1 = nI m) {j : Nat} (hj : j < 2 ^ 31) : Cti G yX5_byteAt cX5_byteAt 2 .int 0 0 [.ref (mo G), .int (nI j)] g (fun r g' => r = bat B m j ∧ g = g') := by
  refine ent_i (by decide) (Nat.le_of_ble_eq_true rfl) [some (.ref (mo G)), some (.int (nI j))] rfl ?_
  intro X C hR
  have C : CX X G RX5 cX5_byteAt 2 0 0 := C
  refine j_il1 0 C dX5_byteAt_0 ?_
  refine j_al0 1 C dX5_byteAt_1 ?_
  refine jg_X5_212 2 C dX5_byteAt_2 ?_
  refine j_top (nI m) h1 ?_
  refine j_icge 5 17 C dX5_byteAt_5 (by decide) (fun c5 => ?_) (fun c5 => ?_)
  · have hjm : m ≤ j := Nat.le_of_not_lt (fun q => nI_ge q (by have := hB.1; omega) c5)
    refine j_iconst 17 C dX5_byteAt_17 ic_m1 ?_
    exact hR dX5_byteAt_18 ⟨by first | exact (bat_ge hjm).symm | exact ((hB.2 j hjm).2).trans (bat_lt hjm).symm, rfl⟩
  · have hjm : j < m := Nat.lt_of_not_le (fun q => c5 (nI_le q hj))
    have hm120 := hB.1
    refine j_al0 8 C dX5_byteAt_8 ?_
    refine jg_X5_25 9 C dX5_byteAt_9 ?_
    refine j_il1 12 C dX5_byteAt_12 ?_
    refine jl_A5 13 (by omega) C dX5_byteAt_13 ?_
    refine j_goto 14 18 C dX5_byteAt_14 (by decide) ?_
    exact hR dX5_byteAt_18 ⟨by first | exact (bat_ge hjm).symm | exact ((hB.2 j hjm).2).trans (bat_lt hjm).symm, rfl⟩
theorem dg_val2 {v c : Nat} (h : 48 ≤ c) : 10 * nI v + nI c - 48 = nI (10 * v + (c - 48)) := by
  rw [Int32.mul_comm]; exact dg_val h
theorem cnt_f {p : Nat → Bool} {b m : Nat} (h : b < m) (hp : p b = true) : b < cnt p b (m - b) := by
  rw [show m - b = (m - (b + 1)) + 1 by omega]
  have := (cnt_le (p := p) (n := m - (b + 1)) (k := b + 1)).1
  show b < if p b then _ else _
  rw [if_pos hp]; omega
theorem cnt_f0 {p : Nat → Bool} {b m : Nat} (hp : b < m → p b = false) : cnt p b (m - b) = b := by
  by_cases h : b < m
  · rw [show m - b = (m - (b + 1)) + 1 by omega]
    exact if_neg (by rw [hp h]; decide)
  · rw [show m - b = 0 by omega]; rfl
set_option maxRecDepth 20000 in
theorem c_X5_nextToken {G : GT} {g : Mem} {B : Nat → Nat} {m : Nat} (hB : BYM (g 17) B m) (h1 : g 22 1 = nI m) {e : Nat} (he : e ≤ m) (h4 : g 22 4 = nI e) : Ctv G yX5_nextToken cX5_nextToken 2 1 21 [.ref (mo G)] g (fun g' => ∃ V, g' = ub g 22 V ∧ TKM V m (stp B m e) ∧ V 0 = g 22 0 ∧ V 6 = g 22 6) := by
  refine ent_v (by decide) (Nat.le_of_ble_eq_true rfl) [some (.ref (mo G)), none] rfl ?_
  intro X C hR
  have C : CX X G RX5 cX5_nextToken 2 1 21 := C
  have hm120 := hB.1
  have hBB : ∀ j, j < m → B j < 256 := fun j hj => (hB.2 j hj).1
  have hbm := tkB_le (B := B) he
  obtain ⟨b, hb⟩ : ∃ b, b = tkB B m e := ⟨_, rfl⟩
  have hbm : e ≤ b ∧ b ≤ m := by rw [hb]; exact hbm
  have t5 : ∀ (z q v : Nat) (V : Row) (o1 : Option Value) (k0 : V 0 = g 22 0) (k1 : V 1 = nI m) (k6 : V 6 = g 22 6), z ≤ 2 → q ≤ m → V 2 = nI z → V 3 = nI b → V 4 = nI q → V 5 = nI v → stp B m e = (z, b, q, v) → J X G 2 (ub g 22 V) 211 [some (.ref (mo G)), o1] [] := by
    intro z q v V o1 k0 k1 k6 hz hq k2 k3 k4 k5 hs
    refine j_al0 211 C dX5_nextToken_211 ?_
    refine j_dup 212 C dX5_nextToken_212 rfl ?_
    refine jg_X5_216 213 C dX5_nextToken_213 ?_
    refine j_top (nI (q)) (by rw [ub_s]; exact k4) ?_
    refine j_al0 216 C dX5_nextToken_216 ?_
    refine jg_X5_231 217 C dX5_nextToken_217 ?_
    refine j_top (nI (z)) (by rw [ub_s]; exact k2) ?_
    refine j_iconst 220 C dX5_nextToken_220 ic_2 ?_
    refine j_icle 221 228 C dX5_nextToken_221 (by decide) (fun c221 => ?_) (fun c221 => ?_)
    · refine j_iconst 228 C dX5_nextToken_228 ic_0 ?_
      refine j_iadd 229 C dX5_nextToken_229 ?_
      refine jp_X5_216 230 C dX5_nextToken_230 ?_
      rw [ub_ub, ub_s]
      exact hR dX5_nextToken_233 ⟨_, rfl, ⟨by rw [upd_n (by decide)]; exact k1, by rw [hs, upd_n (by decide)]; exact k2, by rw [hs, upd_n (by decide)]; exact k3, by rw [hs, upd_s]; exact Int32.add_zero _, by rw [hs, upd_n (by decide)]; exact k5⟩, by rw [upd_n (by decide)]; exact k0, by rw [upd_n (by decide)]; exact k6⟩
    · exact absurd (nI_le (a := z) (b := 2) hz (by decide)) c221
  have t6 : ∀ (z : Nat) (V : Row) (o1 : Option Value) (k0 : V 0 = g 22 0) (k1 : V 1 = nI m) (k6 : V 6 = g 22 6), 3 ≤ z → z ≤ 4 → V 2 = nI z → V 3 = nI b → V 4 = nI b → V 5 = nI 0 → stp B m e = (z, b, b + 1, 0) → J X G 2 (ub g 22 V) 211 [some (.ref (mo G)), o1] [] := by
    intro z V o1 k0 k1 k6 hz hz4 k2 k3 k4 k5 hs
    refine j_al0 211 C dX5_nextToken_211 ?_
    refine j_dup 212 C dX5_nextToken_212 rfl ?_
    refine jg_X5_216 213 C dX5_nextToken_213 ?_
    refine j_top (nI (b)) (by rw [ub_s]; exact k4) ?_
    refine j_al0 216 C dX5_nextToken_216 ?_
    refine jg_X5_231 217 C dX5_nextToken_217 ?_
    refine j_top (nI (z)) (by rw [ub_s]; exact k2) ?_
    refine j_iconst 220 C dX5_nextToken_220 ic_2 ?_
    refine j_icle 221 228 C dX5_nextToken_221 (by decide) (fun c221 => ?_) (fun c221 => ?_)
    · exact absurd c221 (Int32.not_le.mpr (nI_lt (a := 2) (b := z) (by omega) (by omega)))
    · refine j_iconst 224 C dX5_nextToken_224 ic_1 ?_
      refine j_goto 225 229 C dX5_nextToken_225 (by decide) ?_
      refine j_iadd 229 C dX5_nextToken_229 ?_
      refine jp_X5_216 230 C dX5_nextToken_230 ?_
      rw [ub_ub, ub_s]
      exact hR dX5_nextToken_233 ⟨_, rfl, ⟨by rw [upd_n (by decide)]; exact k1, by rw [hs, upd_n (by decide)]; exact k2, by rw [hs, upd_n (by decide)]; exact k3, by rw [hs, upd_s]; exact (nI_succ b).symm, by rw [hs, upd_n (by decide)]; exact k5⟩, by rw [upd_n (by decide)]; exact k0, by rw [upd_n (by decide)]; exact k6⟩
  have l3 : ∀ (n q : Nat) (V : Row) (o1 : Option Value) (k0 : V 0 = g 22 0) (k1 : V 1 = nI m) (k6 : V 6 = g 22 6), q + n = m → b ≤ q → tkD B m b = cnt (fun i => isDg (B i)) q (m - q) → (∀ i, b + i < q → B (b + i) ≤ 57) → b < tkD B m b → tkL B m b = b → V 2 = nI 2 → V 3 = nI b → V 4 = nI q → V 5 = nI (vfo B b (q - b)) → J X G 2 (ub g 22 V) 136 [some (.ref (mo G)), o1] [] := by
    intro n
    induction n with
    | zero =>
      intro q V o1 k0 k1 k6 hqn hbq hq hle hbd hbl k2 k3 k4 k5
      have hqm : ¬ q < m := by omega
      have hq := cnt_e2 hq (by omega)
      refine j_al0 136 C dX5_nextToken_136 ?_
      refine jg_X5_231 137 C dX5_nextToken_137 ?_
      refine j_top (nI (2)) (by rw [ub_s]; exact k2) ?_
      refine j_iconst 140 C dX5_nextToken_140 ic_2 ?_
      refine j_icne 141 211 C dX5_nextToken_141 (by decide) (fun c141 => ?_) (fun c141 => ?_)
      · exact absurd rfl c141
      · refine j_al0 144 C dX5_nextToken_144 ?_
        refine j_al0 145 C dX5_nextToken_145 ?_
        refine jg_X5_216 146 C dX5_nextToken_146 ?_
        refine j_top (nI (q)) (by rw [ub_s]; exact k4) ?_
        refine j_vi 149 C dX5_nextToken_149 mv_X5_byteAt lk_X5_222 (c_X5_byteAt (by rw [ub_n (by decide)]; exact hB) (by rw [ub_s]; exact k1) (j := q) (by omega)) rc_m rfl rfl ⟨(Nat.le_of_ble_eq_true rfl), (Nat.le_of_ble_eq_true rfl)⟩ (Nat.le_of_ble_eq_true rfl) (fun r149 g149 hp149 => ?_)
        obtain ⟨rfl, rfl⟩ := hp149
        refine j_si 152 C dX5_nextToken_152 ms_X5_isDigit lk_X5_228 (c_X5_isDigit) rfl rfl ⟨(Nat.le_of_ble_eq_true rfl), (Nat.le_of_ble_eq_true rfl)⟩ (Nat.le_of_ble_eq_true rfl) (fun r152 g152 hp152 => ?_)
        obtain ⟨rfl, rfl⟩ := hp152
        refine j_ifeq 155 211 C dX5_nextToken_155 (by decide) (fun c155 => ?_) (fun c155 => ?_)
        · have hs : stp B m e = (2, b, q, vfo B b (q - b)) := by unfold stp; rw [← hb, hbl, if_neg (Nat.lt_irrefl b), if_pos hbd, hq]
          exact t5 2 q _ V _ k0 k1 k6 (by decide) (by omega) k2 k3 k4 k5 hs
        · have v := bi_n c155
          rw [dgI_b (fun h => hBB _ h), decide_eq_false hqm] at v
          cases v
    | succ n ih =>
      intro q V o1 k0 k1 k6 hqn hbq hq hle hbd hbl k2 k3 k4 k5
      have hqm : q < m := by omega
      refine j_al0 136 C dX5_nextToken_136 ?_
      refine jg_X5_231 137 C dX5_nextToken_137 ?_
      refine j_top (nI (2)) (by rw [ub_s]; exact k2) ?_
      refine j_iconst 140 C dX5_nextToken_140 ic_2 ?_
      refine j_icne 141 211 C dX5_nextToken_141 (by decide) (fun c141 => ?_) (fun c141 => ?_)
      · exact absurd rfl c141
      · refine j_al0 144 C dX5_nextToken_144 ?_
        refine j_al0 145 C dX5_nextToken_145 ?_
        refine jg_X5_216 146 C dX5_nextToken_146 ?_
        refine j_top (nI (q)) (by rw [ub_s]; exact k4) ?_
        refine j_vi 149 C dX5_nextToken_149 mv_X5_byteAt lk_X5_222 (c_X5_byteAt (by rw [ub_n (by decide)]; exact hB) (by rw [ub_s]; exact k1) (j := q) (by omega)) rc_m rfl rfl ⟨(Nat.le_of_ble_eq_true rfl), (Nat.le_of_ble_eq_true rfl)⟩ (Nat.le_of_ble_eq_true rfl) (fun r149 g149 hp149 => ?_)
        obtain ⟨rfl, rfl⟩ := hp149
        refine j_si 152 C dX5_nextToken_152 ms_X5_isDigit lk_X5_228 (c_X5_isDigit) rfl rfl ⟨(Nat.le_of_ble_eq_true rfl), (Nat.le_of_ble_eq_true rfl)⟩ (Nat.le_of_ble_eq_true rfl) (fun r152 g152 hp152 => ?_)
        obtain ⟨rfl, rfl⟩ := hp152
        refine j_ifeq 155 211 C dX5_nextToken_155 (by decide) (fun c155 => ?_) (fun c155 => ?_)
        · have v := bi_0 c155
          rw [dgI_b (fun h => hBB _ h), decide_eq_true hqm, Bool.true_and] at v
          have hq := cnt_s2 hq hqm (by show ¬ isDg (B q) = true; rw [v]; decide)
          have hs : stp B m e = (2, b, q, vfo B b (q - b)) := by unfold stp; rw [← hb, hbl, if_neg (Nat.lt_irrefl b), if_pos hbd, hq]
          exact t5 2 q _ V _ k0 k1 k6 (by decide) (by omega) k2 k3 k4 k5 hs
        · have v := bi_n c155
          rw [dgI_b (fun h => hBB _ h), decide_eq_true hqm, Bool.true_and] at v
          have hdg : 48 ≤ B q ∧ B q ≤ 57 := of_decide_eq_true v
          have hq2 := cnt_n2 (a := 0) hq hqm v
          have hle2 : ∀ i, b + i < q + 1 → B (b + i) ≤ 57 := fun i hi => by
            by_cases z : b + i = q
            · rw [z]; exact hdg.2
            · exact hle i (by omega)
          have hvl : vfo B b (q - b) < 10000 := vfo_lt (fun i hi => hle i (by omega))
          have hv1 : vfo B b (q + 1 - b) = if vfo B b (q - b) < 1000 then 10 * vfo B b (q - b) + (B q - 48) else vfo B b (q - b) := by
            rw [show q + 1 - b = (q - b) + 1 by omega]
            show (if vfo B b (q - b) < 1000 then 10 * vfo B b (q - b) + (B (b + (q - b)) - 48) else _) = _
            rw [show b + (q - b) = q by omega]
          refine j_al0 158 C dX5_nextToken_158 ?_
          refine j_al0 159 C dX5_nextToken_159 ?_
          refine jg_X5_234 160 C dX5_nextToken_160 ?_
          refine j_top (nI (vfo B b (q - b))) (by rw [ub_s]; exact k5) ?_
          refine j_sipush 163 C dX5_nextToken_163 sq_999 ?_
          refine j_icle 166 176 C dX5_nextToken_166 (by decide) (fun c166 => ?_) (fun c166 => ?_)
          · have h1000 : vfo B b (q - b) < 1000 := Nat.lt_of_not_le (fun z => absurd c166 (Int32.not_le.mpr (nI_lt (a := 999) (by omega) (by omega))))
            refine j_bipush 176 C dX5_nextToken_176 bp_10 ?_
            refine j_al0 178 C dX5_nextToken_178 ?_
            refine jg_X5_234 179 C dX5_nextToken_179 ?_
            refine j_top (nI (vfo B b (q - b))) (by rw [ub_s]; exact k5) ?_
            refine j_imul 182 C dX5_nextToken_182 ?_
            refine j_al0 183 C dX5_nextToken_183 ?_
            refine j_al0 184 C dX5_nextToken_184 ?_
            refine jg_X5_216 185 C dX5_nextToken_185 ?_
            refine j_top (nI (q)) (by rw [ub_s]; exact k4) ?_
            refine j_vi 188 C dX5_nextToken_188 mv_X5_byteAt lk_X5_222 (c_X5_byteAt (by rw [ub_n (by decide)]; exact hB) (by rw [ub_s]; exact k1) (j := q) (by omega)) rc_m rfl rfl ⟨(Nat.le_of_ble_eq_true rfl), (Nat.le_of_ble_eq_true rfl)⟩ (Nat.le_of_ble_eq_true rfl) (fun r188 g188 hp188 => ?_)
            obtain ⟨rfl, rfl⟩ := hp188
            rw [bat_lt hqm]
            refine j_iadd 191 C dX5_nextToken_191 ?_
            refine j_bipush 192 C dX5_nextToken_192 bp_48 ?_
            refine j_isub 194 C dX5_nextToken_194 ?_
            refine j_top (nI (vfo B b (q + 1 - b))) (by rw [hv1, if_pos h1000]; exact dg_val2 hdg.1) ?_
            refine jp_X5_234 195 C dX5_nextToken_195 ?_
            rw [ub_ub, ub_s]
            refine j_al0 198 C dX5_nextToken_198 ?_
            refine j_dup 199 C dX5_nextToken_199 rfl ?_
            refine jg_X5_216 200 C dX5_nextToken_200 ?_
            refine j_top (nI q) (by rw [ub_s, upd_n (by decide)]; exact k4) ?_
            refine j_iconst 203 C dX5_nextToken_203 ic_1 ?_
            refine j_iadd 204 C dX5_nextToken_204 ?_
            refine j_top (nI (q + 1)) (nI_succ q).symm ?_
            refine jp_X5_216 205 C dX5_nextToken_205 ?_
            rw [ub_ub, ub_s]
            refine j_goto 208 136 C dX5_nextToken_208 (by decide) ?_
            exact ih (q + 1) _ _ (by rw [upd_n (by decide), upd_n (by decide)]; exact k0) (by rw [upd_n (by decide), upd_n (by decide)]; exact k1) (by rw [upd_n (by decide), upd_n (by decide)]; exact k6) (by omega) (by omega) hq2 hle2 hbd hbl (by rw [upd_n (by decide), upd_n (by decide)]; exact k2) (by rw [upd_n (by decide), upd_n (by decide)]; exact k3) (by rw [upd_s]) (by rw [upd_n (by decide), upd_s])
          · have h1000 : ¬ vfo B b (q - b) < 1000 := fun z => c166 (nI_le (b := 999) (by omega) (by decide))
            refine j_al0 169 C dX5_nextToken_169 ?_
            refine jg_X5_234 170 C dX5_nextToken_170 ?_
            refine j_top (nI (vfo B b (q - b))) (by rw [ub_s]; exact k5) ?_
            refine j_goto 173 195 C dX5_nextToken_173 (by decide) ?_
            refine j_top (nI (vfo B b (q + 1 - b))) (by rw [hv1, if_neg h1000]) ?_
            refine jp_X5_234 195 C dX5_nextToken_195 ?_
            rw [ub_ub, ub_s]
            refine j_al0 198 C dX5_nextToken_198 ?_
            refine j_dup 199 C dX5_nextToken_199 rfl ?_
            refine jg_X5_216 200 C dX5_nextToken_200 ?_
            refine j_top (nI q) (by rw [ub_s, upd_n (by decide)]; exact k4) ?_
            refine j_iconst 203 C dX5_nextToken_203 ic_1 ?_
            refine j_iadd 204 C dX5_nextToken_204 ?_
            refine j_top (nI (q + 1)) (nI_succ q).symm ?_
            refine jp_X5_216 205 C dX5_nextToken_205 ?_
            rw [ub_ub, ub_s]
            refine j_goto 208 136 C dX5_nextToken_208 (by decide) ?_
            exact ih (q + 1) _ _ (by rw [upd_n (by decide), upd_n (by decide)]; exact k0) (by rw [upd_n (by decide), upd_n (by decide)]; exact k1) (by rw [upd_n (by decide), upd_n (by decide)]; exact k6) (by omega) (by omega) hq2 hle2 hbd hbl (by rw [upd_n (by decide), upd_n (by decide)]; exact k2) (by rw [upd_n (by decide), upd_n (by decide)]; exact k3) (by rw [upd_s]) (by rw [upd_n (by decide), upd_s])
  have l2 : ∀ (n q : Nat) (V : Row) (o1 : Option Value) (k0 : V 0 = g 22 0) (k1 : V 1 = nI m) (k6 : V 6 = g 22 6), q + n = m → tkL B m b = cnt (fun i => isLt (B i)) q (m - q) → b < tkL B m b → V 2 = nI 1 → V 3 = nI b → V 4 = nI q → V 5 = nI 0 → J X G 2 (ub g 22 V) 101 [some (.ref (mo G)), o1] [] := by
    intro n
    induction n with
    | zero =>
      intro q V o1 k0 k1 k6 hqn hq hbl k2 k3 k4 k5
      have hqm : ¬ q < m := by omega
      have hq := cnt_e2 hq (by omega)
      refine j_al0 101 C dX5_nextToken_101 ?_
      refine jg_X5_231 102 C dX5_nextToken_102 ?_
      refine j_top (nI (1)) (by rw [ub_s]; exact k2) ?_
      refine j_iconst 105 C dX5_nextToken_105 ic_1 ?_
      refine j_icne 106 136 C dX5_nextToken_106 (by decide) (fun c106 => ?_) (fun c106 => ?_)
      · exact absurd rfl c106
      · refine j_al0 109 C dX5_nextToken_109 ?_
        refine j_al0 110 C dX5_nextToken_110 ?_
        refine jg_X5_216 111 C dX5_nextToken_111 ?_
        refine j_top (nI (q)) (by rw [ub_s]; exact k4) ?_
        refine j_vi 114 C dX5_nextToken_114 mv_X5_byteAt lk_X5_222 (c_X5_byteAt (by rw [ub_n (by decide)]; exact hB) (by rw [ub_s]; exact k1) (j := q) (by omega)) rc_m rfl rfl ⟨(Nat.le_of_ble_eq_true rfl), (Nat.le_of_ble_eq_true rfl)⟩ (Nat.le_of_ble_eq_true rfl) (fun r114 g114 hp114 => ?_)
        obtain ⟨rfl, rfl⟩ := hp114
        refine j_si 117 C dX5_nextToken_117 ms_X5_isLetter lk_X5_225 (c_X5_isLetter) rfl rfl ⟨(Nat.le_of_ble_eq_true rfl), (Nat.le_of_ble_eq_true rfl)⟩ (Nat.le_of_ble_eq_true rfl) (fun r117 g117 hp117 => ?_)
        obtain ⟨rfl, rfl⟩ := hp117
        refine j_ifeq 120 136 C dX5_nextToken_120 (by decide) (fun c120 => ?_) (fun c120 => ?_)
        · refine j_al0 136 C dX5_nextToken_136 ?_
          refine jg_X5_231 137 C dX5_nextToken_137 ?_
          refine j_top (nI (1)) (by rw [ub_s]; exact k2) ?_
          refine j_iconst 140 C dX5_nextToken_140 ic_2 ?_
          refine j_icne 141 211 C dX5_nextToken_141 (by decide) (fun c141 => ?_) (fun c141 => ?_)
          · have hs : stp B m e = (1, b, q, 0) := by unfold stp; rw [← hb, if_pos hbl, hq]
            exact t5 1 q 0 V _ k0 k1 k6 (by decide) (by omega) k2 k3 k4 k5 hs
          · exact absurd c141 (by decide)
        · have v := bi_n c120
          rw [ltI_b (fun h => hBB _ h), decide_eq_false hqm] at v
          cases v
    | succ n ih =>
      intro q V o1 k0 k1 k6 hqn hq hbl k2 k3 k4 k5
      have hqm : q < m := by omega
      refine j_al0 101 C dX5_nextToken_101 ?_
      refine jg_X5_231 102 C dX5_nextToken_102 ?_
      refine j_top (nI (1)) (by rw [ub_s]; exact k2) ?_
      refine j_iconst 105 C dX5_nextToken_105 ic_1 ?_
      refine j_icne 106 136 C dX5_nextToken_106 (by decide) (fun c106 => ?_) (fun c106 => ?_)
      · exact absurd rfl c106
      · refine j_al0 109 C dX5_nextToken_109 ?_
        refine j_al0 110 C dX5_nextToken_110 ?_
        refine jg_X5_216 111 C dX5_nextToken_111 ?_
        refine j_top (nI (q)) (by rw [ub_s]; exact k4) ?_
        refine j_vi 114 C dX5_nextToken_114 mv_X5_byteAt lk_X5_222 (c_X5_byteAt (by rw [ub_n (by decide)]; exact hB) (by rw [ub_s]; exact k1) (j := q) (by omega)) rc_m rfl rfl ⟨(Nat.le_of_ble_eq_true rfl), (Nat.le_of_ble_eq_true rfl)⟩ (Nat.le_of_ble_eq_true rfl) (fun r114 g114 hp114 => ?_)
        obtain ⟨rfl, rfl⟩ := hp114
        refine j_si 117 C dX5_nextToken_117 ms_X5_isLetter lk_X5_225 (c_X5_isLetter) rfl rfl ⟨(Nat.le_of_ble_eq_true rfl), (Nat.le_of_ble_eq_true rfl)⟩ (Nat.le_of_ble_eq_true rfl) (fun r117 g117 hp117 => ?_)
        obtain ⟨rfl, rfl⟩ := hp117
        refine j_ifeq 120 136 C dX5_nextToken_120 (by decide) (fun c120 => ?_) (fun c120 => ?_)
        · have v := bi_0 c120
          rw [ltI_b (fun h => hBB _ h), decide_eq_true hqm, Bool.true_and] at v
          have hq := cnt_s2 hq hqm (by show ¬ isLt (B q) = true; rw [v]; decide)
          refine j_al0 136 C dX5_nextToken_136 ?_
          refine jg_X5_231 137 C dX5_nextToken_137 ?_
          refine j_top (nI (1)) (by rw [ub_s]; exact k2) ?_
          refine j_iconst 140 C dX5_nextToken_140 ic_2 ?_
          refine j_icne 141 211 C dX5_nextToken_141 (by decide) (fun c141 => ?_) (fun c141 => ?_)
          · have hs : stp B m e = (1, b, q, 0) := by unfold stp; rw [← hb, if_pos hbl, hq]
            exact t5 1 q 0 V _ k0 k1 k6 (by decide) (by omega) k2 k3 k4 k5 hs
          · exact absurd c141 (by decide)
        · have v := bi_n c120
          rw [ltI_b (fun h => hBB _ h), decide_eq_true hqm, Bool.true_and] at v
          refine j_al0 123 C dX5_nextToken_123 ?_
          refine j_dup 124 C dX5_nextToken_124 rfl ?_
          refine jg_X5_216 125 C dX5_nextToken_125 ?_
          refine j_top (nI (q)) (by rw [ub_s]; exact k4) ?_
          refine j_iconst 128 C dX5_nextToken_128 ic_1 ?_
          refine j_iadd 129 C dX5_nextToken_129 ?_
          refine j_top (nI (q + 1)) (nI_succ q).symm ?_
          refine jp_X5_216 130 C dX5_nextToken_130 ?_
          rw [ub_ub, ub_s]
          refine j_goto 133 101 C dX5_nextToken_133 (by decide) ?_
          exact ih (q + 1) _ _ (by rw [upd_n (by decide)]; exact k0) (by rw [upd_n (by decide)]; exact k1) (by rw [upd_n (by decide)]; exact k6) (by omega) (cnt_n2 (a := 0) hq hqm v) hbl (by rw [upd_n (by decide)]; exact k2) (by rw [upd_n (by decide)]; exact k3) (by rw [upd_s]) (by rw [upd_n (by decide)]; exact k5)
  have t2 : ∀ (z : Nat) (V : Row) (o1 : Option Value) (k0 : V 0 = g 22 0) (k1 : V 1 = nI m) (k6 : V 6 = g 22 6), V 3 = nI b → V 4 = nI b → (∀ V2 : Row, V2 0 = g 22 0 → V2 1 = nI m → V2 6 = g 22 6 → V2 2 = nI z → V2 3 = nI b → V2 4 = nI b → V2 5 = nI 0 → ∀ o1, J X G 2 (ub g 22 V2) 101 [some (.ref (mo G)), o1] []) → J X G 2 (ub g 22 V) 93 [some (.ref (mo G)), o1] [.int (nI z), .ref (mo G)] := by
    intro z V o1 k0 k1 k6 k3 k4 hh
    refine jp_X5_231 93 C dX5_nextToken_93 ?_
    rw [ub_ub, ub_s]
    refine j_al0 96 C dX5_nextToken_96 ?_
    refine j_iconst 97 C dX5_nextToken_97 ic_0 ?_
    refine jp_X5_234 98 C dX5_nextToken_98 ?_
    rw [ub_ub, ub_s]
    exact hh _ (by rw [upd_n (by decide), upd_n (by decide)]; exact k0) (by rw [upd_n (by decide), upd_n (by decide)]; exact k1) (by rw [upd_n (by decide), upd_n (by decide)]; exact k6) (by rw [upd_n (by decide), upd_s]) (by rw [upd_n (by decide), upd_n (by decide)]; exact k3) (by rw [upd_n (by decide), upd_n (by decide)]; exact k4) (by rw [upd_s]; rfl) _
  have mid0 : ∀ (V : Row) (o1 : Option Value) (k0 : V 0 = g 22 0) (k1 : V 1 = nI m) (k6 : V 6 = g 22 6), V 3 = nI b → V 4 = nI b → J X G 2 (ub g 22 V) 42 [some (.ref (mo G)), o1] [] := by
    intro V o1 k0 k1 k6 k3 k4
    refine j_al0 42 C dX5_nextToken_42 ?_
    refine j_al0 43 C dX5_nextToken_43 ?_
    refine jg_X5_219 44 C dX5_nextToken_44 ?_
    refine j_top (nI b) (by rw [ub_s]; exact k3) ?_
    refine j_vi 47 C dX5_nextToken_47 mv_X5_byteAt lk_X5_222 (c_X5_byteAt (by rw [ub_n (by decide)]; exact hB) (by rw [ub_s]; exact k1) (j := b) (by omega)) rc_m rfl rfl ⟨(Nat.le_of_ble_eq_true rfl), (Nat.le_of_ble_eq_true rfl)⟩ (Nat.le_of_ble_eq_true rfl) (fun r47 g47 hp47 => ?_)
    obtain ⟨rfl, rfl⟩ := hp47
    by_cases hbm2 : b < m
    · rw [bat_lt hbm2]
      refine j_is1 50 C dX5_nextToken_50 rfl (Nat.le_of_ble_eq_true rfl) ?_
      refine j_al0 51 C dX5_nextToken_51 ?_
      refine j_il1 52 C dX5_nextToken_52 ?_
      refine j_ifge 53 60 C dX5_nextToken_53 (by decide) (fun c53 => ?_) (fun c53 => ?_)
      · refine j_il1 60 C dX5_nextToken_60 ?_
        refine j_si 61 C dX5_nextToken_61 ms_X5_isLetter lk_X5_225 (c_X5_isLetter) rfl rfl ⟨(Nat.le_of_ble_eq_true rfl), (Nat.le_of_ble_eq_true rfl)⟩ (Nat.le_of_ble_eq_true rfl) (fun r61 g61 hp61 => ?_)
        obtain ⟨rfl, rfl⟩ := hp61
        refine j_ifeq 64 71 C dX5_nextToken_64 (by decide) (fun c64 => ?_) (fun c64 => ?_)
        · have v := bi_0 c64
          rw [← bat_lt hbm2] at v
          rw [ltI_b (fun h => hBB _ h), decide_eq_true hbm2, Bool.true_and] at v
          have hl : tkL B m b = b := cnt_f0 (p := fun i => isLt (B i)) (fun _ => v)
          refine j_il1 71 C dX5_nextToken_71 ?_
          refine j_si 72 C dX5_nextToken_72 ms_X5_isDigit lk_X5_228 (c_X5_isDigit) rfl rfl ⟨(Nat.le_of_ble_eq_true rfl), (Nat.le_of_ble_eq_true rfl)⟩ (Nat.le_of_ble_eq_true rfl) (fun r72 g72 hp72 => ?_)
          obtain ⟨rfl, rfl⟩ := hp72
          refine j_ifeq 75 82 C dX5_nextToken_75 (by decide) (fun c75 => ?_) (fun c75 => ?_)
          · have v := bi_0 c75; rw [← bat_lt hbm2] at v
            rw [dgI_b (fun h => hBB _ h), decide_eq_true hbm2, Bool.true_and] at v
            have hd : tkD B m b = b := cnt_f0 (p := fun i => isDg (B i)) (fun _ => v)
            refine j_il1 82 C dX5_nextToken_82 ?_
            refine j_bipush 83 C dX5_nextToken_83 bp_59 ?_
            refine j_icne 85 92 C dX5_nextToken_85 (by decide) (fun c85 => ?_) (fun c85 => ?_)
            · have hs : stp B m e = (4, b, b + 1, 0) := by unfold stp; rw [← hb, hl, if_neg (Nat.lt_irrefl b), hd, if_neg (Nat.lt_irrefl b), if_neg (show ¬ b = m by omega), if_neg (fun z => c85 (by rw [z]; rfl))]
              refine j_iconst 92 C dX5_nextToken_92 ic_4 ?_
              refine t2 4 V _ k0 k1 k6 k3 k4 (fun V2 k0 k1 k6 k2 k3 k4 k5 o1 => ?_)
              refine j_al0 101 C dX5_nextToken_101 ?_
              refine jg_X5_231 102 C dX5_nextToken_102 ?_
              refine j_top (nI (4)) (by rw [ub_s]; exact k2) ?_
              refine j_iconst 105 C dX5_nextToken_105 ic_1 ?_
              refine j_icne 106 136 C dX5_nextToken_106 (by decide) (fun c106 => ?_) (fun c106 => ?_)
              · refine j_al0 136 C dX5_nextToken_136 ?_
                refine jg_X5_231 137 C dX5_nextToken_137 ?_
                refine j_top (nI (4)) (by rw [ub_s]; exact k2) ?_
                refine j_iconst 140 C dX5_nextToken_140 ic_2 ?_
                refine j_icne 141 211 C dX5_nextToken_141 (by decide) (fun c141 => ?_) (fun c141 => ?_)
                · exact t6 4 V2 _ k0 k1 k6 (by decide) (by decide) k2 k3 k4 k5 hs
                · exact absurd c141 (by decide)
              · exact absurd c106 (by decide)
            · have hs : stp B m e = (3, b, b + 1, 0) := by unfold stp; rw [← hb, hl, if_neg (Nat.lt_irrefl b), hd, if_neg (Nat.lt_irrefl b), if_neg (show ¬ b = m by omega), if_pos ((nI_eq (by have := hBB b hbm2; omega) (by decide)).mp c85)]
              refine j_iconst 88 C dX5_nextToken_88 ic_3 ?_
              refine j_goto 89 93 C dX5_nextToken_89 (by decide) ?_
              refine t2 3 V _ k0 k1 k6 k3 k4 (fun V2 k0 k1 k6 k2 k3 k4 k5 o1 => ?_)
              refine j_al0 101 C dX5_nextToken_101 ?_
              refine jg_X5_231 102 C dX5_nextToken_102 ?_
              refine j_top (nI (3)) (by rw [ub_s]; exact k2) ?_
              refine j_iconst 105 C dX5_nextToken_105 ic_1 ?_
              refine j_icne 106 136 C dX5_nextToken_106 (by decide) (fun c106 => ?_) (fun c106 => ?_)
              · refine j_al0 136 C dX5_nextToken_136 ?_
                refine jg_X5_231 137 C dX5_nextToken_137 ?_
                refine j_top (nI (3)) (by rw [ub_s]; exact k2) ?_
                refine j_iconst 140 C dX5_nextToken_140 ic_2 ?_
                refine j_icne 141 211 C dX5_nextToken_141 (by decide) (fun c141 => ?_) (fun c141 => ?_)
                · exact t6 3 V2 _ k0 k1 k6 (by decide) (by decide) k2 k3 k4 k5 hs
                · exact absurd c141 (by decide)
              · exact absurd c106 (by decide)
          · have v := bi_n c75; rw [← bat_lt hbm2] at v
            rw [dgI_b (fun h => hBB _ h), decide_eq_true hbm2, Bool.true_and] at v
            have hd := cnt_f (p := fun i => isDg (B i)) hbm2 v
            refine j_iconst 78 C dX5_nextToken_78 ic_2 ?_
            refine j_goto 79 93 C dX5_nextToken_79 (by decide) ?_
            refine t2 2 V _ k0 k1 k6 k3 k4 (fun V2 k0 k1 k6 k2 k3 k4 k5 o1 => ?_)
            refine j_al0 101 C dX5_nextToken_101 ?_
            refine jg_X5_231 102 C dX5_nextToken_102 ?_
            refine j_top (nI (2)) (by rw [ub_s]; exact k2) ?_
            refine j_iconst 105 C dX5_nextToken_105 ic_1 ?_
            refine j_icne 106 136 C dX5_nextToken_106 (by decide) (fun c106 => ?_) (fun c106 => ?_)
            · exact l3 (m - b) b V2 _ k0 k1 k6 (by omega) (Nat.le_refl _) rfl (fun i hi => absurd hi (by omega)) hd hl k2 k3 k4 (by rw [Nat.sub_self]; exact k5)
            · exact absurd c106 (by decide)
        · have v := bi_n c64
          rw [← bat_lt hbm2] at v
          rw [ltI_b (fun h => hBB _ h), decide_eq_true hbm2, Bool.true_and] at v
          have hl := cnt_f (p := fun i => isLt (B i)) hbm2 v
          refine j_iconst 67 C dX5_nextToken_67 ic_1 ?_
          refine j_goto 68 93 C dX5_nextToken_68 (by decide) ?_
          refine t2 1 V _ k0 k1 k6 k3 k4 (fun V2 k0 k1 k6 k2 k3 k4 k5 o1 => ?_)
          exact l2 (m - b) b V2 o1 k0 k1 k6 (by omega) rfl hl k2 k3 k4 k5
      · exact absurd (nI_pos' (by have := hBB b hbm2; omega)) c53
    · rw [bat_ge (Nat.le_of_not_lt hbm2)]
      refine j_is1 50 C dX5_nextToken_50 rfl (Nat.le_of_ble_eq_true rfl) ?_
      refine j_al0 51 C dX5_nextToken_51 ?_
      refine j_il1 52 C dX5_nextToken_52 ?_
      refine j_ifge 53 60 C dX5_nextToken_53 (by decide) (fun c53 => ?_) (fun c53 => ?_)
      · exact absurd c53 (by decide)
      · have hs : stp B m e = (0, b, b, 0) := by unfold stp; rw [← hb, show tkL B m b = b from cnt_f0 (fun h => absurd h hbm2), if_neg (Nat.lt_irrefl b), show tkD B m b = b from cnt_f0 (fun h => absurd h hbm2), if_neg (Nat.lt_irrefl b), if_pos (show b = m by omega)]
        refine j_iconst 56 C dX5_nextToken_56 ic_0 ?_
        refine j_goto 57 93 C dX5_nextToken_57 (by decide) ?_
        refine t2 0 V _ k0 k1 k6 k3 k4 (fun V2 k0 k1 k6 k2 k3 k4 k5 o1 => ?_)
        refine j_al0 101 C dX5_nextToken_101 ?_
        refine jg_X5_231 102 C dX5_nextToken_102 ?_
        refine j_top (nI (0)) (by rw [ub_s]; exact k2) ?_
        refine j_iconst 105 C dX5_nextToken_105 ic_1 ?_
        refine j_icne 106 136 C dX5_nextToken_106 (by decide) (fun c106 => ?_) (fun c106 => ?_)
        · refine j_al0 136 C dX5_nextToken_136 ?_
          refine jg_X5_231 137 C dX5_nextToken_137 ?_
          refine j_top (nI (0)) (by rw [ub_s]; exact k2) ?_
          refine j_iconst 140 C dX5_nextToken_140 ic_2 ?_
          refine j_icne 141 211 C dX5_nextToken_141 (by decide) (fun c141 => ?_) (fun c141 => ?_)
          · exact t5 0 b 0 V2 _ k0 k1 k6 (by decide) hbm.2 k2 k3 k4 k5 hs
          · exact absurd c141 (by decide)
        · exact absurd c106 (by decide)
  have mid : ∀ (V : Row) (o1 : Option Value) (k0 : V 0 = g 22 0) (k1 : V 1 = nI m) (k6 : V 6 = g 22 6), V 3 = nI b → J X G 2 (ub g 22 V) 34 [some (.ref (mo G)), o1] [] := by
    intro V o1 k0 k1 k6 k3
    refine j_al0 34 C dX5_nextToken_34 ?_
    refine j_al0 35 C dX5_nextToken_35 ?_
    refine jg_X5_219 36 C dX5_nextToken_36 ?_
    refine j_top (nI (b)) (by rw [ub_s]; exact k3) ?_
    refine jp_X5_216 39 C dX5_nextToken_39 ?_
    rw [ub_ub, ub_s]
    exact mid0 _ _ (by rw [upd_n (by decide)]; exact k0) (by rw [upd_n (by decide)]; exact k1) (by rw [upd_n (by decide)]; exact k6) (by rw [upd_n (by decide)]; exact k3) (by rw [upd_s])
  have l1 : ∀ (n q : Nat) (V : Row) (o1 : Option Value) (k0 : V 0 = g 22 0) (k1 : V 1 = nI m) (k6 : V 6 = g 22 6), q + n = m → b = cnt (fun i => decide (B i = 32)) q (m - q) → V 3 = nI q → J X G 2 (ub g 22 V) 8 [some (.ref (mo G)), o1] [] := by
    intro n
    induction n with
    | zero =>
      intro q V o1 k0 k1 k6 hqn hq k3
      have hq := cnt_e2 hq (show m ≤ q by omega)
      refine j_al0 8 C dX5_nextToken_8 ?_
      refine j_al0 9 C dX5_nextToken_9 ?_
      refine jg_X5_219 10 C dX5_nextToken_10 ?_
      refine j_top (nI (q)) (by rw [ub_s]; exact k3) ?_
      refine j_vi 13 C dX5_nextToken_13 mv_X5_byteAt lk_X5_222 (c_X5_byteAt (by rw [ub_n (by decide)]; exact hB) (by rw [ub_s]; exact k1) (j := q) (by omega)) rc_m rfl rfl ⟨(Nat.le_of_ble_eq_true rfl), (Nat.le_of_ble_eq_true rfl)⟩ (Nat.le_of_ble_eq_true rfl) (fun r13 g13 hp13 => ?_)
      obtain ⟨rfl, rfl⟩ := hp13
      rw [bat_ge (show m ≤ q by omega)]
      refine j_bipush 16 C dX5_nextToken_16 bp_32 ?_
      refine j_icne 18 34 C dX5_nextToken_18 (by decide) (fun c18 => ?_) (fun c18 => ?_)
      · exact mid V _ k0 k1 k6 (by rw [hq]; exact k3)
      · exact absurd c18 (by decide)
    | succ n ih =>
      intro q V o1 k0 k1 k6 hqn hq k3
      have hqm : q < m := by omega
      refine j_al0 8 C dX5_nextToken_8 ?_
      refine j_al0 9 C dX5_nextToken_9 ?_
      refine jg_X5_219 10 C dX5_nextToken_10 ?_
      refine j_top (nI (q)) (by rw [ub_s]; exact k3) ?_
      refine j_vi 13 C dX5_nextToken_13 mv_X5_byteAt lk_X5_222 (c_X5_byteAt (by rw [ub_n (by decide)]; exact hB) (by rw [ub_s]; exact k1) (j := q) (by omega)) rc_m rfl rfl ⟨(Nat.le_of_ble_eq_true rfl), (Nat.le_of_ble_eq_true rfl)⟩ (Nat.le_of_ble_eq_true rfl) (fun r13 g13 hp13 => ?_)
      obtain ⟨rfl, rfl⟩ := hp13
      rw [bat_lt hqm]
      refine j_bipush 16 C dX5_nextToken_16 bp_32 ?_
      refine j_icne 18 34 C dX5_nextToken_18 (by decide) (fun c18 => ?_) (fun c18 => ?_)
      · have hq := cnt_s2 hq hqm (fun z => c18 (by rw [of_decide_eq_true z]; rfl))
        exact mid V _ k0 k1 k6 (by rw [hq]; exact k3)
      · have h32 : B q = 32 := (nI_eq (by have := hBB q hqm; omega) (by decide)).mp c18
        refine j_al0 21 C dX5_nextToken_21 ?_
        refine j_dup 22 C dX5_nextToken_22 rfl ?_
        refine jg_X5_219 23 C dX5_nextToken_23 ?_
        refine j_top (nI (q)) (by rw [ub_s]; exact k3) ?_
        refine j_iconst 26 C dX5_nextToken_26 ic_1 ?_
        refine j_iadd 27 C dX5_nextToken_27 ?_
        refine j_top (nI (q + 1)) (nI_succ q).symm ?_
        refine jp_X5_219 28 C dX5_nextToken_28 ?_
        rw [ub_ub, ub_s]
        refine j_goto 31 8 C dX5_nextToken_31 (by decide) ?_
        exact ih (q + 1) _ _ (by rw [upd_n (by decide)]; exact k0) (by rw [upd_n (by decide)]; exact k1) (by rw [upd_n (by decide)]; exact k6) (by omega) (cnt_n2 (a := 0) hq hqm (decide_eq_true h32)) (by rw [upd_s])
  refine j_al0 0 C dX5_nextToken_0 ?_
  refine j_al0 1 C dX5_nextToken_1 ?_
  refine jg_X5_216 2 C dX5_nextToken_2 ?_
  refine j_top (nI e) h4 ?_
  refine jp_X5_219 5 C dX5_nextToken_5 ?_
  exact l1 (m - e) e _ none (by rw [upd_n (by decide)]) (by rw [upd_n (by decide)]; exact h1) (by rw [upd_n (by decide)]) (by omega) hb (by rw [upd_s])
