theorem bp_98 : (Int8.ofInt (98)).toInt32 = 98 := by decide
theorem bp_99 : (Int8.ofInt (99)).toInt32 = 99 := by decide
theorem bp_101 : (Int8.ofInt (101)).toInt32 = 101 := by decide
theorem bp_103 : (Int8.ofInt (103)).toInt32 = 103 := by decide
theorem bp_104 : (Int8.ofInt (104)).toInt32 = 104 := by decide
theorem bp_105 : (Int8.ofInt (105)).toInt32 = 105 := by decide
theorem bp_108 : (Int8.ofInt (108)).toInt32 = 108 := by decide
theorem bp_109 : (Int8.ofInt (109)).toInt32 = 109 := by decide
theorem bp_111 : (Int8.ofInt (111)).toInt32 = 111 := by decide
theorem bp_112 : (Int8.ofInt (112)).toInt32 = 112 := by decide
theorem bp_114 : (Int8.ofInt (114)).toInt32 = 114 := by decide
theorem bp_115 : (Int8.ofInt (115)).toInt32 = 115 := by decide
theorem bp_116 : (Int8.ofInt (116)).toInt32 = 116 := by decide
theorem bp_117 : (Int8.ofInt (117)).toInt32 = 117 := by decide
theorem bp_118 : (Int8.ofInt (118)).toInt32 = 118 := by decide
set_option maxRecDepth 20000 in
theorem c_X5_isTwo {G : GT} {g : Mem} {B : Nat → Nat} {m : Nat} (hB : BYM (g 17) B m) {t : Tk} (hV : TKM (g 22) m t) (ht : TOK B m t) {k : Nat} (hk : k < 12) (hn : sl k = 2) {x0 x1 : Int32} (e0 : x0 = chr k 0) (e1 : x1 = chr k 1) : Cti G yX5_isTwo cX5_isTwo 3 .boolean 1 21 [.ref (mo G), .int x0, .int x1] g (fun r g' => r = bi (nmk B k t) ∧ g = g') := by
  refine ent_z (by decide) (Nat.le_of_ble_eq_true rfl) [some (.ref (mo G)), some (.int x0), some (.int x1)] rfl ?_
  intro X C hR
  have C : CX X G RX5 cX5_isTwo 3 1 21 := C
  have hc : nmk B k t = (iw t 2 && (decide (bat B m t.2.1 = x0) && decide (bat B m (t.2.1 + 1) = x1))) := by
    rw [nmk_iw (fun j hj => (hB.2 j hj).1) ht hk hn, al2]
    subst e0; subst e1
    rfl
  refine j_al0 0 C dX5_isTwo_0 ?_
  refine j_iconst 1 C dX5_isTwo_1 ic_2 ?_
  refine j_vi 2 C dX5_isTwo_2 mv_X5_isWord lk_X5_240 (c_X5_isWord hB hV ht (n := 2) (by decide)) rc_m rfl rfl ⟨(Nat.le_of_ble_eq_true rfl), (Nat.le_of_ble_eq_true rfl)⟩ (Nat.le_of_ble_eq_true rfl) (fun r2 g2 hp2 => ?_)
  obtain ⟨rfl, rfl⟩ := hp2
  refine j_ifeq 5 38 C dX5_isTwo_5 (by decide) (fun c5 => ?_) (fun c5 => ?_)
  · have v5 := bi_0 c5
    refine j_iconst 38 C dX5_isTwo_38 ic_0 ?_
    exact hR dX5_isTwo_39 (by first | exact Or.inl rfl | exact Or.inr rfl) ⟨by rw [hc, v5]; rfl, rfl⟩
  · have v5 := bi_n c5
    refine j_al0 8 C dX5_isTwo_8 ?_
    refine j_al0 9 C dX5_isTwo_9 ?_
    refine jg_X5_219 10 C dX5_isTwo_10 ?_
    refine j_top (nI t.2.1) hV.2.2.1 ?_
    refine j_vi 13 C dX5_isTwo_13 mv_X5_byteAt lk_X5_222 (c_X5_byteAt hB hV.1 (j := t.2.1) (by have := hB.1; have := ht.1; have := ht.2.1; omega)) rc_m rfl rfl ⟨(Nat.le_of_ble_eq_true rfl), (Nat.le_of_ble_eq_true rfl)⟩ (Nat.le_of_ble_eq_true rfl) (fun r13 g13 hp13 => ?_)
    obtain ⟨rfl, rfl⟩ := hp13
    refine j_il1 16 C dX5_isTwo_16 ?_
    refine j_icne 17 38 C dX5_isTwo_17 (by decide) (fun c17 => ?_) (fun c17 => ?_)
    · refine j_iconst 38 C dX5_isTwo_38 ic_0 ?_
      exact hR dX5_isTwo_39 (by first | exact Or.inl rfl | exact Or.inr rfl) ⟨by rw [hc, v5, decide_eq_false c17]; rfl, rfl⟩
    · refine j_al0 20 C dX5_isTwo_20 ?_
      refine j_al0 21 C dX5_isTwo_21 ?_
      refine jg_X5_219 22 C dX5_isTwo_22 ?_
      refine j_top (nI t.2.1) hV.2.2.1 ?_
      refine j_iconst 25 C dX5_isTwo_25 ic_1 ?_
      refine j_iadd 26 C dX5_isTwo_26 ?_
      refine j_top (nI (t.2.1 + 1)) (nI_add _ 1) ?_
      refine j_vi 27 C dX5_isTwo_27 mv_X5_byteAt lk_X5_222 (c_X5_byteAt hB hV.1 (j := t.2.1 + 1) (by have := hB.1; have := ht.1; have := ht.2.1; omega)) rc_m rfl rfl ⟨(Nat.le_of_ble_eq_true rfl), (Nat.le_of_ble_eq_true rfl)⟩ (Nat.le_of_ble_eq_true rfl) (fun r27 g27 hp27 => ?_)
      obtain ⟨rfl, rfl⟩ := hp27
      refine j_il2 30 C dX5_isTwo_30 ?_
      refine j_icne 31 38 C dX5_isTwo_31 (by decide) (fun c31 => ?_) (fun c31 => ?_)
      · refine j_iconst 38 C dX5_isTwo_38 ic_0 ?_
        exact hR dX5_isTwo_39 (by first | exact Or.inl rfl | exact Or.inr rfl) ⟨by rw [hc, v5, decide_eq_true c17, decide_eq_false c31]; rfl, rfl⟩
      · refine j_iconst 34 C dX5_isTwo_34 ic_1 ?_
        refine j_goto 35 39 C dX5_isTwo_35 (by decide) ?_
        exact hR dX5_isTwo_39 (by first | exact Or.inl rfl | exact Or.inr rfl) ⟨by rw [hc, v5, decide_eq_true c17, decide_eq_true c31]; rfl, rfl⟩
set_option maxRecDepth 20000 in
theorem c_X5_kindHere {G : GT} {g : Mem} {B : Nat → Nat} {m : Nat} (hB : BYM (g 17) B m) {t : Tk} (hV : TKM (g 22) m t) (ht : TOK B m t) : Cti G yX5_kindHere cX5_kindHere 1 .int 3 71 [.ref (mo G)] g (fun r g' => r = ff (fun k => nmk B (5 + k) t) 0 7 ∧ g = g') := by
  refine ent_i (by decide) (Nat.le_of_ble_eq_true rfl) [some (.ref (mo G))] rfl ?_
  intro X C hR
  have C : CX X G RX5 cX5_kindHere 1 3 71 := C
  have hc8 : nmk B 8 t = (iw t 7 && ((h3 B m t.2.1 0 115 99 104 && h3 B m t.2.1 3 111 108 97) && h3 B m t.2.1 4 108 97 114)) := by
    rw [nmk_iw (fun j hj => (hB.2 j hj).1) ht (by decide) (show sl 8 = 7 by decide), al7]
    rfl
  have hc10 : nmk B 10 t = (iw t 3 && h3 B m t.2.1 0 111 108 100) := by
    rw [nmk_iw (fun j hj => (hB.2 j hj).1) ht (by decide) (show sl 10 = 3 by decide), al3]
    rfl
  refine j_al0 0 C dX5_kindHere_0 ?_
  refine j_bipush 1 C dX5_kindHere_1 bp_109 ?_
  refine j_bipush 3 C dX5_kindHere_3 bp_111 ?_
  refine j_bipush 5 C dX5_kindHere_5 bp_116 ?_
  refine j_bipush 7 C dX5_kindHere_7 bp_104 ?_
  refine j_vi 9 C dX5_kindHere_9 mv_X5_isFour lk_X5_250 (c_X5_isFour hB hV ht (k := 5) (by decide) (by decide) (by decide) (by decide) (by decide) (by decide)) rc_m rfl rfl ⟨(Nat.le_of_ble_eq_true rfl), (Nat.le_of_ble_eq_true rfl)⟩ (Nat.le_of_ble_eq_true rfl) (fun r9 g9 hp9 => ?_)
  obtain ⟨rfl, rfl⟩ := hp9
  refine j_ifeq 12 17 C dX5_kindHere_12 (by decide) (fun c12 => ?_) (fun c12 => ?_)
  · have v12 := bi_0 c12
    refine j_al0 17 C dX5_kindHere_17 ?_
    refine j_bipush 18 C dX5_kindHere_18 bp_108 ?_
    refine j_bipush 20 C dX5_kindHere_20 bp_97 ?_
    refine j_bipush 22 C dX5_kindHere_22 bp_114 ?_
    refine j_bipush 24 C dX5_kindHere_24 bp_118 ?_
    refine j_bipush 26 C dX5_kindHere_26 bp_97 ?_
    refine j_vi 28 C dX5_kindHere_28 mv_X5_isFive lk_X5_253 (c_X5_isFive hB hV ht (k := 6) (by decide) (by decide) (by decide) (by decide) (by decide) (by decide) (by decide)) rc_m rfl rfl ⟨(Nat.le_of_ble_eq_true rfl), (Nat.le_of_ble_eq_true rfl)⟩ (Nat.le_of_ble_eq_true rfl) (fun r28 g28 hp28 => ?_)
    obtain ⟨rfl, rfl⟩ := hp28
    refine j_ifeq 31 36 C dX5_kindHere_31 (by decide) (fun c31 => ?_) (fun c31 => ?_)
    · have v31 := bi_0 c31
      refine j_al0 36 C dX5_kindHere_36 ?_
      refine j_bipush 37 C dX5_kindHere_37 bp_115 ?_
      refine j_bipush 39 C dX5_kindHere_39 bp_105 ?_
      refine j_bipush 41 C dX5_kindHere_41 bp_108 ?_
      refine j_bipush 43 C dX5_kindHere_43 bp_118 ?_
      refine j_bipush 45 C dX5_kindHere_45 bp_101 ?_
      refine j_bipush 47 C dX5_kindHere_47 bp_114 ?_
      refine j_vi 49 C dX5_kindHere_49 mv_X5_isSix lk_X5_257 (c_X5_isSix hB hV ht (k := 7) (by decide) (by decide) (by decide) (by decide) (by decide) (by decide) (by decide) (by decide)) rc_m rfl rfl ⟨(Nat.le_of_ble_eq_true rfl), (Nat.le_of_ble_eq_true rfl)⟩ (Nat.le_of_ble_eq_true rfl) (fun r49 g49 hp49 => ?_)
      obtain ⟨rfl, rfl⟩ := hp49
      refine j_ifeq 52 57 C dX5_kindHere_52 (by decide) (fun c52 => ?_) (fun c52 => ?_)
      · have v52 := bi_0 c52
        refine j_al0 57 C dX5_kindHere_57 ?_
        refine j_bipush 58 C dX5_kindHere_58 bp_7 ?_
        refine j_vi 60 C dX5_kindHere_60 mv_X5_isWord lk_X5_240 (c_X5_isWord hB hV ht (n := 7) (by decide)) rc_m rfl rfl ⟨(Nat.le_of_ble_eq_true rfl), (Nat.le_of_ble_eq_true rfl)⟩ (Nat.le_of_ble_eq_true rfl) (fun r60 g60 hp60 => ?_)
        obtain ⟨rfl, rfl⟩ := hp60
        refine j_ifeq 63 110 C dX5_kindHere_63 (by decide) (fun c63 => ?_) (fun c63 => ?_)
        · have v63 := bi_0 c63
          refine j_al0 110 C dX5_kindHere_110 ?_
          refine j_bipush 111 C dX5_kindHere_111 bp_98 ?_
          refine j_bipush 113 C dX5_kindHere_113 bp_105 ?_
          refine j_bipush 115 C dX5_kindHere_115 bp_115 ?_
          refine j_bipush 117 C dX5_kindHere_117 bp_104 ?_
          refine j_bipush 119 C dX5_kindHere_119 bp_111 ?_
          refine j_bipush 121 C dX5_kindHere_121 bp_112 ?_
          refine j_vi 123 C dX5_kindHere_123 mv_X5_isSix lk_X5_257 (c_X5_isSix hB hV ht (k := 9) (by decide) (by decide) (by decide) (by decide) (by decide) (by decide) (by decide) (by decide)) rc_m rfl rfl ⟨(Nat.le_of_ble_eq_true rfl), (Nat.le_of_ble_eq_true rfl)⟩ (Nat.le_of_ble_eq_true rfl) (fun r123 g123 hp123 => ?_)
          obtain ⟨rfl, rfl⟩ := hp123
          refine j_ifeq 126 131 C dX5_kindHere_126 (by decide) (fun c126 => ?_) (fun c126 => ?_)
          · have v126 := bi_0 c126
            refine j_al0 131 C dX5_kindHere_131 ?_
            refine j_iconst 132 C dX5_kindHere_132 ic_3 ?_
            refine j_vi 133 C dX5_kindHere_133 mv_X5_isWord lk_X5_240 (c_X5_isWord hB hV ht (n := 3) (by decide)) rc_m rfl rfl ⟨(Nat.le_of_ble_eq_true rfl), (Nat.le_of_ble_eq_true rfl)⟩ (Nat.le_of_ble_eq_true rfl) (fun r133 g133 hp133 => ?_)
            obtain ⟨rfl, rfl⟩ := hp133
            refine j_ifeq 136 155 C dX5_kindHere_136 (by decide) (fun c136 => ?_) (fun c136 => ?_)
            · have v136 := bi_0 c136
              refine j_al0 155 C dX5_kindHere_155 ?_
              refine j_bipush 156 C dX5_kindHere_156 bp_103 ?_
              refine j_bipush 158 C dX5_kindHere_158 bp_114 ?_
              refine j_bipush 160 C dX5_kindHere_160 bp_117 ?_
              refine j_bipush 162 C dX5_kindHere_162 bp_98 ?_
              refine j_vi 164 C dX5_kindHere_164 mv_X5_isFour lk_X5_250 (c_X5_isFour hB hV ht (k := 11) (by decide) (by decide) (by decide) (by decide) (by decide) (by decide)) rc_m rfl rfl ⟨(Nat.le_of_ble_eq_true rfl), (Nat.le_of_ble_eq_true rfl)⟩ (Nat.le_of_ble_eq_true rfl) (fun r164 g164 hp164 => ?_)
              obtain ⟨rfl, rfl⟩ := hp164
              refine j_ifeq 167 175 C dX5_kindHere_167 (by decide) (fun c167 => ?_) (fun c167 => ?_)
              · have v167 := bi_0 c167
                refine j_iconst 175 C dX5_kindHere_175 ic_m1 ?_
                exact hR dX5_kindHere_176 ⟨by show _ = (if nmk B 5 t = true then nI 0 else if nmk B 6 t = true then nI 1 else if nmk B 7 t = true then nI 2 else if nmk B 8 t = true then nI 3 else if nmk B 9 t = true then nI 4 else if nmk B 10 t = true then nI 5 else if nmk B 11 t = true then nI 6 else -1); rw [v12, v31, v52, hc8, v63, v126, hc10, v136, v167]; rfl, rfl⟩
              · have v167 := bi_n c167
                refine j_bipush 170 C dX5_kindHere_170 bp_6 ?_
                refine j_goto 172 176 C dX5_kindHere_172 (by decide) ?_
                exact hR dX5_kindHere_176 ⟨by show _ = (if nmk B 5 t = true then nI 0 else if nmk B 6 t = true then nI 1 else if nmk B 7 t = true then nI 2 else if nmk B 8 t = true then nI 3 else if nmk B 9 t = true then nI 4 else if nmk B 10 t = true then nI 5 else if nmk B 11 t = true then nI 6 else -1); rw [v12, v31, v52, hc8, v63, v126, hc10, v136, v167]; rfl, rfl⟩
            · have v136 := bi_n c136
              refine j_al0 139 C dX5_kindHere_139 ?_
              refine j_iconst 140 C dX5_kindHere_140 ic_0 ?_
              refine j_bipush 141 C dX5_kindHere_141 bp_111 ?_
              refine j_bipush 143 C dX5_kindHere_143 bp_108 ?_
              refine j_bipush 145 C dX5_kindHere_145 bp_100 ?_
              refine j_vi 147 C dX5_kindHere_147 mv_X5_has3 lk_X5_243 (c_X5_has3 hB hV ht (o := 0) (by decide)) rc_m rfl rfl ⟨(Nat.le_of_ble_eq_true rfl), (Nat.le_of_ble_eq_true rfl)⟩ (Nat.le_of_ble_eq_true rfl) (fun r147 g147 hp147 => ?_)
              obtain ⟨rfl, rfl⟩ := hp147
              refine j_ifeq 150 155 C dX5_kindHere_150 (by decide) (fun c150 => ?_) (fun c150 => ?_)
              · have v150 := bi_0 c150
                refine j_al0 155 C dX5_kindHere_155 ?_
                refine j_bipush 156 C dX5_kindHere_156 bp_103 ?_
                refine j_bipush 158 C dX5_kindHere_158 bp_114 ?_
                refine j_bipush 160 C dX5_kindHere_160 bp_117 ?_
                refine j_bipush 162 C dX5_kindHere_162 bp_98 ?_
                refine j_vi 164 C dX5_kindHere_164 mv_X5_isFour lk_X5_250 (c_X5_isFour hB hV ht (k := 11) (by decide) (by decide) (by decide) (by decide) (by decide) (by decide)) rc_m rfl rfl ⟨(Nat.le_of_ble_eq_true rfl), (Nat.le_of_ble_eq_true rfl)⟩ (Nat.le_of_ble_eq_true rfl) (fun r164 g164 hp164 => ?_)
                obtain ⟨rfl, rfl⟩ := hp164
                refine j_ifeq 167 175 C dX5_kindHere_167 (by decide) (fun c167 => ?_) (fun c167 => ?_)
                · have v167 := bi_0 c167
                  refine j_iconst 175 C dX5_kindHere_175 ic_m1 ?_
                  exact hR dX5_kindHere_176 ⟨by show _ = (if nmk B 5 t = true then nI 0 else if nmk B 6 t = true then nI 1 else if nmk B 7 t = true then nI 2 else if nmk B 8 t = true then nI 3 else if nmk B 9 t = true then nI 4 else if nmk B 10 t = true then nI 5 else if nmk B 11 t = true then nI 6 else -1); rw [v12, v31, v52, hc8, v63, v126, hc10, v136, v150, v167]; rfl, rfl⟩
                · have v167 := bi_n c167
                  refine j_bipush 170 C dX5_kindHere_170 bp_6 ?_
                  refine j_goto 172 176 C dX5_kindHere_172 (by decide) ?_
                  exact hR dX5_kindHere_176 ⟨by show _ = (if nmk B 5 t = true then nI 0 else if nmk B 6 t = true then nI 1 else if nmk B 7 t = true then nI 2 else if nmk B 8 t = true then nI 3 else if nmk B 9 t = true then nI 4 else if nmk B 10 t = true then nI 5 else if nmk B 11 t = true then nI 6 else -1); rw [v12, v31, v52, hc8, v63, v126, hc10, v136, v150, v167]; rfl, rfl⟩
              · have v150 := bi_n c150
                refine j_iconst 153 C dX5_kindHere_153 ic_5 ?_
                exact hR dX5_kindHere_154 ⟨by show _ = (if nmk B 5 t = true then nI 0 else if nmk B 6 t = true then nI 1 else if nmk B 7 t = true then nI 2 else if nmk B 8 t = true then nI 3 else if nmk B 9 t = true then nI 4 else if nmk B 10 t = true then nI 5 else if nmk B 11 t = true then nI 6 else -1); rw [v12, v31, v52, hc8, v63, v126, hc10, v136, v150]; rfl, rfl⟩
          · have v126 := bi_n c126
            refine j_iconst 129 C dX5_kindHere_129 ic_4 ?_
            exact hR dX5_kindHere_130 ⟨by show _ = (if nmk B 5 t = true then nI 0 else if nmk B 6 t = true then nI 1 else if nmk B 7 t = true then nI 2 else if nmk B 8 t = true then nI 3 else if nmk B 9 t = true then nI 4 else if nmk B 10 t = true then nI 5 else if nmk B 11 t = true then nI 6 else -1); rw [v12, v31, v52, hc8, v63, v126]; rfl, rfl⟩
        · have v63 := bi_n c63
          refine j_al0 66 C dX5_kindHere_66 ?_
          refine j_iconst 67 C dX5_kindHere_67 ic_0 ?_
          refine j_bipush 68 C dX5_kindHere_68 bp_115 ?_
          refine j_bipush 70 C dX5_kindHere_70 bp_99 ?_
          refine j_bipush 72 C dX5_kindHere_72 bp_104 ?_
          refine j_vi 74 C dX5_kindHere_74 mv_X5_has3 lk_X5_243 (c_X5_has3 hB hV ht (o := 0) (by decide)) rc_m rfl rfl ⟨(Nat.le_of_ble_eq_true rfl), (Nat.le_of_ble_eq_true rfl)⟩ (Nat.le_of_ble_eq_true rfl) (fun r74 g74 hp74 => ?_)
          obtain ⟨rfl, rfl⟩ := hp74
          refine j_ifeq 77 110 C dX5_kindHere_77 (by decide) (fun c77 => ?_) (fun c77 => ?_)
          · have v77 := bi_0 c77
            refine j_al0 110 C dX5_kindHere_110 ?_
            refine j_bipush 111 C dX5_kindHere_111 bp_98 ?_
            refine j_bipush 113 C dX5_kindHere_113 bp_105 ?_
            refine j_bipush 115 C dX5_kindHere_115 bp_115 ?_
            refine j_bipush 117 C dX5_kindHere_117 bp_104 ?_
            refine j_bipush 119 C dX5_kindHere_119 bp_111 ?_
            refine j_bipush 121 C dX5_kindHere_121 bp_112 ?_
            refine j_vi 123 C dX5_kindHere_123 mv_X5_isSix lk_X5_257 (c_X5_isSix hB hV ht (k := 9) (by decide) (by decide) (by decide) (by decide) (by decide) (by decide) (by decide) (by decide)) rc_m rfl rfl ⟨(Nat.le_of_ble_eq_true rfl), (Nat.le_of_ble_eq_true rfl)⟩ (Nat.le_of_ble_eq_true rfl) (fun r123 g123 hp123 => ?_)
            obtain ⟨rfl, rfl⟩ := hp123
            refine j_ifeq 126 131 C dX5_kindHere_126 (by decide) (fun c126 => ?_) (fun c126 => ?_)
            · have v126 := bi_0 c126
              refine j_al0 131 C dX5_kindHere_131 ?_
              refine j_iconst 132 C dX5_kindHere_132 ic_3 ?_
              refine j_vi 133 C dX5_kindHere_133 mv_X5_isWord lk_X5_240 (c_X5_isWord hB hV ht (n := 3) (by decide)) rc_m rfl rfl ⟨(Nat.le_of_ble_eq_true rfl), (Nat.le_of_ble_eq_true rfl)⟩ (Nat.le_of_ble_eq_true rfl) (fun r133 g133 hp133 => ?_)
              obtain ⟨rfl, rfl⟩ := hp133
              refine j_ifeq 136 155 C dX5_kindHere_136 (by decide) (fun c136 => ?_) (fun c136 => ?_)
              · have v136 := bi_0 c136
                refine j_al0 155 C dX5_kindHere_155 ?_
                refine j_bipush 156 C dX5_kindHere_156 bp_103 ?_
                refine j_bipush 158 C dX5_kindHere_158 bp_114 ?_
                refine j_bipush 160 C dX5_kindHere_160 bp_117 ?_
                refine j_bipush 162 C dX5_kindHere_162 bp_98 ?_
                refine j_vi 164 C dX5_kindHere_164 mv_X5_isFour lk_X5_250 (c_X5_isFour hB hV ht (k := 11) (by decide) (by decide) (by decide) (by decide) (by decide) (by decide)) rc_m rfl rfl ⟨(Nat.le_of_ble_eq_true rfl), (Nat.le_of_ble_eq_true rfl)⟩ (Nat.le_of_ble_eq_true rfl) (fun r164 g164 hp164 => ?_)
                obtain ⟨rfl, rfl⟩ := hp164
                refine j_ifeq 167 175 C dX5_kindHere_167 (by decide) (fun c167 => ?_) (fun c167 => ?_)
                · have v167 := bi_0 c167
                  refine j_iconst 175 C dX5_kindHere_175 ic_m1 ?_
                  exact hR dX5_kindHere_176 ⟨by show _ = (if nmk B 5 t = true then nI 0 else if nmk B 6 t = true then nI 1 else if nmk B 7 t = true then nI 2 else if nmk B 8 t = true then nI 3 else if nmk B 9 t = true then nI 4 else if nmk B 10 t = true then nI 5 else if nmk B 11 t = true then nI 6 else -1); rw [v12, v31, v52, hc8, v63, v77, v126, hc10, v136, v167]; rfl, rfl⟩
                · have v167 := bi_n c167
                  refine j_bipush 170 C dX5_kindHere_170 bp_6 ?_
                  refine j_goto 172 176 C dX5_kindHere_172 (by decide) ?_
                  exact hR dX5_kindHere_176 ⟨by show _ = (if nmk B 5 t = true then nI 0 else if nmk B 6 t = true then nI 1 else if nmk B 7 t = true then nI 2 else if nmk B 8 t = true then nI 3 else if nmk B 9 t = true then nI 4 else if nmk B 10 t = true then nI 5 else if nmk B 11 t = true then nI 6 else -1); rw [v12, v31, v52, hc8, v63, v77, v126, hc10, v136, v167]; rfl, rfl⟩
              · have v136 := bi_n c136
                refine j_al0 139 C dX5_kindHere_139 ?_
                refine j_iconst 140 C dX5_kindHere_140 ic_0 ?_
                refine j_bipush 141 C dX5_kindHere_141 bp_111 ?_
                refine j_bipush 143 C dX5_kindHere_143 bp_108 ?_
                refine j_bipush 145 C dX5_kindHere_145 bp_100 ?_
                refine j_vi 147 C dX5_kindHere_147 mv_X5_has3 lk_X5_243 (c_X5_has3 hB hV ht (o := 0) (by decide)) rc_m rfl rfl ⟨(Nat.le_of_ble_eq_true rfl), (Nat.le_of_ble_eq_true rfl)⟩ (Nat.le_of_ble_eq_true rfl) (fun r147 g147 hp147 => ?_)
                obtain ⟨rfl, rfl⟩ := hp147
                refine j_ifeq 150 155 C dX5_kindHere_150 (by decide) (fun c150 => ?_) (fun c150 => ?_)
                · have v150 := bi_0 c150
                  refine j_al0 155 C dX5_kindHere_155 ?_
                  refine j_bipush 156 C dX5_kindHere_156 bp_103 ?_
                  refine j_bipush 158 C dX5_kindHere_158 bp_114 ?_
                  refine j_bipush 160 C dX5_kindHere_160 bp_117 ?_
                  refine j_bipush 162 C dX5_kindHere_162 bp_98 ?_
                  refine j_vi 164 C dX5_kindHere_164 mv_X5_isFour lk_X5_250 (c_X5_isFour hB hV ht (k := 11) (by decide) (by decide) (by decide) (by decide) (by decide) (by decide)) rc_m rfl rfl ⟨(Nat.le_of_ble_eq_true rfl), (Nat.le_of_ble_eq_true rfl)⟩ (Nat.le_of_ble_eq_true rfl) (fun r164 g164 hp164 => ?_)
                  obtain ⟨rfl, rfl⟩ := hp164
                  refine j_ifeq 167 175 C dX5_kindHere_167 (by decide) (fun c167 => ?_) (fun c167 => ?_)
                  · have v167 := bi_0 c167
                    refine j_iconst 175 C dX5_kindHere_175 ic_m1 ?_
                    exact hR dX5_kindHere_176 ⟨by show _ = (if nmk B 5 t = true then nI 0 else if nmk B 6 t = true then nI 1 else if nmk B 7 t = true then nI 2 else if nmk B 8 t = true then nI 3 else if nmk B 9 t = true then nI 4 else if nmk B 10 t = true then nI 5 else if nmk B 11 t = true then nI 6 else -1); rw [v12, v31, v52, hc8, v63, v77, v126, hc10, v136, v150, v167]; rfl, rfl⟩
                  · have v167 := bi_n c167
                    refine j_bipush 170 C dX5_kindHere_170 bp_6 ?_
                    refine j_goto 172 176 C dX5_kindHere_172 (by decide) ?_
                    exact hR dX5_kindHere_176 ⟨by show _ = (if nmk B 5 t = true then nI 0 else if nmk B 6 t = true then nI 1 else if nmk B 7 t = true then nI 2 else if nmk B 8 t = true then nI 3 else if nmk B 9 t = true then nI 4 else if nmk B 10 t = true then nI 5 else if nmk B 11 t = true then nI 6 else -1); rw [v12, v31, v52, hc8, v63, v77, v126, hc10, v136, v150, v167]; rfl, rfl⟩
                · have v150 := bi_n c150
                  refine j_iconst 153 C dX5_kindHere_153 ic_5 ?_
                  exact hR dX5_kindHere_154 ⟨by show _ = (if nmk B 5 t = true then nI 0 else if nmk B 6 t = true then nI 1 else if nmk B 7 t = true then nI 2 else if nmk B 8 t = true then nI 3 else if nmk B 9 t = true then nI 4 else if nmk B 10 t = true then nI 5 else if nmk B 11 t = true then nI 6 else -1); rw [v12, v31, v52, hc8, v63, v77, v126, hc10, v136, v150]; rfl, rfl⟩
            · have v126 := bi_n c126
              refine j_iconst 129 C dX5_kindHere_129 ic_4 ?_
              exact hR dX5_kindHere_130 ⟨by show _ = (if nmk B 5 t = true then nI 0 else if nmk B 6 t = true then nI 1 else if nmk B 7 t = true then nI 2 else if nmk B 8 t = true then nI 3 else if nmk B 9 t = true then nI 4 else if nmk B 10 t = true then nI 5 else if nmk B 11 t = true then nI 6 else -1); rw [v12, v31, v52, hc8, v63, v77, v126]; rfl, rfl⟩
          · have v77 := bi_n c77
            refine j_al0 80 C dX5_kindHere_80 ?_
            refine j_iconst 81 C dX5_kindHere_81 ic_3 ?_
            refine j_bipush 82 C dX5_kindHere_82 bp_111 ?_
            refine j_bipush 84 C dX5_kindHere_84 bp_108 ?_
            refine j_bipush 86 C dX5_kindHere_86 bp_97 ?_
            refine j_vi 88 C dX5_kindHere_88 mv_X5_has3 lk_X5_243 (c_X5_has3 hB hV ht (o := 3) (by decide)) rc_m rfl rfl ⟨(Nat.le_of_ble_eq_true rfl), (Nat.le_of_ble_eq_true rfl)⟩ (Nat.le_of_ble_eq_true rfl) (fun r88 g88 hp88 => ?_)
            obtain ⟨rfl, rfl⟩ := hp88
            refine j_ifeq 91 110 C dX5_kindHere_91 (by decide) (fun c91 => ?_) (fun c91 => ?_)
            · have v91 := bi_0 c91
              refine j_al0 110 C dX5_kindHere_110 ?_
              refine j_bipush 111 C dX5_kindHere_111 bp_98 ?_
              refine j_bipush 113 C dX5_kindHere_113 bp_105 ?_
              refine j_bipush 115 C dX5_kindHere_115 bp_115 ?_
              refine j_bipush 117 C dX5_kindHere_117 bp_104 ?_
              refine j_bipush 119 C dX5_kindHere_119 bp_111 ?_
              refine j_bipush 121 C dX5_kindHere_121 bp_112 ?_
              refine j_vi 123 C dX5_kindHere_123 mv_X5_isSix lk_X5_257 (c_X5_isSix hB hV ht (k := 9) (by decide) (by decide) (by decide) (by decide) (by decide) (by decide) (by decide) (by decide)) rc_m rfl rfl ⟨(Nat.le_of_ble_eq_true rfl), (Nat.le_of_ble_eq_true rfl)⟩ (Nat.le_of_ble_eq_true rfl) (fun r123 g123 hp123 => ?_)
              obtain ⟨rfl, rfl⟩ := hp123
              refine j_ifeq 126 131 C dX5_kindHere_126 (by decide) (fun c126 => ?_) (fun c126 => ?_)
              · have v126 := bi_0 c126
                refine j_al0 131 C dX5_kindHere_131 ?_
                refine j_iconst 132 C dX5_kindHere_132 ic_3 ?_
                refine j_vi 133 C dX5_kindHere_133 mv_X5_isWord lk_X5_240 (c_X5_isWord hB hV ht (n := 3) (by decide)) rc_m rfl rfl ⟨(Nat.le_of_ble_eq_true rfl), (Nat.le_of_ble_eq_true rfl)⟩ (Nat.le_of_ble_eq_true rfl) (fun r133 g133 hp133 => ?_)
                obtain ⟨rfl, rfl⟩ := hp133
                refine j_ifeq 136 155 C dX5_kindHere_136 (by decide) (fun c136 => ?_) (fun c136 => ?_)
                · have v136 := bi_0 c136
                  refine j_al0 155 C dX5_kindHere_155 ?_
                  refine j_bipush 156 C dX5_kindHere_156 bp_103 ?_
                  refine j_bipush 158 C dX5_kindHere_158 bp_114 ?_
                  refine j_bipush 160 C dX5_kindHere_160 bp_117 ?_
                  refine j_bipush 162 C dX5_kindHere_162 bp_98 ?_
                  refine j_vi 164 C dX5_kindHere_164 mv_X5_isFour lk_X5_250 (c_X5_isFour hB hV ht (k := 11) (by decide) (by decide) (by decide) (by decide) (by decide) (by decide)) rc_m rfl rfl ⟨(Nat.le_of_ble_eq_true rfl), (Nat.le_of_ble_eq_true rfl)⟩ (Nat.le_of_ble_eq_true rfl) (fun r164 g164 hp164 => ?_)
                  obtain ⟨rfl, rfl⟩ := hp164
                  refine j_ifeq 167 175 C dX5_kindHere_167 (by decide) (fun c167 => ?_) (fun c167 => ?_)
                  · have v167 := bi_0 c167
                    refine j_iconst 175 C dX5_kindHere_175 ic_m1 ?_
                    exact hR dX5_kindHere_176 ⟨by show _ = (if nmk B 5 t = true then nI 0 else if nmk B 6 t = true then nI 1 else if nmk B 7 t = true then nI 2 else if nmk B 8 t = true then nI 3 else if nmk B 9 t = true then nI 4 else if nmk B 10 t = true then nI 5 else if nmk B 11 t = true then nI 6 else -1); rw [v12, v31, v52, hc8, v63, v77, v91, v126, hc10, v136, v167]; rfl, rfl⟩
                  · have v167 := bi_n c167
                    refine j_bipush 170 C dX5_kindHere_170 bp_6 ?_
                    refine j_goto 172 176 C dX5_kindHere_172 (by decide) ?_
                    exact hR dX5_kindHere_176 ⟨by show _ = (if nmk B 5 t = true then nI 0 else if nmk B 6 t = true then nI 1 else if nmk B 7 t = true then nI 2 else if nmk B 8 t = true then nI 3 else if nmk B 9 t = true then nI 4 else if nmk B 10 t = true then nI 5 else if nmk B 11 t = true then nI 6 else -1); rw [v12, v31, v52, hc8, v63, v77, v91, v126, hc10, v136, v167]; rfl, rfl⟩
                · have v136 := bi_n c136
                  refine j_al0 139 C dX5_kindHere_139 ?_
                  refine j_iconst 140 C dX5_kindHere_140 ic_0 ?_
                  refine j_bipush 141 C dX5_kindHere_141 bp_111 ?_
                  refine j_bipush 143 C dX5_kindHere_143 bp_108 ?_
                  refine j_bipush 145 C dX5_kindHere_145 bp_100 ?_
                  refine j_vi 147 C dX5_kindHere_147 mv_X5_has3 lk_X5_243 (c_X5_has3 hB hV ht (o := 0) (by decide)) rc_m rfl rfl ⟨(Nat.le_of_ble_eq_true rfl), (Nat.le_of_ble_eq_true rfl)⟩ (Nat.le_of_ble_eq_true rfl) (fun r147 g147 hp147 => ?_)
                  obtain ⟨rfl, rfl⟩ := hp147
                  refine j_ifeq 150 155 C dX5_kindHere_150 (by decide) (fun c150 => ?_) (fun c150 => ?_)
                  · have v150 := bi_0 c150
                    refine j_al0 155 C dX5_kindHere_155 ?_
                    refine j_bipush 156 C dX5_kindHere_156 bp_103 ?_
                    refine j_bipush 158 C dX5_kindHere_158 bp_114 ?_
                    refine j_bipush 160 C dX5_kindHere_160 bp_117 ?_
                    refine j_bipush 162 C dX5_kindHere_162 bp_98 ?_
                    refine j_vi 164 C dX5_kindHere_164 mv_X5_isFour lk_X5_250 (c_X5_isFour hB hV ht (k := 11) (by decide) (by decide) (by decide) (by decide) (by decide) (by decide)) rc_m rfl rfl ⟨(Nat.le_of_ble_eq_true rfl), (Nat.le_of_ble_eq_true rfl)⟩ (Nat.le_of_ble_eq_true rfl) (fun r164 g164 hp164 => ?_)
                    obtain ⟨rfl, rfl⟩ := hp164
                    refine j_ifeq 167 175 C dX5_kindHere_167 (by decide) (fun c167 => ?_) (fun c167 => ?_)
                    · have v167 := bi_0 c167
                      refine j_iconst 175 C dX5_kindHere_175 ic_m1 ?_
                      exact hR dX5_kindHere_176 ⟨by show _ = (if nmk B 5 t = true then nI 0 else if nmk B 6 t = true then nI 1 else if nmk B 7 t = true then nI 2 else if nmk B 8 t = true then nI 3 else if nmk B 9 t = true then nI 4 else if nmk B 10 t = true then nI 5 else if nmk B 11 t = true then nI 6 else -1); rw [v12, v31, v52, hc8, v63, v77, v91, v126, hc10, v136, v150, v167]; rfl, rfl⟩
                    · have v167 := bi_n c167
                      refine j_bipush 170 C dX5_kindHere_170 bp_6 ?_
                      refine j_goto 172 176 C dX5_kindHere_172 (by decide) ?_
                      exact hR dX5_kindHere_176 ⟨by show _ = (if nmk B 5 t = true then nI 0 else if nmk B 6 t = true then nI 1 else if nmk B 7 t = true then nI 2 else if nmk B 8 t = true then nI 3 else if nmk B 9 t = true then nI 4 else if nmk B 10 t = true then nI 5 else if nmk B 11 t = true then nI 6 else -1); rw [v12, v31, v52, hc8, v63, v77, v91, v126, hc10, v136, v150, v167]; rfl, rfl⟩
                  · have v150 := bi_n c150
                    refine j_iconst 153 C dX5_kindHere_153 ic_5 ?_
                    exact hR dX5_kindHere_154 ⟨by show _ = (if nmk B 5 t = true then nI 0 else if nmk B 6 t = true then nI 1 else if nmk B 7 t = true then nI 2 else if nmk B 8 t = true then nI 3 else if nmk B 9 t = true then nI 4 else if nmk B 10 t = true then nI 5 else if nmk B 11 t = true then nI 6 else -1); rw [v12, v31, v52, hc8, v63, v77, v91, v126, hc10, v136, v150]; rfl, rfl⟩
              · have v126 := bi_n c126
                refine j_iconst 129 C dX5_kindHere_129 ic_4 ?_
                exact hR dX5_kindHere_130 ⟨by show _ = (if nmk B 5 t = true then nI 0 else if nmk B 6 t = true then nI 1 else if nmk B 7 t = true then nI 2 else if nmk B 8 t = true then nI 3 else if nmk B 9 t = true then nI 4 else if nmk B 10 t = true then nI 5 else if nmk B 11 t = true then nI 6 else -1); rw [v12, v31, v52, hc8, v63, v77, v91, v126]; rfl, rfl⟩
            · have v91 := bi_n c91
              refine j_al0 94 C dX5_kindHere_94 ?_
              refine j_iconst 95 C dX5_kindHere_95 ic_4 ?_
              refine j_bipush 96 C dX5_kindHere_96 bp_108 ?_
              refine j_bipush 98 C dX5_kindHere_98 bp_97 ?_
              refine j_bipush 100 C dX5_kindHere_100 bp_114 ?_
              refine j_vi 102 C dX5_kindHere_102 mv_X5_has3 lk_X5_243 (c_X5_has3 hB hV ht (o := 4) (by decide)) rc_m rfl rfl ⟨(Nat.le_of_ble_eq_true rfl), (Nat.le_of_ble_eq_true rfl)⟩ (Nat.le_of_ble_eq_true rfl) (fun r102 g102 hp102 => ?_)
              obtain ⟨rfl, rfl⟩ := hp102
              refine j_ifeq 105 110 C dX5_kindHere_105 (by decide) (fun c105 => ?_) (fun c105 => ?_)
              · have v105 := bi_0 c105
                refine j_al0 110 C dX5_kindHere_110 ?_
                refine j_bipush 111 C dX5_kindHere_111 bp_98 ?_
                refine j_bipush 113 C dX5_kindHere_113 bp_105 ?_
                refine j_bipush 115 C dX5_kindHere_115 bp_115 ?_
                refine j_bipush 117 C dX5_kindHere_117 bp_104 ?_
                refine j_bipush 119 C dX5_kindHere_119 bp_111 ?_
                refine j_bipush 121 C dX5_kindHere_121 bp_112 ?_
                refine j_vi 123 C dX5_kindHere_123 mv_X5_isSix lk_X5_257 (c_X5_isSix hB hV ht (k := 9) (by decide) (by decide) (by decide) (by decide) (by decide) (by decide) (by decide) (by decide)) rc_m rfl rfl ⟨(Nat.le_of_ble_eq_true rfl), (Nat.le_of_ble_eq_true rfl)⟩ (Nat.le_of_ble_eq_true rfl) (fun r123 g123 hp123 => ?_)
                obtain ⟨rfl, rfl⟩ := hp123
                refine j_ifeq 126 131 C dX5_kindHere_126 (by decide) (fun c126 => ?_) (fun c126 => ?_)
                · have v126 := bi_0 c126
                  refine j_al0 131 C dX5_kindHere_131 ?_
                  refine j_iconst 132 C dX5_kindHere_132 ic_3 ?_
                  refine j_vi 133 C dX5_kindHere_133 mv_X5_isWord lk_X5_240 (c_X5_isWord hB hV ht (n := 3) (by decide)) rc_m rfl rfl ⟨(Nat.le_of_ble_eq_true rfl), (Nat.le_of_ble_eq_true rfl)⟩ (Nat.le_of_ble_eq_true rfl) (fun r133 g133 hp133 => ?_)
                  obtain ⟨rfl, rfl⟩ := hp133
                  refine j_ifeq 136 155 C dX5_kindHere_136 (by decide) (fun c136 => ?_) (fun c136 => ?_)
                  · have v136 := bi_0 c136
                    refine j_al0 155 C dX5_kindHere_155 ?_
                    refine j_bipush 156 C dX5_kindHere_156 bp_103 ?_
                    refine j_bipush 158 C dX5_kindHere_158 bp_114 ?_
                    refine j_bipush 160 C dX5_kindHere_160 bp_117 ?_
                    refine j_bipush 162 C dX5_kindHere_162 bp_98 ?_
                    refine j_vi 164 C dX5_kindHere_164 mv_X5_isFour lk_X5_250 (c_X5_isFour hB hV ht (k := 11) (by decide) (by decide) (by decide) (by decide) (by decide) (by decide)) rc_m rfl rfl ⟨(Nat.le_of_ble_eq_true rfl), (Nat.le_of_ble_eq_true rfl)⟩ (Nat.le_of_ble_eq_true rfl) (fun r164 g164 hp164 => ?_)
                    obtain ⟨rfl, rfl⟩ := hp164
                    refine j_ifeq 167 175 C dX5_kindHere_167 (by decide) (fun c167 => ?_) (fun c167 => ?_)
                    · have v167 := bi_0 c167
                      refine j_iconst 175 C dX5_kindHere_175 ic_m1 ?_
                      exact hR dX5_kindHere_176 ⟨by show _ = (if nmk B 5 t = true then nI 0 else if nmk B 6 t = true then nI 1 else if nmk B 7 t = true then nI 2 else if nmk B 8 t = true then nI 3 else if nmk B 9 t = true then nI 4 else if nmk B 10 t = true then nI 5 else if nmk B 11 t = true then nI 6 else -1); rw [v12, v31, v52, hc8, v63, v77, v91, v105, v126, hc10, v136, v167]; rfl, rfl⟩
                    · have v167 := bi_n c167
                      refine j_bipush 170 C dX5_kindHere_170 bp_6 ?_
                      refine j_goto 172 176 C dX5_kindHere_172 (by decide) ?_
                      exact hR dX5_kindHere_176 ⟨by show _ = (if nmk B 5 t = true then nI 0 else if nmk B 6 t = true then nI 1 else if nmk B 7 t = true then nI 2 else if nmk B 8 t = true then nI 3 else if nmk B 9 t = true then nI 4 else if nmk B 10 t = true then nI 5 else if nmk B 11 t = true then nI 6 else -1); rw [v12, v31, v52, hc8, v63, v77, v91, v105, v126, hc10, v136, v167]; rfl, rfl⟩
                  · have v136 := bi_n c136
                    refine j_al0 139 C dX5_kindHere_139 ?_
                    refine j_iconst 140 C dX5_kindHere_140 ic_0 ?_
                    refine j_bipush 141 C dX5_kindHere_141 bp_111 ?_
                    refine j_bipush 143 C dX5_kindHere_143 bp_108 ?_
                    refine j_bipush 145 C dX5_kindHere_145 bp_100 ?_
                    refine j_vi 147 C dX5_kindHere_147 mv_X5_has3 lk_X5_243 (c_X5_has3 hB hV ht (o := 0) (by decide)) rc_m rfl rfl ⟨(Nat.le_of_ble_eq_true rfl), (Nat.le_of_ble_eq_true rfl)⟩ (Nat.le_of_ble_eq_true rfl) (fun r147 g147 hp147 => ?_)
                    obtain ⟨rfl, rfl⟩ := hp147
                    refine j_ifeq 150 155 C dX5_kindHere_150 (by decide) (fun c150 => ?_) (fun c150 => ?_)
                    · have v150 := bi_0 c150
                      refine j_al0 155 C dX5_kindHere_155 ?_
                      refine j_bipush 156 C dX5_kindHere_156 bp_103 ?_
                      refine j_bipush 158 C dX5_kindHere_158 bp_114 ?_
                      refine j_bipush 160 C dX5_kindHere_160 bp_117 ?_
                      refine j_bipush 162 C dX5_kindHere_162 bp_98 ?_
                      refine j_vi 164 C dX5_kindHere_164 mv_X5_isFour lk_X5_250 (c_X5_isFour hB hV ht (k := 11) (by decide) (by decide) (by decide) (by decide) (by decide) (by decide)) rc_m rfl rfl ⟨(Nat.le_of_ble_eq_true rfl), (Nat.le_of_ble_eq_true rfl)⟩ (Nat.le_of_ble_eq_true rfl) (fun r164 g164 hp164 => ?_)
                      obtain ⟨rfl, rfl⟩ := hp164
                      refine j_ifeq 167 175 C dX5_kindHere_167 (by decide) (fun c167 => ?_) (fun c167 => ?_)
                      · have v167 := bi_0 c167
                        refine j_iconst 175 C dX5_kindHere_175 ic_m1 ?_
                        exact hR dX5_kindHere_176 ⟨by show _ = (if nmk B 5 t = true then nI 0 else if nmk B 6 t = true then nI 1 else if nmk B 7 t = true then nI 2 else if nmk B 8 t = true then nI 3 else if nmk B 9 t = true then nI 4 else if nmk B 10 t = true then nI 5 else if nmk B 11 t = true then nI 6 else -1); rw [v12, v31, v52, hc8, v63, v77, v91, v105, v126, hc10, v136, v150, v167]; rfl, rfl⟩
                      · have v167 := bi_n c167
                        refine j_bipush 170 C dX5_kindHere_170 bp_6 ?_
                        refine j_goto 172 176 C dX5_kindHere_172 (by decide) ?_
                        exact hR dX5_kindHere_176 ⟨by show _ = (if nmk B 5 t = true then nI 0 else if nmk B 6 t = true then nI 1 else if nmk B 7 t = true then nI 2 else if nmk B 8 t = true then nI 3 else if nmk B 9 t = true then nI 4 else if nmk B 10 t = true then nI 5 else if nmk B 11 t = true then nI 6 else -1); rw [v12, v31, v52, hc8, v63, v77, v91, v105, v126, hc10, v136, v150, v167]; rfl, rfl⟩
                    · have v150 := bi_n c150
                      refine j_iconst 153 C dX5_kindHere_153 ic_5 ?_
                      exact hR dX5_kindHere_154 ⟨by show _ = (if nmk B 5 t = true then nI 0 else if nmk B 6 t = true then nI 1 else if nmk B 7 t = true then nI 2 else if nmk B 8 t = true then nI 3 else if nmk B 9 t = true then nI 4 else if nmk B 10 t = true then nI 5 else if nmk B 11 t = true then nI 6 else -1); rw [v12, v31, v52, hc8, v63, v77, v91, v105, v126, hc10, v136, v150]; rfl, rfl⟩
                · have v126 := bi_n c126
                  refine j_iconst 129 C dX5_kindHere_129 ic_4 ?_
                  exact hR dX5_kindHere_130 ⟨by show _ = (if nmk B 5 t = true then nI 0 else if nmk B 6 t = true then nI 1 else if nmk B 7 t = true then nI 2 else if nmk B 8 t = true then nI 3 else if nmk B 9 t = true then nI 4 else if nmk B 10 t = true then nI 5 else if nmk B 11 t = true then nI 6 else -1); rw [v12, v31, v52, hc8, v63, v77, v91, v105, v126]; rfl, rfl⟩
              · have v105 := bi_n c105
                refine j_iconst 108 C dX5_kindHere_108 ic_3 ?_
                exact hR dX5_kindHere_109 ⟨by show _ = (if nmk B 5 t = true then nI 0 else if nmk B 6 t = true then nI 1 else if nmk B 7 t = true then nI 2 else if nmk B 8 t = true then nI 3 else if nmk B 9 t = true then nI 4 else if nmk B 10 t = true then nI 5 else if nmk B 11 t = true then nI 6 else -1); rw [v12, v31, v52, hc8, v63, v77, v91, v105]; rfl, rfl⟩
      · have v52 := bi_n c52
        refine j_iconst 55 C dX5_kindHere_55 ic_2 ?_
        exact hR dX5_kindHere_56 ⟨by show _ = (if nmk B 5 t = true then nI 0 else if nmk B 6 t = true then nI 1 else if nmk B 7 t = true then nI 2 else if nmk B 8 t = true then nI 3 else if nmk B 9 t = true then nI 4 else if nmk B 10 t = true then nI 5 else if nmk B 11 t = true then nI 6 else -1); rw [v12, v31, v52]; rfl, rfl⟩
    · have v31 := bi_n c31
      refine j_iconst 34 C dX5_kindHere_34 ic_1 ?_
      exact hR dX5_kindHere_35 ⟨by show _ = (if nmk B 5 t = true then nI 0 else if nmk B 6 t = true then nI 1 else if nmk B 7 t = true then nI 2 else if nmk B 8 t = true then nI 3 else if nmk B 9 t = true then nI 4 else if nmk B 10 t = true then nI 5 else if nmk B 11 t = true then nI 6 else -1); rw [v12, v31]; rfl, rfl⟩
  · have v12 := bi_n c12
    refine j_iconst 15 C dX5_kindHere_15 ic_0 ?_
    exact hR dX5_kindHere_16 ⟨by show _ = (if nmk B 5 t = true then nI 0 else if nmk B 6 t = true then nI 1 else if nmk B 7 t = true then nI 2 else if nmk B 8 t = true then nI 3 else if nmk B 9 t = true then nI 4 else if nmk B 10 t = true then nI 5 else if nmk B 11 t = true then nI 6 else -1); rw [v12]; rfl, rfl⟩
set_option maxRecDepth 20000 in
theorem c_X5_empties {G : GT} {g : Mem} {P : Nat} (hP : P < 6) : Ctv G yX5_empties cX5_empties 3 0 0 [.ref (mo G), .int (nI P)] g (fun g' => g' = ub g 12 (hol (g 12) P 8)) := by
  refine ent_v (by decide) (Nat.le_of_ble_eq_true rfl) [some (.ref (mo G)), some (.int (nI P)), none] rfl ?_
  intro X C hR
  have C : CX X G RX5 cX5_empties 3 0 0 := C
  refine j_iconst 0 C dX5_empties_0 ic_0 ?_
  refine j_is2 1 C dX5_empties_1 rfl (Nat.le_of_ble_eq_true rfl) ?_
  have loop : ∀ n k, k + n = 8 → J X G 3 (ub g 12 (hol (g 12) P k)) 2 [some (.ref (mo G)), some (.int (nI P)), some (.int (nI k))] [] := by
    intro n
    induction n with
    | zero =>
      intro k hk
      obtain rfl : k = 8 := by omega
      refine j_il2 2 C dX5_empties_2 ?_
      refine j_bipush 3 C dX5_empties_3 bp_8 ?_
      refine j_icge 5 28 C dX5_empties_5 (by decide) (fun c5 => ?_) (fun c5 => ?_)
      · exact hR dX5_empties_28 rfl
      · exact absurd (nI_le (Nat.le_refl _) (by decide)) c5
    | succ n ih =>
      intro k hk
      refine j_il2 2 C dX5_empties_2 ?_
      refine j_bipush 3 C dX5_empties_3 bp_8 ?_
      refine j_icge 5 28 C dX5_empties_5 (by decide) (fun c5 => ?_) (fun c5 => ?_)
      · exact absurd c5 (nI_ge (a := k) (b := 8) (by omega) (by decide))
      · refine j_al0 8 C dX5_empties_8 ?_
        refine jg_X5_7 9 C dX5_empties_9 ?_
        refine j_iconst 12 C dX5_empties_12 ic_3 ?_
        refine j_bipush 13 C dX5_empties_13 bp_8 ?_
        refine j_il1 15 C dX5_empties_15 ?_
        refine j_imul 16 C dX5_empties_16 ?_
        refine j_iadd 17 C dX5_empties_17 ?_
        refine j_il2 18 C dX5_empties_18 ?_
        refine j_iadd 19 C dX5_empties_19 ?_
        refine j_top (nI (3 + (8 * P + k))) (ix_wa P k) ?_
        refine j_iconst 20 C dX5_empties_20 ic_0 ?_
        refine js_A0 21 (by omega) C dX5_empties_21 ?_
        rw [ub_ub, ub_s]
        refine j_inc2 22 C dX5_empties_22 rfl (nI_inc _) (Nat.le_of_ble_eq_true rfl) ?_
        refine j_goto 25 2 C dX5_empties_25 (by decide) ?_
        exact ih (k + 1) (by omega)
  have h9 := loop 8 0 rfl
  rw [show ub g 12 (hol (g 12) P 0) = g from ub_id] at h9
  exact h9
