/-! what the start gives: statics, String constants -/
def FL : List Cond := flatC (Jvm.Cond.and given_1 narrow_1)
theorem FL_of {c : Cond} (i : Nat) (h : FL[i]? = some c) : c ∈ FL := List.mem_of_getElem? h
theorem LT_of {c : Cond} (i : Nat) (h : lw_tbl[i]? = some c) : c ∈ lw_tbl := List.mem_of_getElem? h
abbrev tL : Term := .static "MothTongue" "LEAST_TRAIT" "[I"
abbrev tM : Term := .static "MothTongue" "MOST_TRAIT" "[I"
abbrev tU : Term := .static "MothTongue$Kinds" "UPPER" "[I"
abbrev tS (i : Nat) : Term := .string "MothTongue$Tape" (sIdx.getD i 0)
abbrev tV (i : Nat) : Term := .field (tS i) "java/lang/String" "value" "[B"
theorem f_La : FL[5]? = some (.arrayOf tL .int) := by decide +kernel
theorem f_Ll : FL[6]? = some (.eq (.length tL) (.int (Int32.ofNat 4))) := by decide +kernel
theorem f_Le : ∀ j, j < 4 → FL[[7, 8, 9, 10].getD j 0]? = some (.eq (.elem tL (.int (Int32.ofNat j))) (.int (kLeast.getD j 0))) := by decide +kernel
theorem f_Ma : FL[12]? = some (.arrayOf tM .int) := by decide +kernel
theorem f_Ml : FL[13]? = some (.eq (.length tM) (.int (Int32.ofNat 4))) := by decide +kernel
theorem f_Me : ∀ j, j < 4 → FL[[14, 15, 16, 17].getD j 0]? = some (.eq (.elem tM (.int (Int32.ofNat j))) (.int (kMost.getD j 0))) := by decide +kernel
theorem f_Ua : FL[24]? = some (.arrayOf tU .int) := by decide +kernel
theorem f_Ul : FL[25]? = some (.eq (.length tU) (.int (Int32.ofNat 7))) := by decide +kernel
theorem f_Ue : ∀ j, j < 7 → FL[[26, 27, 28, 29, 30, 31, 32].getD j 0]? = some (.eq (.elem tU (.int (Int32.ofNat j))) (.int (kUpper.getD j 0))) := by decide +kernel
theorem f_cs : FL[18]? = some (.eq (.static "java/lang/String" "COMPACT_STRINGS" "Z") (.int 1)) := by decide +kernel
theorem f_si : FL[19]? = some (.isRef (.static "jdk/internal/util/Preconditions" "SIOOBE_FORMATTER" "Ljava/util/function/BiFunction;")) := by decide +kernel
theorem f_ex : ∀ i, i < 12 → FL[[33, 41, 149, 164, 183, 133, 51, 62, 75, 90, 105, 118].getD i 0]? = some (.exactly (tS i) "java/lang/String") := by decide +kernel
theorem f_co : ∀ i, i < 12 → FL[[34, 42, 150, 165, 184, 134, 52, 63, 76, 91, 106, 119].getD i 0]? = some (.eq (.field (tS i) "java/lang/String" "coder" "B") (.int 0)) := by decide +kernel
theorem f_ar : ∀ i, i < 12 → FL[[35, 43, 151, 166, 185, 135, 53, 64, 77, 92, 107, 120].getD i 0]? = some (.arrayOf (tV i) .byte) := by decide +kernel
theorem f_le : ∀ i, i < 12 → FL[[36, 44, 152, 167, 186, 136, 54, 65, 78, 93, 108, 121].getD i 0]? = some (.eq (.length (tV i)) (.int (Int32.ofNat (sLen.getD i 0)))) := by decide +kernel
theorem f_el : ∀ i, i < 12 → ∀ j, j < sLen.getD i 0 → FL[([[37, 38, 39, 40], [45, 46, 47, 48, 49], [153, 154], [168, 169, 170, 171, 172], [187, 188, 189], [137, 138, 139, 140], [55, 56, 57, 58, 59], [66, 67, 68, 69, 70, 71], [79, 80, 81, 82, 83, 84, 85], [94, 95, 96, 97, 98, 99], [109, 110, 111], [122, 123, 124, 125]].getD i []).getD j 0]? = some (.eq (.elem (tV i) (.int (Int32.ofNat j))) (.int ((sByt.getD i []).getD j 0))) := by decide +kernel
theorem f_ne : ∀ i, i < 12 → ∀ j, j < 12 → i ≠ j → FL[([[0, 50, 155, 173, 190, 141, 60, 72, 86, 100, 112, 126], [50, 0, 156, 174, 191, 142, 61, 73, 87, 101, 113, 127], [155, 156, 0, 182, 199, 163, 157, 158, 159, 160, 161, 162], [173, 174, 182, 0, 200, 181, 175, 176, 177, 178, 179, 180], [190, 191, 199, 200, 0, 198, 192, 193, 194, 195, 196, 197], [141, 142, 163, 181, 198, 0, 143, 144, 145, 146, 147, 148], [60, 61, 157, 175, 192, 143, 0, 74, 88, 102, 114, 128], [72, 73, 158, 176, 193, 144, 74, 0, 89, 103, 115, 129], [86, 87, 159, 177, 194, 145, 88, 89, 0, 104, 116, 130], [100, 101, 160, 178, 195, 146, 102, 103, 104, 0, 117, 131], [112, 113, 161, 179, 196, 147, 114, 115, 116, 117, 0, 132], [126, 127, 162, 180, 197, 148, 128, 129, 130, 131, 132, 0]].getD i []).getD j 0]? = some (.not (.eq (tS i) (tS j))) ∨ FL[([[0, 50, 155, 173, 190, 141, 60, 72, 86, 100, 112, 126], [50, 0, 156, 174, 191, 142, 61, 73, 87, 101, 113, 127], [155, 156, 0, 182, 199, 163, 157, 158, 159, 160, 161, 162], [173, 174, 182, 0, 200, 181, 175, 176, 177, 178, 179, 180], [190, 191, 199, 200, 0, 198, 192, 193, 194, 195, 196, 197], [141, 142, 163, 181, 198, 0, 143, 144, 145, 146, 147, 148], [60, 61, 157, 175, 192, 143, 0, 74, 88, 102, 114, 128], [72, 73, 158, 176, 193, 144, 74, 0, 89, 103, 115, 129], [86, 87, 159, 177, 194, 145, 88, 89, 0, 104, 116, 130], [100, 101, 160, 178, 195, 146, 102, 103, 104, 0, 117, 131], [112, 113, 161, 179, 196, 147, 114, 115, 116, 117, 0, 132], [126, 127, 162, 180, 197, 148, 128, 129, 130, 131, 132, 0]].getD i []).getD j 0]? = some (.not (.eq (tS j) (tS i))) := by decide +kernel
theorem w_L : Cond.laysStatic "MothTongue" "LEAST_TRAIT" "[I" ∈ lw_tbl := LT_of 325 (by decide +kernel)
theorem w_M : Cond.laysStatic "MothTongue" "MOST_TRAIT" "[I" ∈ lw_tbl := LT_of 327 (by decide +kernel)
theorem w_U : Cond.laysStatic "MothTongue$Kinds" "UPPER" "[I" ∈ lw_tbl := LT_of 684 (by decide +kernel)
theorem w_cs : Cond.laysStatic "java/lang/String" "COMPACT_STRINGS" "Z" ∈ lw_tbl := LT_of 585 (by decide +kernel)
theorem w_si : Cond.laysStatic "jdk/internal/util/Preconditions" "SIOOBE_FORMATTER" "Ljava/util/function/BiFunction;" ∈ lw_tbl := LT_of 601 (by decide +kernel)
theorem w_ao : Cond.arrayOver (.object "MothTongue$Sheet") ∈ lw_tbl := LT_of 148 (by decide +kernel)
theorem w_sr : ∀ i, i < 12 → lw_tbl[[571, 642, 659, 667, 668, 652, 646, 647, 648, 649, 650, 651].getD i 0]? = some (.stringRef "MothTongue$Tape" (sIdx.getD i 0) (sTxt.getD i "")) := by decide +kernel
theorem w_n1 : Cond.fieldLinkNest "MothTongue$Tape" 73 "MothTongue" "MOST_TRAIT" "[I" "MothTongue" ∈ lw_tbl := LT_of 660 (by decide +kernel)
theorem w_n2 : Cond.fieldLinkNest "MothTongue$Tape" 85 "MothTongue" "LEAST_TRAIT" "[I" "MothTongue" ∈ lw_tbl := LT_of 665 (by decide +kernel)
theorem w_n3 : Cond.methodLinkNest "MothTongue$Tape" 102 ⟨"MothTongue", "within", "(III)Z"⟩ "MothTongue" ∈ lw_tbl := LT_of 636 (by decide +kernel)
theorem w_n4 : Cond.methodLinkNest RX4 27 yX3_init "MothTongue" ∈ lw_tbl := LT_of 122 (by decide +kernel)
theorem w_n5 : Cond.methodLinkNest RX4 46 yX2_init "MothTongue" ∈ lw_tbl := LT_of 150 (by decide +kernel)
/-- the statics and the Strings, told of all that lies at the start -/
def E0 (s : State) (K V S : Nat → Nat) (v : Value) : Prop :=
  (va_Z "MothTongue" "LEAST_TRAIT" "[I" (.ref (S 0)) (fun q => s.heap.size ≤ q) s s.heap ∧ va_T .int (S 0) 4 (fun i => .int (kLeast.getD i 0)) (fun q => s.heap.size ≤ q) s s.heap) ∧
  (va_Z "MothTongue" "MOST_TRAIT" "[I" (.ref (S 1)) (fun q => s.heap.size ≤ q) s s.heap ∧ va_T .int (S 1) 4 (fun i => .int (kMost.getD i 0)) (fun q => s.heap.size ≤ q) s s.heap) ∧
  (va_Z "MothTongue$Kinds" "UPPER" "[I" (.ref (S 2)) (fun q => s.heap.size ≤ q) s s.heap ∧ va_T .int (S 2) 7 (fun i => .int (kUpper.getD i 0)) (fun q => s.heap.size ≤ q) s s.heap) ∧
  va_Z "java/lang/String" "COMPACT_STRINGS" "Z" (.int 1) (fun q => s.heap.size ≤ q) s s.heap ∧
  (va_Z "jdk/internal/util/Preconditions" "SIOOBE_FORMATTER" "Ljava/util/function/BiFunction;" v (fun q => s.heap.size ≤ q) s s.heap ∧ (v = .null ∨ ∃ a, v = .ref a)) ∧
  vk_S 12 sLen sByt K V (fun q => s.heap.size ≤ q) s s.heap ∧
  (∀ i : Nat, i < 12 → vk_R "MothTongue$Tape" (sIdx.getD i 0) (sTxt.getD i "") (K i) s) ∧
  va_Nw (.fieldLinkNest "MothTongue$Tape" 73 "MothTongue" "MOST_TRAIT" "[I" "MothTongue") s ∧ va_Nw (.fieldLinkNest "MothTongue$Tape" 85 "MothTongue" "LEAST_TRAIT" "[I" "MothTongue") s ∧ va_Nw (.methodLinkNest "MothTongue$Tape" 102 ⟨"MothTongue", "within", "(III)Z"⟩ "MothTongue") s
theorem E0_of {s : State} {args : Array Value} (hts : ∀ w ∈ lw_tbl, w.before args s = true) (hgv : (Jvm.Cond.and given_1 narrow_1).before args s = true) : ∃ K V S v, E0 s K V S v := by
  have hf : ∀ c ∈ FL, c.before args s = true := flat_of_before _ hgv
  have hA : ∀ a : Nat, a < s.heap.size → ¬ (fun q => s.heap.size ≤ q) a := fun a h q => Nat.not_le.mpr h q
  have ti : ∀ {w : Cond}, w ∈ TBL → w.before args s = true := fun h => hts _ (TBL_in h)
  obtain ⟨a0, b0, c0⟩ := va_Tof (f := fun i => .int (kLeast.getD i 0)) (A := fun q => s.heap.size ≤ q) (N := 4) (by decide) (hf _ (FL_of _ f_La)) (va_eqt (hf _ (FL_of _ f_Ll))) (fun j hj => va_eqt (hf _ (FL_of _ (f_Le j hj)))) hA
  obtain ⟨a1, b1, c1⟩ := va_Tof (f := fun i => .int (kMost.getD i 0)) (A := fun q => s.heap.size ≤ q) (N := 4) (by decide) (hf _ (FL_of _ f_Ma)) (va_eqt (hf _ (FL_of _ f_Ml))) (fun j hj => va_eqt (hf _ (FL_of _ (f_Me j hj)))) hA
  obtain ⟨a2, b2, c2⟩ := va_Tof (f := fun i => .int (kUpper.getD i 0)) (A := fun q => s.heap.size ≤ q) (N := 7) (by decide) (hf _ (FL_of _ f_Ua)) (va_eqt (hf _ (FL_of _ f_Ul))) (fun j hj => va_eqt (hf _ (FL_of _ (f_Ue j hj)))) hA
  obtain ⟨K, V, h1, h2⟩ := vk_Sof (args := args) (s := s) (N := 12) (tm := tS) (len := sLen) (byt := sByt) (A := fun q => s.heap.size ≤ q) (by decide) (fun i hi => hf _ (FL_of _ (f_ex i hi))) (fun i hi => hf _ (FL_of _ (f_co i hi))) (fun i hi => hf _ (FL_of _ (f_ar i hi))) (fun i hi => hf _ (FL_of _ (f_le i hi))) (fun i hi j hj => hf _ (FL_of _ (f_el i hi j hj))) (fun i j hi hj hij => (f_ne i hi j hj hij).elim (fun q => Or.inl (hf _ (FL_of _ q))) (fun q => Or.inr (hf _ (FL_of _ q)))) hA
  have hz : ∃ v, va_Z "jdk/internal/util/Preconditions" "SIOOBE_FORMATTER" "Ljava/util/function/BiFunction;" v (fun q => s.heap.size ≤ q) s s.heap ∧ (v = .null ∨ ∃ a, v = .ref a) := by
    rcases va_Zqof (A := fun q => s.heap.size ≤ q) (hts _ w_si) (ti ti_J3) (hf _ (FL_of _ f_si)) hA with q | ⟨t, q⟩
    · exact ⟨.null, q, Or.inl rfl⟩
    · exact ⟨.ref t, q, Or.inr ⟨t, rfl⟩⟩
  obtain ⟨v, hv1, hv2⟩ := hz
  refine ⟨K, V, fun k => [a0, a1, a2].getD k 0, v, ⟨va_Zof (hts _ w_L) (ti ti_X4) b0 hA, c0⟩, ⟨va_Zof (hts _ w_M) (ti ti_X4) b1 hA, c1⟩, ⟨va_Zof (hts _ w_U) (ti ti_X1) b2 hA, c2⟩, va_Zof (hts _ w_cs) (ti ti_J0) (va_eqt (hf _ (FL_of _ f_cs))) hA, ⟨hv1, hv2⟩, h1, fun i hi => vk_R.of (hts _ (LT_of _ (w_sr i hi))) (h2 i hi), va_Nw.of rfl (hts _ w_n1), va_Nw.of rfl (hts _ w_n2), va_Nw.of rfl (hts _ w_n3)⟩
theorem EV_of {G : GT} {s : State} (hK : va_K (gD G) vwCl (tys G) s) (hD : va_D (Aq G) (WW G (fun _ _ => 0))) (hA : ∀ a, Aq G a → s.heap.size ≤ a) (h : E0 s (gK G) (gV G) (gs G) (gv G)) : EV G s s.heap := by
  obtain ⟨⟨a1, a2⟩, ⟨b1, b2⟩, ⟨c1, c2⟩, d1, ⟨e1, e2⟩, f1, f2, n1, n2, n3⟩ := h
  exact ⟨hK, hD, ⟨a1.narrow hA, a2.narrow hA⟩, ⟨b1.narrow hA, b2.narrow hA⟩, ⟨c1.narrow hA, c2.narrow hA⟩, d1.narrow hA, ⟨e1.narrow hA, e2⟩, f1.narrow hA, f2, n1, n2, n3⟩
