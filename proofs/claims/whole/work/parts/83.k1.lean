/-! constructors: worlds of their own, by the kit's rows -/
abbrev T3 (cB cI cO : ClassId) : List (ClassId × FieldType) := [(cB, .byte), (cI, .int), (cO, .object "MothTongue$Sheet")]
abbrev RMc (fr ce sl lo : Nat) : Room := { frames := fr, cells := ce, slots := sl, locals := lo }
def KP (D : va_G) (T : List (ClassId × FieldType)) (ws : va_W) (sz : Nat) (U : State) : Prop := U.heap.size = sz ∧ va_P D vwCl ws U.heap ∧ va_K D vwCl T U ∧ va_D (fun _ => True) ws
def KQ (D : va_G) (A : Nat → Prop) (ws : va_W) (t : State) : Prop := va_P D vwCl ws t.heap ∧ va_D A ws
theorem K_same {D : va_G} {cl : List vw_C} {T : List (ClassId × FieldType)} {s : State} (hK : va_K D cl T s) (t : Nat) {c0 cA : ClassId} {ty : FieldType} (ht : T[t]? = some (c0, ty)) (hK' : va_K D cl (T ++ [(cA, ty)]) s) : c0 = cA := by
  have h1 := (hK.2 t _ ht).2
  have h2 := (hK'.2 T.length (cA, ty) (by simp)).2
  have key : ∀ c, va_RA s c ty → s.vm.findClass ("[" ++ ty.toString) = some c := fun c h => by
    cases ty with
    | object C => obtain ⟨_, _, _, _, _, h⟩ := h; exact h
    | _ => exact h
  exact Option.some.inj ((key _ h1).symm.trans (key _ h2))
theorem tw_ai : Cond.arrayClass .int ∈ TBL := TBL_of 119 rfl rfl
theorem tw_ab : Cond.arrayClass .byte ∈ TBL := TBL_of 146 rfl rfl
theorem tw_oi : Cond.instanceMethod objectInit ∈ TBL := TBL_of 88 (by decide +kernel) rfl
theorem tw_oc : Cond.code objectInit ⟨#[0xb1]⟩ 1 none ∈ TBL := TBL_of 89 rfl rfl
theorem tm_X0 : Cond.instanceMethod yX0_init ∈ TBL := TBL_of 93 (by decide +kernel) rfl
theorem tn_X0 : Cond.instantiable RX0 6 ∈ TBL := TBL_of 91 (by decide +kernel) rfl
theorem fs_X0 : ∀ j, j < 6 → defaultValue (tyX0 j) = vp_V [.null, .null, .null, .int 0, .int 0, .int 0] j := by decide
theorem tm_X2 : Cond.instanceMethod yX2_init ∈ TBL := TBL_of 151 (by decide +kernel) rfl
theorem tn_X2 : Cond.instantiable RX2 3 ∈ TBL := TBL_of 149 (by decide +kernel) rfl
theorem fs_X2 : ∀ j, j < 3 → defaultValue (tyX2 j) = vp_V [.null, .int 0, .int 0] j := by decide
theorem tm_X3 : Cond.instanceMethod yX3_init ∈ TBL := TBL_of 123 (by decide +kernel) rfl
theorem tn_X3 : Cond.instantiable RX3 6 ∈ TBL := TBL_of 121 (by decide +kernel) rfl
theorem fs_X3 : ∀ j, j < 6 → defaultValue (tyX3 j) = vp_V [.null, .int 0, .int 0, .int 0, .int 0, .int 0] j := by decide
theorem tm_X4 : Cond.instanceMethod yX4_init ∈ TBL := TBL_of 85 (by decide +kernel) rfl
theorem tn_X4 : Cond.instantiable RX4 8 ∈ TBL := TBL_of 83 (by decide +kernel) rfl
theorem fs_X4 : ∀ j, j < 8 → defaultValue (tyX4 j) = vp_V [.null, .null, .null, .null, .null, .null, .null, .int 0] j := by decide
theorem tm_X5 : Cond.instanceMethod yX5_init ∈ TBL := TBL_of 747 (by decide +kernel) rfl
theorem tn_X5 : Cond.instantiable RX5 17 ∈ TBL := TBL_of 745 (by decide +kernel) rfl
theorem fs_X5 : ∀ j, j < 17 → defaultValue (tyX5 j) = vp_V [.null, .null, .null, .null, .int 0, .null, .null, .int 0, .null, .null, .null, .null, .int 0, .int 0, .int 0, .int 0, .int 0] j := by decide
theorem tk_L_7 : Cond.classLink RL 7 RX4 ∈ TBL := TBL_of 82 (by decide +kernel) rfl
theorem to_X4_3 : Cond.methodLink RX4 3 objectInit ∈ TBL := TBL_of 87 (by decide +kernel) rfl
theorem tk_X4_9 : Cond.classLink RX4 9 RX0 ∈ TBL := TBL_of 90 (by decide +kernel) rfl
theorem to_X0_3 : Cond.methodLink RX0 3 objectInit ∈ TBL := TBL_of 95 (by decide +kernel) rfl
theorem tk_X4_25 : Cond.classLink RX4 25 RX3 ∈ TBL := TBL_of 120 (by decide +kernel) rfl
theorem to_X3_3 : Cond.methodLink RX3 3 objectInit ∈ TBL := TBL_of 125 (by decide +kernel) rfl
theorem tk_X4_32 : Cond.classLink RX4 32 RX2 ∈ TBL := TBL_of 147 (by decide +kernel) rfl
theorem to_X2_3 : Cond.methodLink RX2 3 objectInit ∈ TBL := TBL_of 153 (by decide +kernel) rfl
theorem tk_L_10 : Cond.classLink RL 10 RX5 ∈ TBL := TBL_of 744 (by decide +kernel) rfl
theorem to_X5_1 : Cond.methodLink RX5 1 objectInit ∈ TBL := TBL_of 749 (by decide +kernel) rfl
set_option maxHeartbeats 4000000 in
set_option maxRecDepth 100000 in
theorem k_X2_init (l : Launch) (D : va_G) (cB cI cO : ClassId) (h0 sz : Nat) : Met l yX2_init (Cond.code yX2_init cX2_init 1 none :: TBL) (RMc 1 1 40 12) (va_Pc [.ref h0] (KP D (T3 cB cI cO) [(h0, .inr (1, [.null, .int 0, .int 0]))] sz)) (va_Qv (fun u : Nat × Unit => True) (fun u t => KQ D (va_A [(h0, .inr (1, [.null, .int 0, .int 0]))] sz) [(h0, .inr (1, [.ref u.1, .int 0, .int 0])), (u.1, .inl (cI, 40, .inl (fun _ => 0)))] t) (va_A [(h0, .inr (1, [.null, .int 0, .int 0]))] sz)) 1 40 (va_A [(h0, .inr (1, [.null, .int 0, .int 0]))] sz) := by
  refine Met.ofW (cc := cX2_init) (maxL := 1) (ret := none) (by decide) rfl ?_
  intro p e s m args below meth c s₁ B hml hv
  obtain ⟨rfl, hsz, hP, hK, hD0⟩ := hv
  have hx := B.exec
  have hb := B.bytes
  have hr := B.returns
  have hts0 := atoms_spec (ws := Cond.code yX2_init cX2_init 1 none :: TBL) B.pre
  have hts : ∀ w ∈ TBL, w.before #[Value.ref h0] s = true := fun w hw => hts0 w (List.mem_cons_of_mem _ hw)
  have hown : s.vm.findClass RX2 = some m.cls := findClass_of_methodNamed B.named
  have hin : meth.name = "<init>" := (name_of_methodNamed B.named B.method).1
  subst hsz
  have hD := hD0.self (sz := s.heap.size)
  generalize hAe : va_A [(h0, .inr (1, [.null, .int 0, .int 0]))] s.heap.size = A at hD ⊢
  have hA : ∀ q : Nat, s.heap.size ≤ q → A q := fun q h => by rw [← hAe]; exact Or.inr h
  have hS : va_S A s.heap s.heap [] := va_S.rf
  have hP : va_P D vwCl [(h0, .inr (1, [.null, .int 0, .int 0]))] s.heap := hP
  have hl := lv_entry ([.ref h0]) (n := 1) (Nat.le_of_ble_eq_true rfl)
  rw [lg_entry_eq]
  generalize (lg_sl ([.ref h0]) ++ List.replicate (1 - (lg_sl ([.ref h0])).length) Slot.unset).toArray = ls at hl ⊢
  have hl : lv_has ls 1 [(0, .ref h0)] := hl
  refine lv_aload_n hx hb dX2_init_0 rfl (lv_at hl 0 rfl) ?_
  refine W.objInit hx hb hown (hts _ to_X2_3) (hts _ tw_oi) (hts _ tw_oc) rfl (by rw [hml]; exact hl.1) rfl dX2_init_1 (Nat.le_of_ble_eq_true rfl) (Nat.le_of_ble_eq_true rfl) ?_
  refine W.eq (g2 := F0 m 4 ls []) rfl ?_
  refine lv_aload_n hx hb dX2_init_4 rfl (lv_at hl 0 rfl) ?_
  refine lv_bipush (v := 40) hx hb dX2_init_5 (by decide) ?_
  refine va_newa (atype := .int) (ty := .int) (N' := 40) (a0 := (40, .inl (fun _ => 0))) hx hb (hts _ tw_ai) rfl hK hP hD hS hA (fun cA => rfl) (by decide) rfl (Nat.le_of_ble_eq_true rfl) (Nat.le_of_ble_eq_true rfl) (Nat.le_of_ble_eq_true rfl) dX2_init_7 (fun q1 cA H hK9 hP hD hS => ?_)
  obtain rfl := K_same hK 1 rfl hK9
  have hP : va_P D vwCl [(h0, .inr (1, [.null, .int 0, .int 0])), (q1, .inl (cI, 40, .inl (fun _ => 0)))] H := hP
  have hD : va_D A [(h0, .inr (1, [.null, .int 0, .int 0])), (q1, .inl (cI, 40, .inl (fun _ => 0)))] := hD
  refine W.widen (k := 1) (n := 40) (Nat.le_of_ble_eq_true rfl) (Nat.le_of_ble_eq_true rfl) ?_
  refine va_putF (D := D) (ci := 1) (v := .ref q1) (ty := (.array .int)) (C := RX2) (T := TX2) (N := 3) hx hb hts in_X2 tyX2 tyX2_ok nmX2 hown hK hP hD hS 0 rfl rfl 0 (by decide) (hts _ fl_X2_9) (fun _ h9 => h9) rfl hin rfl (by decide +kernel) rfl rfl (Nat.le_of_ble_eq_true rfl) dX2_init_9 (fun H locs hP hD hS => ?_)
  have hP : va_P D vwCl [(h0, .inr (1, [.ref q1, .int 0, .int 0])), (q1, .inl (cI, 40, .inl (fun _ => 0)))] H := hP
  have hD : va_D A [(h0, .inr (1, [.ref q1, .int 0, .int 0])), (q1, .inl (cI, 40, .inl (fun _ => 0)))] := hD
  refine lv_aload_n hx hb dX2_init_12 rfl (lv_at hl 0 rfl) ?_
  refine lv_iconst (v := 0) hx hb dX2_init_13 (by decide) ?_
  refine va_put (D := D) (ci := 1) (v := .int 0) (ty := .int) (C := RX2) (T := TX2) (N := 3) hx hb hts in_X2 tyX2 tyX2_ok nmX2 hown hK hP hD hS 0 rfl rfl 1 (by decide) (hts _ fl_X2_15) (fun _ h9 => h9) rfl (by decide +kernel) rfl rfl (Nat.le_of_ble_eq_true rfl) dX2_init_14 (fun H locs hP hD hS => ?_)
  have hP : va_P D vwCl [(h0, .inr (1, [.ref q1, .int 0, .int 0])), (q1, .inl (cI, 40, .inl (fun _ => 0)))] H := hP
  have hD : va_D A [(h0, .inr (1, [.ref q1, .int 0, .int 0])), (q1, .inl (cI, 40, .inl (fun _ => 0)))] := hD
  refine lv_aload_n hx hb dX2_init_17 rfl (lv_at hl 0 rfl) ?_
  refine lv_iconst (v := 0) hx hb dX2_init_18 (by decide) ?_
  refine va_put (D := D) (ci := 1) (v := .int 0) (ty := .int) (C := RX2) (T := TX2) (N := 3) hx hb hts in_X2 tyX2 tyX2_ok nmX2 hown hK hP hD hS 0 rfl rfl 2 (by decide) (hts _ fl_X2_19) (fun _ h9 => h9) rfl (by decide +kernel) rfl rfl (Nat.le_of_ble_eq_true rfl) dX2_init_19 (fun H locs hP hD hS => ?_)
  have hP : va_P D vwCl [(h0, .inr (1, [.ref q1, .int 0, .int 0])), (q1, .inl (cI, 40, .inl (fun _ => 0)))] H := hP
  have hD : va_D A [(h0, .inr (1, [.ref q1, .int 0, .int 0])), (q1, .inl (cI, 40, .inl (fun _ => 0)))] := hD
  exact W.vret hx hb hr (fun t ht hW => ⟨⟨(q1, ()), rfl, trivial, by rw [ht]; exact hP, hD⟩, hS.F ht⟩) hS.2.2 dX2_init_22
set_option maxHeartbeats 4000000 in
set_option maxRecDepth 100000 in
theorem k_X3_init (l : Launch) (D : va_G) (cB cI cO : ClassId) (h0 sz : Nat) : Met l yX3_init (Cond.code yX3_init cX3_init 1 none :: TBL) (RMc 1 1 120 12) (va_Pc [.ref h0] (KP D (T3 cB cI cO) [(h0, .inr (2, [.null, .int 0, .int 0, .int 0, .int 0, .int 0]))] sz)) (va_Qv (fun u : Nat × Unit => True) (fun u t => KQ D (va_A [(h0, .inr (2, [.null, .int 0, .int 0, .int 0, .int 0, .int 0]))] sz) [(h0, .inr (2, [.ref u.1, .int 0, .int 0, .int 0, .int 0, .int 0])), (u.1, .inl (cB, 120, .inl (fun _ => 0)))] t) (va_A [(h0, .inr (2, [.null, .int 0, .int 0, .int 0, .int 0, .int 0]))] sz)) 1 120 (va_A [(h0, .inr (2, [.null, .int 0, .int 0, .int 0, .int 0, .int 0]))] sz) := by
  refine Met.ofW (cc := cX3_init) (maxL := 1) (ret := none) (by decide) rfl ?_
  intro p e s m args below meth c s₁ B hml hv
  obtain ⟨rfl, hsz, hP, hK, hD0⟩ := hv
  have hx := B.exec
  have hb := B.bytes
  have hr := B.returns
  have hts0 := atoms_spec (ws := Cond.code yX3_init cX3_init 1 none :: TBL) B.pre
  have hts : ∀ w ∈ TBL, w.before #[Value.ref h0] s = true := fun w hw => hts0 w (List.mem_cons_of_mem _ hw)
  have hown : s.vm.findClass RX3 = some m.cls := findClass_of_methodNamed B.named
  have hin : meth.name = "<init>" := (name_of_methodNamed B.named B.method).1
  subst hsz
  have hD := hD0.self (sz := s.heap.size)
  generalize hAe : va_A [(h0, .inr (2, [.null, .int 0, .int 0, .int 0, .int 0, .int 0]))] s.heap.size = A at hD ⊢
  have hA : ∀ q : Nat, s.heap.size ≤ q → A q := fun q h => by rw [← hAe]; exact Or.inr h
  have hS : va_S A s.heap s.heap [] := va_S.rf
  have hP : va_P D vwCl [(h0, .inr (2, [.null, .int 0, .int 0, .int 0, .int 0, .int 0]))] s.heap := hP
  have hl := lv_entry ([.ref h0]) (n := 1) (Nat.le_of_ble_eq_true rfl)
  rw [lg_entry_eq]
  generalize (lg_sl ([.ref h0]) ++ List.replicate (1 - (lg_sl ([.ref h0])).length) Slot.unset).toArray = ls at hl ⊢
  have hl : lv_has ls 1 [(0, .ref h0)] := hl
  refine lv_aload_n hx hb dX3_init_0 rfl (lv_at hl 0 rfl) ?_
  refine W.objInit hx hb hown (hts _ to_X3_3) (hts _ tw_oi) (hts _ tw_oc) rfl (by rw [hml]; exact hl.1) rfl dX3_init_1 (Nat.le_of_ble_eq_true rfl) (Nat.le_of_ble_eq_true rfl) ?_
  refine W.eq (g2 := F0 m 4 ls []) rfl ?_
  refine lv_aload_n hx hb dX3_init_4 rfl (lv_at hl 0 rfl) ?_
  refine lv_bipush (v := 120) hx hb dX3_init_5 (by decide) ?_
  refine va_newa (atype := .byte) (ty := .byte) (N' := 120) (a0 := (120, .inl (fun _ => 0))) hx hb (hts _ tw_ab) rfl hK hP hD hS hA (fun cA => rfl) (by decide) rfl (Nat.le_of_ble_eq_true rfl) (Nat.le_of_ble_eq_true rfl) (Nat.le_of_ble_eq_true rfl) dX3_init_7 (fun q1 cA H hK9 hP hD hS => ?_)
  obtain rfl := K_same hK 0 rfl hK9
  have hP : va_P D vwCl [(h0, .inr (2, [.null, .int 0, .int 0, .int 0, .int 0, .int 0])), (q1, .inl (cB, 120, .inl (fun _ => 0)))] H := hP
  have hD : va_D A [(h0, .inr (2, [.null, .int 0, .int 0, .int 0, .int 0, .int 0])), (q1, .inl (cB, 120, .inl (fun _ => 0)))] := hD
  refine W.widen (k := 1) (n := 120) (Nat.le_of_ble_eq_true rfl) (Nat.le_of_ble_eq_true rfl) ?_
  refine va_putF (D := D) (ci := 2) (v := .ref q1) (ty := (.array .byte)) (C := RX3) (T := TX3) (N := 6) hx hb hts in_X3 tyX3 tyX3_ok nmX3 hown hK hP hD hS 0 rfl rfl 0 (by decide) (hts _ fl_X3_9) (fun _ h9 => h9) rfl hin rfl (by decide +kernel) rfl rfl (Nat.le_of_ble_eq_true rfl) dX3_init_9 (fun H locs hP hD hS => ?_)
  have hP : va_P D vwCl [(h0, .inr (2, [.ref q1, .int 0, .int 0, .int 0, .int 0, .int 0])), (q1, .inl (cB, 120, .inl (fun _ => 0)))] H := hP
  have hD : va_D A [(h0, .inr (2, [.ref q1, .int 0, .int 0, .int 0, .int 0, .int 0])), (q1, .inl (cB, 120, .inl (fun _ => 0)))] := hD
  refine lv_aload_n hx hb dX3_init_12 rfl (lv_at hl 0 rfl) ?_
  refine lv_iconst (v := 0) hx hb dX3_init_13 (by decide) ?_
  refine va_put (D := D) (ci := 2) (v := .int 0) (ty := .int) (C := RX3) (T := TX3) (N := 6) hx hb hts in_X3 tyX3 tyX3_ok nmX3 hown hK hP hD hS 0 rfl rfl 1 (by decide) (hts _ fl_X3_15) (fun _ h9 => h9) rfl (by decide +kernel) rfl rfl (Nat.le_of_ble_eq_true rfl) dX3_init_14 (fun H locs hP hD hS => ?_)
  have hP : va_P D vwCl [(h0, .inr (2, [.ref q1, .int 0, .int 0, .int 0, .int 0, .int 0])), (q1, .inl (cB, 120, .inl (fun _ => 0)))] H := hP
  have hD : va_D A [(h0, .inr (2, [.ref q1, .int 0, .int 0, .int 0, .int 0, .int 0])), (q1, .inl (cB, 120, .inl (fun _ => 0)))] := hD
  refine lv_aload_n hx hb dX3_init_17 rfl (lv_at hl 0 rfl) ?_
  refine lv_iconst (v := 0) hx hb dX3_init_18 (by decide) ?_
  refine va_put (D := D) (ci := 2) (v := .int 0) (ty := .int) (C := RX3) (T := TX3) (N := 6) hx hb hts in_X3 tyX3 tyX3_ok nmX3 hown hK hP hD hS 0 rfl rfl 2 (by decide) (hts _ fl_X3_19) (fun _ h9 => h9) rfl (by decide +kernel) rfl rfl (Nat.le_of_ble_eq_true rfl) dX3_init_19 (fun H locs hP hD hS => ?_)
  have hP : va_P D vwCl [(h0, .inr (2, [.ref q1, .int 0, .int 0, .int 0, .int 0, .int 0])), (q1, .inl (cB, 120, .inl (fun _ => 0)))] H := hP
  have hD : va_D A [(h0, .inr (2, [.ref q1, .int 0, .int 0, .int 0, .int 0, .int 0])), (q1, .inl (cB, 120, .inl (fun _ => 0)))] := hD
  refine lv_aload_n hx hb dX3_init_22 rfl (lv_at hl 0 rfl) ?_
  refine lv_iconst (v := 0) hx hb dX3_init_23 (by decide) ?_
  refine va_put (D := D) (ci := 2) (v := .int 0) (ty := .int) (C := RX3) (T := TX3) (N := 6) hx hb hts in_X3 tyX3 tyX3_ok nmX3 hown hK hP hD hS 0 rfl rfl 3 (by decide) (hts _ fl_X3_22) (fun _ h9 => h9) rfl (by decide +kernel) rfl rfl (Nat.le_of_ble_eq_true rfl) dX3_init_24 (fun H locs hP hD hS => ?_)
  have hP : va_P D vwCl [(h0, .inr (2, [.ref q1, .int 0, .int 0, .int 0, .int 0, .int 0])), (q1, .inl (cB, 120, .inl (fun _ => 0)))] H := hP
  have hD : va_D A [(h0, .inr (2, [.ref q1, .int 0, .int 0, .int 0, .int 0, .int 0])), (q1, .inl (cB, 120, .inl (fun _ => 0)))] := hD
  refine lv_aload_n hx hb dX3_init_27 rfl (lv_at hl 0 rfl) ?_
  refine lv_iconst (v := 0) hx hb dX3_init_28 (by decide) ?_
  refine va_put (D := D) (ci := 2) (v := .int 0) (ty := .int) (C := RX3) (T := TX3) (N := 6) hx hb hts in_X3 tyX3 tyX3_ok nmX3 hown hK hP hD hS 0 rfl rfl 4 (by decide) (hts _ fl_X3_25) (fun _ h9 => h9) rfl (by decide +kernel) rfl rfl (Nat.le_of_ble_eq_true rfl) dX3_init_29 (fun H locs hP hD hS => ?_)
  have hP : va_P D vwCl [(h0, .inr (2, [.ref q1, .int 0, .int 0, .int 0, .int 0, .int 0])), (q1, .inl (cB, 120, .inl (fun _ => 0)))] H := hP
  have hD : va_D A [(h0, .inr (2, [.ref q1, .int 0, .int 0, .int 0, .int 0, .int 0])), (q1, .inl (cB, 120, .inl (fun _ => 0)))] := hD
  refine lv_aload_n hx hb dX3_init_32 rfl (lv_at hl 0 rfl) ?_
  refine lv_iconst (v := 0) hx hb dX3_init_33 (by decide) ?_
  refine va_put (D := D) (ci := 2) (v := .int 0) (ty := .int) (C := RX3) (T := TX3) (N := 6) hx hb hts in_X3 tyX3 tyX3_ok nmX3 hown hK hP hD hS 0 rfl rfl 5 (by decide) (hts _ fl_X3_28) (fun _ h9 => h9) rfl (by decide +kernel) rfl rfl (Nat.le_of_ble_eq_true rfl) dX3_init_34 (fun H locs hP hD hS => ?_)
  have hP : va_P D vwCl [(h0, .inr (2, [.ref q1, .int 0, .int 0, .int 0, .int 0, .int 0])), (q1, .inl (cB, 120, .inl (fun _ => 0)))] H := hP
  have hD : va_D A [(h0, .inr (2, [.ref q1, .int 0, .int 0, .int 0, .int 0, .int 0])), (q1, .inl (cB, 120, .inl (fun _ => 0)))] := hD
  exact W.vret hx hb hr (fun t ht hW => ⟨⟨(q1, ()), rfl, trivial, by rw [ht]; exact hP, hD⟩, hS.F ht⟩) hS.2.2 dX3_init_37
set_option maxHeartbeats 4000000 in
set_option maxRecDepth 100000 in
theorem k_X0_init (l : Launch) (D : va_G) (cB cI cO : ClassId) (h0 sz : Nat) : Met l yX0_init (Cond.code yX0_init cX0_init 2 none :: TBL) (RMc 1 3 90 12) (va_Pc [.ref h0] (KP D (T3 cB cI cO) [(h0, .inr (0, [.null, .null, .null, .int 0, .int 0, .int 0]))] sz)) (va_Qv (fun u : Nat × Nat × Nat => True) (fun u t => KQ D (va_A [(h0, .inr (0, [.null, .null, .null, .int 0, .int 0, .int 0]))] sz) [(h0, .inr (0, [.ref u.1, .ref u.2.1, .ref u.2.2, .int 0, .int 0, .int 1])), (u.1, .inl (cI, 48, .inl (fun _ => 0))), (u.2.1, .inl (cI, 32, .inl (fun _ => 0))), (u.2.2, .inl (cI, 10, .inl (fun _ => -1)))] t) (va_A [(h0, .inr (0, [.null, .null, .null, .int 0, .int 0, .int 0]))] sz)) 3 90 (va_A [(h0, .inr (0, [.null, .null, .null, .int 0, .int 0, .int 0]))] sz) := by
  refine Met.ofW (cc := cX0_init) (maxL := 2) (ret := none) (by decide) rfl ?_
  intro p e s m args below meth c s₁ B hml hv
  obtain ⟨rfl, hsz, hP, hK, hD0⟩ := hv
  have hx := B.exec
  have hb := B.bytes
  have hr := B.returns
  have hts0 := atoms_spec (ws := Cond.code yX0_init cX0_init 2 none :: TBL) B.pre
  have hts : ∀ w ∈ TBL, w.before #[Value.ref h0] s = true := fun w hw => hts0 w (List.mem_cons_of_mem _ hw)
  have hown : s.vm.findClass RX0 = some m.cls := findClass_of_methodNamed B.named
  have hin : meth.name = "<init>" := (name_of_methodNamed B.named B.method).1
  subst hsz
  have hD := hD0.self (sz := s.heap.size)
  generalize hAe : va_A [(h0, .inr (0, [.null, .null, .null, .int 0, .int 0, .int 0]))] s.heap.size = A at hD ⊢
  have hA : ∀ q : Nat, s.heap.size ≤ q → A q := fun q h => by rw [← hAe]; exact Or.inr h
  have hS : va_S A s.heap s.heap [] := va_S.rf
  have hP : va_P D vwCl [(h0, .inr (0, [.null, .null, .null, .int 0, .int 0, .int 0]))] s.heap := hP
  have hl := lv_entry ([.ref h0]) (n := 2) (Nat.le_of_ble_eq_true rfl)
  rw [lg_entry_eq]
  generalize (lg_sl ([.ref h0]) ++ List.replicate (2 - (lg_sl ([.ref h0])).length) Slot.unset).toArray = ls at hl ⊢
  have hl : lv_has ls 2 [(0, .ref h0)] := hl
  refine lv_aload_n hx hb dX0_init_0 rfl (lv_at hl 0 rfl) ?_
  refine W.objInit hx hb hown (hts _ to_X0_3) (hts _ tw_oi) (hts _ tw_oc) rfl (by rw [hml]; exact hl.1) rfl dX0_init_1 (Nat.le_of_ble_eq_true rfl) (Nat.le_of_ble_eq_true rfl) ?_
  refine W.eq (g2 := F0 m 4 ls []) rfl ?_
  refine lv_aload_n hx hb dX0_init_4 rfl (lv_at hl 0 rfl) ?_
  refine lv_bipush (v := 48) hx hb dX0_init_5 (by decide) ?_
  refine va_newa (atype := .int) (ty := .int) (N' := 48) (a0 := (48, .inl (fun _ => 0))) hx hb (hts _ tw_ai) rfl hK hP hD hS hA (fun cA => rfl) (by decide) rfl (Nat.le_of_ble_eq_true rfl) (Nat.le_of_ble_eq_true rfl) (Nat.le_of_ble_eq_true rfl) dX0_init_7 (fun q1 cA H hK9 hP hD hS => ?_)
  obtain rfl := K_same hK 1 rfl hK9
  have hP : va_P D vwCl [(h0, .inr (0, [.null, .null, .null, .int 0, .int 0, .int 0])), (q1, .inl (cI, 48, .inl (fun _ => 0)))] H := hP
  have hD : va_D A [(h0, .inr (0, [.null, .null, .null, .int 0, .int 0, .int 0])), (q1, .inl (cI, 48, .inl (fun _ => 0)))] := hD
  refine W.widen (k := 1) (n := 48) (Nat.le_of_ble_eq_true rfl) (Nat.le_of_ble_eq_true rfl) ?_
  refine va_putF (D := D) (ci := 0) (v := .ref q1) (ty := (.array .int)) (C := RX0) (T := TX0) (N := 6) hx hb hts in_X0 tyX0 tyX0_ok nmX0 hown hK hP hD hS 0 rfl rfl 0 (by decide) (hts _ fl_X0_9) (fun _ h9 => h9) rfl hin rfl (by decide +kernel) rfl rfl (Nat.le_of_ble_eq_true rfl) dX0_init_9 (fun H locs hP hD hS => ?_)
  have hP : va_P D vwCl [(h0, .inr (0, [.ref q1, .null, .null, .int 0, .int 0, .int 0])), (q1, .inl (cI, 48, .inl (fun _ => 0)))] H := hP
  have hD : va_D A [(h0, .inr (0, [.ref q1, .null, .null, .int 0, .int 0, .int 0])), (q1, .inl (cI, 48, .inl (fun _ => 0)))] := hD
  refine lv_aload_n hx hb dX0_init_12 rfl (lv_at hl 0 rfl) ?_
  refine lv_bipush (v := 32) hx hb dX0_init_13 (by decide) ?_
  refine va_newa (atype := .int) (ty := .int) (N' := 32) (a0 := (32, .inl (fun _ => 0))) hx hb (hts _ tw_ai) rfl hK hP hD hS hA (fun cA => rfl) (by decide) rfl (Nat.le_of_ble_eq_true rfl) (Nat.le_of_ble_eq_true rfl) (Nat.le_of_ble_eq_true rfl) dX0_init_15 (fun q2 cA H hK9 hP hD hS => ?_)
  obtain rfl := K_same hK 1 rfl hK9
  have hP : va_P D vwCl [(h0, .inr (0, [.ref q1, .null, .null, .int 0, .int 0, .int 0])), (q1, .inl (cI, 48, .inl (fun _ => 0))), (q2, .inl (cI, 32, .inl (fun _ => 0)))] H := hP
  have hD : va_D A [(h0, .inr (0, [.ref q1, .null, .null, .int 0, .int 0, .int 0])), (q1, .inl (cI, 48, .inl (fun _ => 0))), (q2, .inl (cI, 32, .inl (fun _ => 0)))] := hD
  refine W.widen (k := 2) (n := 80) (Nat.le_of_ble_eq_true rfl) (Nat.le_of_ble_eq_true rfl) ?_
  refine va_putF (D := D) (ci := 0) (v := .ref q2) (ty := (.array .int)) (C := RX0) (T := TX0) (N := 6) hx hb hts in_X0 tyX0 tyX0_ok nmX0 hown hK hP hD hS 0 rfl rfl 1 (by decide) (hts _ fl_X0_15) (fun _ h9 => h9) rfl hin rfl (by decide +kernel) rfl rfl (Nat.le_of_ble_eq_true rfl) dX0_init_17 (fun H locs hP hD hS => ?_)
  have hP : va_P D vwCl [(h0, .inr (0, [.ref q1, .ref q2, .null, .int 0, .int 0, .int 0])), (q1, .inl (cI, 48, .inl (fun _ => 0))), (q2, .inl (cI, 32, .inl (fun _ => 0)))] H := hP
  have hD : va_D A [(h0, .inr (0, [.ref q1, .ref q2, .null, .int 0, .int 0, .int 0])), (q1, .inl (cI, 48, .inl (fun _ => 0))), (q2, .inl (cI, 32, .inl (fun _ => 0)))] := hD
  refine lv_aload_n hx hb dX0_init_20 rfl (lv_at hl 0 rfl) ?_
  refine lv_bipush (v := 10) hx hb dX0_init_21 (by decide) ?_
  refine va_newa (atype := .int) (ty := .int) (N' := 10) (a0 := (10, .inl (fun _ => 0))) hx hb (hts _ tw_ai) rfl hK hP hD hS hA (fun cA => rfl) (by decide) rfl (Nat.le_of_ble_eq_true rfl) (Nat.le_of_ble_eq_true rfl) (Nat.le_of_ble_eq_true rfl) dX0_init_23 (fun q3 cA H hK9 hP hD hS => ?_)
  obtain rfl := K_same hK 1 rfl hK9
  have hP : va_P D vwCl [(h0, .inr (0, [.ref q1, .ref q2, .null, .int 0, .int 0, .int 0])), (q1, .inl (cI, 48, .inl (fun _ => 0))), (q2, .inl (cI, 32, .inl (fun _ => 0))), (q3, .inl (cI, 10, .inl (fun _ => 0)))] H := hP
  have hD : va_D A [(h0, .inr (0, [.ref q1, .ref q2, .null, .int 0, .int 0, .int 0])), (q1, .inl (cI, 48, .inl (fun _ => 0))), (q2, .inl (cI, 32, .inl (fun _ => 0))), (q3, .inl (cI, 10, .inl (fun _ => 0)))] := hD
  refine W.widen (k := 3) (n := 90) (Nat.le_of_ble_eq_true rfl) (Nat.le_of_ble_eq_true rfl) ?_
  refine va_putF (D := D) (ci := 0) (v := .ref q3) (ty := (.array .int)) (C := RX0) (T := TX0) (N := 6) hx hb hts in_X0 tyX0 tyX0_ok nmX0 hown hK hP hD hS 0 rfl rfl 2 (by decide) (hts _ fl_X0_18) (fun _ h9 => h9) rfl hin rfl (by decide +kernel) rfl rfl (Nat.le_of_ble_eq_true rfl) dX0_init_25 (fun H locs hP hD hS => ?_)
  have hP : va_P D vwCl [(h0, .inr (0, [.ref q1, .ref q2, .ref q3, .int 0, .int 0, .int 0])), (q1, .inl (cI, 48, .inl (fun _ => 0))), (q2, .inl (cI, 32, .inl (fun _ => 0))), (q3, .inl (cI, 10, .inl (fun _ => 0)))] H := hP
  have hD : va_D A [(h0, .inr (0, [.ref q1, .ref q2, .ref q3, .int 0, .int 0, .int 0])), (q1, .inl (cI, 48, .inl (fun _ => 0))), (q2, .inl (cI, 32, .inl (fun _ => 0))), (q3, .inl (cI, 10, .inl (fun _ => 0)))] := hD
  refine lv_aload_n hx hb dX0_init_28 rfl (lv_at hl 0 rfl) ?_
  refine lv_iconst (v := 0) hx hb dX0_init_29 (by decide) ?_
  refine va_put (D := D) (ci := 0) (v := .int 0) (ty := .int) (C := RX0) (T := TX0) (N := 6) hx hb hts in_X0 tyX0 tyX0_ok nmX0 hown hK hP hD hS 0 rfl rfl 3 (by decide) (hts _ fl_X0_21) (fun _ h9 => h9) rfl (by decide +kernel) rfl rfl (Nat.le_of_ble_eq_true rfl) dX0_init_30 (fun H locs hP hD hS => ?_)
  have hP : va_P D vwCl [(h0, .inr (0, [.ref q1, .ref q2, .ref q3, .int 0, .int 0, .int 0])), (q1, .inl (cI, 48, .inl (fun _ => 0))), (q2, .inl (cI, 32, .inl (fun _ => 0))), (q3, .inl (cI, 10, .inl (fun _ => 0)))] H := hP
  have hD : va_D A [(h0, .inr (0, [.ref q1, .ref q2, .ref q3, .int 0, .int 0, .int 0])), (q1, .inl (cI, 48, .inl (fun _ => 0))), (q2, .inl (cI, 32, .inl (fun _ => 0))), (q3, .inl (cI, 10, .inl (fun _ => 0)))] := hD
  refine lv_aload_n hx hb dX0_init_33 rfl (lv_at hl 0 rfl) ?_
  refine lv_iconst (v := 0) hx hb dX0_init_34 (by decide) ?_
  refine va_put (D := D) (ci := 0) (v := .int 0) (ty := .int) (C := RX0) (T := TX0) (N := 6) hx hb hts in_X0 tyX0 tyX0_ok nmX0 hown hK hP hD hS 0 rfl rfl 4 (by decide) (hts _ fl_X0_25) (fun _ h9 => h9) rfl (by decide +kernel) rfl rfl (Nat.le_of_ble_eq_true rfl) dX0_init_35 (fun H locs hP hD hS => ?_)
  have hP : va_P D vwCl [(h0, .inr (0, [.ref q1, .ref q2, .ref q3, .int 0, .int 0, .int 0])), (q1, .inl (cI, 48, .inl (fun _ => 0))), (q2, .inl (cI, 32, .inl (fun _ => 0))), (q3, .inl (cI, 10, .inl (fun _ => 0)))] H := hP
  have hD : va_D A [(h0, .inr (0, [.ref q1, .ref q2, .ref q3, .int 0, .int 0, .int 0])), (q1, .inl (cI, 48, .inl (fun _ => 0))), (q2, .inl (cI, 32, .inl (fun _ => 0))), (q3, .inl (cI, 10, .inl (fun _ => 0)))] := hD
  refine lv_aload_n hx hb dX0_init_38 rfl (lv_at hl 0 rfl) ?_
  refine lv_iconst (v := 1) hx hb dX0_init_39 (by decide) ?_
  refine va_put (D := D) (ci := 0) (v := .int 1) (ty := .int) (C := RX0) (T := TX0) (N := 6) hx hb hts in_X0 tyX0 tyX0_ok nmX0 hown hK hP hD hS 0 rfl rfl 5 (by decide) (hts _ fl_X0_28) (fun _ h9 => h9) rfl (by decide +kernel) rfl rfl (Nat.le_of_ble_eq_true rfl) dX0_init_40 (fun H locs hP hD hS => ?_)
  have hP : va_P D vwCl [(h0, .inr (0, [.ref q1, .ref q2, .ref q3, .int 0, .int 0, .int 1])), (q1, .inl (cI, 48, .inl (fun _ => 0))), (q2, .inl (cI, 32, .inl (fun _ => 0))), (q3, .inl (cI, 10, .inl (fun _ => 0)))] H := hP
  have hD : va_D A [(h0, .inr (0, [.ref q1, .ref q2, .ref q3, .int 0, .int 0, .int 1])), (q1, .inl (cI, 48, .inl (fun _ => 0))), (q2, .inl (cI, 32, .inl (fun _ => 0))), (q3, .inl (cI, 10, .inl (fun _ => 0)))] := hD
  refine lv_iconst (v := 0) hx hb dX0_init_43 (by decide) ?_
  refine lv_istore_n (lv' := [(1, .int 0), (0, .ref h0)]) hx hb dX0_init_44 rfl hl (by decide) rfl (fun ls hl => ?_)
  have loop : ∀ (n i : Nat), i + n = 10 → ∀ (f : Nat → Int32) (H : Heap) (locs : List Loc) (ls : Array Slot), (∀ j, j < i → f j = -1) → va_P D vwCl [(h0, .inr (0, [.ref q1, .ref q2, .ref q3, .int 0, .int 0, .int 1])), (q1, .inl (cI, 48, .inl (fun _ => 0))), (q2, .inl (cI, 32, .inl (fun _ => 0))), (q3, .inl (cI, 10, .inl f))] H → va_D A [(h0, .inr (0, [.ref q1, .ref q2, .ref q3, .int 0, .int 0, .int 1])), (q1, .inl (cI, 48, .inl (fun _ => 0))), (q2, .inl (cI, 32, .inl (fun _ => 0))), (q3, .inl (cI, 10, .inl f))] → va_S A s.heap H locs → lv_has ls 2 [(1, .int (nI i)), (0, .ref h0)] → W p l e (RMc 1 3 90 12) s m #[Value.ref h0] below meth c H locs 3 90 (MQ below (va_Qv (fun u : Nat × Nat × Nat => True) (fun u t => KQ D A [(h0, .inr (0, [.ref u.1, .ref u.2.1, .ref u.2.2, .int 0, .int 0, .int 1])), (u.1, .inl (cI, 48, .inl (fun _ => 0))), (u.2.1, .inl (cI, 32, .inl (fun _ => 0))), (u.2.2, .inl (cI, 10, .inl (fun _ => -1)))] t) A) #[Value.ref h0] s 3 90 A) (F0 m 45 ls []) := by
    intro n
    induction n with
    | zero =>
      intro i hi f H locs ls hf hP hD hS hl
      refine lv_iload_n hx hb dX0_init_45 rfl (lv_at hl 0 rfl) ?_
      refine lv_bipush (v := 10) hx hb dX0_init_46 (by decide) ?_
      refine lv_icmp_ge (tgt := 64) hx hb dX0_init_48 (by decide) (fun c9 => ?_) (fun c9 => ?_)
      · have hP : va_P D vwCl [(h0, .inr (0, [.ref q1, .ref q2, .ref q3, .int 0, .int 0, .int 1])), (q1, .inl (cI, 48, .inl (fun _ => 0))), (q2, .inl (cI, 32, .inl (fun _ => 0))), (q3, .inl (cI, 10, .inl (fun _ => -1)))] H := P_cons.mpr ⟨(P_cons.mp hP).1, P_cons.mpr ⟨(P_cons.mp (P_cons.mp hP).2).1, P_cons.mpr ⟨(P_cons.mp (P_cons.mp (P_cons.mp hP).2).2).1, P_cons.mpr ⟨at_arr (P_cons.mp (P_cons.mp (P_cons.mp (P_cons.mp hP).2).2).2).1 (fun j hj => hf j (by omega)), (P_cons.mp (P_cons.mp (P_cons.mp (P_cons.mp hP).2).2).2).2⟩⟩⟩⟩
        have hD : va_D A [(h0, .inr (0, [.ref q1, .ref q2, .ref q3, .int 0, .int 0, .int 1])), (q1, .inl (cI, 48, .inl (fun _ => 0))), (q2, .inl (cI, 32, .inl (fun _ => 0))), (q3, .inl (cI, 10, .inl (fun _ => -1)))] := D_fst (ws := [(h0, .inr (0, [.ref q1, .ref q2, .ref q3, .int 0, .int 0, .int 1])), (q1, .inl (cI, 48, .inl (fun _ => 0))), (q2, .inl (cI, 32, .inl (fun _ => 0))), (q3, .inl (cI, 10, .inl f))]) rfl hD
        exact W.vret hx hb hr (fun t ht hW => ⟨⟨(q1, q2, q3), rfl, trivial, by rw [ht]; exact hP, hD⟩, hS.F ht⟩) hS.2.2 dX0_init_64
      · exact absurd (by rw [show i = 10 by omega]; decide) c9
    | succ n ih =>
      intro i hi f H locs ls hf hP hD hS hl
      refine lv_iload_n hx hb dX0_init_45 rfl (lv_at hl 0 rfl) ?_
      refine lv_bipush (v := 10) hx hb dX0_init_46 (by decide) ?_
      refine lv_icmp_ge (tgt := 64) hx hb dX0_init_48 (by decide) (fun c9 => ?_) (fun c9 => ?_)
      · exact absurd c9 (nI_ge (a := i) (b := 10) (by omega) (by decide))
      · refine lv_aload_n hx hb dX0_init_51 rfl (lv_at hl 1 rfl) ?_
        refine va_get (D := D) (ci := 0) (v := .ref q3) (C := RX0) (T := TX0) (N := 6) hx hb hts in_X0 hown hK hP 0 rfl rfl 2 (by decide) (hts _ fl_X0_18) (fun _ h9 => h9) rfl dX0_init_52 ?_
        refine lv_iload_n hx hb dX0_init_55 rfl (lv_at hl 0 rfl) ?_
        refine lv_iconst (v := (-1)) hx hb dX0_init_56 (by decide) ?_
        refine va_iast hx hb hK hP hD hS 3 1 rfl rfl (vp_in_nI (by omega) (by decide)) dX0_init_57 (fun H locs hP hD hS => ?_)
        have hP : va_P D vwCl [(h0, .inr (0, [.ref q1, .ref q2, .ref q3, .int 0, .int 0, .int 1])), (q1, .inl (cI, 48, .inl (fun _ => 0))), (q2, .inl (cI, 32, .inl (fun _ => 0))), (q3, .inl (cI, 10, .inl (upd f ((nI i) : Int32).toNatClampNeg (-1))))] H := hP
        have hD : va_D A [(h0, .inr (0, [.ref q1, .ref q2, .ref q3, .int 0, .int 0, .int 1])), (q1, .inl (cI, 48, .inl (fun _ => 0))), (q2, .inl (cI, 32, .inl (fun _ => 0))), (q3, .inl (cI, 10, .inl (upd f ((nI i) : Int32).toNatClampNeg (-1))))] := hD
        refine lv_iinc (v := (nI (i + 1))) (lv' := [(1, .int (nI (i + 1))), (0, .ref h0)]) hx hb dX0_init_58 hl (k := 0) rfl (nI_inc i) (by decide) rfl (fun ls hl => ?_)
        refine lv_goto (tgt := 45) hx hb dX0_init_61 (by decide) ?_
        rw [show (nI i).toNatClampNeg = i from cl_nI (by omega)] at hP hD
        refine ih (i + 1) (by omega) _ H _ ls (fun j hj => ?_) hP hD hS hl
        by_cases e : j = i
        · subst e; exact upd_s
        · rw [upd_n e]; exact hf j (by omega)
  exact loop 10 0 rfl (fun _ => 0) H _ ls (fun j hj => absurd hj (Nat.not_lt_zero j)) hP hD hS hl
