/-! receivers; what a call asks of its callee -/
def RC (G : GT) (Cn : String) (b : Nat) : Prop := ∀ (g : Mem) (s : State) (H : Heap) (locs : List Loc), EV G s s.heap → va_S (Aq G) s.heap H locs → va_P (gD G) vwCl (WW G g) H → ∃ cell : Cell, H[b]? = some cell ∧ cell.vm.isStatics = false ∧ s.vm.findClass Cn = some cell.cls
theorem rc_of {G : GT} {Cn : String} {b k ci : Nat} {q : vw_C} (h : ∀ g : Mem, ∃ fs : List Value, (WW G g)[k]? = some (b, .inr (ci, fs))) (hc : vwCl[ci]? = some q) (he : q.1 = Cn) : RC G Cn b := by
  intro g s H locs hE hS hP
  obtain ⟨fs, h1⟩ := h g
  have := va_recv hE.1 hP hc h1
  rw [he] at this
  exact this
theorem rc_x {G : GT} : RC G RX4 (xo G) := rc_of (k := 0) (ci := 3) (fun _ => ⟨_, rfl⟩) rfl rfl
theorem rc_d {G : GT} {d : Nat} (h : d < 4) : RC G RX0 (dr G d) := rc_of (k := 1 + 4 * d) (ci := 0) (fun _ => ⟨_, at_D h⟩) rfl rfl
theorem rc_t {G : GT} : RC G RX3 (tp G) := rc_of (k := 17) (ci := 2) (fun _ => ⟨_, rfl⟩) rfl rfl
theorem rc_s {G : GT} {t : Nat} (h : t < 4) : RC G RX2 (sh G t) := rc_of (k := 20 + 2 * t) (ci := 1) (fun _ => ⟨_, at_Sh h⟩) rfl rfl
theorem rc_m {G : GT} : RC G RX5 (mo G) := rc_of (k := 29) (ci := 4) (fun _ => ⟨_, rfl⟩) rfl rfl
theorem rc_k {G : GT} {i : Nat} (h : i < 12) : RC G "java/lang/String" (gK G i) := fun _ _ _ _ hE hS _ => vk_recv hE.2.2.2.2.2.2.2.1 h hS
def MV (y : MethodName) (ccy : ByteArray) (mL : Nat) (rt : Option FieldType) (n : Nat) : Prop := Cond.code y ccy mL rt ∈ TBL ∧ Cond.instanceMethod y ∈ TBL ∧ Cond.selects y.cls y y ∈ TBL ∧ Cond.initialized y.cls ∈ TBL ∧ (y.cls ≠ "java/lang/invoke/MethodHandle" ∧ y.cls ≠ "java/lang/invoke/VarHandle" ∧ (parseMethodDescriptor y.desc).map (fun d => d.parameters.length) = some n)
def MS (y : MethodName) (ccy : ByteArray) (mL : Nat) (rt : Option FieldType) (n : Nat) : Prop := Cond.code y ccy mL rt ∈ TBL ∧ Cond.static y ∈ TBL ∧ Cond.initialized y.cls ∈ TBL ∧ (y.cls ≠ "java/lang/invoke/MethodHandle" ∧ y.cls ≠ "java/lang/invoke/VarHandle" ∧ (parseMethodDescriptor y.desc).map (fun d => d.parameters.length) = some n)
theorem MV.good {y : MethodName} {ccy : ByteArray} {mL n idx : Nat} {rt : Option FieldType} {own : String} (h : MV y ccy mL rt n) (hl : Cond.methodLink own idx y ∈ TBL) : GoodIn TBL (wsV own idx y.cls y (Cond.code y ccy mL rt :: TBL)) := by
  obtain ⟨v1, v2, v3, v4, -⟩ := h
  refine TBL_good (fun w hw => ?_)
  unfold wsV at hw
  rcases List.mem_append.mp hw with hw | hw
  · simp only [List.mem_cons, List.not_mem_nil, or_false] at hw
    rcases hw with rfl | rfl | rfl | rfl <;> assumption
  · rcases List.mem_cons.mp hw with rfl | hw
    · exact v1
    · exact hw
theorem MS.good {y : MethodName} {ccy : ByteArray} {mL n idx : Nat} {rt : Option FieldType} {own : String} (h : MS y ccy mL rt n) (hl : Cond.methodLink own idx y ∈ TBL) : GoodIn TBL (va_wsS own idx y (Cond.code y ccy mL rt :: TBL)) := by
  obtain ⟨v1, v2, v3, -⟩ := h
  refine TBL_good (fun w hw => ?_)
  unfold va_wsS at hw
  rcases List.mem_append.mp hw with hw | hw
  · simp only [List.mem_cons, List.not_mem_nil, or_false] at hw
    rcases hw with rfl | rfl | rfl <;> assumption
  · rcases List.mem_cons.mp hw with rfl | hw
    · exact v1
    · exact hw
theorem PRE_blind {G : GT} {g : Mem} {av : List Value} : FrameBlind (va_Pc av (PRE G g)) := fun _ _ _ _ h => ⟨h.1, h.2.1, h.2.2.same rfl⟩
section CALLS
variable {X : XT} {G : GT} {own : String} {cc : ByteArray} {nL fr lo : Nat} {g : Mem} {L : List (Option Value)} {st st0 : List Value} {idx mLy n fr' lo' b : Nat} {y : MethodName} {ccy : ByteArray} {rt : FieldType} {As : List Value}
theorem j_vi (pc : Nat) {post : Int32 → Mem → Prop} (C : CX X G own cc nL fr lo) (hd : decode cc pc = .ok (.invokevirtual idx, 3)) (hV : MV y ccy mLy (some rt) n) (hlk : Cond.methodLink own idx y ∈ TBL) (hM : Cti G y ccy mLy rt fr' lo' (.ref b :: As) g post) (hrc : RC G y.cls b) (hn : As.length = n) (hst : st0 = As.reverse ++ .ref b :: st) (hro : fr' + 1 ≤ fr ∧ 19 + mLy + lo' ≤ lo) (hsm : (st.map fun v => v.category).sum ≤ 8) (k : ∀ r g', post r g' → J X G nL g' (pc + 3) L (.int r :: st)) : J X G nL g pc L st0 := by
  obtain ⟨p, e, R, s, m, args, below, meth, c, Q, cells, slots⟩ := X
  obtain ⟨hx, hb, hml, hown, hts, hE, hc1, hc2, hfr, hlo⟩ := C
  intro H locs ls hP hS hl
  subst hst
  have hEH : EV G s H := hE.kept (fun a h1 h2 => hS.2.1 a h1 h2)
  have h1 : (RM fr' lo').frames + 1 ≤ R.frames := Nat.le_trans hro.1 hfr
  have h2 : 8 + (mLy + 11) + (RM fr' lo').locals ≤ R.locals := by show 8 + (mLy + 11) + lo' ≤ R.locals; have := hro.2; omega
  have hrv := hrc g s H locs hE hS hP
  refine va_calli (va_runV (As := As) (rest := st) (C := y.cls) ⟨hx, hb, hml, hown, hts⟩ hM (cwV n hts (hV.good hlk) rfl rfl rfl ⟨rfl, hV.2.2.2.2⟩ ⟨h1, h2⟩) ⟨PRE_blind, hrv, fun U hU hW => ⟨rfl, by rw [hU]; exact hP, by rw [hU]; exact hEH.warm hW⟩⟩ rfl hn hl.1 rfl (lv_room hsm) hd ⟨hc1, hc2⟩) hS (fun q _ h => h) (fun q h => h) (fun r u t H1 locs1 ht hvm hp hB hz1 hk1 hS1 => ?_)
  have hB : va_P (gD G) vwCl (WW G u) t.heap := hB
  rw [ht] at hB
  exact k r u hp H1 locs1 ls hB hS1 hl
theorem j_vl (pc : Nat) {post : Int64 → Mem → Prop} (C : CX X G own cc nL fr lo) (hd : decode cc pc = .ok (.invokevirtual idx, 3)) (hV : MV y ccy mLy (some .long) n) (hlk : Cond.methodLink own idx y ∈ TBL) (hM : Ctl G y ccy mLy fr' lo' (.ref b :: As) g post) (hrc : RC G y.cls b) (hn : As.length = n) (hst : st0 = As.reverse ++ .ref b :: st) (hro : fr' + 1 ≤ fr ∧ 19 + mLy + lo' ≤ lo) (hsm : (st.map fun v => v.category).sum ≤ 8) (k : ∀ r g', post r g' → J X G nL g' (pc + 3) L (.long r :: st)) : J X G nL g pc L st0 := by
  obtain ⟨p, e, R, s, m, args, below, meth, c, Q, cells, slots⟩ := X
  obtain ⟨hx, hb, hml, hown, hts, hE, hc1, hc2, hfr, hlo⟩ := C
  intro H locs ls hP hS hl
  subst hst
  have hEH : EV G s H := hE.kept (fun a h1 h2 => hS.2.1 a h1 h2)
  have h1 : (RM fr' lo').frames + 1 ≤ R.frames := Nat.le_trans hro.1 hfr
  have h2 : 8 + (mLy + 11) + (RM fr' lo').locals ≤ R.locals := by show 8 + (mLy + 11) + lo' ≤ R.locals; have := hro.2; omega
  have hrv := hrc g s H locs hE hS hP
  refine va_calll (va_runV (As := As) (rest := st) (C := y.cls) ⟨hx, hb, hml, hown, hts⟩ hM (cwV n hts (hV.good hlk) rfl rfl rfl ⟨rfl, hV.2.2.2.2⟩ ⟨h1, h2⟩) ⟨PRE_blind, hrv, fun U hU hW => ⟨rfl, by rw [hU]; exact hP, by rw [hU]; exact hEH.warm hW⟩⟩ rfl hn hl.1 rfl (lv_room hsm) hd ⟨hc1, hc2⟩) hS (fun q _ h => h) (fun q h => h) (fun r u t H1 locs1 ht hvm hp hB hz1 hk1 hS1 => ?_)
  have hB : va_P (gD G) vwCl (WW G u) t.heap := hB
  rw [ht] at hB
  exact k r u hp H1 locs1 ls hB hS1 hl
theorem j_vv (pc : Nat) {post : Mem → Prop} (C : CX X G own cc nL fr lo) (hd : decode cc pc = .ok (.invokevirtual idx, 3)) (hV : MV y ccy mLy none n) (hlk : Cond.methodLink own idx y ∈ TBL) (hM : Ctv G y ccy mLy fr' lo' (.ref b :: As) g post) (hrc : RC G y.cls b) (hn : As.length = n) (hst : st0 = As.reverse ++ .ref b :: st) (hro : fr' + 1 ≤ fr ∧ 19 + mLy + lo' ≤ lo) (hsm : (st.map fun v => v.category).sum ≤ 8) (k : ∀ g', post g' → J X G nL g' (pc + 3) L st) : J X G nL g pc L st0 := by
  obtain ⟨p, e, R, s, m, args, below, meth, c, Q, cells, slots⟩ := X
  obtain ⟨hx, hb, hml, hown, hts, hE, hc1, hc2, hfr, hlo⟩ := C
  intro H locs ls hP hS hl
  subst hst
  have hEH : EV G s H := hE.kept (fun a h1 h2 => hS.2.1 a h1 h2)
  have h1 : (RM fr' lo').frames + 1 ≤ R.frames := Nat.le_trans hro.1 hfr
  have h2 : 8 + (mLy + 11) + (RM fr' lo').locals ≤ R.locals := by show 8 + (mLy + 11) + lo' ≤ R.locals; have := hro.2; omega
  have hrv := hrc g s H locs hE hS hP
  refine va_callv (va_runV (As := As) (rest := st) (C := y.cls) ⟨hx, hb, hml, hown, hts⟩ hM (cwV n hts (hV.good hlk) rfl rfl rfl ⟨rfl, hV.2.2.2.2⟩ ⟨h1, h2⟩) ⟨PRE_blind, hrv, fun U hU hW => ⟨rfl, by rw [hU]; exact hP, by rw [hU]; exact hEH.warm hW⟩⟩ rfl hn hl.1 rfl (lv_room hsm) hd ⟨hc1, hc2⟩) hS (fun q _ h => h) (fun q h => h) (fun u t H1 locs1 ht hvm hp hB hz1 hk1 hS1 => ?_)
  have hB : va_P (gD G) vwCl (WW G u) t.heap := hB
  rw [ht] at hB
  exact k u hp H1 locs1 ls hB hS1 hl
theorem j_si (pc : Nat) {post : Int32 → Mem → Prop} (C : CX X G own cc nL fr lo) (hd : decode cc pc = .ok (.invokestatic idx, 3)) (hV : MS y ccy mLy (some rt) n) (hlk : Cond.methodLink own idx y ∈ TBL) (hM : Cti G y ccy mLy rt fr' lo' As g post) (hn : As.length = n) (hst : st0 = As.reverse ++ st) (hro : fr' + 1 ≤ fr ∧ 19 + mLy + lo' ≤ lo) (hsm : (st.map fun v => v.category).sum ≤ 8) (k : ∀ r g', post r g' → J X G nL g' (pc + 3) L (.int r :: st)) : J X G nL g pc L st0 := by
  obtain ⟨p, e, R, s, m, args, below, meth, c, Q, cells, slots⟩ := X
  obtain ⟨hx, hb, hml, hown, hts, hE, hc1, hc2, hfr, hlo⟩ := C
  intro H locs ls hP hS hl
  subst hst
  have hEH : EV G s H := hE.kept (fun a h1 h2 => hS.2.1 a h1 h2)
  have h1 : (RM fr' lo').frames + 1 ≤ R.frames := Nat.le_trans hro.1 hfr
  have h2 : 8 + (mLy + 11) + (RM fr' lo').locals ≤ R.locals := by show 8 + (mLy + 11) + lo' ≤ R.locals; have := hro.2; omega
  refine va_calli (va_runS (As := As) (rest := st) ⟨hx, hb, hml, hown, hts⟩ hM (va_cwS n hts (hV.good hlk) rfl rfl rfl hV.2.2.2 ⟨h1, h2⟩) ⟨PRE_blind, fun U hU hW => ⟨rfl, by rw [hU]; exact hP, by rw [hU]; exact hEH.warm hW⟩⟩ rfl hn hl.1 rfl (lv_room hsm) hd ⟨hc1, hc2⟩) hS (fun q _ h => h) (fun q h => h) (fun r u t H1 locs1 ht hvm hp hB hz1 hk1 hS1 => ?_)
  have hB : va_P (gD G) vwCl (WW G u) t.heap := hB
  rw [ht] at hB
  exact k r u hp H1 locs1 ls hB hS1 hl
theorem j_sl (pc : Nat) {post : Int64 → Mem → Prop} (C : CX X G own cc nL fr lo) (hd : decode cc pc = .ok (.invokestatic idx, 3)) (hV : MS y ccy mLy (some .long) n) (hlk : Cond.methodLink own idx y ∈ TBL) (hM : Ctl G y ccy mLy fr' lo' As g post) (hn : As.length = n) (hst : st0 = As.reverse ++ st) (hro : fr' + 1 ≤ fr ∧ 19 + mLy + lo' ≤ lo) (hsm : (st.map fun v => v.category).sum ≤ 8) (k : ∀ r g', post r g' → J X G nL g' (pc + 3) L (.long r :: st)) : J X G nL g pc L st0 := by
  obtain ⟨p, e, R, s, m, args, below, meth, c, Q, cells, slots⟩ := X
  obtain ⟨hx, hb, hml, hown, hts, hE, hc1, hc2, hfr, hlo⟩ := C
  intro H locs ls hP hS hl
  subst hst
  have hEH : EV G s H := hE.kept (fun a h1 h2 => hS.2.1 a h1 h2)
  have h1 : (RM fr' lo').frames + 1 ≤ R.frames := Nat.le_trans hro.1 hfr
  have h2 : 8 + (mLy + 11) + (RM fr' lo').locals ≤ R.locals := by show 8 + (mLy + 11) + lo' ≤ R.locals; have := hro.2; omega
  refine va_calll (va_runS (As := As) (rest := st) ⟨hx, hb, hml, hown, hts⟩ hM (va_cwS n hts (hV.good hlk) rfl rfl rfl hV.2.2.2 ⟨h1, h2⟩) ⟨PRE_blind, fun U hU hW => ⟨rfl, by rw [hU]; exact hP, by rw [hU]; exact hEH.warm hW⟩⟩ rfl hn hl.1 rfl (lv_room hsm) hd ⟨hc1, hc2⟩) hS (fun q _ h => h) (fun q h => h) (fun r u t H1 locs1 ht hvm hp hB hz1 hk1 hS1 => ?_)
  have hB : va_P (gD G) vwCl (WW G u) t.heap := hB
  rw [ht] at hB
  exact k r u hp H1 locs1 ls hB hS1 hl
theorem j_sv (pc : Nat) {post : Mem → Prop} (C : CX X G own cc nL fr lo) (hd : decode cc pc = .ok (.invokestatic idx, 3)) (hV : MS y ccy mLy none n) (hlk : Cond.methodLink own idx y ∈ TBL) (hM : Ctv G y ccy mLy fr' lo' As g post) (hn : As.length = n) (hst : st0 = As.reverse ++ st) (hro : fr' + 1 ≤ fr ∧ 19 + mLy + lo' ≤ lo) (hsm : (st.map fun v => v.category).sum ≤ 8) (k : ∀ g', post g' → J X G nL g' (pc + 3) L st) : J X G nL g pc L st0 := by
  obtain ⟨p, e, R, s, m, args, below, meth, c, Q, cells, slots⟩ := X
  obtain ⟨hx, hb, hml, hown, hts, hE, hc1, hc2, hfr, hlo⟩ := C
  intro H locs ls hP hS hl
  subst hst
  have hEH : EV G s H := hE.kept (fun a h1 h2 => hS.2.1 a h1 h2)
  have h1 : (RM fr' lo').frames + 1 ≤ R.frames := Nat.le_trans hro.1 hfr
  have h2 : 8 + (mLy + 11) + (RM fr' lo').locals ≤ R.locals := by show 8 + (mLy + 11) + lo' ≤ R.locals; have := hro.2; omega
  refine va_callv (va_runS (As := As) (rest := st) ⟨hx, hb, hml, hown, hts⟩ hM (va_cwS n hts (hV.good hlk) rfl rfl rfl hV.2.2.2 ⟨h1, h2⟩) ⟨PRE_blind, fun U hU hW => ⟨rfl, by rw [hU]; exact hP, by rw [hU]; exact hEH.warm hW⟩⟩ rfl hn hl.1 rfl (lv_room hsm) hd ⟨hc1, hc2⟩) hS (fun q _ h => h) (fun q h => h) (fun u t H1 locs1 ht hvm hp hB hz1 hk1 hS1 => ?_)
  have hB : va_P (gD G) vwCl (WW G u) t.heap := hB
  rw [ht] at hB
  exact k u hp H1 locs1 ls hB hS1 hl
theorem j_mmin (pc : Nat) {x y : Int32} (C : CX X G own cc nL fr lo) (hd : decode cc pc = .ok (.invokestatic idx, 3)) (hlk : Cond.methodLink own idx Lib.Math.min.name ∈ TBL) (hw : Cond.static Lib.Math.min.name ∈ TBL ∧ Cond.initialized "java/lang/Math" ∈ TBL ∧ Cond.code Lib.Math.min.name Lib.Math.min.code 2 (some .int) ∈ TBL) (hro : 1 ≤ fr ∧ (st.map fun v => v.category).sum + 13 ≤ lo) (k : J X G nL g (pc + 3) L (.int (if y < x then y else x) :: st)) : J X G nL g pc L (.int y :: .int x :: st) := by
  obtain ⟨p, e, R, s, m, args, below, meth, c, Q, cells, slots⟩ := X
  obtain ⟨hx, hb, hml, hown, hts, hE, hc1, hc2, hfr, hlo⟩ := C
  intro H locs ls hP hS hl
  exact va_mmin hx hb (hml.trans hl.1.symm) hown (hts _ hlk) (hts _ hw.1) (hts _ hw.2.1) (hts _ hw.2.2) (Nat.le_trans hro.1 hfr) (Nat.le_trans hro.2 hlo) hc1 hc2 hd (k H locs ls hP hS hl)
theorem j_mmax (pc : Nat) {x y : Int32} (C : CX X G own cc nL fr lo) (hd : decode cc pc = .ok (.invokestatic idx, 3)) (hlk : Cond.methodLink own idx Lib.Math.max.name ∈ TBL) (hw : Cond.static Lib.Math.max.name ∈ TBL ∧ Cond.initialized "java/lang/Math" ∈ TBL ∧ Cond.code Lib.Math.max.name Lib.Math.max.code 2 (some .int) ∈ TBL) (hro : 1 ≤ fr ∧ (st.map fun v => v.category).sum + 13 ≤ lo) (k : J X G nL g (pc + 3) L (.int (if x < y then y else x) :: st)) : J X G nL g pc L (.int y :: .int x :: st) := by
  obtain ⟨p, e, R, s, m, args, below, meth, c, Q, cells, slots⟩ := X
  obtain ⟨hx, hb, hml, hown, hts, hE, hc1, hc2, hfr, hlo⟩ := C
  intro H locs ls hP hS hl
  exact va_mmax hx hb (hml.trans hl.1.symm) hown (hts _ hlk) (hts _ hw.1) (hts _ hw.2.1) (hts _ hw.2.2) (Nat.le_trans hro.1 hfr) (Nat.le_trans hro.2 hlo) hc1 hc2 hd (k H locs ls hP hS hl)
end CALLS
