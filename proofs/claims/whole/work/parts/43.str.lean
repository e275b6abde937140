/-! String constants: their rows and the JDK's methods on them -/
def chr (i j : Nat) : Int32 := (sByt.getD i []).getD j 0
def sl (i : Nat) : Nat := sLen.getD i 0
theorem chr_i2c : ∀ i, i < 12 → ∀ j, j < sl i → ((chr i j &&& 255).toUInt32 % 65536).toInt32 = chr i j ∧ narrow .char (.int (chr i j)) = .int (chr i j) := by decide +kernel
theorem sl_le : ∀ i, i < 12 → sl i ≤ 7 ∧ 0 < sl i := by decide
def Ctr (G : GT) (y : MethodName) (cc : ByteArray) (mL : Nat) (rt : FieldType) (fr lo : Nat) (av : List Value) (g : Mem) (post : Nat → Mem → Prop) : Prop :=
  Met G.1 y (Cond.code y cc mL (some rt) :: TBL) (RM fr lo) (va_Pc av (PRE G g)) (va_Qr (fun _ : Mem => True) (fun g' a t => post a g' ∧ POS G g' t) (Aq G)) 0 0 (Aq G)
section STR
variable {X : XT} {G : GT} {own : String} {cc : ByteArray} {nL fr lo : Nat} {g : Mem} {L : List (Option Value)} {st st0 : List Value}
theorem ent_n {y : MethodName} {mL : Nat} {av : List Value} {rt : FieldType} {post : Int32 → Mem → Prop} (hy : plainName y.cls = true) (hl : (lg_sl av).length ≤ mL) (L0 : List (Option Value)) (hL : lv_args 0 av = lis 0 L0)
    (body : ∀ X : XT, CX X G y.cls cc mL fr lo → (∀ {pc : Nat} {L : List (Option Value)} {r : Int32} {g' : Mem}, decode cc pc = .ok (.ireturn, 1) → narrow rt (.int r) = .int r → post r g' → J X G mL g' pc L [.int r]) → J X G mL g 0 L0 []) : Cti G y cc mL rt fr lo av g post := by
  refine ent_W hy hl L0 hL ?_
  intro p e s m below meth c hr hlocks C
  refine body _ C ?_
  intro pc L r g' hd hn hp H locs ls hP hS hls
  obtain ⟨hx, hb, -⟩ := C
  exact W.zret (v := r) hx hb hr hn (fun t ht hW => ⟨⟨r, g', rfl, hp, by show va_P _ _ _ t.heap; rw [ht]; exact hP⟩, hS.F ht⟩) hS.2.2 hd
theorem ent_r {y : MethodName} {mL : Nat} {av : List Value} {cn : String} {post : Nat → Mem → Prop} (hy : plainName y.cls = true) (hl : (lg_sl av).length ≤ mL) (L0 : List (Option Value)) (hL : lv_args 0 av = lis 0 L0)
    (body : ∀ X : XT, CX X G y.cls cc mL fr lo → (∀ {pc : Nat} {L : List (Option Value)} {a : Nat} {g' : Mem}, decode cc pc = .ok (.areturn, 1) → post a g' → J X G mL g' pc L [.ref a]) → J X G mL g 0 L0 []) : Ctr G y cc mL (.object cn) fr lo av g post := by
  refine ent_W hy hl L0 hL ?_
  intro p e s m below meth c hr hlocks C
  refine body _ C ?_
  intro pc L a g' hd hp H locs ls hP hS hls
  obtain ⟨hx, hb, -⟩ := C
  exact W.aret (v := .ref a) hx hb hr (Or.inl ⟨cn, rfl⟩) (Or.inr ⟨a, rfl⟩) (fun t ht hW => ⟨⟨g', a, rfl, trivial, hp, by show va_P _ _ _ t.heap; rw [ht]; exact hP⟩, hS.F ht⟩) hS.2.2 hd
theorem j_sr (pc : Nat) {idx mLy n fr' lo' : Nat} {y : MethodName} {ccy : ByteArray} {rt : FieldType} {As : List Value} {post : Nat → Mem → Prop} (C : CX X G own cc nL fr lo) (hd : decode cc pc = .ok (.invokestatic idx, 3)) (hV : MS y ccy mLy (some rt) n) (hlk : Cond.methodLink own idx y ∈ TBL) (hM : Ctr G y ccy mLy rt fr' lo' As g post) (hn : As.length = n) (hst : st0 = As.reverse ++ st) (hro : fr' + 1 ≤ fr ∧ 19 + mLy + lo' ≤ lo) (hsm : (st.map fun v => v.category).sum ≤ 8) (k : ∀ a g', post a g' → J X G nL g' (pc + 3) L (.ref a :: st)) : J X G nL g pc L st0 := by
  obtain ⟨p, e, R, s, m, args, below, meth, c, Q, cells, slots⟩ := X
  obtain ⟨hx, hb, hml, hown, hts, hE, hc1, hc2, hfr, hlo⟩ := C
  intro H locs ls hP hS hl
  subst hst
  have hEH : EV G s H := hE.kept (fun a h1 h2 => hS.2.1 a h1 h2)
  have h1 : (RM fr' lo').frames + 1 ≤ R.frames := Nat.le_trans hro.1 hfr
  have h2 : 8 + (mLy + 11) + (RM fr' lo').locals ≤ R.locals := by show 8 + (mLy + 11) + lo' ≤ R.locals; have := hro.2; omega
  refine va_callr (va_runS (As := As) (rest := st) ⟨hx, hb, hml, hown, hts⟩ hM (va_cwS n hts (hV.good hlk) rfl rfl rfl hV.2.2.2 ⟨h1, h2⟩) ⟨PRE_blind, fun U hU hW => ⟨rfl, by rw [hU]; exact hP, by rw [hU]; exact hEH.warm hW⟩⟩ rfl hn hl.1 rfl (lv_room hsm) hd ⟨hc1, hc2⟩) hS (fun q _ h => h) (fun q h => h) (fun u ra t H1 locs1 ht hvm hp hB hz1 hk1 hS1 => ?_)
  obtain ⟨hB1, hB2⟩ := hB
  have hB2 : va_P (gD G) vwCl (WW G u) t.heap := hB2
  rw [ht] at hB2
  exact k ra u hB1 H1 locs1 ls hB2 hS1 hl
theorem j_i2c (pc : Nat) {x : Int32} (C : CX X G own cc nL fr lo) (hd : decode cc pc = .ok (.i2c, 1)) (k : J X G nL g (pc + 1) L (.int (x.toUInt32 % 65536).toInt32 :: st)) : J X G nL g pc L (.int x :: st) := by
  obtain ⟨p, e, R, s, m, args, below, meth, c, Q, cells, slots⟩ := X
  obtain ⟨hx, hb, hml, hown, hts, hE, hc1, hc2, hfr, hlo⟩ := C
  intro H locs ls hP hS hl
  exact lv_i2c hx hb hd rfl (k H locs ls hP hS hl)
theorem jg_J0_9 (pc : Nat) {i : Nat} (hi : i < 12) (C : CX X G RJ0 cc nL fr lo) (hd : decode cc pc = .ok (.getfield 9, 3)) (k : J X G nL g (pc + 3) L (.ref (gV G i) :: st)) : J X G nL g pc L (.ref (gK G i) :: st) := by
  obtain ⟨p, e, R, s, m, args, below, meth, c, Q, cells, slots⟩ := X
  obtain ⟨hx, hb, hml, hown, hts, hE, hc1, hc2, hfr, hlo⟩ := C
  intro H locs ls hP hS hl
  exact vk_getf hx hb (hE.2.2.2.2.2.2.2.1.1 i hi).2.2.1 hS hown (hts _ fl_J0_9) (fun _ h => h) hd (k H locs ls hP hS hl)
theorem jg_J0_15 (pc : Nat) {i : Nat} (hi : i < 12) (C : CX X G RJ0 cc nL fr lo) (hd : decode cc pc = .ok (.getfield 15, 3)) (k : J X G nL g (pc + 3) L (.int 0 :: st)) : J X G nL g pc L (.ref (gK G i) :: st) := by
  obtain ⟨p, e, R, s, m, args, below, meth, c, Q, cells, slots⟩ := X
  obtain ⟨hx, hb, hml, hown, hts, hE, hc1, hc2, hfr, hlo⟩ := C
  intro H locs ls hP hS hl
  exact vk_getf hx hb (hE.2.2.2.2.2.2.2.1.1 i hi).2.1 hS hown (hts _ fl_J0_15) (fun _ h => h) hd (k H locs ls hP hS hl)
theorem j_slen (pc : Nat) {i : Nat} (hi : i < 12) (C : CX X G own cc nL fr lo) (hd : decode cc pc = .ok (.arraylength, 1)) (k : J X G nL g (pc + 1) L (.int (nI (sl i)) :: st)) : J X G nL g pc L (.ref (gV G i) :: st) := by
  obtain ⟨p, e, R, s, m, args, below, meth, c, Q, cells, slots⟩ := X
  obtain ⟨hx, hb, hml, hown, hts, hE, hc1, hc2, hfr, hlo⟩ := C
  intro H locs ls hP hS hl
  exact va_tlen hx hb (hE.2.2.2.2.2.2.2.1.1 i hi).2.2.2 hS rfl hd (k H locs ls hP hS hl)
theorem jl_sb (pc : Nat) {i j : Nat} (hi : i < 12) (hj : j < sl i) (C : CX X G own cc nL fr lo) (hd : decode cc pc = .ok (.baload, 1)) (k : J X G nL g (pc + 1) L (.int (chr i j) :: st)) : J X G nL g pc L (.int (nI j) :: .ref (gV G i) :: st) := by
  obtain ⟨p, e, R, s, m, args, below, meth, c, Q, cells, slots⟩ := X
  obtain ⟨hx, hb, hml, hown, hts, hE, hc1, hc2, hfr, hlo⟩ := C
  intro H locs ls hP hS hl
  have h7 := (sl_le i hi).1
  exact va_tb hx hb (hE.2.2.2.2.2.2.2.1.1 i hi).2.2.2 hS (nI_in (N := sLen.getD i 0) hj (by show sl i < 2 ^ 31; omega)) (by rw [nI_clamp (by omega)]; rfl) hd (k H locs ls hP hS hl)
theorem jgs_J0_38 (pc : Nat) (C : CX X G RJ0 cc nL fr lo) (hd : decode cc pc = .ok (.getstatic 38, 3)) (k : J X G nL g (pc + 3) L (.int 1 :: st)) : J X G nL g pc L st := by
  obtain ⟨p, e, R, s, m, args, below, meth, c, Q, cells, slots⟩ := X
  obtain ⟨hx, hb, hml, hown, hts, hE, hc1, hc2, hfr, hlo⟩ := C
  intro H locs ls hP hS hl
  exact va_gets hx hb hE.2.2.2.2.2.1 hS hown (hts _ fl_J0_38) (fun _ h => h) hd (k H locs ls hP hS hl)
theorem jgs_J0_1053 (pc : Nat) (C : CX X G RJ0 cc nL fr lo) (hd : decode cc pc = .ok (.getstatic 1053, 3)) (k : J X G nL g (pc + 3) L (gv G :: st)) : J X G nL g pc L st := by
  obtain ⟨p, e, R, s, m, args, below, meth, c, Q, cells, slots⟩ := X
  obtain ⟨hx, hb, hml, hown, hts, hE, hc1, hc2, hfr, hlo⟩ := C
  intro H locs ls hP hS hl
  exact va_gets hx hb hE.2.2.2.2.2.2.1.1 hS hown (hts _ fl_J0_1053) (fun _ h => h) hd (k H locs ls hP hS hl)
theorem gv_or (C : CX X G own cc nL fr lo) : gv G = .null ∨ ∃ a, gv G = .ref a := by
  obtain ⟨p, e, R, s, m, args, below, meth, c, Q, cells, slots⟩ := X
  obtain ⟨hx, hb, hml, hown, hts, hE, hc1, hc2, hfr, hlo⟩ := C
  exact hE.2.2.2.2.2.2.1.2
theorem j_ldcS (pc : Nat) (i : Nat) {ix : Nat} (hi : i < 12) (hx9 : sIdx.getD i 0 = ix) (C : CX X G RX3 cc nL fr lo) (hd : decode cc pc = .ok (.ldc ix, 2)) (k : J X G nL g (pc + 2) L (.ref (gK G i) :: st)) : J X G nL g pc L st := by
  obtain ⟨p, e, R, s, m, args, below, meth, c, Q, cells, slots⟩ := X
  obtain ⟨hx, hb, hml, hown, hts, hE, hc1, hc2, hfr, hlo⟩ := C
  intro H locs ls hP hS hl
  subst hx9
  exact va_ldcS hx hb hown (hE.2.2.2.2.2.2.2.2.1 i hi) hd (k H locs ls hP hS hl)
/-- within, from the tape's class: a nest mate's -/
theorem j_within3 (pc : Nat) {x lw up : Int32} (C : CX X G RX3 cc nL fr lo) (hd : decode cc pc = .ok (.invokestatic 102, 3)) (hro : 1 ≤ fr ∧ 22 ≤ lo) (hsm : (st.map fun v => v.category).sum ≤ 8) (k : J X G nL g (pc + 3) L (.int (bi (inr x lw up)) :: st)) : J X G nL g pc L (.int up :: .int lw :: .int x :: st) := by
  obtain ⟨p, e, R, s, m, args, below, meth, c, Q, cells, slots⟩ := X
  obtain ⟨hx, hb, hml, hown, hts, hE, hc1, hc2, hfr, hlo⟩ := C
  intro H locs ls hP hS hl
  have hEH : EV G s H := hE.kept (fun a h1 h2 => hS.2.1 a h1 h2)
  have hM := c_X4_within (G := G) (g := g) (x := x) (lw := lw) (up := up)
  have h1 : (RM 0 0).frames + 1 ≤ R.frames := Nat.le_trans hro.1 hfr
  have h2 : 8 + (3 + 11) + (RM 0 0).locals ≤ R.locals := by show 8 + (3 + 11) + 0 ≤ R.locals; have := hro.2; omega
  have hG : GoodIn TBL (Cond.code yX4_within cX4_within 3 (some .boolean) :: TBL) := TBL_good (fun w hw => by
    rcases List.mem_cons.mp hw with rfl | hw
    · exact ms_X4_within.1
    · exact hw)
  refine va_calli (va_runSN (As := [.int x, .int lw, .int up]) (rest := st) ⟨hx, hb, hml, hown, hts⟩ hM ⟨va_cnB 3 hts hG rfl rfl rfl hE.2.2.2.2.2.2.2.2.2.2.2 (hts _ ms_X4_within.2.2.1) ms_X4_within.2.2.2 ⟨h1, h2⟩, hts _ ms_X4_within.2.1, trivial⟩ ⟨PRE_blind, fun U hU hW => ⟨rfl, by rw [hU]; exact hP, by rw [hU]; exact hEH.warm hW⟩⟩ rfl rfl hl.1 rfl (lv_room hsm) hd ⟨hc1, hc2⟩) hS (fun q _ h => h) (fun q h => h) (fun r u t H1 locs1 ht hvm hp hB hz1 hk1 hS1 => ?_)
  have hB : va_P (gD G) vwCl (WW G u) t.heap := hB
  rw [ht] at hB
  obtain ⟨rfl, rfl⟩ := hp
  exact k H1 locs1 ls hB hS1 hl
end STR
