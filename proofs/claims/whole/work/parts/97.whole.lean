/-! THE CLAIM OUT OF ONE WALK OF THE LAW'S BODY. Your part is whole_start (and what it stands on); all else here is the same for every law, but numbers. -/
def R_law : String := "MothTongueLaw"
def lw_P (b : Addr) (xs : List Int32) (args : Array Value) (s : State) : Prop := args = #[.ref b] ∧ s.IntsAt b xs ∧ xs.length ≤ 3072 ∧ (Jvm.Cond.and given_1 narrow_1).before args s = true
def lw_Q (_ : Array Value) (s : State) (o : Outcome) (t : State) : Prop := o = .returned (some (.int 1)) ∧ Framed s o t [] 600000 7302250
def lw_Z (below : List Frame) (a : Array Value) (s : State) : State → Prop := fun t => ∃ o, t.status = .running ∧ Ended t below o ∧ lw_Q a s o t
/-- the law's own end, with 1 on the stack, nothing written that was there before, its room as the claim has it -/
theorem lw_ret {p : Program} {l : Launch} {e : Env} {s : State} {m : MethodId} {below : List Frame} {meth : Method} {c : Code} {b : Nat} (hx : p.tables.exec = Jvm.exec) (hb : c.code = code) (hr : meth.sig.returnType = ret) (hlocks : meth.locks = false) {pc : Nat} {H : Heap} {ls : Array Slot} (hdg : decode code pc = .ok (.ireturn, 1)) : W p l e room_1 s m #[Value.ref b] below meth c H [] 600000 7302250 (lw_Z below #[Value.ref b] s) (F0 m pc ls [.int 1]) := by
  intro T hT X
  obtain ⟨fs, hret, hrun, hended, hW, hframe⟩ := X.leave (v := some (.int 1)) (hlocks := hlocks) (fun h => by rw [hr] at h; cases h)
  have hmeth' : T.vm.method? m = some meth := X.method'
  refine ⟨T.setFrames fs, ?_, .returned (some (.int 1)), hrun, hended, rfl, ⟨_, rfl⟩, hW, hframe⟩
  jvm_step X.here [X.here.top, hx, hb, hdg, hmeth', hr, ret, narrow_b1]
  (try refine ⟨rfl, ?_⟩); (try refine ⟨rfl, ?_⟩)
  first | (intro acts; rw [hret _ acts rfl rfl rfl]) | rw [hret _ _ rfl rfl rfl]
  exact Steps.refl _
/-- what holds at the law's entry: the machine, the code, the tables' words (any of lw_tbl by 'hts w (by decide +kernel)'), the script of L ints xs at the cell b, what the Statement gives of the start (any of its parts by flat_of_before) -/
def lw_At (p : Program) (s : State) (m : MethodId) (meth : Method) (c : Code) (b L : Nat) (xs : Nat → Int32) : Prop :=
  p.tables.exec = Jvm.exec ∧ c.code = code ∧ meth.sig.returnType = ret ∧ c.maxLocals = 4 ∧ s.vm.findClass R_law = some m.cls ∧ (∀ w ∈ lw_tbl, w.before #[Value.ref b] s = true) ∧ va_X b L xs s s.heap ∧ b < s.heap.size ∧ meth.locks = false ∧ (Jvm.Cond.and given_1 narrow_1).before #[Value.ref b] s = true
set_option maxHeartbeats 4000000 in
set_option maxRecDepth 100000 in
/-- from the entry, for every script of at most 3072 ints, the law comes to its end with true -/
theorem whole_start {p : Program} {e : Env} {s : State} {m : MethodId} {below : List Frame} {meth : Method} {c : Code} (l : Launch) (hflags : l.flags = flags0) {b L : Nat} {xs : Nat → Int32} (hL : L ≤ 3072) (C0 : lw_At p s m meth c b L xs) : W p l e room_1 s m #[Value.ref b] below meth c s.heap [] 0 0 (lw_Z below #[Value.ref b] s) (entryFrame m ([Value.ref b] : List Value).toArray 4) := by
  obtain ⟨hx, hb, hr, hml, hown0, hts0, hX, hbl, hlocks, hgv⟩ := C0
  have hown : s.vm.findClass RL = some m.cls := hown0
  have hts : ∀ w ∈ TBL, w.before #[Value.ref b] s = true := fun w hw => hts0 w (TBL_in hw)
  obtain ⟨K, V, S, v, hE0⟩ := E0_of hts0 hgv
  obtain ⟨c0, i0, k0⟩ := u_known (C := RX0) (T := TX0) (N := 6) (n := 6) hts in_X0 (hts _ tn_X0)
  obtain ⟨c2, i2, k2⟩ := u_known (C := RX2) (T := TX2) (N := 3) (n := 3) hts in_X2 (hts _ tn_X2)
  obtain ⟨c3, i3, k3⟩ := u_known (C := RX3) (T := TX3) (N := 6) (n := 6) hts in_X3 (hts _ tn_X3)
  obtain ⟨c4, i4, k4⟩ := u_known (C := RX4) (T := TX4) (N := 8) (n := 8) hts in_X4 (hts _ tn_X4)
  obtain ⟨c5, i5, k5⟩ := u_known (C := RX5) (T := TX5) (N := 17) (n := 17) hts in_X5 (hts _ tn_X5)
  obtain ⟨cI, kI, pI, fI1, fI2, fI3⟩ := Cond.arrayClass_spec (hts _ tw_ai)
  obtain ⟨cB, kB, pB, fB1, fB2, fB3⟩ := Cond.arrayClass_spec (hts _ tw_ab)
  obtain ⟨pO, cO, kO, fO1, fO2, fO3, fO4, fO5⟩ := Cond.arrayOver_spec (hts0 _ w_ao)
  have hAO : va_AO RX2 s := va_AO.of (hts0 _ w_ao)
  have hN27 : va_Nw (.methodLinkNest RX4 27 yX3_init "MothTongue") s := va_Nw.of rfl (hts0 _ w_n4)
  have hN46 : va_Nw (.methodLinkNest RX4 46 yX2_init "MothTongue") s := va_Nw.of rfl (hts0 _ w_n5)
  have hDK : ∃ D : va_G, va_K D vwCl (T3 cB cI cO) s := by
    refine ⟨(fun k => [c0, c2, c3, c4, c5].getD k c0, fun k => [i0, i2, i3, i4, i5].getD k i0), fun k q hq => ?_, fun k q hq => ?_⟩
    · match k, hq with
      | 0, hq => cases hq; exact k0
      | 1, hq => cases hq; exact k2
      | 2, hq => cases hq; exact k3
      | 3, hq => cases hq; exact k4
      | 4, hq => cases hq; exact k5
      | k + 5, hq => simp [vwCl] at hq
    · match k, hq with
      | 0, hq => cases hq; exact ⟨fun n z => ⟨fun k h => (by cases h), kB, fB2, pB, fB3⟩, fB1⟩
      | 1, hq => cases hq; exact ⟨fun n z => ⟨fun k h => (by cases h), kI, fI2, pI, fI3⟩, fI1⟩
      | 2, hq => cases hq; exact ⟨fun n z => ⟨fun k h => (by cases h), kO, fO3, pO, fO4⟩, kO, pO, fO3, fO4, fO1, fO5⟩
      | k + 3, hq => simp [T3] at hq
  obtain ⟨D, hK⟩ := hDK
  obtain ⟨A, hAe⟩ : ∃ A : Nat → Prop, A = fun q : Nat => s.heap.size ≤ q := ⟨_, rfl⟩
  have hA : ∀ q : Nat, s.heap.size ≤ q → A q := fun q h => by rw [hAe]; exact h
  have hA2 : ∀ q : Nat, A q → s.heap.size ≤ q := fun q h => by rw [hAe] at h; exact h
  have hS : va_S A s.heap s.heap [] := va_S.rf
  have hP : va_P D vwCl [] s.heap := P_nil
  have hD : va_D A [] := ⟨fun i j p q h => by simp at h, fun k q h => by simp at h⟩
  have hl := lv_entry ([.ref b]) (n := 4) (Nat.le_of_ble_eq_true rfl)
  rw [lg_entry_eq]
  generalize (lg_sl ([.ref b]) ++ List.replicate (4 - (lg_sl ([.ref b])).length) Slot.unset).toArray = ls at hl ⊢
  have hl : lv_has ls 4 [(0, .ref b)] := hl
  refine va_new (ci := 3) (fs := [.null, .null, .null, .null, .null, .null, .null, .int 0]) (C := RX4) (T := TX4) (N := 8) hx hb hts in_X4 tyX4 tyX4_ok hown (hts _ tk_L_7) (hts _ tn_X4) (hts _ ti_X4) hK hP hD hS hA rfl (fun j hj => fs_X4 j hj) (Nat.le_of_ble_eq_true rfl) (Nat.le_of_ble_eq_true rfl) dL_law_0 (fun q1 H hP hD hS => ?_)
  have hP : va_P D vwCl [(q1, .inr (3, [.null, .null, .null, .null, .null, .null, .null, .int 0]))] H := hP
  have hD : va_D A [(q1, .inr (3, [.null, .null, .null, .null, .null, .null, .null, .int 0]))] := hD
  refine W.widen (k := 1) (n := 8) (Nat.le_of_ble_eq_true rfl) (Nat.le_of_ble_eq_true rfl) ?_
  refine lv_dup hx hb dL_law_3 rfl ?_
  have hPc := hP.sub (ws' := [(q1, .inr (3, [.null, .null, .null, .null, .null, .null, .null, .int 0]))]) [0] rfl
  have hDc := hD.sub (ws' := [(q1, .inr (3, [.null, .null, .null, .null, .null, .null, .null, .int 0]))]) [0] (by decide) rfl
  have hFc := va_free (wc := [(q1, .inr (3, [.null, .null, .null, .null, .null, .null, .null, .int 0]))]) hD hS hA [0] rfl
  refine va_callv (va_runI (As := []) (rest := [.ref q1]) ⟨hx, hb, hml, hown, hts⟩ (k_X4_init l D cB cI cO q1 H.size) (cwI 0 hts (TBL_good (List.forall_mem_cons.mpr ⟨tc_X4_init, fun w h => h⟩)) rfl rfl rfl (hts _ ti_X4) (hts _ lk_L_9) (hts _ tm_X4) rfl (by decide +kernel) ⟨(Nat.le_of_ble_eq_true rfl), (Nat.le_of_ble_eq_true rfl)⟩) ⟨fun a U g mk q => by obtain ⟨q0, ⟨q1, qP, qK, qD⟩, qa, qb, qc⟩ := q; exact ⟨q0, ⟨q1, qP, va_K.moved (u := U) (U := U.calling g mk a) (Vm.Alike.refl U.vm) qK, qD⟩, va_AO.moved (u := U) (U := U.calling g mk a) (Vm.Alike.refl U.vm) qa, va_Nw.same (u := U) (U := U.calling g mk a) rfl rfl qb, va_Nw.same (u := U) (U := U.calling g mk a) rfl rfl qc⟩, fun U hU hW => ⟨rfl, ⟨by rw [hU], by rw [hU]; exact hPc, va_K.moved hW.alike hK, hDc.weaken (fun _ _ _ _ => trivial)⟩, hAO.moved hW.alike, hN27.warmM hW, hN46.warmM hW⟩⟩ rfl rfl hl.1 rfl (lv_room (Nat.le_of_ble_eq_true rfl)) dL_law_4 ⟨(Nat.le_of_ble_eq_true rfl), (Nat.le_of_ble_eq_true rfl)⟩) hS (fun q _ h => hFc q h) hFc (fun u t H1 locs ht hvm hw hB hz1 hk1 hS => ?_)
  obtain ⟨hP1, hD1⟩ := hB
  rw [ht] at hP1
  obtain ⟨hP, hD⟩ := va_join (wr := []) (w1 := W4 (mk0 l D cB cI cO u) g0) hP hD [0] [] rfl rfl (by decide) (by decide) hk1 hFc hP1 hD1
  generalize H1 = H at hP hS ⊢
  have hP : va_P D vwCl (W4 (mk0 l D cB cI cO u) g0) H := hP
  have hD : va_D A (W4 (mk0 l D cB cI cO u) g0) := hD
  refine W.widen (k := 29) (n := 701) (Nat.le_of_ble_eq_true rfl) (Nat.le_of_ble_eq_true rfl) ?_
  refine lv_astore_n (lv' := [(1, .ref q1), (0, .ref b)]) hx hb dL_law_7 rfl hl (by decide) rfl (fun ls hl => ?_)
  refine va_new (ci := 4) (fs := [.null, .null, .null, .null, .int 0, .null, .null, .int 0, .null, .null, .null, .null, .int 0, .int 0, .int 0, .int 0, .int 0]) (C := RX5) (T := TX5) (N := 17) hx hb hts in_X5 tyX5 tyX5_ok hown (hts _ tk_L_10) (hts _ tn_X5) (hts _ ti_X5) hK hP hD hS hA rfl (fun j hj => fs_X5 j hj) (Nat.le_of_ble_eq_true rfl) (Nat.le_of_ble_eq_true rfl) dL_law_8 (fun q2 H hP hD hS => ?_)
  refine W.widen (k := 30) (n := 718) (Nat.le_of_ble_eq_true rfl) (Nat.le_of_ble_eq_true rfl) ?_
  refine lv_dup hx hb dL_law_11 rfl ?_
  have hPc := hP.sub (ws' := [(q2, .inr (4, [.null, .null, .null, .null, .int 0, .null, .null, .int 0, .null, .null, .null, .null, .int 0, .int 0, .int 0, .int 0, .int 0]))]) [29] rfl
  have hDc := hD.sub (ws' := [(q2, .inr (4, [.null, .null, .null, .null, .int 0, .null, .null, .int 0, .null, .null, .null, .null, .int 0, .int 0, .int 0, .int 0, .int 0]))]) [29] (by decide) rfl
  have hFc := va_free (wc := [(q2, .inr (4, [.null, .null, .null, .null, .int 0, .null, .null, .int 0, .null, .null, .null, .null, .int 0, .int 0, .int 0, .int 0, .int 0]))]) hD hS hA [29] rfl
  refine va_callv (va_runI (As := []) (rest := [.ref q2]) ⟨hx, hb, hml, hown, hts⟩ (k_X5_init l D cB cI cO q2 H.size) (cwI 0 hts (TBL_good (List.forall_mem_cons.mpr ⟨tc_X5_init, fun w h => h⟩)) rfl rfl rfl (hts _ ti_X5) (hts _ lk_L_12) (hts _ tm_X5) rfl (by decide +kernel) ⟨(Nat.le_of_ble_eq_true rfl), (Nat.le_of_ble_eq_true rfl)⟩) ⟨fun a U g mk q => by obtain ⟨q0, q1, qP, qK, qD⟩ := q; exact ⟨q0, q1, qP, va_K.moved (u := U) (U := U.calling g mk a) (Vm.Alike.refl U.vm) qK, qD⟩, fun U hU hW => ⟨rfl, by rw [hU], by rw [hU]; exact hPc, va_K.moved hW.alike hK, hDc.weaken (fun _ _ _ _ => trivial)⟩⟩ rfl rfl hl.1 rfl (lv_room (Nat.le_of_ble_eq_true rfl)) dL_law_12 ⟨(Nat.le_of_ble_eq_true rfl), (Nat.le_of_ble_eq_true rfl)⟩) hS (fun q _ h => hFc q h) hFc (fun u2 t H1 locs ht hvm hw2 hB hz1 hk1 hS => ?_)
  obtain ⟨hP1, hD1⟩ := hB
  rw [ht] at hP1
  obtain ⟨hP, hD⟩ := va_join (wr := W4 (mk0 l D cB cI cO u) g0) (w1 := W5 (mk0 l D cB cI cO u2) g0) hP hD [29] [0, 1, 2, 3, 4, 5, 6, 7, 8, 9, 10, 11, 12, 13, 14, 15, 16, 17, 18, 19, 20, 21, 22, 23, 24, 25, 26, 27, 28] rfl rfl (by decide) (by decide) hk1 hFc hP1 hD1
  generalize H1 = H at hP hS ⊢
  refine W.widen (k := 40) (n := 1434) (Nat.le_of_ble_eq_true rfl) (Nat.le_of_ble_eq_true rfl) ?_
  refine va_forget (fun q hq => hA2 _ (hS.2.2 q hq)) ?_
  refine lv_astore_n (lv' := [(2, .ref q2), (1, .ref q1), (0, .ref b)]) hx hb dL_law_15 rfl hl (by decide) rfl (fun ls hl => ?_)
  refine lv_iconst (v := 0) hx hb dL_law_16 (by decide) ?_
  refine lv_istore_n (lv' := [(3, .int 0), (2, .ref q2), (1, .ref q1), (0, .ref b)]) hx hb dL_law_17 rfl hl (by decide) rfl (fun ls hl => ?_)
  have hw : u 0 = q1 := hw
  have hw2 : u2 29 = q2 := hw2
  rw [← hw, ← hw2] at hl
  obtain ⟨G, hG⟩ : ∃ G : GT, G = mkG l D cB cI cO (fun k => if k < 29 then u k else u2 k) K V S v := ⟨_, rfl⟩
  have hPW : va_P D vwCl (WW G g0) H := by
    rw [hG]
    intro k q hk
    match k, hk with
    | 0, hk => exact hP 0 q hk
    | 1, hk => exact hP 1 q hk
    | 2, hk => exact hP 2 q hk
    | 3, hk => exact hP 3 q hk
    | 4, hk => exact hP 4 q hk
    | 5, hk => exact hP 5 q hk
    | 6, hk => exact hP 6 q hk
    | 7, hk => exact hP 7 q hk
    | 8, hk => exact hP 8 q hk
    | 9, hk => exact hP 9 q hk
    | 10, hk => exact hP 10 q hk
    | 11, hk => exact hP 11 q hk
    | 12, hk => exact hP 12 q hk
    | 13, hk => exact hP 13 q hk
    | 14, hk => exact hP 14 q hk
    | 15, hk => exact hP 15 q hk
    | 16, hk => exact hP 16 q hk
    | 17, hk => exact hP 17 q hk
    | 18, hk => exact hP 18 q hk
    | 19, hk =>
      obtain rfl := Option.some.inj hk
      refine at_arrq (f := fun i => some (u (20 + 2 * i))) (hP 19 _ rfl) (fun i hi => ?_)
      show some (u (20 + 2 * i)) = some (if 20 + 2 * i < 29 then u (20 + 2 * i) else u2 (20 + 2 * i))
      rw [if_pos (by omega)]
    | 20, hk => exact hP 20 q hk
    | 21, hk => exact hP 21 q hk
    | 22, hk => exact hP 22 q hk
    | 23, hk => exact hP 23 q hk
    | 24, hk => exact hP 24 q hk
    | 25, hk => exact hP 25 q hk
    | 26, hk => exact hP 26 q hk
    | 27, hk => exact hP 27 q hk
    | 28, hk => exact hP 28 q hk
    | 29, hk => exact hP 29 q hk
    | 30, hk => exact hP 30 q hk
    | 31, hk => exact hP 31 q hk
    | 32, hk => exact hP 32 q hk
    | 33, hk => exact hP 33 q hk
    | 34, hk => exact hP 34 q hk
    | 35, hk => exact hP 35 q hk
    | 36, hk => exact hP 36 q hk
    | 37, hk => exact hP 37 q hk
    | 38, hk => exact hP 38 q hk
    | 39, hk => exact hP 39 q hk
    | k + 40, hk =>
      rw [List.getElem?_eq_none (by rw [WW_len]; omega)] at hk
      cases hk
  have hDW : va_D A (WW G g0) := by rw [hG]; exact D_fst (ws := W4 (mk0 l D cB cI cO u) g0 ++ W5 (mk0 l D cB cI cO u2) g0) rfl hD
  have hAG : ∀ a, Aq G a → s.heap.size ≤ a := by
    rintro a ⟨k, hk, rfl⟩
    obtain ⟨q, h1, h2⟩ := WW_e (G := G) (g := g0) hk
    rw [← h2]; exact hA2 _ (hDW.2 k q h1)
  have hDG : va_D (Aq G) (WW G (fun _ _ => 0)) := D_fst (WW_fst G g0 _) ⟨hDW.1, fun k q hq => ⟨k, (WW_k hq).1, (WW_k hq).2⟩⟩
  have hE : EV G s s.heap := EV_of (by rw [hG]; exact hK) hDG hAG (by rw [hG]; exact hE0)
  have hC : CX (p, e, room_1, s, m, #[Value.ref b], below, meth, c, lw_Z below #[Value.ref b] s, 40, 1434) G RL cL_law 4 13 486 := ⟨hx, hb, hml, hown, hts, hE, (Nat.le_of_ble_eq_true rfl), (Nat.le_of_ble_eq_true rfl), (Nat.le_of_ble_eq_true rfl), (Nat.le_of_ble_eq_true rfl)⟩
  have hCS : CS (p, e, room_1, s, m, #[Value.ref b], below, meth, c, lw_Z below #[Value.ref b] s, 40, 1434) G b L xs := ⟨hX, hbl, fun h => absurd (hAG b h) (Nat.not_le.mpr hbl)⟩
  have hGl : G.1 = l := by rw [hG]; rfl
  have hGD : gD G = D := by rw [hG]; rfl
  have hend : ∀ (g : Mem) (i : Nat), J (p, e, room_1, s, m, #[Value.ref b], below, meth, c, lw_Z below #[Value.ref b] s, 40, 1434) G 4 g 1539 [some (.ref b), some (.ref (xo G)), some (.ref (mo G)), some (.int (nI i))] [] := by
    intro g i H locs ls hP hS hl
    refine lv_iconst (v := 1) hx hb dL_law_1539 (by decide) ?_
    refine va_forget (fun q hq => hAG _ (hS.2.2 q hq)) ?_
    refine W.widen (k := 600000) (n := 7302250) (Nat.le_of_ble_eq_true rfl) (Nat.le_of_ble_eq_true rfl) ?_
    exact lw_ret hx hb hr hlocks dL_law_1540
  have hJ := law_loop hC hCS hL hend L 0 0 g0 rfl (by omega) (by decide) REL0 H [] ls (by rw [hGD]; exact hPW) ⟨hS.1, fun q h1 h2 => hS.2.1 q h1 (fun h3 => absurd (hA2 q h3) (Nat.not_le.mpr h1)), fun l hl => by cases hl⟩ (by rw [hG]; exact lv_sub hl [3, 2, 1, 0] rfl)
  rw [hGl] at hJ
  exact hJ
set_option maxHeartbeats 4000000 in
theorem lw_walk (l : Launch) (hflags : l.flags = flags0) (b : Addr) (xs : List Int32) : MetFree l x (headSpec (Jvm.Cond.code x code maxLocals ret :: tables_1) room_1) (lw_P b xs) (fun _ _ _ _ _ => True) lw_Q := by
  refine MetFree.of_bodyS (code := code) (maxLocals := maxLocals) (ret := ret) (by decide) ?_ ?_
  · intro args s m h hn
    obtain ⟨meth, c, h1, h2, h3, h4, h5, h6, -, -⟩ := Cond.code_spec hn (atoms_spec (ws := Jvm.Cond.code x code maxLocals ret :: tables_1) h _ List.mem_cons_self)
    exact ⟨meth, c, h1, h2, h3, h4, h5, h6⟩
  · intro p e s m args below meth c s₁ B hml0 hP _
    obtain ⟨rfl, hx, hbd, hgv⟩ := hP
    obtain ⟨scr, harrAt, hlist, hof, hsmall⟩ := hx
    obtain ⟨hcb, hkn, -, -⟩ := State.arrayAt?_spec harrAt
    have hown : s.vm.findClass R_law = some m.cls := findClass_of_methodNamed B.named
    have hts0 : ∀ c ∈ (Jvm.Cond.code x code maxLocals ret :: tables_1), c.before #[Value.ref b] s = true := atoms_spec (ws := Jvm.Cond.code x code maxLocals ret :: tables_1) B.pre
    have hts : ∀ w ∈ lw_tbl, w.before #[Value.ref b] s = true := k2_hts_sels lw_privs (fun w hw => hts0 w (List.mem_cons_of_mem _ hw)) lw_privs_ok
    have hml : c.maxLocals = 4 := B.maxLocals_eq (hts0 _ List.mem_cons_self)
    have X₀ : Stand p l e room_1 s m #[Value.ref b] below meth c s₁ [] 0 0 := Stand.of_body B
    have hh0 : s₁.heap = s.heap := by rw [B.state]; rfl
    have hsz : scr.slots.size = xs.length := by rw [← Array.length_toList, hlist, List.length_map]
    have hval : ∀ j : Nat, j < xs.length → scr.slots[j]? = some (.int (xs.getD j 0)) := fun j hj => by
      rw [← Array.getElem?_toList, hlist]
      simp [hj]
    have hbl : b < s.heap.size := (Array.getElem?_eq_some_iff.mp hcb).1
    have hX : va_X b xs.length (fun j => xs.getD j 0) s s.heap := ⟨scr, hcb, hof, hkn, hsz, hval⟩
    have K : W p l e room_1 s m #[Value.ref b] below meth c s₁.heap [] 0 0 (lw_Z below #[Value.ref b] s) (entryFrame m ([Value.ref b] : List Value).toArray 4) := by
      rw [hh0]
      exact whole_start l hflags hbd ⟨B.exec, B.bytes, B.returns, hml, hown, hts, hX, hbl, B.notSynchronized, hgv⟩
    obtain ⟨t, a1, o, b1, b2, b3⟩ := K s₁ rfl X₀
    exact ⟨t, o, a1, b1, b2, b3⟩
theorem lw_pre_spec {args : Array Value} {s : State} (h : (Jvm.Cond.and given_1 narrow_1).before args s = true) (hr : rest_1_c.before args s = true) : ∃ (b : Addr) (xs : List Int32), lw_P b xs args s := by
  have hs := flat_of_before _ h
  have hq := flat_of_before _ hr
  have hc : (Cond.count 1).before args s = true := hs _ (by decide +kernel)
  have harr : (Cond.arrayOf (.arg 0) .int).before args s = true := hs _ (by decide +kernel)
  have hle : (Cond.le (.length (.arg 0)) (.int 3072)).before args s = true := hs _ (by decide +kernel)
  have hlen : (Cond.isInt (.length (.arg 0))).before args s = true := hq _ (by decide +kernel)
  have hall : (Cond.all (.arg 0) (.isInt (.elem (.arg 0) (.index 0)))).before args s = true := hq _ (by decide +kernel)
  obtain ⟨b, xs, hb, hx⟩ := State.ints_of_pre rfl harr hlen hall
  have hsm : xs.length < 2 ^ 31 := hx.choose_spec.2.2.2
  have hev : (Term.length (.arg 0)).eval args s none [] s = some (.int xs.length.toInt32) := hx.length_eval hb
  have hv := Cond.le_ints hev (show (Term.int 3072).eval args s none [] s = some (.int 3072) from rfl)
  have hd : xs.length.toInt32 ≤ 3072 := by
    simpa [Cond.before, Cond.holds, hv] using hle
  have hN : xs.length ≤ 3072 := (Int32.ofNat_le_ofNat hsm (by decide)).mp (show Int32.ofNat xs.length ≤ Int32.ofNat 3072 from hd)
  exact ⟨b, xs, Cond.one_arg hc (show args[0]? = some (.ref b) from hb), hx, hN, h⟩
theorem lw_comes (l : Launch) (hflags : l.flags = flags0) : Comes l x (Jvm.Cond.code x code maxLocals ret :: tables_1) room_1 (fun tb e args s => Calls_1 tb e args s ∧ rest_1 tb e args s ∧ Pre_1 tb e args s)
    (fun _ _ args s o t => lw_Q args s o t) := by
  intro p e ha hc hk s m args below hf hfit hheap happ hpre
  obtain ⟨b, xs, hP⟩ := lw_pre_spec hpre.2.2 hpre.2.1
  obtain ⟨k, o, h1, h2, h3, hQ⟩ := lw_walk l hflags b xs p e ha hc hk s m args below hf ((Spec.applies_iff_loose hf).mp happ).1 hP trivial
  exact ⟨k, o, h1, h2, h3, hQ⟩
theorem lw_frame {s t : State} {o : Outcome} {args : Array Value} (h : Framed s o t [] 600000 7302250) :
    Framed s o t (fieldLocs frame_1_writes args s ++ arrayLocs frame_1_arrays args s ++ staticLocs frame_1_statics s) 600000 7302250 := h
theorem lw_limb (L : Cond) (hL : ∀ (args : Array Value) (s t : State), L.after args s (.returned (some (.int 1))) t = true) :
    ArmFor flags0 classFile x code maxLocals ret World_1 tables_1 room_1 Calls_1 rest_1 Pre_1
      (fun tb e a s o t => postC L tb e a s o t ∧ Framed s o t (fieldLocs frame_1_writes a s ++ arrayLocs frame_1_arrays a s ++ staticLocs frame_1_statics s) 600000 7302250) := by
  intro l hflags _ _ p e ha hc hk s m args below hf hfit hheap happ hpre
  obtain ⟨k, o, h1, h2, h3, rfl, hF⟩ := lw_comes l hflags p e ha hc hk s m args below hf hfit hheap happ hpre
  exact ⟨k, _, h1, h2, h3, hL args s _, lw_frame hF⟩
theorem i_vc : Claimed_1_1 ∧ Claimed_1_2 := ⟨lw_limb limb_1_1 (fun args s t => by simp [limb_1_1, Cond.after, Cond.holds, Cond.value]), lw_limb limb_1_2 (fun args s t => Cond.after_iff.mpr (by
  first | (rw [show limb_1_2 = Cond.eq .result (.int 1) from rfl, Cond.eq_ints (x := 1) (y := 1) rfl rfl]; simp; done) | (simp [limb_1_2, Cond.value, Term.eval]; done)))⟩
