/-! what holds beside the world in every state: the tables, the statics, the String constants -/
def sLen : List Nat := [4, 5, 2, 5, 3, 4, 5, 6, 7, 6, 3, 4]
def sByt : List (List Int32) := [[112, 97, 103, 101], [101, 109, 112, 116, 121], [111, 110], [116, 97, 115, 116, 101], [102, 101, 100], [109, 111, 116, 104], [108, 97, 114, 118, 97], [115, 105, 108, 118, 101, 114], [115, 99, 104, 111, 108, 97, 114], [98, 105, 115, 104, 111, 112], [111, 108, 100], [103, 114, 117, 98]]
def sIdx : List Nat := [38, 47, 71, 81, 83, 128, 116, 118, 120, 122, 124, 126]
def sTxt : List String := ["page", "empty", "on", "taste", "fed", "moth", "larva", "silver", "scholar", "bishop", "old", "grub"]
def kLeast : List Int32 := [0, 0, 1, 0]
def kMost : List Int32 := [6, 5, 9, 9999]
def kUpper : List Int32 := [-1, 0, 0, 2, 3, 0, 1]
def EV (G : GT) (U : State) (H : Heap) : Prop :=
  va_K (gD G) vwCl (tys G) U ∧ va_D (Aq G) (WW G (fun _ _ => 0)) ∧
  (va_Z "MothTongue" "LEAST_TRAIT" "[I" (.ref (gs G 0)) (Aq G) U H ∧ va_T .int (gs G 0) 4 (fun i => .int (kLeast.getD i 0)) (Aq G) U H) ∧
  (va_Z "MothTongue" "MOST_TRAIT" "[I" (.ref (gs G 1)) (Aq G) U H ∧ va_T .int (gs G 1) 4 (fun i => .int (kMost.getD i 0)) (Aq G) U H) ∧
  (va_Z "MothTongue$Kinds" "UPPER" "[I" (.ref (gs G 2)) (Aq G) U H ∧ va_T .int (gs G 2) 7 (fun i => .int (kUpper.getD i 0)) (Aq G) U H) ∧
  va_Z "java/lang/String" "COMPACT_STRINGS" "Z" (.int 1) (Aq G) U H ∧
  (va_Z "jdk/internal/util/Preconditions" "SIOOBE_FORMATTER" "Ljava/util/function/BiFunction;" (gv G) (Aq G) U H ∧ (gv G = .null ∨ ∃ a, gv G = .ref a)) ∧
  vk_S 12 sLen sByt (gK G) (gV G) (Aq G) U H ∧
  (∀ i : Nat, i < 12 → vk_R "MothTongue$Tape" (sIdx.getD i 0) (sTxt.getD i "") (gK G i) U) ∧
  va_Nw (.fieldLinkNest "MothTongue$Tape" 73 "MothTongue" "MOST_TRAIT" "[I" "MothTongue") U ∧ va_Nw (.fieldLinkNest "MothTongue$Tape" 85 "MothTongue" "LEAST_TRAIT" "[I" "MothTongue") U ∧ va_Nw (.methodLinkNest "MothTongue$Tape" 102 ⟨"MothTongue", "within", "(III)Z"⟩ "MothTongue") U
theorem EV.warm {G : GT} {s U : State} {H : Heap} (hW : s.WarmedH U.vm) (h : EV G s H) : EV G U H := by
  obtain ⟨h1, h2, ⟨a1, a2⟩, ⟨b1, b2⟩, ⟨c1, c2⟩, d1, ⟨e1, e2⟩, f1, f2, n1, n2, n3⟩ := h
  have q := hW.alike
  exact ⟨h1.moved q, h2, ⟨a1.moved q, a2.moved q⟩, ⟨b1.moved q, b2.moved q⟩, ⟨c1.moved q, c2.moved q⟩, d1.moved q, ⟨e1.moved q, e2⟩, f1.moved q, fun i hi => (f2 i hi).warm hW, n1.warmF hW, n2.warmF hW, n3.warmM hW⟩
theorem EV.same {G : GT} {u U : State} {H : Heap} (hv : U.vm = u.vm) (h : EV G u H) : EV G U H := by
  obtain ⟨h1, h2, ⟨a1, a2⟩, ⟨b1, b2⟩, ⟨c1, c2⟩, d1, ⟨e1, e2⟩, f1, f2, n1, n2, n3⟩ := h
  have q : u.vm.Alike U.vm := by rw [hv]; exact Vm.Alike.refl _
  exact ⟨h1.moved q, h2, ⟨a1.moved q, a2.moved q⟩, ⟨b1.moved q, b2.moved q⟩, ⟨c1.moved q, c2.moved q⟩, d1.moved q, ⟨e1.moved q, e2⟩, f1.moved q, fun i hi => (f2 i hi).same hv, n1.same rfl hv.symm, n2.same rfl hv.symm, n3.same rfl hv.symm⟩
theorem EV.kept {G : GT} {U : State} {H H1 : Heap} (hq : ∀ a : Nat, a < H.size → ¬ Aq G a → H1[a]? = H[a]?) (h : EV G U H) : EV G U H1 := by
  obtain ⟨h1, h2, ⟨a1, a2⟩, ⟨b1, b2⟩, ⟨c1, c2⟩, d1, ⟨e1, e2⟩, f1, f2, n1, n2, n3⟩ := h
  exact ⟨h1, h2, ⟨a1.kept hq, a2.kept hq⟩, ⟨b1.kept hq, b2.kept hq⟩, ⟨c1.kept hq, c2.kept hq⟩, d1.kept hq, ⟨e1.kept hq, e2⟩, f1.kept hq, f2, n1, n2, n3⟩
/-! the locals, by their places -/
def lis : Nat → List (Option Value) → List (Nat × Value)
  | _, [] => []
  | i, some v :: t => (i, v) :: lis (i + 1) t
  | i, none :: t => lis (i + 1) t
theorem lis_mem (L : List (Option Value)) : ∀ (i : Nat) (q : Nat × Value), q ∈ lis i L ↔ i ≤ q.1 ∧ L[q.1 - i]? = some (some q.2) := by
  induction L with
  | nil => intro i q; simp [lis]
  | cons o t ih =>
    intro i q
    have hs : i + 1 ≤ q.1 → q.1 - i = (q.1 - (i + 1)) + 1 := fun h => by omega
    cases o with
    | none =>
      simp only [lis, ih]
      constructor
      · rintro ⟨h1, h2⟩
        exact ⟨by omega, by rw [hs h1, List.getElem?_cons_succ]; exact h2⟩
      · rintro ⟨h1, h2⟩
        by_cases h : q.1 = i
        · rw [h, Nat.sub_self] at h2; simp at h2
        · refine ⟨by omega, ?_⟩
          rw [hs (by omega), List.getElem?_cons_succ] at h2; exact h2
    | some v =>
      simp only [lis, List.mem_cons, ih]
      constructor
      · rintro (rfl | ⟨h1, h2⟩)
        · exact ⟨Nat.le_refl _, by simp⟩
        · exact ⟨by omega, by rw [hs h1, List.getElem?_cons_succ]; exact h2⟩
      · rintro ⟨h1, h2⟩
        by_cases h : q.1 = i
        · left
          rw [h, Nat.sub_self] at h2
          simp at h2
          exact Prod.ext h h2.symm
        · right
          refine ⟨by omega, ?_⟩
          rw [hs (by omega), List.getElem?_cons_succ] at h2; exact h2
theorem lis_at {ls : Array Slot} {nL : Nat} {L : List (Option Value)} (h : lv_has ls nL (lis 0 L)) (k : Nat) {v : Value} (hk : L[k]? = some (some v)) : ls[k]? = some (.val v) := h.2.2 (k, v) ((lis_mem L 0 (k, v)).mpr ⟨Nat.zero_le _, hk⟩)
theorem lv_has.mono {ls : Array Slot} {nL : Nat} {l l' : List (Nat × Value)} (h : lv_has ls nL l) (hl : ∀ q ∈ l', q ∈ l) : lv_has ls nL l' := ⟨h.1, h.2.1, fun q hq => h.2.2 q (hl q hq)⟩
/-- no long stands at this place -/
def nlg : Option Value → Bool
  | some v => v.category == 1
  | none => true
theorem lis_set {L : List (Option Value)} {k : Nat} {v : Value} (hn : ∀ j w, j + 1 = k → L[j]? = some (some w) → w.category ≠ 2) : ∀ q ∈ lis 0 (L.set k (some v)), q ∈ (k, v) :: (lis 0 L).filter (fun q => !(q.1 == k) && !(q.1 + 1 == k && q.2.category == 2)) := by
  intro q hq
  obtain ⟨-, h⟩ := (lis_mem _ 0 q).mp hq
  rw [Nat.sub_zero] at h
  by_cases hk : q.1 = k
  · have hl : k < L.length := by
      have := (List.getElem?_eq_some_iff.mp h).1
      rw [List.length_set] at this; omega
    rw [hk, List.getElem?_set_self hl] at h
    have e : v = q.2 := Option.some.inj (Option.some.inj h)
    rw [List.mem_cons]; left
    exact Prod.ext hk e.symm
  · rw [List.getElem?_set_ne (Ne.symm hk)] at h
    refine List.mem_cons_of_mem _ (List.mem_filter.mpr ⟨(lis_mem _ 0 q).mpr ⟨Nat.zero_le _, h⟩, ?_⟩)
    have h2 : q.1 + 1 = k → q.2.category ≠ 2 := fun e => hn q.1 q.2 e h
    have h3 : (q.1 == k) = false := by simpa using hk
    rw [h3]
    by_cases e : q.1 + 1 = k
    · have := h2 e
      simp [e, this]
    · simp [e]
/-! the judgement: from this memory, pc, locals and stack the method comes to its end -/
abbrev XT : Type := Program × Env × Room × State × MethodId × Array Value × List Frame × Method × Code × (State → Prop) × Nat × Nat
def J (X : XT) (G : GT) (nL : Nat) (g : Mem) (pc : Nat) (L : List (Option Value)) (st : List Value) : Prop :=
  match X with
  | (p, e, R, s, m, args, below, meth, c, Q, cells, slots) => ∀ (H : Heap) (locs : List Loc) (ls : Array Slot), va_P (gD G) vwCl (WW G g) H → va_S (Aq G) s.heap H locs → lv_has ls nL (lis 0 L) → W p G.1 e R s m args below meth c H locs cells slots Q (F0 m pc ls st)
/-- what a method's body knows: own is its class, cc its code, fr and lo the frames and words that are left -/
def CX (X : XT) (G : GT) (own : String) (cc : ByteArray) (nL fr lo : Nat) : Prop :=
  match X with
  | (p, _, R, s, m, args, _, _, c, _, cells, slots) => p.tables.exec = Jvm.exec ∧ c.code = cc ∧ c.maxLocals = nL ∧ s.vm.findClass own = some m.cls ∧ (∀ w ∈ TBL, w.before args s = true) ∧ EV G s s.heap ∧ cells ≤ R.cells ∧ slots ≤ R.slots ∧ fr ≤ R.frames ∧ lo ≤ R.locals
theorem J.congr {X : XT} {G : GT} {nL : Nat} {g g' : Mem} {pc : Nat} {L : List (Option Value)} {st : List Value} (h : ∀ k, k < 40 → ∀ i, clo k ≤ i → i < chi k → g (cb k) i = g' (cb k) i) (k : J X G nL g' pc L st) : J X G nL g pc L st := by
  obtain ⟨p, e, R, s, m, args, below, meth, c, Q, cells, slots⟩ := X
  intro H locs ls hP hS hl
  exact k H locs ls (WW_ext h hP) hS hl
theorem J.locals {X : XT} {G : GT} {nL : Nat} {g : Mem} {pc : Nat} {L L' : List (Option Value)} {st : List Value} (h : ∀ q ∈ lis 0 L', q ∈ lis 0 L) (k : J X G nL g pc L' st) : J X G nL g pc L st := by
  obtain ⟨p, e, R, s, m, args, below, meth, c, Q, cells, slots⟩ := X
  intro H locs ls hP hS hl
  exact k H locs ls hP hS (hl.mono h)
/-! contracts -/
abbrev RM (fr lo : Nat) : Room := { frames := fr, cells := 0, slots := 0, locals := lo }
abbrev PRE (G : GT) (g : Mem) : State → Prop := fun U => va_P (gD G) vwCl (WW G g) U.heap ∧ EV G U U.heap
abbrev POS (G : GT) : Mem → State → Prop := fun g' t => va_P (gD G) vwCl (WW G g') t.heap
/-- an int (or boolean) method -/
def Cti (G : GT) (y : MethodName) (cc : ByteArray) (mL : Nat) (rt : FieldType) (fr lo : Nat) (av : List Value) (g : Mem) (post : Int32 → Mem → Prop) : Prop :=
  Met G.1 y (Cond.code y cc mL (some rt) :: TBL) (RM fr lo) (va_Pc av (PRE G g)) (va_Qi post (POS G) (Aq G)) 0 0 (Aq G)
def Ctv (G : GT) (y : MethodName) (cc : ByteArray) (mL : Nat) (fr lo : Nat) (av : List Value) (g : Mem) (post : Mem → Prop) : Prop :=
  Met G.1 y (Cond.code y cc mL none :: TBL) (RM fr lo) (va_Pc av (PRE G g)) (va_Qv post (POS G) (Aq G)) 0 0 (Aq G)
def Ctl (G : GT) (y : MethodName) (cc : ByteArray) (mL : Nat) (fr lo : Nat) (av : List Value) (g : Mem) (post : Int64 → Mem → Prop) : Prop :=
  Met G.1 y (Cond.code y cc mL (some .long) :: TBL) (RM fr lo) (va_Pc av (PRE G g)) (va_Ql post (POS G) (Aq G)) 0 0 (Aq G)
section ENTER
variable {G : GT} {y : MethodName} {cc : ByteArray} {mL fr lo : Nat} {av : List Value} {g : Mem}
theorem ent_W {rt : Option FieldType} {Qc : Array Value → State → Outcome → State → Prop} (hy : plainName y.cls = true) (hl : (lg_sl av).length ≤ mL) (L0 : List (Option Value)) (hL : lv_args 0 av = lis 0 L0)
    (body : ∀ (p : Program) (e : Env) (s : State) (m : MethodId) (below : List Frame) (meth : Method) (c : Code), meth.sig.returnType = rt → meth.locks = false →
      CX (p, e, RM fr lo, s, m, av.toArray, below, meth, c, MQ below Qc av.toArray s 0 0 (Aq G), 0, 0) G y.cls cc mL fr lo →
      J (p, e, RM fr lo, s, m, av.toArray, below, meth, c, MQ below Qc av.toArray s 0 0 (Aq G), 0, 0) G mL g 0 L0 []) :
    Met G.1 y (Cond.code y cc mL rt :: TBL) (RM fr lo) (va_Pc av (PRE G g)) Qc 0 0 (Aq G) := by
  refine Met.ofW (cc := cc) (maxL := mL) (ret := rt) hy rfl ?_
  intro p e s m args below meth c s₁ B hml hv
  obtain ⟨rfl, hP, hE⟩ := hv
  have hx := B.exec
  have hb := B.bytes
  have hr := B.returns
  have hts := atoms_spec (ws := Cond.code y cc mL rt :: TBL) B.pre
  have hown : s.vm.findClass y.cls = some m.cls := findClass_of_methodNamed B.named
  have hlocks := B.notSynchronized
  have hl0 := lv_entry av (n := mL) hl
  rw [lg_entry_eq]
  generalize (lg_sl av ++ List.replicate (mL - (lg_sl av).length) Slot.unset).toArray = ls at hl0 ⊢
  rw [hL] at hl0
  exact body p e s m below meth c hr hlocks ⟨hx, hb, hml, hown, fun w hw => hts w (List.mem_cons_of_mem _ hw), hE, Nat.zero_le _, Nat.zero_le _, Nat.le_refl _, Nat.le_refl _⟩ s.heap [] ls hP va_S.rf hl0
theorem ent_i {post : Int32 → Mem → Prop} (hy : plainName y.cls = true) (hl : (lg_sl av).length ≤ mL) (L0 : List (Option Value)) (hL : lv_args 0 av = lis 0 L0)
    (body : ∀ X : XT, CX X G y.cls cc mL fr lo → (∀ {pc : Nat} {L : List (Option Value)} {r : Int32} {g' : Mem}, decode cc pc = .ok (.ireturn, 1) → post r g' → J X G mL g' pc L [.int r]) → J X G mL g 0 L0 []) : Cti G y cc mL .int fr lo av g post := by
  refine ent_W hy hl L0 hL ?_
  intro p e s m below meth c hr hlocks C
  refine body _ C ?_
  intro pc L r g' hd hp H locs ls hP hS hls
  obtain ⟨hx, hb, -⟩ := C
  exact W.iret (v := r) hx hb hr (fun t ht hW => ⟨⟨r, g', rfl, hp, by show va_P _ _ _ t.heap; rw [ht]; exact hP⟩, hS.F ht⟩) hS.2.2 hd
theorem ent_z {post : Int32 → Mem → Prop} (hy : plainName y.cls = true) (hl : (lg_sl av).length ≤ mL) (L0 : List (Option Value)) (hL : lv_args 0 av = lis 0 L0)
    (body : ∀ X : XT, CX X G y.cls cc mL fr lo → (∀ {pc : Nat} {L : List (Option Value)} {r : Int32} {g' : Mem}, decode cc pc = .ok (.ireturn, 1) → r = 0 ∨ r = 1 → post r g' → J X G mL g' pc L [.int r]) → J X G mL g 0 L0 []) : Cti G y cc mL .boolean fr lo av g post := by
  refine ent_W hy hl L0 hL ?_
  intro p e s m below meth c hr hlocks C
  refine body _ C ?_
  intro pc L r g' hd h01 hp H locs ls hP hS hls
  obtain ⟨hx, hb, -⟩ := C
  have hn : narrow .boolean (.int r) = .int r := by rcases h01 with rfl | rfl <;> decide
  exact W.zret (v := r) hx hb hr hn (fun t ht hW => ⟨⟨r, g', rfl, hp, by show va_P _ _ _ t.heap; rw [ht]; exact hP⟩, hS.F ht⟩) hS.2.2 hd
theorem ent_v {post : Mem → Prop} (hy : plainName y.cls = true) (hl : (lg_sl av).length ≤ mL) (L0 : List (Option Value)) (hL : lv_args 0 av = lis 0 L0)
    (body : ∀ X : XT, CX X G y.cls cc mL fr lo → (∀ {pc : Nat} {L : List (Option Value)} {g' : Mem}, decode cc pc = .ok (.return_, 1) → post g' → J X G mL g' pc L []) → J X G mL g 0 L0 []) : Ctv G y cc mL fr lo av g post := by
  refine ent_W hy hl L0 hL ?_
  intro p e s m below meth c hr hlocks C
  refine body _ C ?_
  intro pc L g' hd hp H locs ls hP hS hls
  obtain ⟨hx, hb, -⟩ := C
  exact W.vret hx hb hr (fun t ht hW => ⟨⟨g', rfl, hp, by show va_P _ _ _ t.heap; rw [ht]; exact hP⟩, hS.F ht⟩) hS.2.2 hd
theorem ent_l {post : Int64 → Mem → Prop} (hy : plainName y.cls = true) (hl : (lg_sl av).length ≤ mL) (L0 : List (Option Value)) (hL : lv_args 0 av = lis 0 L0)
    (body : ∀ X : XT, CX X G y.cls cc mL fr lo → (∀ {pc : Nat} {L : List (Option Value)} {r : Int64} {g' : Mem}, decode cc pc = .ok (.lreturn, 1) → post r g' → J X G mL g' pc L [.long r]) → J X G mL g 0 L0 []) : Ctl G y cc mL fr lo av g post := by
  refine ent_W hy hl L0 hL ?_
  intro p e s m below meth c hr hlocks C
  refine body _ C ?_
  intro pc L r g' hd hp H locs ls hP hS hls
  obtain ⟨hx, hb, -⟩ := C
  exact W.lret (v := r) hx hb hr (fun t ht hW => ⟨⟨r, g', rfl, hp, by show va_P _ _ _ t.heap; rw [ht]; exact hP⟩, hS.F ht⟩) hS.2.2 hd
end ENTER
