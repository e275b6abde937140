/-! the words of the tables that a warm machine keeps: one list for every method -/
def TBL : List Cond := lw_tbl.filter goodWord
theorem TBL_of {w : Cond} (i : Nat) (h : lw_tbl[i]? = some w) (hg : goodWord w = true) : w ∈ TBL := List.mem_filter.mpr ⟨List.mem_of_getElem? h, hg⟩
theorem TBL_in {w : Cond} (h : w ∈ TBL) : w ∈ lw_tbl := (List.mem_filter.mp h).1
theorem TBL_gd {w : Cond} (h : w ∈ TBL) : (w.onTables && w.keeps) = true ∨ ∃ ty, w = .arrayClass ty := good_of_word (List.mem_filter.mp h).2
theorem TBL_good {ws : List Cond} (h : ∀ w ∈ ws, w ∈ TBL) : GoodIn TBL ws := fun w hw => ⟨h w hw, TBL_gd (h w hw)⟩
/-! the memory: banks of ints; the addresses of the cells; the world -/
abbrev Mem : Type := Nat → Nat → Int32
def ub (g : Mem) (b : Nat) (S : Nat → Int32) : Mem := fun b' => if b' = b then S else g b'
theorem ub_s {g : Mem} {b : Nat} {S : Nat → Int32} : ub g b S b = S := if_pos rfl
theorem ub_n {g : Mem} {b b' : Nat} {S : Nat → Int32} (h : b' ≠ b) : ub g b S b' = g b' := if_neg h
theorem ub_id {g : Mem} {b : Nat} : ub g b (g b) = g := by
  funext b'
  by_cases h : b' = b
  · subst h; exact ub_s
  · exact ub_n h
theorem ub_ub {g : Mem} {b : Nat} {S T : Nat → Int32} : ub (ub g b S) b T = ub g b T := by
  funext b'
  by_cases h : b' = b
  · subst h; rw [ub_s, ub_s]
  · rw [ub_n h, ub_n h, ub_n h]
theorem ub_comm {g : Mem} {b c : Nat} {S T : Nat → Int32} (h : b ≠ c) : ub (ub g b S) c T = ub (ub g c T) b S := by
  funext b'
  by_cases h1 : b' = b
  · subst h1; rw [ub_s, ub_n h, ub_s]
  · by_cases h2 : b' = c
    · subst h2; rw [ub_s, ub_n h1, ub_s]
    · rw [ub_n h1, ub_n h2, ub_n h2, ub_n h1]
abbrev GT : Type := Launch × va_G × (ClassId × ClassId × ClassId) × (Nat → Nat) × (Nat → Nat) × (Nat → Nat) × (Nat → Nat) × Value
def gD (G : GT) : va_G := G.2.1
def cyB (G : GT) : ClassId := G.2.2.1.1
def cyI (G : GT) : ClassId := G.2.2.1.2.1
def cyO (G : GT) : ClassId := G.2.2.1.2.2
def gq (G : GT) (k : Nat) : Nat := G.2.2.2.1 k
def gK (G : GT) : Nat → Nat := G.2.2.2.2.1
def gV (G : GT) : Nat → Nat := G.2.2.2.2.2.1
def gs (G : GT) : Nat → Nat := G.2.2.2.2.2.2.1
def gv (G : GT) : Value := G.2.2.2.2.2.2.2
def xo (G : GT) : Nat := gq G 0
def dr (G : GT) (d : Nat) : Nat := gq G (1 + 4 * d)
def wa (G : GT) (d : Nat) : Nat := gq G (2 + 4 * d)
def ta (G : GT) (d : Nat) : Nat := gq G (3 + 4 * d)
def sa (G : GT) (d : Nat) : Nat := gq G (4 + 4 * d)
def tp (G : GT) : Nat := gq G 17
def tb (G : GT) : Nat := gq G 18
def hs (G : GT) : Nat := gq G 19
def sh (G : GT) (t : Nat) : Nat := gq G (20 + 2 * t)
def sn (G : GT) (t : Nat) : Nat := gq G (21 + 2 * t)
def fa (G : GT) : Nat := gq G 28
def mo (G : GT) : Nat := gq G 29
def ar (G : GT) (j : Nat) : Nat := gq G (30 + j)
abbrev tys (G : GT) : List (ClassId × FieldType) := [(cyB G, .byte), (cyI G, .int), (cyO G, .object "MothTongue$Sheet")]
abbrev eI (G : GT) (n : Nat) (f : Nat → Int32) : va_E := .inl (cyI G, n, .inl f)
abbrev cD (G : GT) (g : Mem) (d : Nat) : Nat × va_E := (dr G d, .inr (0, [.ref (wa G d), .ref (ta G d), .ref (sa G d), .int (g d 0), .int (g d 1), .int (g d 2)]))
abbrev cWd (G : GT) (g : Mem) (d : Nat) : Nat × va_E := (wa G d, eI G 48 (fun i => g d (3 + i)))
abbrev cTr (G : GT) (g : Mem) (d : Nat) : Nat × va_E := (ta G d, eI G 32 (fun i => g d (51 + i)))
abbrev cSp (G : GT) (g : Mem) (d : Nat) : Nat × va_E := (sa G d, eI G 10 (fun i => g d (83 + i)))
abbrev cSh (G : GT) (g : Mem) (t : Nat) : Nat × va_E := (sh G t, .inr (1, [.ref (sn G t), .int (g (6 + t) 0), .int (g (6 + t) 1)]))
abbrev cSn (G : GT) (g : Mem) (t : Nat) : Nat × va_E := (sn G t, eI G 40 (fun i => g (6 + t) (2 + i)))
abbrev cX (G : GT) (g : Mem) : Nat × va_E := (xo G, .inr (3, [.ref (dr G 0), .ref (dr G 1), .ref (dr G 2), .ref (dr G 3), .ref (tp G), .ref (hs G), .ref (fa G), .int (g 11 0)]))
abbrev cT (G : GT) (g : Mem) : Nat × va_E := (tp G, .inr (2, [.ref (tb G), .int (g 4 0), .int (g 4 1), .int (g 4 2), .int (g 4 3), .int (g 4 4)]))
abbrev cTb (G : GT) (g : Mem) : Nat × va_E := (tb G, .inl (cyB G, 120, .inl (g 5)))
abbrev cHs (G : GT) : Nat × va_E := (hs G, .inl (cyO G, 4, .inr (.inr (.inr (.inr (fun i => some (sh G i)))))))
abbrev cFa (G : GT) (g : Mem) : Nat × va_E := (fa G, eI G 7 (g 10))
abbrev cM (G : GT) (g : Mem) : Nat × va_E := (mo G, .inr (4, [.ref (ar G 0), .ref (ar G 1), .ref (ar G 2), .ref (ar G 3), .int (g 22 0), .ref (ar G 4), .ref (ar G 5), .int (g 22 1), .ref (ar G 6), .ref (ar G 7), .ref (ar G 8), .ref (ar G 9), .int (g 22 2), .int (g 22 3), .int (g 22 4), .int (g 22 5), .int (g 22 6)]))
/-- the length of the reference's row j -/
def aLen (j : Nat) : Nat := [93, 93, 93, 93, 8, 120, 4, 4, 160, 48].getD j 0
abbrev cA (G : GT) (g : Mem) (j : Nat) : Nat × va_E := (ar G j, eI G (aLen j) (g (12 + j)))
def WW (G : GT) (g : Mem) : va_W := [cX G g, cD G g 0, cWd G g 0, cTr G g 0, cSp G g 0, cD G g 1, cWd G g 1, cTr G g 1, cSp G g 1, cD G g 2, cWd G g 2, cTr G g 2, cSp G g 2, cD G g 3, cWd G g 3, cTr G g 3, cSp G g 3, cT G g, cTb G g, cHs G, cSh G g 0, cSn G g 0, cSh G g 1, cSn G g 1, cSh G g 2, cSn G g 2, cSh G g 3, cSn G g 3, cFa G g, cM G g, cA G g 0, cA G g 1, cA G g 2, cA G g 3, cA G g 4, cA G g 5, cA G g 6, cA G g 7, cA G g 8, cA G g 9]
/-- the cells that may change -/
def Aq (G : GT) : Nat → Prop := fun a => ∃ k, k < 40 ∧ a = gq G k
theorem WW_fst (G : GT) (g g' : Mem) : (WW G g).map Prod.fst = (WW G g').map Prod.fst := rfl
theorem D_fst {A : Nat → Prop} {ws ws' : va_W} (h : ws.map Prod.fst = ws'.map Prod.fst) (hD : va_D A ws) : va_D A ws' := by
  have key : ∀ (k : Nat) (q : Nat × va_E), ws'[k]? = some q → ∃ q0, ws[k]? = some q0 ∧ q0.1 = q.1 := by
    intro k q hk
    have h1 : (ws'.map Prod.fst)[k]? = some q.1 := by rw [List.getElem?_map, hk]; rfl
    rw [← h, List.getElem?_map] at h1
    cases h2 : ws[k]? with
    | none => rw [h2] at h1; cases h1
    | some q0 => rw [h2] at h1; exact ⟨q0, rfl, Option.some.inj h1⟩
  refine ⟨fun i j x y hi hj hxy => ?_, fun k q hk => ?_⟩
  · obtain ⟨x0, h1, h2⟩ := key i x hi
    obtain ⟨y0, h3, h4⟩ := key j y hj
    exact hD.1 i j x0 y0 h1 h3 (h2.trans (hxy.trans h4.symm))
  · obtain ⟨q0, h1, h2⟩ := key k q hk
    rw [← h2]; exact hD.2 k q0 h1
theorem WW_D {G : GT} {g : Mem} (h : va_D (Aq G) (WW G (fun _ _ => 0))) : va_D (Aq G) (WW G g) := D_fst (WW_fst G _ g) h
/-! cells by their places -/
theorem at_D {G : GT} {g : Mem} {d : Nat} (h : d < 4) : (WW G g)[1 + 4 * d]? = some (cD G g d) := by
  match d, h with
  | 0, _ => rfl
  | 1, _ => rfl
  | 2, _ => rfl
  | 3, _ => rfl
theorem at_Wd {G : GT} {g : Mem} {d : Nat} (h : d < 4) : (WW G g)[2 + 4 * d]? = some (cWd G g d) := by
  match d, h with
  | 0, _ => rfl
  | 1, _ => rfl
  | 2, _ => rfl
  | 3, _ => rfl
theorem at_Tr {G : GT} {g : Mem} {d : Nat} (h : d < 4) : (WW G g)[3 + 4 * d]? = some (cTr G g d) := by
  match d, h with
  | 0, _ => rfl
  | 1, _ => rfl
  | 2, _ => rfl
  | 3, _ => rfl
theorem at_Sp {G : GT} {g : Mem} {d : Nat} (h : d < 4) : (WW G g)[4 + 4 * d]? = some (cSp G g d) := by
  match d, h with
  | 0, _ => rfl
  | 1, _ => rfl
  | 2, _ => rfl
  | 3, _ => rfl
theorem at_Sh {G : GT} {g : Mem} {t : Nat} (h : t < 4) : (WW G g)[20 + 2 * t]? = some (cSh G g t) := by
  match t, h with
  | 0, _ => rfl
  | 1, _ => rfl
  | 2, _ => rfl
  | 3, _ => rfl
theorem at_Sn {G : GT} {g : Mem} {t : Nat} (h : t < 4) : (WW G g)[21 + 2 * t]? = some (cSn G g t) := by
  match t, h with
  | 0, _ => rfl
  | 1, _ => rfl
  | 2, _ => rfl
  | 3, _ => rfl
theorem at_A {G : GT} {g : Mem} {j : Nat} (h : j < 10) : (WW G g)[30 + j]? = some (cA G g j) := by
  match j, h with
  | 0, _ => rfl
  | 1, _ => rfl
  | 2, _ => rfl
  | 3, _ => rfl
  | 4, _ => rfl
  | 5, _ => rfl
  | 6, _ => rfl
  | 7, _ => rfl
  | 8, _ => rfl
  | 9, _ => rfl
/-! a world told by functions that agree below the lengths -/
theorem P_cons {D : va_G} {cl : List vw_C} {c : Nat × va_E} {ws : va_W} {H : Heap} : va_P D cl (c :: ws) H ↔ va_at D cl c H ∧ va_P D cl ws H := by
  constructor
  · intro h
    exact ⟨h 0 c rfl, fun k q hk => h (k + 1) q (by simpa using hk)⟩
  · rintro ⟨h1, h2⟩ k q hk
    cases k with
    | zero => simp at hk; subst hk; exact h1
    | succ k => exact h2 k q (by simpa using hk)
theorem at_arr {D : va_G} {cl : List vw_C} {a n : Nat} {c : ClassId} {f f' : Nat → Int32} {H : Heap} (h : va_at D cl (a, .inl (c, n, .inl f)) H) (he : ∀ i, i < n → f i = f' i) : va_at D cl (a, .inl (c, n, .inl f')) H := by
  have e : vp_cell c (n, .inl f) = vp_cell c (n, .inl f') := by
    rw [vp_cell_i, vp_cell_i]
    unfold arrV
    congr 2
    funext j
    exact congrArg Value.int (he j.val j.isLt)
  show H[a]? = some (vp_cell c (n, .inl f'))
  rw [← e]
  exact h
/-! which bank a cell reads, from where to where -/
def cb (k : Nat) : Nat := [11, 0, 0, 0, 0, 1, 1, 1, 1, 2, 2, 2, 2, 3, 3, 3, 3, 4, 5, 99, 6, 6, 7, 7, 8, 8, 9, 9, 10, 22, 12, 13, 14, 15, 16, 17, 18, 19, 20, 21].getD k 0
def clo (k : Nat) : Nat := [0, 0, 3, 51, 83, 0, 3, 51, 83, 0, 3, 51, 83, 0, 3, 51, 83, 0, 0, 0, 0, 2, 0, 2, 0, 2, 0, 2, 0, 0, 0, 0, 0, 0, 0, 0, 0, 0, 0, 0].getD k 0
def chi (k : Nat) : Nat := [1, 3, 51, 83, 93, 3, 51, 83, 93, 3, 51, 83, 93, 3, 51, 83, 93, 5, 120, 0, 2, 42, 2, 42, 2, 42, 2, 42, 7, 7, 93, 93, 93, 93, 8, 120, 4, 4, 160, 48].getD k 0
theorem cdis : ∀ k, k < 40 → ∀ k', k' < 40 → k ≠ k' → cb k ≠ cb k' ∨ chi k ≤ clo k' ∨ chi k' ≤ clo k := by decide +kernel
theorem WW_len {G : GT} {g : Mem} : (WW G g).length = 40 := rfl
theorem WW_cell {G : GT} {g g' : Mem} {D : va_G} {H : Heap} (k : Nat) {q q' : Nat × va_E} (hq : (WW G g)[k]? = some q) (hq' : (WW G g')[k]? = some q') (h : ∀ i, clo k ≤ i → i < chi k → g (cb k) i = g' (cb k) i) (ha : va_at D vwCl q H) : va_at D vwCl q' H := by
  match k, hq, hq', h with
  | 0, hq, hq', h =>
    obtain rfl := Option.some.inj hq
    obtain rfl := Option.some.inj hq'
    have e0 : g 11 0 = g' 11 0 := h 0 (Nat.le_of_ble_eq_true rfl) (Nat.le_of_ble_eq_true rfl)
    dsimp only [cX, cD, cT, cSh, cM] at ha ⊢
    simp only [e0] at ha
    exact ha
  | 1, hq, hq', h =>
    obtain rfl := Option.some.inj hq
    obtain rfl := Option.some.inj hq'
    have e0 : g 0 0 = g' 0 0 := h 0 (Nat.le_of_ble_eq_true rfl) (Nat.le_of_ble_eq_true rfl)
    have e1 : g 0 1 = g' 0 1 := h 1 (Nat.le_of_ble_eq_true rfl) (Nat.le_of_ble_eq_true rfl)
    have e2 : g 0 2 = g' 0 2 := h 2 (Nat.le_of_ble_eq_true rfl) (Nat.le_of_ble_eq_true rfl)
    dsimp only [cX, cD, cT, cSh, cM] at ha ⊢
    simp only [e0, e1, e2] at ha
    exact ha
  | 2, hq, hq', h =>
    obtain rfl := Option.some.inj hq
    obtain rfl := Option.some.inj hq'
    exact at_arr ha (fun i hi => h (3 + i) (Nat.le_add_right 3 i) (Nat.add_lt_add_left hi 3))
  | 3, hq, hq', h =>
    obtain rfl := Option.some.inj hq
    obtain rfl := Option.some.inj hq'
    exact at_arr ha (fun i hi => h (51 + i) (Nat.le_add_right 51 i) (Nat.add_lt_add_left hi 51))
  | 4, hq, hq', h =>
    obtain rfl := Option.some.inj hq
    obtain rfl := Option.some.inj hq'
    exact at_arr ha (fun i hi => h (83 + i) (Nat.le_add_right 83 i) (Nat.add_lt_add_left hi 83))
  | 5, hq, hq', h =>
    obtain rfl := Option.some.inj hq
    obtain rfl := Option.some.inj hq'
    have e0 : g 1 0 = g' 1 0 := h 0 (Nat.le_of_ble_eq_true rfl) (Nat.le_of_ble_eq_true rfl)
    have e1 : g 1 1 = g' 1 1 := h 1 (Nat.le_of_ble_eq_true rfl) (Nat.le_of_ble_eq_true rfl)
    have e2 : g 1 2 = g' 1 2 := h 2 (Nat.le_of_ble_eq_true rfl) (Nat.le_of_ble_eq_true rfl)
    dsimp only [cX, cD, cT, cSh, cM] at ha ⊢
    simp only [e0, e1, e2] at ha
    exact ha
  | 6, hq, hq', h =>
    obtain rfl := Option.some.inj hq
    obtain rfl := Option.some.inj hq'
    exact at_arr ha (fun i hi => h (3 + i) (Nat.le_add_right 3 i) (Nat.add_lt_add_left hi 3))
  | 7, hq, hq', h =>
    obtain rfl := Option.some.inj hq
    obtain rfl := Option.some.inj hq'
    exact at_arr ha (fun i hi => h (51 + i) (Nat.le_add_right 51 i) (Nat.add_lt_add_left hi 51))
  | 8, hq, hq', h =>
    obtain rfl := Option.some.inj hq
    obtain rfl := Option.some.inj hq'
    exact at_arr ha (fun i hi => h (83 + i) (Nat.le_add_right 83 i) (Nat.add_lt_add_left hi 83))
  | 9, hq, hq', h =>
    obtain rfl := Option.some.inj hq
    obtain rfl := Option.some.inj hq'
    have e0 : g 2 0 = g' 2 0 := h 0 (Nat.le_of_ble_eq_true rfl) (Nat.le_of_ble_eq_true rfl)
    have e1 : g 2 1 = g' 2 1 := h 1 (Nat.le_of_ble_eq_true rfl) (Nat.le_of_ble_eq_true rfl)
    have e2 : g 2 2 = g' 2 2 := h 2 (Nat.le_of_ble_eq_true rfl) (Nat.le_of_ble_eq_true rfl)
    dsimp only [cX, cD, cT, cSh, cM] at ha ⊢
    simp only [e0, e1, e2] at ha
    exact ha
  | 10, hq, hq', h =>
    obtain rfl := Option.some.inj hq
    obtain rfl := Option.some.inj hq'
    exact at_arr ha (fun i hi => h (3 + i) (Nat.le_add_right 3 i) (Nat.add_lt_add_left hi 3))
  | 11, hq, hq', h =>
    obtain rfl := Option.some.inj hq
    obtain rfl := Option.some.inj hq'
    exact at_arr ha (fun i hi => h (51 + i) (Nat.le_add_right 51 i) (Nat.add_lt_add_left hi 51))
  | 12, hq, hq', h =>
    obtain rfl := Option.some.inj hq
    obtain rfl := Option.some.inj hq'
    exact at_arr ha (fun i hi => h (83 + i) (Nat.le_add_right 83 i) (Nat.add_lt_add_left hi 83))
  | 13, hq, hq', h =>
    obtain rfl := Option.some.inj hq
    obtain rfl := Option.some.inj hq'
    have e0 : g 3 0 = g' 3 0 := h 0 (Nat.le_of_ble_eq_true rfl) (Nat.le_of_ble_eq_true rfl)
    have e1 : g 3 1 = g' 3 1 := h 1 (Nat.le_of_ble_eq_true rfl) (Nat.le_of_ble_eq_true rfl)
    have e2 : g 3 2 = g' 3 2 := h 2 (Nat.le_of_ble_eq_true rfl) (Nat.le_of_ble_eq_true rfl)
    dsimp only [cX, cD, cT, cSh, cM] at ha ⊢
    simp only [e0, e1, e2] at ha
    exact ha
  | 14, hq, hq', h =>
    obtain rfl := Option.some.inj hq
    obtain rfl := Option.some.inj hq'
    exact at_arr ha (fun i hi => h (3 + i) (Nat.le_add_right 3 i) (Nat.add_lt_add_left hi 3))
  | 15, hq, hq', h =>
    obtain rfl := Option.some.inj hq
    obtain rfl := Option.some.inj hq'
    exact at_arr ha (fun i hi => h (51 + i) (Nat.le_add_right 51 i) (Nat.add_lt_add_left hi 51))
  | 16, hq, hq', h =>
    obtain rfl := Option.some.inj hq
    obtain rfl := Option.some.inj hq'
    exact at_arr ha (fun i hi => h (83 + i) (Nat.le_add_right 83 i) (Nat.add_lt_add_left hi 83))
  | 17, hq, hq', h =>
    obtain rfl := Option.some.inj hq
    obtain rfl := Option.some.inj hq'
    have e0 : g 4 0 = g' 4 0 := h 0 (Nat.le_of_ble_eq_true rfl) (Nat.le_of_ble_eq_true rfl)
    have e1 : g 4 1 = g' 4 1 := h 1 (Nat.le_of_ble_eq_true rfl) (Nat.le_of_ble_eq_true rfl)
    have e2 : g 4 2 = g' 4 2 := h 2 (Nat.le_of_ble_eq_true rfl) (Nat.le_of_ble_eq_true rfl)
    have e3 : g 4 3 = g' 4 3 := h 3 (Nat.le_of_ble_eq_true rfl) (Nat.le_of_ble_eq_true rfl)
    have e4 : g 4 4 = g' 4 4 := h 4 (Nat.le_of_ble_eq_true rfl) (Nat.le_of_ble_eq_true rfl)
    dsimp only [cX, cD, cT, cSh, cM] at ha ⊢
    simp only [e0, e1, e2, e3, e4] at ha
    exact ha
  | 18, hq, hq', h =>
    obtain rfl := Option.some.inj hq
    obtain rfl := Option.some.inj hq'
    exact at_arr ha (fun i hi => h i (Nat.zero_le _) hi)
  | 19, hq, hq', h =>
    obtain rfl := Option.some.inj hq
    obtain rfl := Option.some.inj hq'
    exact ha
  | 20, hq, hq', h =>
    obtain rfl := Option.some.inj hq
    obtain rfl := Option.some.inj hq'
    have e0 : g 6 0 = g' 6 0 := h 0 (Nat.le_of_ble_eq_true rfl) (Nat.le_of_ble_eq_true rfl)
    have e1 : g 6 1 = g' 6 1 := h 1 (Nat.le_of_ble_eq_true rfl) (Nat.le_of_ble_eq_true rfl)
    dsimp only [cX, cD, cT, cSh, cM] at ha ⊢
    simp only [Nat.reduceAdd, e0, e1] at ha ⊢
    exact ha
  | 21, hq, hq', h =>
    obtain rfl := Option.some.inj hq
    obtain rfl := Option.some.inj hq'
    exact at_arr ha (fun i hi => h (2 + i) (Nat.le_add_right 2 i) (Nat.add_lt_add_left hi 2))
  | 22, hq, hq', h =>
    obtain rfl := Option.some.inj hq
    obtain rfl := Option.some.inj hq'
    have e0 : g 7 0 = g' 7 0 := h 0 (Nat.le_of_ble_eq_true rfl) (Nat.le_of_ble_eq_true rfl)
    have e1 : g 7 1 = g' 7 1 := h 1 (Nat.le_of_ble_eq_true rfl) (Nat.le_of_ble_eq_true rfl)
    dsimp only [cX, cD, cT, cSh, cM] at ha ⊢
    simp only [Nat.reduceAdd, e0, e1] at ha ⊢
    exact ha
  | 23, hq, hq', h =>
    obtain rfl := Option.some.inj hq
    obtain rfl := Option.some.inj hq'
    exact at_arr ha (fun i hi => h (2 + i) (Nat.le_add_right 2 i) (Nat.add_lt_add_left hi 2))
  | 24, hq, hq', h =>
    obtain rfl := Option.some.inj hq
    obtain rfl := Option.some.inj hq'
    have e0 : g 8 0 = g' 8 0 := h 0 (Nat.le_of_ble_eq_true rfl) (Nat.le_of_ble_eq_true rfl)
    have e1 : g 8 1 = g' 8 1 := h 1 (Nat.le_of_ble_eq_true rfl) (Nat.le_of_ble_eq_true rfl)
    dsimp only [cX, cD, cT, cSh, cM] at ha ⊢
    simp only [Nat.reduceAdd, e0, e1] at ha ⊢
    exact ha
  | 25, hq, hq', h =>
    obtain rfl := Option.some.inj hq
    obtain rfl := Option.some.inj hq'
    exact at_arr ha (fun i hi => h (2 + i) (Nat.le_add_right 2 i) (Nat.add_lt_add_left hi 2))
  | 26, hq, hq', h =>
    obtain rfl := Option.some.inj hq
    obtain rfl := Option.some.inj hq'
    have e0 : g 9 0 = g' 9 0 := h 0 (Nat.le_of_ble_eq_true rfl) (Nat.le_of_ble_eq_true rfl)
    have e1 : g 9 1 = g' 9 1 := h 1 (Nat.le_of_ble_eq_true rfl) (Nat.le_of_ble_eq_true rfl)
    dsimp only [cX, cD, cT, cSh, cM] at ha ⊢
    simp only [Nat.reduceAdd, e0, e1] at ha ⊢
    exact ha
  | 27, hq, hq', h =>
    obtain rfl := Option.some.inj hq
    obtain rfl := Option.some.inj hq'
    exact at_arr ha (fun i hi => h (2 + i) (Nat.le_add_right 2 i) (Nat.add_lt_add_left hi 2))
  | 28, hq, hq', h =>
    obtain rfl := Option.some.inj hq
    obtain rfl := Option.some.inj hq'
    exact at_arr ha (fun i hi => h i (Nat.zero_le _) hi)
  | 29, hq, hq', h =>
    obtain rfl := Option.some.inj hq
    obtain rfl := Option.some.inj hq'
    have e0 : g 22 0 = g' 22 0 := h 0 (Nat.le_of_ble_eq_true rfl) (Nat.le_of_ble_eq_true rfl)
    have e1 : g 22 1 = g' 22 1 := h 1 (Nat.le_of_ble_eq_true rfl) (Nat.le_of_ble_eq_true rfl)
    have e2 : g 22 2 = g' 22 2 := h 2 (Nat.le_of_ble_eq_true rfl) (Nat.le_of_ble_eq_true rfl)
    have e3 : g 22 3 = g' 22 3 := h 3 (Nat.le_of_ble_eq_true rfl) (Nat.le_of_ble_eq_true rfl)
    have e4 : g 22 4 = g' 22 4 := h 4 (Nat.le_of_ble_eq_true rfl) (Nat.le_of_ble_eq_true rfl)
    have e5 : g 22 5 = g' 22 5 := h 5 (Nat.le_of_ble_eq_true rfl) (Nat.le_of_ble_eq_true rfl)
    have e6 : g 22 6 = g' 22 6 := h 6 (Nat.le_of_ble_eq_true rfl) (Nat.le_of_ble_eq_true rfl)
    dsimp only [cX, cD, cT, cSh, cM] at ha ⊢
    simp only [e0, e1, e2, e3, e4, e5, e6] at ha
    exact ha
  | 30, hq, hq', h =>
    obtain rfl := Option.some.inj hq
    obtain rfl := Option.some.inj hq'
    exact at_arr ha (fun i hi => h i (Nat.zero_le _) hi)
  | 31, hq, hq', h =>
    obtain rfl := Option.some.inj hq
    obtain rfl := Option.some.inj hq'
    exact at_arr ha (fun i hi => h i (Nat.zero_le _) hi)
  | 32, hq, hq', h =>
    obtain rfl := Option.some.inj hq
    obtain rfl := Option.some.inj hq'
    exact at_arr ha (fun i hi => h i (Nat.zero_le _) hi)
  | 33, hq, hq', h =>
    obtain rfl := Option.some.inj hq
    obtain rfl := Option.some.inj hq'
    exact at_arr ha (fun i hi => h i (Nat.zero_le _) hi)
  | 34, hq, hq', h =>
    obtain rfl := Option.some.inj hq
    obtain rfl := Option.some.inj hq'
    exact at_arr ha (fun i hi => h i (Nat.zero_le _) hi)
  | 35, hq, hq', h =>
    obtain rfl := Option.some.inj hq
    obtain rfl := Option.some.inj hq'
    exact at_arr ha (fun i hi => h i (Nat.zero_le _) hi)
  | 36, hq, hq', h =>
    obtain rfl := Option.some.inj hq
    obtain rfl := Option.some.inj hq'
    exact at_arr ha (fun i hi => h i (Nat.zero_le _) hi)
  | 37, hq, hq', h =>
    obtain rfl := Option.some.inj hq
    obtain rfl := Option.some.inj hq'
    exact at_arr ha (fun i hi => h i (Nat.zero_le _) hi)
  | 38, hq, hq', h =>
    obtain rfl := Option.some.inj hq
    obtain rfl := Option.some.inj hq'
    exact at_arr ha (fun i hi => h i (Nat.zero_le _) hi)
  | 39, hq, hq', h =>
    obtain rfl := Option.some.inj hq
    obtain rfl := Option.some.inj hq'
    exact at_arr ha (fun i hi => h i (Nat.zero_le _) hi)
  | k + 40, hq, hq', h =>
    rw [List.getElem?_eq_none (by rw [WW_len]; omega)] at hq
    cases hq
theorem WW_ext {G : GT} {g g' : Mem} {D : va_G} {H : Heap} (h : ∀ k, k < 40 → ∀ i, clo k ≤ i → i < chi k → g (cb k) i = g' (cb k) i) (hP : va_P D vwCl (WW G g) H) : va_P D vwCl (WW G g') H := by
  intro k q' hk
  have hl : k < 40 := (List.getElem?_eq_some_iff.mp hk).1
  have hq : (WW G g)[k]? = some ((WW G g)[k]'hl) := List.getElem?_eq_getElem hl
  exact WW_cell k hq hk (h k hl) (hP k _ hq)
/-- a store at index j of cell k's bank -/
theorem WW_put {G : GT} {g : Mem} {D : va_G} {H : Heap} {x : Int32} (k j : Nat) {b : Nat} (hk : k < 40) (hb : cb k = b) (h1 : clo k ≤ j) (h2 : j < chi k) {e q : Nat × va_E} (hP : va_P D vwCl ((WW G g).set k e) H) (hq : (WW G (ub g b (upd (g b) j x)))[k]? = some q) (he : va_at D vwCl e H → va_at D vwCl q H) : va_P D vwCl (WW G (ub g b (upd (g b) j x))) H := by
  subst hb
  intro k' q' hk'
  have hl : k' < 40 := (List.getElem?_eq_some_iff.mp hk').1
  by_cases hkk : k' = k
  · subst hkk
    rw [hq] at hk'
    obtain rfl := Option.some.inj hk'
    exact he (hP k' e (by rw [List.getElem?_set_self (by rw [WW_len]; exact hl)]))
  · have hq0 : (WW G g)[k']? = some ((WW G g)[k']'hl) := List.getElem?_eq_getElem hl
    refine WW_cell k' hq0 hk' (fun i i1 i2 => ?_) (hP k' _ (by rw [List.getElem?_set_ne (Ne.symm hkk)]; exact hq0))
    rcases cdis k hk k' hl (Ne.symm hkk) with h | h | h
    · rw [ub_n (Ne.symm h)]
    all_goals
      by_cases hb : cb k' = cb k
      · rw [hb, ub_s]
        show _ = if i = j then x else g (cb k) i
        rw [if_neg (by omega)]
      · rw [ub_n hb]
theorem upd_off {f : Nat → Int32} {o i i' : Nat} {x : Int32} : upd (fun i => f (o + i)) i x i' = upd f (o + i) x (o + i') := by
  show (if i' = i then x else f (o + i')) = if o + i' = o + i then x else f (o + i')
  by_cases h : i' = i
  · subst h; rw [if_pos rfl, if_pos rfl]
  · rw [if_neg h, if_neg (by omega)]
/-- a store into a row whose bank begins at o -/
theorem WW_arr {G : GT} {g : Mem} {D : va_G} {H : Heap} {x : Int32} (k o i n a : Nat) {b : Nat} {c : ClassId} (hk : k < 40) (hb : cb k = b) (h1 : clo k ≤ o + i) (h2 : o + i < chi k) (hw : ∀ g : Mem, (WW G g)[k]? = some (a, .inl (c, n, .inl (fun i => g b (o + i))))) (hP : va_P D vwCl ((WW G g).set k (a, .inl (c, n, .inl (upd (fun i => g b (o + i)) i x)))) H) : va_P D vwCl (WW G (ub g b (upd (g b) (o + i) x))) H :=
  WW_put k (o + i) hk hb h1 h2 hP (hw _) (fun ha => at_arr ha (fun i' _ => by rw [ub_s]; exact upd_off))
theorem WW_arr0 {G : GT} {g : Mem} {D : va_G} {H : Heap} {x : Int32} (k i n a : Nat) {b : Nat} {c : ClassId} (hk : k < 40) (hb : cb k = b) (h1 : clo k ≤ i) (h2 : i < chi k) (hw : ∀ g : Mem, (WW G g)[k]? = some (a, .inl (c, n, .inl (g b)))) (hP : va_P D vwCl ((WW G g).set k (a, .inl (c, n, .inl (upd (g b) i x)))) H) : va_P D vwCl (WW G (ub g b (upd (g b) i x))) H :=
  WW_put k i hk hb h1 h2 hP (hw _) (fun ha => at_arr ha (fun i' _ => by rw [ub_s]))
