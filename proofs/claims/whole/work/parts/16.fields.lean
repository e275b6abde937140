section FIELDS
variable {X : XT} {G : GT} {own : String} {cc : ByteArray} {nL fr lo : Nat} {g : Mem} {L : List (Option Value)} {st : List Value}
theorem tb_D {d : Nat} (h : d < 4) : cb (1 + 4 * d) = d ∧ clo (1 + 4 * d) = 0 ∧ chi (1 + 4 * d) = 3 := by
  match d, h with
  | 0, _ => exact ⟨rfl, rfl, rfl⟩
  | 1, _ => exact ⟨rfl, rfl, rfl⟩
  | 2, _ => exact ⟨rfl, rfl, rfl⟩
  | 3, _ => exact ⟨rfl, rfl, rfl⟩
theorem tb_Wd {d : Nat} (h : d < 4) : cb (2 + 4 * d) = d ∧ clo (2 + 4 * d) = 3 ∧ chi (2 + 4 * d) = 51 := by
  match d, h with
  | 0, _ => exact ⟨rfl, rfl, rfl⟩
  | 1, _ => exact ⟨rfl, rfl, rfl⟩
  | 2, _ => exact ⟨rfl, rfl, rfl⟩
  | 3, _ => exact ⟨rfl, rfl, rfl⟩
theorem tb_Tr {d : Nat} (h : d < 4) : cb (3 + 4 * d) = d ∧ clo (3 + 4 * d) = 51 ∧ chi (3 + 4 * d) = 83 := by
  match d, h with
  | 0, _ => exact ⟨rfl, rfl, rfl⟩
  | 1, _ => exact ⟨rfl, rfl, rfl⟩
  | 2, _ => exact ⟨rfl, rfl, rfl⟩
  | 3, _ => exact ⟨rfl, rfl, rfl⟩
theorem tb_Sp {d : Nat} (h : d < 4) : cb (4 + 4 * d) = d ∧ clo (4 + 4 * d) = 83 ∧ chi (4 + 4 * d) = 93 := by
  match d, h with
  | 0, _ => exact ⟨rfl, rfl, rfl⟩
  | 1, _ => exact ⟨rfl, rfl, rfl⟩
  | 2, _ => exact ⟨rfl, rfl, rfl⟩
  | 3, _ => exact ⟨rfl, rfl, rfl⟩
theorem tb_Sh {d : Nat} (h : d < 4) : cb (20 + 2 * d) = 6 + d ∧ clo (20 + 2 * d) = 0 ∧ chi (20 + 2 * d) = 2 := by
  match d, h with
  | 0, _ => exact ⟨rfl, rfl, rfl⟩
  | 1, _ => exact ⟨rfl, rfl, rfl⟩
  | 2, _ => exact ⟨rfl, rfl, rfl⟩
  | 3, _ => exact ⟨rfl, rfl, rfl⟩
theorem tb_Sn {d : Nat} (h : d < 4) : cb (21 + 2 * d) = 6 + d ∧ clo (21 + 2 * d) = 2 ∧ chi (21 + 2 * d) = 42 := by
  match d, h with
  | 0, _ => exact ⟨rfl, rfl, rfl⟩
  | 1, _ => exact ⟨rfl, rfl, rfl⟩
  | 2, _ => exact ⟨rfl, rfl, rfl⟩
  | 3, _ => exact ⟨rfl, rfl, rfl⟩
theorem tb_A {j : Nat} (h : j < 10) : cb (30 + j) = 12 + j ∧ clo (30 + j) = 0 ∧ chi (30 + j) = aLen j := by
  match j, h with
  | 0, _ => exact ⟨rfl, rfl, rfl⟩
  | 1, _ => exact ⟨rfl, rfl, rfl⟩
  | 2, _ => exact ⟨rfl, rfl, rfl⟩
  | 3, _ => exact ⟨rfl, rfl, rfl⟩
  | 4, _ => exact ⟨rfl, rfl, rfl⟩
  | 5, _ => exact ⟨rfl, rfl, rfl⟩
  | 6, _ => exact ⟨rfl, rfl, rfl⟩
  | 7, _ => exact ⟨rfl, rfl, rfl⟩
  | 8, _ => exact ⟨rfl, rfl, rfl⟩
  | 9, _ => exact ⟨rfl, rfl, rfl⟩
theorem aLen_lt {j : Nat} (h : j < 10) : aLen j < 2 ^ 31 := by
  match j, h with
  | 0, _ => decide
  | 1, _ => decide
  | 2, _ => decide
  | 3, _ => decide
  | 4, _ => decide
  | 5, _ => decide
  | 6, _ => decide
  | 7, _ => decide
  | 8, _ => decide
  | 9, _ => decide
theorem j_get (pc : Nat) (k q0 : Nat) {idx ci : Nat} {Cn : String} {T : u_T} {N a : Nat} {fs : List Value} {v : Value} (C : CX X G own cc nL fr lo) (hd : decode cc pc = .ok (.getfield idx, 3)) (hcl : vwCl[ci]? = some (Cn, T, N)) (hin : ∀ w ∈ u_ws Cn T N, w ∈ TBL) (hk : k < N) (hlk : Cond.fieldLink own idx (T k).1 (T k).2.1 (T k).2.2.1 ∈ TBL) (he : (WW G g)[q0]? = some (a, .inr (ci, fs))) (hv : fs[k]? = some v) (kk : J X G nL g (pc + 3) L (v :: st)) : J X G nL g pc L (.ref a :: st) := by
  obtain ⟨p, e, R, s, m, args, below, meth, c, Q, cells, slots⟩ := X
  obtain ⟨hx, hb, hml, hown, hts, hE, hc1, hc2, hfr, hlo⟩ := C
  intro H locs ls hP hS hl
  exact va_get (D := gD G) hx hb hts hin hown hE.1 hP q0 he hcl k hk (hts _ hlk) (fun _ h => h) hv hd (kk H locs ls hP hS hl)
theorem j_put (pc : Nat) (k q0 j : Nat) {idx ci b : Nat} {Cn : String} {T : u_T} {N a : Nat} {fs : List Value} {x : Int32} {ty : FieldType} {ty0 : Nat → FieldType} (C : CX X G own cc nL fr lo) (hd : decode cc pc = .ok (.putfield idx, 3)) (hcl : vwCl[ci]? = some (Cn, T, N)) (hin : ∀ w ∈ u_ws Cn T N, w ∈ TBL) (hty : ∀ k, k < N → parseFieldDescriptor (T k).2.2.1 = some (ty0 k)) (hnm : ∀ a, a < N → ∀ b, b < N → a ≠ b → (T a).2.1 ≠ (T b).2.1) (hk : k < N) (hlk : Cond.fieldLink own idx (T k).1 (T k).2.1 (T k).2.2.1 ∈ TBL) (hfin : (T k).2.2.2 = false) (hds : parseFieldDescriptor (T k).2.2.1 = some ty) (hnw : narrow ty (.int x) = .int x) (hfit : fits ty (.int x) = true) (hlf : k < fs.length) (he : (WW G g)[q0]? = some (a, .inr (ci, fs))) (hq0 : q0 < 40) (hcb : cb q0 = b) (h1 : clo q0 ≤ j) (h2 : j < chi q0) (hq : (WW G (ub g b (upd (g b) j x)))[q0]? = some (a, .inr (ci, fs.set k (.int x)))) (kk : J X G nL (ub g b (upd (g b) j x)) (pc + 3) L st) : J X G nL g pc L (.int x :: .ref a :: st) := by
  obtain ⟨p, e, R, s, m, args, below, meth, c, Q, cells, slots⟩ := X
  obtain ⟨hx, hb, hml, hown, hts, hE, hc1, hc2, hfr, hlo⟩ := C
  intro H locs ls hP hS hl
  refine va_put (D := gD G) (ty := ty) hx hb hts hin ty0 hty hnm hown hE.1 hP (WW_D hE.2.1) hS q0 he hcl k hk (hts _ hlk) (fun _ h => h) hfin hds hnw hfit hlf hd (fun H1 locs1 hP1 _ hS1 => ?_)
  exact kk H1 locs1 ls (WW_put q0 j hq0 hcb h1 h2 hP1 hq (fun h => h)) hS1 hl
theorem j_ild (pc q0 : Nat) {a n i : Nat} {f : Nat → Int32} (C : CX X G own cc nL fr lo) (hd : decode cc pc = .ok (.iaload, 1)) (he : (WW G g)[q0]? = some (a, eI G n f)) (hi : i < n) (hn : n < 2 ^ 31) (k : J X G nL g (pc + 1) L (.int (f i) :: st)) : J X G nL g pc L (.int (nI i) :: .ref a :: st) := by
  obtain ⟨p, e, R, s, m, args, below, meth, c, Q, cells, slots⟩ := X
  obtain ⟨hx, hb, hml, hown, hts, hE, hc1, hc2, hfr, hlo⟩ := C
  intro H locs ls hP hS hl
  refine va_iald hx hb hE.1 hP q0 1 he rfl (nI_in hi hn) hd ?_
  rw [nI_clamp (Nat.lt_trans hi hn)]
  exact k H locs ls hP hS hl
theorem j_ist (pc q0 : Nat) {a n i : Nat} {x : Int32} {f : Nat → Int32} {g' : Mem} (C : CX X G own cc nL fr lo) (hd : decode cc pc = .ok (.iastore, 1)) (he : (WW G g)[q0]? = some (a, eI G n f)) (hi : i < n) (hn : n < 2 ^ 31) (hw : ∀ H, va_P (gD G) vwCl ((WW G g).set q0 (a, eI G n (upd f i x))) H → va_P (gD G) vwCl (WW G g') H) (k : J X G nL g' (pc + 1) L st) : J X G nL g pc L (.int x :: .int (nI i) :: .ref a :: st) := by
  obtain ⟨p, e, R, s, m, args, below, meth, c, Q, cells, slots⟩ := X
  obtain ⟨hx, hb, hml, hown, hts, hE, hc1, hc2, hfr, hlo⟩ := C
  intro H locs ls hP hS hl
  refine va_iast hx hb hE.1 hP (WW_D hE.2.1) hS q0 1 he rfl (nI_in hi hn) hd (fun H1 locs1 hP1 _ hS1 => ?_)
  rw [nI_clamp (Nat.lt_trans hi hn)] at hP1
  exact k H1 locs1 ls (hw H1 hP1) hS1 hl
theorem jg_X0_9 (pc : Nat) {d : Nat} (h : d < 4) (C : CX X G RX0 cc nL fr lo) (hd : decode cc pc = .ok (.getfield 9, 3)) (k : J X G nL g (pc + 3) L (.ref (wa G d) :: st)) : J X G nL g pc L (.ref (dr G d) :: st) := j_get pc 0 (1 + 4 * d) C hd (ci := 0) rfl in_X0 (Nat.le_of_ble_eq_true rfl) fl_X0_9 (at_D h) rfl k
theorem jg_X0_15 (pc : Nat) {d : Nat} (h : d < 4) (C : CX X G RX0 cc nL fr lo) (hd : decode cc pc = .ok (.getfield 15, 3)) (k : J X G nL g (pc + 3) L (.ref (ta G d) :: st)) : J X G nL g pc L (.ref (dr G d) :: st) := j_get pc 1 (1 + 4 * d) C hd (ci := 0) rfl in_X0 (Nat.le_of_ble_eq_true rfl) fl_X0_15 (at_D h) rfl k
theorem jg_X0_18 (pc : Nat) {d : Nat} (h : d < 4) (C : CX X G RX0 cc nL fr lo) (hd : decode cc pc = .ok (.getfield 18, 3)) (k : J X G nL g (pc + 3) L (.ref (sa G d) :: st)) : J X G nL g pc L (.ref (dr G d) :: st) := j_get pc 2 (1 + 4 * d) C hd (ci := 0) rfl in_X0 (Nat.le_of_ble_eq_true rfl) fl_X0_18 (at_D h) rfl k
theorem jg_X4_227 (pc : Nat) {d : Nat} (h : d < 4) (C : CX X G RX4 cc nL fr lo) (hd : decode cc pc = .ok (.getfield 227, 3)) (k : J X G nL g (pc + 3) L (.ref (sa G d) :: st)) : J X G nL g pc L (.ref (dr G d) :: st) := j_get pc 2 (1 + 4 * d) C hd (ci := 0) rfl in_X0 (Nat.le_of_ble_eq_true rfl) fl_X4_227 (at_D h) rfl k
theorem jg_X0_21 (pc : Nat) {d : Nat} (h : d < 4) (C : CX X G RX0 cc nL fr lo) (hd : decode cc pc = .ok (.getfield 21, 3)) (k : J X G nL g (pc + 3) L (.int (g d 0) :: st)) : J X G nL g pc L (.ref (dr G d) :: st) := j_get pc 3 (1 + 4 * d) C hd (ci := 0) rfl in_X0 (Nat.le_of_ble_eq_true rfl) fl_X0_21 (at_D h) rfl k
theorem jp_X0_21 (pc : Nat) {d : Nat} (h : d < 4) {x : Int32} (C : CX X G RX0 cc nL fr lo) (hd : decode cc pc = .ok (.putfield 21, 3)) (k : J X G nL (ub g d (upd (g d) 0 x)) (pc + 3) L st) : J X G nL g pc L (.int x :: .ref (dr G d) :: st) := j_put pc 3 (1 + 4 * d) 0 C hd (ci := 0) rfl in_X0 tyX0_ok nmX0 (Nat.le_of_ble_eq_true rfl) fl_X0_21 rfl rfl (vp_nar_int x) rfl (Nat.le_of_ble_eq_true rfl) (at_D h) (by omega) (tb_D h).1 (by rw [(tb_D h).2.1]; exact Nat.zero_le _) (by rw [(tb_D h).2.2]; exact Nat.le_of_ble_eq_true rfl) (by rw [at_D h]; simp only [cD, cSh, ub_s]; rfl) k
theorem jg_X4_164 (pc : Nat) {d : Nat} (h : d < 4) (C : CX X G RX4 cc nL fr lo) (hd : decode cc pc = .ok (.getfield 164, 3)) (k : J X G nL g (pc + 3) L (.int (g d 0) :: st)) : J X G nL g pc L (.ref (dr G d) :: st) := j_get pc 3 (1 + 4 * d) C hd (ci := 0) rfl in_X0 (Nat.le_of_ble_eq_true rfl) fl_X4_164 (at_D h) rfl k
theorem jp_X4_164 (pc : Nat) {d : Nat} (h : d < 4) {x : Int32} (C : CX X G RX4 cc nL fr lo) (hd : decode cc pc = .ok (.putfield 164, 3)) (k : J X G nL (ub g d (upd (g d) 0 x)) (pc + 3) L st) : J X G nL g pc L (.int x :: .ref (dr G d) :: st) := j_put pc 3 (1 + 4 * d) 0 C hd (ci := 0) rfl in_X0 tyX0_ok nmX0 (Nat.le_of_ble_eq_true rfl) fl_X4_164 rfl rfl (vp_nar_int x) rfl (Nat.le_of_ble_eq_true rfl) (at_D h) (by omega) (tb_D h).1 (by rw [(tb_D h).2.1]; exact Nat.zero_le _) (by rw [(tb_D h).2.2]; exact Nat.le_of_ble_eq_true rfl) (by rw [at_D h]; simp only [cD, cSh, ub_s]; rfl) k
theorem jg_X0_25 (pc : Nat) {d : Nat} (h : d < 4) (C : CX X G RX0 cc nL fr lo) (hd : decode cc pc = .ok (.getfield 25, 3)) (k : J X G nL g (pc + 3) L (.int (g d 1) :: st)) : J X G nL g pc L (.ref (dr G d) :: st) := j_get pc 4 (1 + 4 * d) C hd (ci := 0) rfl in_X0 (Nat.le_of_ble_eq_true rfl) fl_X0_25 (at_D h) rfl k
theorem jp_X0_25 (pc : Nat) {d : Nat} (h : d < 4) {x : Int32} (C : CX X G RX0 cc nL fr lo) (hd : decode cc pc = .ok (.putfield 25, 3)) (k : J X G nL (ub g d (upd (g d) 1 x)) (pc + 3) L st) : J X G nL g pc L (.int x :: .ref (dr G d) :: st) := j_put pc 4 (1 + 4 * d) 1 C hd (ci := 0) rfl in_X0 tyX0_ok nmX0 (Nat.le_of_ble_eq_true rfl) fl_X0_25 rfl rfl (vp_nar_int x) rfl (Nat.le_of_ble_eq_true rfl) (at_D h) (by omega) (tb_D h).1 (by rw [(tb_D h).2.1]; exact Nat.zero_le _) (by rw [(tb_D h).2.2]; exact Nat.le_of_ble_eq_true rfl) (by rw [at_D h]; simp only [cD, cSh, ub_s]; rfl) k
theorem jg_X4_126 (pc : Nat) {d : Nat} (h : d < 4) (C : CX X G RX4 cc nL fr lo) (hd : decode cc pc = .ok (.getfield 126, 3)) (k : J X G nL g (pc + 3) L (.int (g d 1) :: st)) : J X G nL g pc L (.ref (dr G d) :: st) := j_get pc 4 (1 + 4 * d) C hd (ci := 0) rfl in_X0 (Nat.le_of_ble_eq_true rfl) fl_X4_126 (at_D h) rfl k
theorem jp_X4_126 (pc : Nat) {d : Nat} (h : d < 4) {x : Int32} (C : CX X G RX4 cc nL fr lo) (hd : decode cc pc = .ok (.putfield 126, 3)) (k : J X G nL (ub g d (upd (g d) 1 x)) (pc + 3) L st) : J X G nL g pc L (.int x :: .ref (dr G d) :: st) := j_put pc 4 (1 + 4 * d) 1 C hd (ci := 0) rfl in_X0 tyX0_ok nmX0 (Nat.le_of_ble_eq_true rfl) fl_X4_126 rfl rfl (vp_nar_int x) rfl (Nat.le_of_ble_eq_true rfl) (at_D h) (by omega) (tb_D h).1 (by rw [(tb_D h).2.1]; exact Nat.zero_le _) (by rw [(tb_D h).2.2]; exact Nat.le_of_ble_eq_true rfl) (by rw [at_D h]; simp only [cD, cSh, ub_s]; rfl) k
theorem jg_X0_28 (pc : Nat) {d : Nat} (h : d < 4) (C : CX X G RX0 cc nL fr lo) (hd : decode cc pc = .ok (.getfield 28, 3)) (k : J X G nL g (pc + 3) L (.int (g d 2) :: st)) : J X G nL g pc L (.ref (dr G d) :: st) := j_get pc 5 (1 + 4 * d) C hd (ci := 0) rfl in_X0 (Nat.le_of_ble_eq_true rfl) fl_X0_28 (at_D h) rfl k
theorem jp_X0_28 (pc : Nat) {d : Nat} (h : d < 4) {x : Int32} (C : CX X G RX0 cc nL fr lo) (hd : decode cc pc = .ok (.putfield 28, 3)) (k : J X G nL (ub g d (upd (g d) 2 x)) (pc + 3) L st) : J X G nL g pc L (.int x :: .ref (dr G d) :: st) := j_put pc 5 (1 + 4 * d) 2 C hd (ci := 0) rfl in_X0 tyX0_ok nmX0 (Nat.le_of_ble_eq_true rfl) fl_X0_28 rfl rfl (vp_nar_int x) rfl (Nat.le_of_ble_eq_true rfl) (at_D h) (by omega) (tb_D h).1 (by rw [(tb_D h).2.1]; exact Nat.zero_le _) (by rw [(tb_D h).2.2]; exact Nat.le_of_ble_eq_true rfl) (by rw [at_D h]; simp only [cD, cSh, ub_s]; rfl) k
theorem jg_X4_207 (pc : Nat) {d : Nat} (h : d < 4) (C : CX X G RX4 cc nL fr lo) (hd : decode cc pc = .ok (.getfield 207, 3)) (k : J X G nL g (pc + 3) L (.int (g d 2) :: st)) : J X G nL g pc L (.ref (dr G d) :: st) := j_get pc 5 (1 + 4 * d) C hd (ci := 0) rfl in_X0 (Nat.le_of_ble_eq_true rfl) fl_X4_207 (at_D h) rfl k
theorem jp_X4_207 (pc : Nat) {d : Nat} (h : d < 4) {x : Int32} (C : CX X G RX4 cc nL fr lo) (hd : decode cc pc = .ok (.putfield 207, 3)) (k : J X G nL (ub g d (upd (g d) 2 x)) (pc + 3) L st) : J X G nL g pc L (.int x :: .ref (dr G d) :: st) := j_put pc 5 (1 + 4 * d) 2 C hd (ci := 0) rfl in_X0 tyX0_ok nmX0 (Nat.le_of_ble_eq_true rfl) fl_X4_207 rfl rfl (vp_nar_int x) rfl (Nat.le_of_ble_eq_true rfl) (at_D h) (by omega) (tb_D h).1 (by rw [(tb_D h).2.1]; exact Nat.zero_le _) (by rw [(tb_D h).2.2]; exact Nat.le_of_ble_eq_true rfl) (by rw [at_D h]; simp only [cD, cSh, ub_s]; rfl) k
theorem jg_X3_9 (pc : Nat) (C : CX X G RX3 cc nL fr lo) (hd : decode cc pc = .ok (.getfield 9, 3)) (k : J X G nL g (pc + 3) L (.ref (tb G) :: st)) : J X G nL g pc L (.ref (tp G) :: st) := j_get pc 0 17 C hd (ci := 2) rfl in_X3 (Nat.le_of_ble_eq_true rfl) fl_X3_9 rfl rfl k
theorem jg_X3_15 (pc : Nat) (C : CX X G RX3 cc nL fr lo) (hd : decode cc pc = .ok (.getfield 15, 3)) (k : J X G nL g (pc + 3) L (.int (g 4 0) :: st)) : J X G nL g pc L (.ref (tp G) :: st) := j_get pc 1 17 C hd (ci := 2) rfl in_X3 (Nat.le_of_ble_eq_true rfl) fl_X3_15 rfl rfl k
theorem jp_X3_15 (pc : Nat) {x : Int32} (C : CX X G RX3 cc nL fr lo) (hd : decode cc pc = .ok (.putfield 15, 3)) (k : J X G nL (ub g 4 (upd (g 4) 0 x)) (pc + 3) L st) : J X G nL g pc L (.int x :: .ref (tp G) :: st) := j_put pc 1 17 0 C hd (ci := 2) rfl in_X3 tyX3_ok nmX3 (Nat.le_of_ble_eq_true rfl) fl_X3_15 rfl rfl (vp_nar_int x) rfl (Nat.le_of_ble_eq_true rfl) rfl (Nat.le_of_ble_eq_true rfl) rfl (Nat.zero_le _) (Nat.le_of_ble_eq_true rfl) rfl k
theorem jg_X4_210 (pc : Nat) (C : CX X G RX4 cc nL fr lo) (hd : decode cc pc = .ok (.getfield 210, 3)) (k : J X G nL g (pc + 3) L (.int (g 4 0) :: st)) : J X G nL g pc L (.ref (tp G) :: st) := j_get pc 1 17 C hd (ci := 2) rfl in_X3 (Nat.le_of_ble_eq_true rfl) fl_X4_210 rfl rfl k
theorem jp_X4_210 (pc : Nat) {x : Int32} (C : CX X G RX4 cc nL fr lo) (hd : decode cc pc = .ok (.putfield 210, 3)) (k : J X G nL (ub g 4 (upd (g 4) 0 x)) (pc + 3) L st) : J X G nL g pc L (.int x :: .ref (tp G) :: st) := j_put pc 1 17 0 C hd (ci := 2) rfl in_X3 tyX3_ok nmX3 (Nat.le_of_ble_eq_true rfl) fl_X4_210 rfl rfl (vp_nar_int x) rfl (Nat.le_of_ble_eq_true rfl) rfl (Nat.le_of_ble_eq_true rfl) rfl (Nat.zero_le _) (Nat.le_of_ble_eq_true rfl) rfl k
theorem jg_X3_19 (pc : Nat) (C : CX X G RX3 cc nL fr lo) (hd : decode cc pc = .ok (.getfield 19, 3)) (k : J X G nL g (pc + 3) L (.int (g 4 1) :: st)) : J X G nL g pc L (.ref (tp G) :: st) := j_get pc 2 17 C hd (ci := 2) rfl in_X3 (Nat.le_of_ble_eq_true rfl) fl_X3_19 rfl rfl k
theorem jp_X3_19 (pc : Nat) {x : Int32} (C : CX X G RX3 cc nL fr lo) (hd : decode cc pc = .ok (.putfield 19, 3)) (k : J X G nL (ub g 4 (upd (g 4) 1 x)) (pc + 3) L st) : J X G nL g pc L (.int x :: .ref (tp G) :: st) := j_put pc 2 17 1 C hd (ci := 2) rfl in_X3 tyX3_ok nmX3 (Nat.le_of_ble_eq_true rfl) fl_X3_19 rfl rfl (vp_nar_int x) rfl (Nat.le_of_ble_eq_true rfl) rfl (Nat.le_of_ble_eq_true rfl) rfl (Nat.zero_le _) (Nat.le_of_ble_eq_true rfl) rfl k
theorem jg_X3_22 (pc : Nat) (C : CX X G RX3 cc nL fr lo) (hd : decode cc pc = .ok (.getfield 22, 3)) (k : J X G nL g (pc + 3) L (.int (g 4 2) :: st)) : J X G nL g pc L (.ref (tp G) :: st) := j_get pc 3 17 C hd (ci := 2) rfl in_X3 (Nat.le_of_ble_eq_true rfl) fl_X3_22 rfl rfl k
theorem jp_X3_22 (pc : Nat) {x : Int32} (C : CX X G RX3 cc nL fr lo) (hd : decode cc pc = .ok (.putfield 22, 3)) (k : J X G nL (ub g 4 (upd (g 4) 2 x)) (pc + 3) L st) : J X G nL g pc L (.int x :: .ref (tp G) :: st) := j_put pc 3 17 2 C hd (ci := 2) rfl in_X3 tyX3_ok nmX3 (Nat.le_of_ble_eq_true rfl) fl_X3_22 rfl rfl (vp_nar_int x) rfl (Nat.le_of_ble_eq_true rfl) rfl (Nat.le_of_ble_eq_true rfl) rfl (Nat.zero_le _) (Nat.le_of_ble_eq_true rfl) rfl k
theorem jg_X3_25 (pc : Nat) (C : CX X G RX3 cc nL fr lo) (hd : decode cc pc = .ok (.getfield 25, 3)) (k : J X G nL g (pc + 3) L (.int (g 4 3) :: st)) : J X G nL g pc L (.ref (tp G) :: st) := j_get pc 4 17 C hd (ci := 2) rfl in_X3 (Nat.le_of_ble_eq_true rfl) fl_X3_25 rfl rfl k
theorem jp_X3_25 (pc : Nat) {x : Int32} (C : CX X G RX3 cc nL fr lo) (hd : decode cc pc = .ok (.putfield 25, 3)) (k : J X G nL (ub g 4 (upd (g 4) 3 x)) (pc + 3) L st) : J X G nL g pc L (.int x :: .ref (tp G) :: st) := j_put pc 4 17 3 C hd (ci := 2) rfl in_X3 tyX3_ok nmX3 (Nat.le_of_ble_eq_true rfl) fl_X3_25 rfl rfl (vp_nar_int x) rfl (Nat.le_of_ble_eq_true rfl) rfl (Nat.le_of_ble_eq_true rfl) rfl (Nat.zero_le _) (Nat.le_of_ble_eq_true rfl) rfl k
theorem jg_X3_28 (pc : Nat) (C : CX X G RX3 cc nL fr lo) (hd : decode cc pc = .ok (.getfield 28, 3)) (k : J X G nL g (pc + 3) L (.int (g 4 4) :: st)) : J X G nL g pc L (.ref (tp G) :: st) := j_get pc 5 17 C hd (ci := 2) rfl in_X3 (Nat.le_of_ble_eq_true rfl) fl_X3_28 rfl rfl k
theorem jp_X3_28 (pc : Nat) {x : Int32} (C : CX X G RX3 cc nL fr lo) (hd : decode cc pc = .ok (.putfield 28, 3)) (k : J X G nL (ub g 4 (upd (g 4) 4 x)) (pc + 3) L st) : J X G nL g pc L (.int x :: .ref (tp G) :: st) := j_put pc 5 17 4 C hd (ci := 2) rfl in_X3 tyX3_ok nmX3 (Nat.le_of_ble_eq_true rfl) fl_X3_28 rfl rfl (vp_nar_int x) rfl (Nat.le_of_ble_eq_true rfl) rfl (Nat.le_of_ble_eq_true rfl) rfl (Nat.zero_le _) (Nat.le_of_ble_eq_true rfl) rfl k
theorem jg_X2_9 (pc : Nat) {t : Nat} (h : t < 4) (C : CX X G RX2 cc nL fr lo) (hd : decode cc pc = .ok (.getfield 9, 3)) (k : J X G nL g (pc + 3) L (.ref (sn G t) :: st)) : J X G nL g pc L (.ref (sh G t) :: st) := j_get pc 0 (20 + 2 * t) C hd (ci := 1) rfl in_X2 (Nat.le_of_ble_eq_true rfl) fl_X2_9 (at_Sh h) rfl k
theorem jg_X4_249 (pc : Nat) {t : Nat} (h : t < 4) (C : CX X G RX4 cc nL fr lo) (hd : decode cc pc = .ok (.getfield 249, 3)) (k : J X G nL g (pc + 3) L (.ref (sn G t) :: st)) : J X G nL g pc L (.ref (sh G t) :: st) := j_get pc 0 (20 + 2 * t) C hd (ci := 1) rfl in_X2 (Nat.le_of_ble_eq_true rfl) fl_X4_249 (at_Sh h) rfl k
theorem jg_X2_15 (pc : Nat) {t : Nat} (h : t < 4) (C : CX X G RX2 cc nL fr lo) (hd : decode cc pc = .ok (.getfield 15, 3)) (k : J X G nL g (pc + 3) L (.int (g (6 + t) 0) :: st)) : J X G nL g pc L (.ref (sh G t) :: st) := j_get pc 1 (20 + 2 * t) C hd (ci := 1) rfl in_X2 (Nat.le_of_ble_eq_true rfl) fl_X2_15 (at_Sh h) rfl k
theorem jp_X2_15 (pc : Nat) {t : Nat} (h : t < 4) {x : Int32} (C : CX X G RX2 cc nL fr lo) (hd : decode cc pc = .ok (.putfield 15, 3)) (k : J X G nL (ub g (6 + t) (upd (g (6 + t)) 0 x)) (pc + 3) L st) : J X G nL g pc L (.int x :: .ref (sh G t) :: st) := j_put pc 1 (20 + 2 * t) 0 C hd (ci := 1) rfl in_X2 tyX2_ok nmX2 (Nat.le_of_ble_eq_true rfl) fl_X2_15 rfl rfl (vp_nar_int x) rfl (Nat.le_of_ble_eq_true rfl) (at_Sh h) (by omega) (tb_Sh h).1 (by rw [(tb_Sh h).2.1]; exact Nat.zero_le _) (by rw [(tb_Sh h).2.2]; exact Nat.le_of_ble_eq_true rfl) (by rw [at_Sh h]; simp only [cD, cSh, ub_s]; rfl) k
theorem jg_X4_243 (pc : Nat) {t : Nat} (h : t < 4) (C : CX X G RX4 cc nL fr lo) (hd : decode cc pc = .ok (.getfield 243, 3)) (k : J X G nL g (pc + 3) L (.int (g (6 + t) 0) :: st)) : J X G nL g pc L (.ref (sh G t) :: st) := j_get pc 1 (20 + 2 * t) C hd (ci := 1) rfl in_X2 (Nat.le_of_ble_eq_true rfl) fl_X4_243 (at_Sh h) rfl k
theorem jp_X4_243 (pc : Nat) {t : Nat} (h : t < 4) {x : Int32} (C : CX X G RX4 cc nL fr lo) (hd : decode cc pc = .ok (.putfield 243, 3)) (k : J X G nL (ub g (6 + t) (upd (g (6 + t)) 0 x)) (pc + 3) L st) : J X G nL g pc L (.int x :: .ref (sh G t) :: st) := j_put pc 1 (20 + 2 * t) 0 C hd (ci := 1) rfl in_X2 tyX2_ok nmX2 (Nat.le_of_ble_eq_true rfl) fl_X4_243 rfl rfl (vp_nar_int x) rfl (Nat.le_of_ble_eq_true rfl) (at_Sh h) (by omega) (tb_Sh h).1 (by rw [(tb_Sh h).2.1]; exact Nat.zero_le _) (by rw [(tb_Sh h).2.2]; exact Nat.le_of_ble_eq_true rfl) (by rw [at_Sh h]; simp only [cD, cSh, ub_s]; rfl) k
theorem jg_X2_19 (pc : Nat) {t : Nat} (h : t < 4) (C : CX X G RX2 cc nL fr lo) (hd : decode cc pc = .ok (.getfield 19, 3)) (k : J X G nL g (pc + 3) L (.int (g (6 + t) 1) :: st)) : J X G nL g pc L (.ref (sh G t) :: st) := j_get pc 2 (20 + 2 * t) C hd (ci := 1) rfl in_X2 (Nat.le_of_ble_eq_true rfl) fl_X2_19 (at_Sh h) rfl k
theorem jp_X2_19 (pc : Nat) {t : Nat} (h : t < 4) {x : Int32} (C : CX X G RX2 cc nL fr lo) (hd : decode cc pc = .ok (.putfield 19, 3)) (k : J X G nL (ub g (6 + t) (upd (g (6 + t)) 1 x)) (pc + 3) L st) : J X G nL g pc L (.int x :: .ref (sh G t) :: st) := j_put pc 2 (20 + 2 * t) 1 C hd (ci := 1) rfl in_X2 tyX2_ok nmX2 (Nat.le_of_ble_eq_true rfl) fl_X2_19 rfl rfl (vp_nar_int x) rfl (Nat.le_of_ble_eq_true rfl) (at_Sh h) (by omega) (tb_Sh h).1 (by rw [(tb_Sh h).2.1]; exact Nat.zero_le _) (by rw [(tb_Sh h).2.2]; exact Nat.le_of_ble_eq_true rfl) (by rw [at_Sh h]; simp only [cD, cSh, ub_s]; rfl) k
theorem jg_X4_239 (pc : Nat) {t : Nat} (h : t < 4) (C : CX X G RX4 cc nL fr lo) (hd : decode cc pc = .ok (.getfield 239, 3)) (k : J X G nL g (pc + 3) L (.int (g (6 + t) 1) :: st)) : J X G nL g pc L (.ref (sh G t) :: st) := j_get pc 2 (20 + 2 * t) C hd (ci := 1) rfl in_X2 (Nat.le_of_ble_eq_true rfl) fl_X4_239 (at_Sh h) rfl k
theorem jp_X4_239 (pc : Nat) {t : Nat} (h : t < 4) {x : Int32} (C : CX X G RX4 cc nL fr lo) (hd : decode cc pc = .ok (.putfield 239, 3)) (k : J X G nL (ub g (6 + t) (upd (g (6 + t)) 1 x)) (pc + 3) L st) : J X G nL g pc L (.int x :: .ref (sh G t) :: st) := j_put pc 2 (20 + 2 * t) 1 C hd (ci := 1) rfl in_X2 tyX2_ok nmX2 (Nat.le_of_ble_eq_true rfl) fl_X4_239 rfl rfl (vp_nar_int x) rfl (Nat.le_of_ble_eq_true rfl) (at_Sh h) (by omega) (tb_Sh h).1 (by rw [(tb_Sh h).2.1]; exact Nat.zero_le _) (by rw [(tb_Sh h).2.2]; exact Nat.le_of_ble_eq_true rfl) (by rw [at_Sh h]; simp only [cD, cSh, ub_s]; rfl) k
theorem jg_X4_12 (pc : Nat) (C : CX X G RX4 cc nL fr lo) (hd : decode cc pc = .ok (.getfield 12, 3)) (k : J X G nL g (pc + 3) L (.ref (dr G 0) :: st)) : J X G nL g pc L (.ref (xo G) :: st) := j_get pc 0 0 C hd (ci := 3) rfl in_X4 (Nat.le_of_ble_eq_true rfl) fl_X4_12 rfl rfl k
theorem jg_X4_16 (pc : Nat) (C : CX X G RX4 cc nL fr lo) (hd : decode cc pc = .ok (.getfield 16, 3)) (k : J X G nL g (pc + 3) L (.ref (dr G 1) :: st)) : J X G nL g pc L (.ref (xo G) :: st) := j_get pc 1 0 C hd (ci := 3) rfl in_X4 (Nat.le_of_ble_eq_true rfl) fl_X4_16 rfl rfl k
theorem jg_X4_19 (pc : Nat) (C : CX X G RX4 cc nL fr lo) (hd : decode cc pc = .ok (.getfield 19, 3)) (k : J X G nL g (pc + 3) L (.ref (dr G 2) :: st)) : J X G nL g pc L (.ref (xo G) :: st) := j_get pc 2 0 C hd (ci := 3) rfl in_X4 (Nat.le_of_ble_eq_true rfl) fl_X4_19 rfl rfl k
theorem jg_X4_22 (pc : Nat) (C : CX X G RX4 cc nL fr lo) (hd : decode cc pc = .ok (.getfield 22, 3)) (k : J X G nL g (pc + 3) L (.ref (dr G 3) :: st)) : J X G nL g pc L (.ref (xo G) :: st) := j_get pc 3 0 C hd (ci := 3) rfl in_X4 (Nat.le_of_ble_eq_true rfl) fl_X4_22 rfl rfl k
theorem jg_X4_28 (pc : Nat) (C : CX X G RX4 cc nL fr lo) (hd : decode cc pc = .ok (.getfield 28, 3)) (k : J X G nL g (pc + 3) L (.ref (tp G) :: st)) : J X G nL g pc L (.ref (xo G) :: st) := j_get pc 4 0 C hd (ci := 3) rfl in_X4 (Nat.le_of_ble_eq_true rfl) fl_X4_28 rfl rfl k
theorem jg_X4_34 (pc : Nat) (C : CX X G RX4 cc nL fr lo) (hd : decode cc pc = .ok (.getfield 34, 3)) (k : J X G nL g (pc + 3) L (.ref (hs G) :: st)) : J X G nL g pc L (.ref (xo G) :: st) := j_get pc 5 0 C hd (ci := 3) rfl in_X4 (Nat.le_of_ble_eq_true rfl) fl_X4_34 rfl rfl k
theorem jg_X4_38 (pc : Nat) (C : CX X G RX4 cc nL fr lo) (hd : decode cc pc = .ok (.getfield 38, 3)) (k : J X G nL g (pc + 3) L (.ref (fa G) :: st)) : J X G nL g pc L (.ref (xo G) :: st) := j_get pc 6 0 C hd (ci := 3) rfl in_X4 (Nat.le_of_ble_eq_true rfl) fl_X4_38 rfl rfl k
theorem jg_X4_42 (pc : Nat) (C : CX X G RX4 cc nL fr lo) (hd : decode cc pc = .ok (.getfield 42, 3)) (k : J X G nL g (pc + 3) L (.int (g 11 0) :: st)) : J X G nL g pc L (.ref (xo G) :: st) := j_get pc 7 0 C hd (ci := 3) rfl in_X4 (Nat.le_of_ble_eq_true rfl) fl_X4_42 rfl rfl k
theorem jp_X4_42 (pc : Nat) {x : Int32} (C : CX X G RX4 cc nL fr lo) (hd : decode cc pc = .ok (.putfield 42, 3)) (hx01 : x = 0 ∨ x = 1) (k : J X G nL (ub g 11 (upd (g 11) 0 x)) (pc + 3) L st) : J X G nL g pc L (.int x :: .ref (xo G) :: st) := j_put pc 7 0 0 C hd (ci := 3) rfl in_X4 tyX4_ok nmX4 (Nat.le_of_ble_eq_true rfl) fl_X4_42 rfl rfl (by rcases hx01 with rfl | rfl <;> decide) (by rcases hx01 with rfl | rfl <;> decide) (Nat.le_of_ble_eq_true rfl) rfl (Nat.le_of_ble_eq_true rfl) rfl (Nat.zero_le _) (Nat.le_of_ble_eq_true rfl) rfl k
theorem jg_X5_7 (pc : Nat) (C : CX X G RX5 cc nL fr lo) (hd : decode cc pc = .ok (.getfield 7, 3)) (k : J X G nL g (pc + 3) L (.ref (ar G 0) :: st)) : J X G nL g pc L (.ref (mo G) :: st) := j_get pc 0 29 C hd (ci := 4) rfl in_X5 (Nat.le_of_ble_eq_true rfl) fl_X5_7 rfl rfl k
theorem jg_X5_13 (pc : Nat) (C : CX X G RX5 cc nL fr lo) (hd : decode cc pc = .ok (.getfield 13, 3)) (k : J X G nL g (pc + 3) L (.ref (ar G 1) :: st)) : J X G nL g pc L (.ref (mo G) :: st) := j_get pc 1 29 C hd (ci := 4) rfl in_X5 (Nat.le_of_ble_eq_true rfl) fl_X5_13 rfl rfl k
theorem jg_X5_16 (pc : Nat) (C : CX X G RX5 cc nL fr lo) (hd : decode cc pc = .ok (.getfield 16, 3)) (k : J X G nL g (pc + 3) L (.ref (ar G 2) :: st)) : J X G nL g pc L (.ref (mo G) :: st) := j_get pc 2 29 C hd (ci := 4) rfl in_X5 (Nat.le_of_ble_eq_true rfl) fl_X5_16 rfl rfl k
theorem jg_X5_19 (pc : Nat) (C : CX X G RX5 cc nL fr lo) (hd : decode cc pc = .ok (.getfield 19, 3)) (k : J X G nL g (pc + 3) L (.ref (ar G 3) :: st)) : J X G nL g pc L (.ref (mo G) :: st) := j_get pc 3 29 C hd (ci := 4) rfl in_X5 (Nat.le_of_ble_eq_true rfl) fl_X5_19 rfl rfl k
theorem jg_X5_301 (pc : Nat) (C : CX X G RX5 cc nL fr lo) (hd : decode cc pc = .ok (.getfield 301, 3)) (k : J X G nL g (pc + 3) L (.int (g 22 0) :: st)) : J X G nL g pc L (.ref (mo G) :: st) := j_get pc 4 29 C hd (ci := 4) rfl in_X5 (Nat.le_of_ble_eq_true rfl) fl_X5_301 rfl rfl k
theorem jp_X5_301 (pc : Nat) {x : Int32} (C : CX X G RX5 cc nL fr lo) (hd : decode cc pc = .ok (.putfield 301, 3)) (hx01 : x = 0 ∨ x = 1) (k : J X G nL (ub g 22 (upd (g 22) 0 x)) (pc + 3) L st) : J X G nL g pc L (.int x :: .ref (mo G) :: st) := j_put pc 4 29 0 C hd (ci := 4) rfl in_X5 tyX5_ok nmX5 (Nat.le_of_ble_eq_true rfl) fl_X5_301 rfl rfl (by rcases hx01 with rfl | rfl <;> decide) (by rcases hx01 with rfl | rfl <;> decide) (Nat.le_of_ble_eq_true rfl) rfl (Nat.le_of_ble_eq_true rfl) rfl (Nat.zero_le _) (Nat.le_of_ble_eq_true rfl) rfl k
theorem jg_X5_22 (pc : Nat) (C : CX X G RX5 cc nL fr lo) (hd : decode cc pc = .ok (.getfield 22, 3)) (k : J X G nL g (pc + 3) L (.ref (ar G 4) :: st)) : J X G nL g pc L (.ref (mo G) :: st) := j_get pc 5 29 C hd (ci := 4) rfl in_X5 (Nat.le_of_ble_eq_true rfl) fl_X5_22 rfl rfl k
theorem jg_X5_25 (pc : Nat) (C : CX X G RX5 cc nL fr lo) (hd : decode cc pc = .ok (.getfield 25, 3)) (k : J X G nL g (pc + 3) L (.ref (ar G 5) :: st)) : J X G nL g pc L (.ref (mo G) :: st) := j_get pc 6 29 C hd (ci := 4) rfl in_X5 (Nat.le_of_ble_eq_true rfl) fl_X5_25 rfl rfl k
theorem jg_X5_212 (pc : Nat) (C : CX X G RX5 cc nL fr lo) (hd : decode cc pc = .ok (.getfield 212, 3)) (k : J X G nL g (pc + 3) L (.int (g 22 1) :: st)) : J X G nL g pc L (.ref (mo G) :: st) := j_get pc 7 29 C hd (ci := 4) rfl in_X5 (Nat.le_of_ble_eq_true rfl) fl_X5_212 rfl rfl k
theorem jp_X5_212 (pc : Nat) {x : Int32} (C : CX X G RX5 cc nL fr lo) (hd : decode cc pc = .ok (.putfield 212, 3)) (k : J X G nL (ub g 22 (upd (g 22) 1 x)) (pc + 3) L st) : J X G nL g pc L (.int x :: .ref (mo G) :: st) := j_put pc 7 29 1 C hd (ci := 4) rfl in_X5 tyX5_ok nmX5 (Nat.le_of_ble_eq_true rfl) fl_X5_212 rfl rfl (vp_nar_int x) rfl (Nat.le_of_ble_eq_true rfl) rfl (Nat.le_of_ble_eq_true rfl) rfl (Nat.zero_le _) (Nat.le_of_ble_eq_true rfl) rfl k
theorem jg_X5_28 (pc : Nat) (C : CX X G RX5 cc nL fr lo) (hd : decode cc pc = .ok (.getfield 28, 3)) (k : J X G nL g (pc + 3) L (.ref (ar G 6) :: st)) : J X G nL g pc L (.ref (mo G) :: st) := j_get pc 8 29 C hd (ci := 4) rfl in_X5 (Nat.le_of_ble_eq_true rfl) fl_X5_28 rfl rfl k
theorem jg_X5_31 (pc : Nat) (C : CX X G RX5 cc nL fr lo) (hd : decode cc pc = .ok (.getfield 31, 3)) (k : J X G nL g (pc + 3) L (.ref (ar G 7) :: st)) : J X G nL g pc L (.ref (mo G) :: st) := j_get pc 9 29 C hd (ci := 4) rfl in_X5 (Nat.le_of_ble_eq_true rfl) fl_X5_31 rfl rfl k
theorem jg_X5_34 (pc : Nat) (C : CX X G RX5 cc nL fr lo) (hd : decode cc pc = .ok (.getfield 34, 3)) (k : J X G nL g (pc + 3) L (.ref (ar G 8) :: st)) : J X G nL g pc L (.ref (mo G) :: st) := j_get pc 10 29 C hd (ci := 4) rfl in_X5 (Nat.le_of_ble_eq_true rfl) fl_X5_34 rfl rfl k
theorem jg_X5_37 (pc : Nat) (C : CX X G RX5 cc nL fr lo) (hd : decode cc pc = .ok (.getfield 37, 3)) (k : J X G nL g (pc + 3) L (.ref (ar G 9) :: st)) : J X G nL g pc L (.ref (mo G) :: st) := j_get pc 11 29 C hd (ci := 4) rfl in_X5 (Nat.le_of_ble_eq_true rfl) fl_X5_37 rfl rfl k
theorem jg_X5_231 (pc : Nat) (C : CX X G RX5 cc nL fr lo) (hd : decode cc pc = .ok (.getfield 231, 3)) (k : J X G nL g (pc + 3) L (.int (g 22 2) :: st)) : J X G nL g pc L (.ref (mo G) :: st) := j_get pc 12 29 C hd (ci := 4) rfl in_X5 (Nat.le_of_ble_eq_true rfl) fl_X5_231 rfl rfl k
theorem jp_X5_231 (pc : Nat) {x : Int32} (C : CX X G RX5 cc nL fr lo) (hd : decode cc pc = .ok (.putfield 231, 3)) (k : J X G nL (ub g 22 (upd (g 22) 2 x)) (pc + 3) L st) : J X G nL g pc L (.int x :: .ref (mo G) :: st) := j_put pc 12 29 2 C hd (ci := 4) rfl in_X5 tyX5_ok nmX5 (Nat.le_of_ble_eq_true rfl) fl_X5_231 rfl rfl (vp_nar_int x) rfl (Nat.le_of_ble_eq_true rfl) rfl (Nat.le_of_ble_eq_true rfl) rfl (Nat.zero_le _) (Nat.le_of_ble_eq_true rfl) rfl k
theorem jg_X5_219 (pc : Nat) (C : CX X G RX5 cc nL fr lo) (hd : decode cc pc = .ok (.getfield 219, 3)) (k : J X G nL g (pc + 3) L (.int (g 22 3) :: st)) : J X G nL g pc L (.ref (mo G) :: st) := j_get pc 13 29 C hd (ci := 4) rfl in_X5 (Nat.le_of_ble_eq_true rfl) fl_X5_219 rfl rfl k
theorem jp_X5_219 (pc : Nat) {x : Int32} (C : CX X G RX5 cc nL fr lo) (hd : decode cc pc = .ok (.putfield 219, 3)) (k : J X G nL (ub g 22 (upd (g 22) 3 x)) (pc + 3) L st) : J X G nL g pc L (.int x :: .ref (mo G) :: st) := j_put pc 13 29 3 C hd (ci := 4) rfl in_X5 tyX5_ok nmX5 (Nat.le_of_ble_eq_true rfl) fl_X5_219 rfl rfl (vp_nar_int x) rfl (Nat.le_of_ble_eq_true rfl) rfl (Nat.le_of_ble_eq_true rfl) rfl (Nat.zero_le _) (Nat.le_of_ble_eq_true rfl) rfl k
theorem jg_X5_216 (pc : Nat) (C : CX X G RX5 cc nL fr lo) (hd : decode cc pc = .ok (.getfield 216, 3)) (k : J X G nL g (pc + 3) L (.int (g 22 4) :: st)) : J X G nL g pc L (.ref (mo G) :: st) := j_get pc 14 29 C hd (ci := 4) rfl in_X5 (Nat.le_of_ble_eq_true rfl) fl_X5_216 rfl rfl k
theorem jp_X5_216 (pc : Nat) {x : Int32} (C : CX X G RX5 cc nL fr lo) (hd : decode cc pc = .ok (.putfield 216, 3)) (k : J X G nL (ub g 22 (upd (g 22) 4 x)) (pc + 3) L st) : J X G nL g pc L (.int x :: .ref (mo G) :: st) := j_put pc 14 29 4 C hd (ci := 4) rfl in_X5 tyX5_ok nmX5 (Nat.le_of_ble_eq_true rfl) fl_X5_216 rfl rfl (vp_nar_int x) rfl (Nat.le_of_ble_eq_true rfl) rfl (Nat.le_of_ble_eq_true rfl) rfl (Nat.zero_le _) (Nat.le_of_ble_eq_true rfl) rfl k
theorem jg_X5_234 (pc : Nat) (C : CX X G RX5 cc nL fr lo) (hd : decode cc pc = .ok (.getfield 234, 3)) (k : J X G nL g (pc + 3) L (.int (g 22 5) :: st)) : J X G nL g pc L (.ref (mo G) :: st) := j_get pc 15 29 C hd (ci := 4) rfl in_X5 (Nat.le_of_ble_eq_true rfl) fl_X5_234 rfl rfl k
theorem jp_X5_234 (pc : Nat) {x : Int32} (C : CX X G RX5 cc nL fr lo) (hd : decode cc pc = .ok (.putfield 234, 3)) (k : J X G nL (ub g 22 (upd (g 22) 5 x)) (pc + 3) L st) : J X G nL g pc L (.int x :: .ref (mo G) :: st) := j_put pc 15 29 5 C hd (ci := 4) rfl in_X5 tyX5_ok nmX5 (Nat.le_of_ble_eq_true rfl) fl_X5_234 rfl rfl (vp_nar_int x) rfl (Nat.le_of_ble_eq_true rfl) rfl (Nat.le_of_ble_eq_true rfl) rfl (Nat.zero_le _) (Nat.le_of_ble_eq_true rfl) rfl k
theorem jg_X5_237 (pc : Nat) (C : CX X G RX5 cc nL fr lo) (hd : decode cc pc = .ok (.getfield 237, 3)) (k : J X G nL g (pc + 3) L (.int (g 22 6) :: st)) : J X G nL g pc L (.ref (mo G) :: st) := j_get pc 16 29 C hd (ci := 4) rfl in_X5 (Nat.le_of_ble_eq_true rfl) fl_X5_237 rfl rfl k
theorem jp_X5_237 (pc : Nat) {x : Int32} (C : CX X G RX5 cc nL fr lo) (hd : decode cc pc = .ok (.putfield 237, 3)) (k : J X G nL (ub g 22 (upd (g 22) 6 x)) (pc + 3) L st) : J X G nL g pc L (.int x :: .ref (mo G) :: st) := j_put pc 16 29 6 C hd (ci := 4) rfl in_X5 tyX5_ok nmX5 (Nat.le_of_ble_eq_true rfl) fl_X5_237 rfl rfl (vp_nar_int x) rfl (Nat.le_of_ble_eq_true rfl) rfl (Nat.le_of_ble_eq_true rfl) rfl (Nat.zero_le _) (Nat.le_of_ble_eq_true rfl) rfl k
theorem jl_wd (pc : Nat) {d : Nat} (h : d < 4) {i : Nat} (hi : i < 48) (C : CX X G own cc nL fr lo) (hd : decode cc pc = .ok (.iaload, 1)) (k : J X G nL g (pc + 1) L (.int (g d (3 + i)) :: st)) : J X G nL g pc L (.int (nI i) :: .ref (wa G d) :: st) := j_ild pc (2 + 4 * d) C hd (f := (fun i => g d (3 + i))) (at_Wd h) hi (by decide) k
theorem js_wd (pc : Nat) {d : Nat} (h : d < 4) {i : Nat} {x : Int32} (hi : i < 48) (C : CX X G own cc nL fr lo) (hd : decode cc pc = .ok (.iastore, 1)) (k : J X G nL (ub g d (upd (g d) (3 + i) x)) (pc + 1) L st) : J X G nL g pc L (.int x :: .int (nI i) :: .ref (wa G d) :: st) := j_ist pc (2 + 4 * d) C hd (f := (fun i => g d (3 + i))) (at_Wd h) hi (by decide) (fun H hP => WW_arr (2 + 4 * d) 3 i 48 _ (by omega) (tb_Wd h).1 (by rw [(tb_Wd h).2.1]; exact Nat.le_add_right _ _) (by rw [(tb_Wd h).2.2]; omega) (fun g => (at_Wd h)) hP) k
theorem jl_tr (pc : Nat) {d : Nat} (h : d < 4) {i : Nat} (hi : i < 32) (C : CX X G own cc nL fr lo) (hd : decode cc pc = .ok (.iaload, 1)) (k : J X G nL g (pc + 1) L (.int (g d (51 + i)) :: st)) : J X G nL g pc L (.int (nI i) :: .ref (ta G d) :: st) := j_ild pc (3 + 4 * d) C hd (f := (fun i => g d (51 + i))) (at_Tr h) hi (by decide) k
theorem js_tr (pc : Nat) {d : Nat} (h : d < 4) {i : Nat} {x : Int32} (hi : i < 32) (C : CX X G own cc nL fr lo) (hd : decode cc pc = .ok (.iastore, 1)) (k : J X G nL (ub g d (upd (g d) (51 + i) x)) (pc + 1) L st) : J X G nL g pc L (.int x :: .int (nI i) :: .ref (ta G d) :: st) := j_ist pc (3 + 4 * d) C hd (f := (fun i => g d (51 + i))) (at_Tr h) hi (by decide) (fun H hP => WW_arr (3 + 4 * d) 51 i 32 _ (by omega) (tb_Tr h).1 (by rw [(tb_Tr h).2.1]; exact Nat.le_add_right _ _) (by rw [(tb_Tr h).2.2]; omega) (fun g => (at_Tr h)) hP) k
theorem jl_sp (pc : Nat) {d : Nat} (h : d < 4) {i : Nat} (hi : i < 10) (C : CX X G own cc nL fr lo) (hd : decode cc pc = .ok (.iaload, 1)) (k : J X G nL g (pc + 1) L (.int (g d (83 + i)) :: st)) : J X G nL g pc L (.int (nI i) :: .ref (sa G d) :: st) := j_ild pc (4 + 4 * d) C hd (f := (fun i => g d (83 + i))) (at_Sp h) hi (by decide) k
theorem js_sp (pc : Nat) {d : Nat} (h : d < 4) {i : Nat} {x : Int32} (hi : i < 10) (C : CX X G own cc nL fr lo) (hd : decode cc pc = .ok (.iastore, 1)) (k : J X G nL (ub g d (upd (g d) (83 + i) x)) (pc + 1) L st) : J X G nL g pc L (.int x :: .int (nI i) :: .ref (sa G d) :: st) := j_ist pc (4 + 4 * d) C hd (f := (fun i => g d (83 + i))) (at_Sp h) hi (by decide) (fun H hP => WW_arr (4 + 4 * d) 83 i 10 _ (by omega) (tb_Sp h).1 (by rw [(tb_Sp h).2.1]; exact Nat.le_add_right _ _) (by rw [(tb_Sp h).2.2]; omega) (fun g => (at_Sp h)) hP) k
theorem jl_sn (pc : Nat) {t : Nat} (h : t < 4) {i : Nat} (hi : i < 40) (C : CX X G own cc nL fr lo) (hd : decode cc pc = .ok (.iaload, 1)) (k : J X G nL g (pc + 1) L (.int (g (6 + t) (2 + i)) :: st)) : J X G nL g pc L (.int (nI i) :: .ref (sn G t) :: st) := j_ild pc (21 + 2 * t) C hd (f := (fun i => g (6 + t) (2 + i))) (at_Sn h) hi (by decide) k
theorem js_sn (pc : Nat) {t : Nat} (h : t < 4) {i : Nat} {x : Int32} (hi : i < 40) (C : CX X G own cc nL fr lo) (hd : decode cc pc = .ok (.iastore, 1)) (k : J X G nL (ub g (6 + t) (upd (g (6 + t)) (2 + i) x)) (pc + 1) L st) : J X G nL g pc L (.int x :: .int (nI i) :: .ref (sn G t) :: st) := j_ist pc (21 + 2 * t) C hd (f := (fun i => g (6 + t) (2 + i))) (at_Sn h) hi (by decide) (fun H hP => WW_arr (21 + 2 * t) 2 i 40 _ (by omega) (tb_Sn h).1 (by rw [(tb_Sn h).2.1]; exact Nat.le_add_right _ _) (by rw [(tb_Sn h).2.2]; omega) (fun g => (at_Sn h)) hP) k
theorem jl_fa (pc : Nat) {i : Nat} (hi : i < 7) (C : CX X G own cc nL fr lo) (hd : decode cc pc = .ok (.iaload, 1)) (k : J X G nL g (pc + 1) L (.int (g 10 i) :: st)) : J X G nL g pc L (.int (nI i) :: .ref (fa G) :: st) := j_ild pc 28 C hd (f := (g 10)) rfl hi (by decide) k
theorem js_fa (pc : Nat) {i : Nat} {x : Int32} (hi : i < 7) (C : CX X G own cc nL fr lo) (hd : decode cc pc = .ok (.iastore, 1)) (k : J X G nL (ub g 10 (upd (g 10) i x)) (pc + 1) L st) : J X G nL g pc L (.int x :: .int (nI i) :: .ref (fa G) :: st) := j_ist pc 28 C hd (f := (g 10)) rfl hi (by decide) (fun H hP => WW_arr0 28 i 7 _ (Nat.le_of_ble_eq_true rfl) rfl (Nat.zero_le _) hi (fun g => rfl) hP) k
theorem jl_A (pc : Nat) {j : Nat} (h : j < 10) {i : Nat} (hi : i < (aLen j)) (C : CX X G own cc nL fr lo) (hd : decode cc pc = .ok (.iaload, 1)) (k : J X G nL g (pc + 1) L (.int (g (12 + j) i) :: st)) : J X G nL g pc L (.int (nI i) :: .ref (ar G j) :: st) := j_ild pc (30 + j) C hd (f := (g (12 + j))) (at_A h) hi (aLen_lt h) k
theorem js_A (pc : Nat) {j : Nat} (h : j < 10) {i : Nat} {x : Int32} (hi : i < (aLen j)) (C : CX X G own cc nL fr lo) (hd : decode cc pc = .ok (.iastore, 1)) (k : J X G nL (ub g (12 + j) (upd (g (12 + j)) i x)) (pc + 1) L st) : J X G nL g pc L (.int x :: .int (nI i) :: .ref (ar G j) :: st) := j_ist pc (30 + j) C hd (f := (g (12 + j))) (at_A h) hi (aLen_lt h) (fun H hP => WW_arr0 (30 + j) i (aLen j) _ (by omega) (tb_A h).1 (by rw [(tb_A h).2.1]; exact Nat.zero_le _) (by rw [(tb_A h).2.2]; exact hi) (fun g => (at_A h)) hP) k
theorem jl_tb (pc : Nat) {i : Nat} (hi : i < 120) (C : CX X G own cc nL fr lo) (hd : decode cc pc = .ok (.baload, 1)) (k : J X G nL g (pc + 1) L (.int (g 5 i) :: st)) : J X G nL g pc L (.int (nI i) :: .ref (tb G) :: st) := by
  obtain ⟨p, e, R, s, m, args, below, meth, c, Q, cells, slots⟩ := X
  obtain ⟨hx, hb, hml, hown, hts, hE, hc1, hc2, hfr, hlo⟩ := C
  intro H locs ls hP hS hl
  refine va_bald hx hb hE.1 hP 18 0 (f := g 5) (n := 120) rfl rfl (nI_in hi (by decide)) hd ?_
  rw [nI_clamp (Nat.lt_trans hi (by decide))]
  exact k H locs ls hP hS hl
theorem js_tb (pc : Nat) {i : Nat} {x : Int32} (hi : i < 120) (C : CX X G own cc nL fr lo) (hd : decode cc pc = .ok (.bastore, 1)) (k : J X G nL (ub g 5 (upd (g 5) i (vp_nar .byte x))) (pc + 1) L st) : J X G nL g pc L (.int x :: .int (nI i) :: .ref (tb G) :: st) := by
  obtain ⟨p, e, R, s, m, args, below, meth, c, Q, cells, slots⟩ := X
  obtain ⟨hx, hb, hml, hown, hts, hE, hc1, hc2, hfr, hlo⟩ := C
  intro H locs ls hP hS hl
  refine va_bast hx hb hE.1 hP (WW_D hE.2.1) hS 18 0 (f := g 5) (n := 120) rfl rfl (nI_in hi (by decide)) hd (fun H1 locs1 hP1 _ hS1 => ?_)
  rw [nI_clamp (Nat.lt_trans hi (by decide))] at hP1
  exact k H1 locs1 ls (WW_arr0 18 i 120 _ (Nat.le_of_ble_eq_true rfl) rfl (Nat.zero_le _) hi (fun g => rfl) hP1) hS1 hl
theorem jl_hs (pc : Nat) {t : Nat} (h : t < 4) (C : CX X G own cc nL fr lo) (hd : decode cc pc = .ok (.aaload, 1)) (k : J X G nL g (pc + 1) L (.ref (sh G t) :: st)) : J X G nL g pc L (.int (nI t) :: .ref (hs G) :: st) := by
  obtain ⟨p, e, R, s, m, args, below, meth, c, Q, cells, slots⟩ := X
  obtain ⟨hx, hb, hml, hown, hts, hE, hc1, hc2, hfr, hlo⟩ := C
  intro H locs ls hP hS hl
  refine va_aldq hx hb hE.1 hP 19 2 (n := 4) (f := fun i => some (sh G i)) rfl rfl (nI_in h (by decide)) hd ?_
  rw [nI_clamp (Nat.lt_trans h (by decide))]
  exact k H locs ls hP hS hl
theorem j_alen (pc q0 t0 : Nat) {a n : Nat} {cy : ClassId} {f : Nat → Int32} {ty : FieldType} {v : Int32} (C : CX X G own cc nL fr lo) (hd : decode cc pc = .ok (.arraylength, 1)) (he : (WW G g)[q0]? = some (a, .inl (cy, n, .inl f))) (ht : (tys G)[t0]? = some (cy, ty)) (hv : Int32.ofNat n = v) (k : J X G nL g (pc + 1) L (.int v :: st)) : J X G nL g pc L (.ref a :: st) := by
  obtain ⟨p, e, R, s, m, args, below, meth, c, Q, cells, slots⟩ := X
  obtain ⟨hx, hb, hml, hown, hts, hE, hc1, hc2, hfr, hlo⟩ := C
  intro H locs ls hP hS hl
  exact va_alen hx hb hE.1 hP q0 t0 he ht hv hd (k H locs ls hP hS hl)
theorem jgs_X4_109 (pc : Nat) (C : CX X G RX4 cc nL fr lo) (hd : decode cc pc = .ok (.getstatic 109, 3)) (k : J X G nL g (pc + 3) L (.ref (gs G 0) :: st)) : J X G nL g pc L st := by
  obtain ⟨p, e, R, s, m, args, below, meth, c, Q, cells, slots⟩ := X
  obtain ⟨hx, hb, hml, hown, hts, hE, hc1, hc2, hfr, hlo⟩ := C
  intro H locs ls hP hS hl
  exact va_gets hx hb hE.2.2.1.1 hS hown (hts _ fl_X4_109) (fun _ h => h) hd (k H locs ls hP hS hl)
theorem jgs_X4_112 (pc : Nat) (C : CX X G RX4 cc nL fr lo) (hd : decode cc pc = .ok (.getstatic 112, 3)) (k : J X G nL g (pc + 3) L (.ref (gs G 1) :: st)) : J X G nL g pc L st := by
  obtain ⟨p, e, R, s, m, args, below, meth, c, Q, cells, slots⟩ := X
  obtain ⟨hx, hb, hml, hown, hts, hE, hc1, hc2, hfr, hlo⟩ := C
  intro H locs ls hP hS hl
  exact va_gets hx hb hE.2.2.2.1.1 hS hown (hts _ fl_X4_112) (fun _ h => h) hd (k H locs ls hP hS hl)
theorem jgs_X1_9 (pc : Nat) (C : CX X G RX1 cc nL fr lo) (hd : decode cc pc = .ok (.getstatic 9, 3)) (k : J X G nL g (pc + 3) L (.ref (gs G 2) :: st)) : J X G nL g pc L st := by
  obtain ⟨p, e, R, s, m, args, below, meth, c, Q, cells, slots⟩ := X
  obtain ⟨hx, hb, hml, hown, hts, hE, hc1, hc2, hfr, hlo⟩ := C
  intro H locs ls hP hS hl
  exact va_gets hx hb hE.2.2.2.2.1.1 hS hown (hts _ fl_X1_9) (fun _ h => h) hd (k H locs ls hP hS hl)
theorem jgs_X3_73 (pc : Nat) (C : CX X G RX3 cc nL fr lo) (hd : decode cc pc = .ok (.getstatic 73, 3)) (k : J X G nL g (pc + 3) L (.ref (gs G 1) :: st)) : J X G nL g pc L st := by
  obtain ⟨p, e, R, s, m, args, below, meth, c, Q, cells, slots⟩ := X
  obtain ⟨hx, hb, hml, hown, hts, hE, hc1, hc2, hfr, hlo⟩ := C
  intro H locs ls hP hS hl
  exact va_getsN hx hb hE.2.2.2.1.1 hS hown (va_Nw.use rfl hE.2.2.2.2.2.2.2.2.2.1) (fun _ h => h) hd (k H locs ls hP hS hl)
theorem jgs_X3_85 (pc : Nat) (C : CX X G RX3 cc nL fr lo) (hd : decode cc pc = .ok (.getstatic 85, 3)) (k : J X G nL g (pc + 3) L (.ref (gs G 0) :: st)) : J X G nL g pc L st := by
  obtain ⟨p, e, R, s, m, args, below, meth, c, Q, cells, slots⟩ := X
  obtain ⟨hx, hb, hml, hown, hts, hE, hc1, hc2, hfr, hlo⟩ := C
  intro H locs ls hP hS hl
  exact va_getsN hx hb hE.2.2.1.1 hS hown (va_Nw.use rfl hE.2.2.2.2.2.2.2.2.2.2.1) (fun _ h => h) hd (k H locs ls hP hS hl)
theorem jl_st0 (pc : Nat) {i : Nat} (hi : i < 4) (C : CX X G own cc nL fr lo) (hd : decode cc pc = .ok (.iaload, 1)) (k : J X G nL g (pc + 1) L (.int (kLeast.getD i 0) :: st)) : J X G nL g pc L (.int (nI i) :: .ref (gs G 0) :: st) := by
  obtain ⟨p, e, R, s, m, args, below, meth, c, Q, cells, slots⟩ := X
  obtain ⟨hx, hb, hml, hown, hts, hE, hc1, hc2, hfr, hlo⟩ := C
  intro H locs ls hP hS hl
  exact va_ti hx hb hE.2.2.1.2 hS (nI_in hi (by decide)) (by rw [nI_clamp (Nat.lt_trans hi (by decide))]) hd (k H locs ls hP hS hl)
theorem jl_st1 (pc : Nat) {i : Nat} (hi : i < 4) (C : CX X G own cc nL fr lo) (hd : decode cc pc = .ok (.iaload, 1)) (k : J X G nL g (pc + 1) L (.int (kMost.getD i 0) :: st)) : J X G nL g pc L (.int (nI i) :: .ref (gs G 1) :: st) := by
  obtain ⟨p, e, R, s, m, args, below, meth, c, Q, cells, slots⟩ := X
  obtain ⟨hx, hb, hml, hown, hts, hE, hc1, hc2, hfr, hlo⟩ := C
  intro H locs ls hP hS hl
  exact va_ti hx hb hE.2.2.2.1.2 hS (nI_in hi (by decide)) (by rw [nI_clamp (Nat.lt_trans hi (by decide))]) hd (k H locs ls hP hS hl)
theorem jl_st2 (pc : Nat) {i : Nat} (hi : i < 7) (C : CX X G own cc nL fr lo) (hd : decode cc pc = .ok (.iaload, 1)) (k : J X G nL g (pc + 1) L (.int (kUpper.getD i 0) :: st)) : J X G nL g pc L (.int (nI i) :: .ref (gs G 2) :: st) := by
  obtain ⟨p, e, R, s, m, args, below, meth, c, Q, cells, slots⟩ := X
  obtain ⟨hx, hb, hml, hown, hts, hE, hc1, hc2, hfr, hlo⟩ := C
  intro H locs ls hP hS hl
  exact va_ti hx hb hE.2.2.2.2.1.2 hS (nI_in hi (by decide)) (by rw [nI_clamp (Nat.lt_trans hi (by decide))]) hd (k H locs ls hP hS hl)
theorem j_acpy (pc q0 q1 : Nat) {a0 a1 n0 n1 sp dp n : Nat} {f f1 : Nat → Int32} {g' : Mem} {idx : Nat} (C : CX X G own cc nL fr lo) (hd : decode cc pc = .ok (.invokestatic idx, 3)) (hlk : Cond.methodLink own idx arraycopyName ∈ TBL) (ha0 : (WW G g)[q0]? = some (a0, eI G n0 f)) (ha1 : (WW G g)[q1]? = some (a1, eI G n1 f1)) (h4 : sp + n ≤ n0) (h5 : dp + n ≤ n1) (hn0 : n0 < 2 ^ 31) (hn1 : n1 < 2 ^ 31) (hro : 1 ≤ fr ∧ (st.map fun v => v.category).sum + (nativeFrameWords "java/lang/System" "arraycopy" 5 + 11) ≤ lo) (hw : ∀ H, va_P (gD G) vwCl ((WW G g).set q1 (a1, eI G n1 (va_cpy f f1 sp dp n))) H → va_P (gD G) vwCl (WW G g') H) (k : J X G nL g' (pc + 3) L st) : J X G nL g pc L (.int (nI n) :: .int (nI dp) :: .ref a1 :: .int (nI sp) :: .ref a0 :: st) := by
  obtain ⟨p, e, R, s, m, args, below, meth, c, Q, cells, slots⟩ := X
  obtain ⟨hx, hb, hml, hown, hts, hE, hc1, hc2, hfr, hlo⟩ := C
  intro H locs ls hP hS hl
  have e1 := nI_clamp (n := sp) (by omega)
  have e2 := nI_clamp (n := dp) (by omega)
  have e3 := nI_clamp (n := n) (by omega)
  refine va_copyi hx hb (hml.trans hl.1.symm) hown (hts _ hlk) (hts _ tw_ac.1) (hts _ tw_ac.2.1) (hts _ tw_ac.2.2) hE.1 hP (WW_D hE.2.1) hS q0 q1 1 1 (ty := .int) ha0 ha1 rfl rfl rfl (nI_pos (by omega)) (nI_pos (by omega)) (nI_pos (by omega)) (by rw [e1, e3]; exact h4) (by rw [e2, e3]; exact h5) (fun _ _ => rfl) (Nat.le_trans hro.1 hfr) (Nat.le_trans hro.2 hlo) hd (fun H1 locs1 hP1 _ hS1 => ?_)
  rw [e1, e2, e3] at hP1
  exact k H1 locs1 ls (hw H1 hP1) hS1 hl
end FIELDS
