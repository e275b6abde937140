section ROWS2
variable {X : XT} {G : GT} {own : String} {cc : ByteArray} {nL fr lo : Nat} {g : Mem} {L : List (Option Value)} {st : List Value}
theorem j_il10 (pc : Nat) {a0 a1 a2 a3 a4 a5 a6 a7 a8 a9 : Option Value} {x : Int32} (C : CX X G own cc nL fr lo) (hd : decode cc pc = .ok (.iload 10, 2)) (k : J X G nL g (pc + 2) (a0 :: a1 :: a2 :: a3 :: a4 :: a5 :: a6 :: a7 :: a8 :: a9 :: some (.int x) :: L) (.int x :: st)) : J X G nL g pc (a0 :: a1 :: a2 :: a3 :: a4 :: a5 :: a6 :: a7 :: a8 :: a9 :: some (.int x) :: L) st := by
  obtain ⟨p, e, R, s, m, args, below, meth, c, Q, cells, slots⟩ := X
  obtain ⟨hx, hb, hml, hown, hts, hE, hc1, hc2, hfr, hlo⟩ := C
  intro H locs ls hP hS hl
  exact lv_iload hx hb hd (lis_at hl 10 rfl) (k H locs ls hP hS hl)
theorem j_al10 (pc : Nat) {a0 a1 a2 a3 a4 a5 a6 a7 a8 a9 : Option Value} {x : Nat} (C : CX X G own cc nL fr lo) (hd : decode cc pc = .ok (.aload 10, 2)) (k : J X G nL g (pc + 2) (a0 :: a1 :: a2 :: a3 :: a4 :: a5 :: a6 :: a7 :: a8 :: a9 :: some (.ref x) :: L) (.ref x :: st)) : J X G nL g pc (a0 :: a1 :: a2 :: a3 :: a4 :: a5 :: a6 :: a7 :: a8 :: a9 :: some (.ref x) :: L) st := by
  obtain ⟨p, e, R, s, m, args, below, meth, c, Q, cells, slots⟩ := X
  obtain ⟨hx, hb, hml, hown, hts, hE, hc1, hc2, hfr, hlo⟩ := C
  intro H locs ls hP hS hl
  exact lv_aload hx hb hd (lis_at hl 10 rfl) (k H locs ls hP hS hl)
theorem j_ll10 (pc : Nat) {a0 a1 a2 a3 a4 a5 a6 a7 a8 a9 : Option Value} {x : Int64} (C : CX X G own cc nL fr lo) (hd : decode cc pc = .ok (.lload 10, 2)) (k : J X G nL g (pc + 2) (a0 :: a1 :: a2 :: a3 :: a4 :: a5 :: a6 :: a7 :: a8 :: a9 :: some (.long x) :: L) (.long x :: st)) : J X G nL g pc (a0 :: a1 :: a2 :: a3 :: a4 :: a5 :: a6 :: a7 :: a8 :: a9 :: some (.long x) :: L) st := by
  obtain ⟨p, e, R, s, m, args, below, meth, c, Q, cells, slots⟩ := X
  obtain ⟨hx, hb, hml, hown, hts, hE, hc1, hc2, hfr, hlo⟩ := C
  intro H locs ls hP hS hl
  exact lv_lload hx hb hd (lis_at hl 10 rfl) (k H locs ls hP hS hl)
theorem j_is10 (pc : Nat) {a0 a1 a2 a3 a4 a5 a6 a7 a8 a9 : Option Value} {o : Option Value} {x : Int32} (C : CX X G own cc nL fr lo) (hd : decode cc pc = .ok (.istore 10, 2)) (hn : nlg a9 = true) (hk : 10 < nL) (k : J X G nL g (pc + 2) (a0 :: a1 :: a2 :: a3 :: a4 :: a5 :: a6 :: a7 :: a8 :: a9 :: some (.int x) :: L) st) : J X G nL g pc (a0 :: a1 :: a2 :: a3 :: a4 :: a5 :: a6 :: a7 :: a8 :: a9 :: o :: L) (.int x :: st) := by
  obtain ⟨p, e, R, s, m, args, below, meth, c, Q, cells, slots⟩ := X
  obtain ⟨hx, hb, hml, hown, hts, hE, hc1, hc2, hfr, hlo⟩ := C
  intro H locs ls hP hS hl
  refine lv_istore hx hb hd hl hk rfl (fun ls' hl' => k H locs ls' hP hS (hl'.mono ?_))
  exact lis_set (L := (a0 :: a1 :: a2 :: a3 :: a4 :: a5 :: a6 :: a7 :: a8 :: a9 :: o :: L)) (k := 10) (v := .int x) (fun j w hj hw => by
    obtain rfl : j = 9 := by omega
    obtain rfl : a9 = some w := Option.some.inj hw
    intro hc; simp [nlg, hc] at hn)
theorem j_as10 (pc : Nat) {a0 a1 a2 a3 a4 a5 a6 a7 a8 a9 : Option Value} {o : Option Value} {x : Nat} (C : CX X G own cc nL fr lo) (hd : decode cc pc = .ok (.astore 10, 2)) (hn : nlg a9 = true) (hk : 10 < nL) (k : J X G nL g (pc + 2) (a0 :: a1 :: a2 :: a3 :: a4 :: a5 :: a6 :: a7 :: a8 :: a9 :: some (.ref x) :: L) st) : J X G nL g pc (a0 :: a1 :: a2 :: a3 :: a4 :: a5 :: a6 :: a7 :: a8 :: a9 :: o :: L) (.ref x :: st) := by
  obtain ⟨p, e, R, s, m, args, below, meth, c, Q, cells, slots⟩ := X
  obtain ⟨hx, hb, hml, hown, hts, hE, hc1, hc2, hfr, hlo⟩ := C
  intro H locs ls hP hS hl
  refine lv_astore hx hb hd hl hk rfl (fun ls' hl' => k H locs ls' hP hS (hl'.mono ?_))
  exact lis_set (L := (a0 :: a1 :: a2 :: a3 :: a4 :: a5 :: a6 :: a7 :: a8 :: a9 :: o :: L)) (k := 10) (v := .ref x) (fun j w hj hw => by
    obtain rfl : j = 9 := by omega
    obtain rfl : a9 = some w := Option.some.inj hw
    intro hc; simp [nlg, hc] at hn)
theorem j_inc10 (pc : Nat) {a0 a1 a2 a3 a4 a5 a6 a7 a8 a9 : Option Value} {n : Int} {x v : Int32} (C : CX X G own cc nL fr lo) (hd : decode cc pc = .ok (.iinc 10 n, 3)) (hn : nlg a9 = true) (hv : x + Int32.ofInt n = v) (hk : 10 < nL) (k : J X G nL g (pc + 3) (a0 :: a1 :: a2 :: a3 :: a4 :: a5 :: a6 :: a7 :: a8 :: a9 :: some (.int v) :: L) st) : J X G nL g pc (a0 :: a1 :: a2 :: a3 :: a4 :: a5 :: a6 :: a7 :: a8 :: a9 :: some (.int x) :: L) st := by
  obtain ⟨p, e, R, s, m, args, below, meth, c, Q, cells, slots⟩ := X
  obtain ⟨hx, hb, hml, hown, hts, hE, hc1, hc2, hfr, hlo⟩ := C
  intro H locs ls hP hS hl
  obtain ⟨i9, hi9⟩ := List.getElem?_of_mem ((lis_mem (a0 :: a1 :: a2 :: a3 :: a4 :: a5 :: a6 :: a7 :: a8 :: a9 :: some (.int x) :: L) 0 (10, .int x)).mpr ⟨Nat.zero_le _, rfl⟩)
  refine lv_iinc hx hb hd hl hi9 hv hk rfl (fun ls' hl' => k H locs ls' hP hS (hl'.mono ?_))
  exact lis_set (L := (a0 :: a1 :: a2 :: a3 :: a4 :: a5 :: a6 :: a7 :: a8 :: a9 :: some (.int x) :: L)) (k := 10) (v := .int v) (fun j w hj hw => by
    obtain rfl : j = 9 := by omega
    obtain rfl : a9 = some w := Option.some.inj hw
    intro hc; simp [nlg, hc] at hn)
theorem j_il11 (pc : Nat) {a0 a1 a2 a3 a4 a5 a6 a7 a8 a9 a10 : Option Value} {x : Int32} (C : CX X G own cc nL fr lo) (hd : decode cc pc = .ok (.iload 11, 2)) (k : J X G nL g (pc + 2) (a0 :: a1 :: a2 :: a3 :: a4 :: a5 :: a6 :: a7 :: a8 :: a9 :: a10 :: some (.int x) :: L) (.int x :: st)) : J X G nL g pc (a0 :: a1 :: a2 :: a3 :: a4 :: a5 :: a6 :: a7 :: a8 :: a9 :: a10 :: some (.int x) :: L) st := by
  obtain ⟨p, e, R, s, m, args, below, meth, c, Q, cells, slots⟩ := X
  obtain ⟨hx, hb, hml, hown, hts, hE, hc1, hc2, hfr, hlo⟩ := C
  intro H locs ls hP hS hl
  exact lv_iload hx hb hd (lis_at hl 11 rfl) (k H locs ls hP hS hl)
theorem j_al11 (pc : Nat) {a0 a1 a2 a3 a4 a5 a6 a7 a8 a9 a10 : Option Value} {x : Nat} (C : CX X G own cc nL fr lo) (hd : decode cc pc = .ok (.aload 11, 2)) (k : J X G nL g (pc + 2) (a0 :: a1 :: a2 :: a3 :: a4 :: a5 :: a6 :: a7 :: a8 :: a9 :: a10 :: some (.ref x) :: L) (.ref x :: st)) : J X G nL g pc (a0 :: a1 :: a2 :: a3 :: a4 :: a5 :: a6 :: a7 :: a8 :: a9 :: a10 :: some (.ref x) :: L) st := by
  obtain ⟨p, e, R, s, m, args, below, meth, c, Q, cells, slots⟩ := X
  obtain ⟨hx, hb, hml, hown, hts, hE, hc1, hc2, hfr, hlo⟩ := C
  intro H locs ls hP hS hl
  exact lv_aload hx hb hd (lis_at hl 11 rfl) (k H locs ls hP hS hl)
theorem j_ll11 (pc : Nat) {a0 a1 a2 a3 a4 a5 a6 a7 a8 a9 a10 : Option Value} {x : Int64} (C : CX X G own cc nL fr lo) (hd : decode cc pc = .ok (.lload 11, 2)) (k : J X G nL g (pc + 2) (a0 :: a1 :: a2 :: a3 :: a4 :: a5 :: a6 :: a7 :: a8 :: a9 :: a10 :: some (.long x) :: L) (.long x :: st)) : J X G nL g pc (a0 :: a1 :: a2 :: a3 :: a4 :: a5 :: a6 :: a7 :: a8 :: a9 :: a10 :: some (.long x) :: L) st := by
  obtain ⟨p, e, R, s, m, args, below, meth, c, Q, cells, slots⟩ := X
  obtain ⟨hx, hb, hml, hown, hts, hE, hc1, hc2, hfr, hlo⟩ := C
  intro H locs ls hP hS hl
  exact lv_lload hx hb hd (lis_at hl 11 rfl) (k H locs ls hP hS hl)
theorem j_is11 (pc : Nat) {a0 a1 a2 a3 a4 a5 a6 a7 a8 a9 a10 : Option Value} {o : Option Value} {x : Int32} (C : CX X G own cc nL fr lo) (hd : decode cc pc = .ok (.istore 11, 2)) (hn : nlg a10 = true) (hk : 11 < nL) (k : J X G nL g (pc + 2) (a0 :: a1 :: a2 :: a3 :: a4 :: a5 :: a6 :: a7 :: a8 :: a9 :: a10 :: some (.int x) :: L) st) : J X G nL g pc (a0 :: a1 :: a2 :: a3 :: a4 :: a5 :: a6 :: a7 :: a8 :: a9 :: a10 :: o :: L) (.int x :: st) := by
  obtain ⟨p, e, R, s, m, args, below, meth, c, Q, cells, slots⟩ := X
  obtain ⟨hx, hb, hml, hown, hts, hE, hc1, hc2, hfr, hlo⟩ := C
  intro H locs ls hP hS hl
  refine lv_istore hx hb hd hl hk rfl (fun ls' hl' => k H locs ls' hP hS (hl'.mono ?_))
  exact lis_set (L := (a0 :: a1 :: a2 :: a3 :: a4 :: a5 :: a6 :: a7 :: a8 :: a9 :: a10 :: o :: L)) (k := 11) (v := .int x) (fun j w hj hw => by
    obtain rfl : j = 10 := by omega
    obtain rfl : a10 = some w := Option.some.inj hw
    intro hc; simp [nlg, hc] at hn)
theorem j_as11 (pc : Nat) {a0 a1 a2 a3 a4 a5 a6 a7 a8 a9 a10 : Option Value} {o : Option Value} {x : Nat} (C : CX X G own cc nL fr lo) (hd : decode cc pc = .ok (.astore 11, 2)) (hn : nlg a10 = true) (hk : 11 < nL) (k : J X G nL g (pc + 2) (a0 :: a1 :: a2 :: a3 :: a4 :: a5 :: a6 :: a7 :: a8 :: a9 :: a10 :: some (.ref x) :: L) st) : J X G nL g pc (a0 :: a1 :: a2 :: a3 :: a4 :: a5 :: a6 :: a7 :: a8 :: a9 :: a10 :: o :: L) (.ref x :: st) := by
  obtain ⟨p, e, R, s, m, args, below, meth, c, Q, cells, slots⟩ := X
  obtain ⟨hx, hb, hml, hown, hts, hE, hc1, hc2, hfr, hlo⟩ := C
  intro H locs ls hP hS hl
  refine lv_astore hx hb hd hl hk rfl (fun ls' hl' => k H locs ls' hP hS (hl'.mono ?_))
  exact lis_set (L := (a0 :: a1 :: a2 :: a3 :: a4 :: a5 :: a6 :: a7 :: a8 :: a9 :: a10 :: o :: L)) (k := 11) (v := .ref x) (fun j w hj hw => by
    obtain rfl : j = 10 := by omega
    obtain rfl : a10 = some w := Option.some.inj hw
    intro hc; simp [nlg, hc] at hn)
theorem j_inc11 (pc : Nat) {a0 a1 a2 a3 a4 a5 a6 a7 a8 a9 a10 : Option Value} {n : Int} {x v : Int32} (C : CX X G own cc nL fr lo) (hd : decode cc pc = .ok (.iinc 11 n, 3)) (hn : nlg a10 = true) (hv : x + Int32.ofInt n = v) (hk : 11 < nL) (k : J X G nL g (pc + 3) (a0 :: a1 :: a2 :: a3 :: a4 :: a5 :: a6 :: a7 :: a8 :: a9 :: a10 :: some (.int v) :: L) st) : J X G nL g pc (a0 :: a1 :: a2 :: a3 :: a4 :: a5 :: a6 :: a7 :: a8 :: a9 :: a10 :: some (.int x) :: L) st := by
  obtain ⟨p, e, R, s, m, args, below, meth, c, Q, cells, slots⟩ := X
  obtain ⟨hx, hb, hml, hown, hts, hE, hc1, hc2, hfr, hlo⟩ := C
  intro H locs ls hP hS hl
  obtain ⟨i9, hi9⟩ := List.getElem?_of_mem ((lis_mem (a0 :: a1 :: a2 :: a3 :: a4 :: a5 :: a6 :: a7 :: a8 :: a9 :: a10 :: some (.int x) :: L) 0 (11, .int x)).mpr ⟨Nat.zero_le _, rfl⟩)
  refine lv_iinc hx hb hd hl hi9 hv hk rfl (fun ls' hl' => k H locs ls' hP hS (hl'.mono ?_))
  exact lis_set (L := (a0 :: a1 :: a2 :: a3 :: a4 :: a5 :: a6 :: a7 :: a8 :: a9 :: a10 :: some (.int x) :: L)) (k := 11) (v := .int v) (fun j w hj hw => by
    obtain rfl : j = 10 := by omega
    obtain rfl : a10 = some w := Option.some.inj hw
    intro hc; simp [nlg, hc] at hn)
theorem j_il12 (pc : Nat) {a0 a1 a2 a3 a4 a5 a6 a7 a8 a9 a10 a11 : Option Value} {x : Int32} (C : CX X G own cc nL fr lo) (hd : decode cc pc = .ok (.iload 12, 2)) (k : J X G nL g (pc + 2) (a0 :: a1 :: a2 :: a3 :: a4 :: a5 :: a6 :: a7 :: a8 :: a9 :: a10 :: a11 :: some (.int x) :: L) (.int x :: st)) : J X G nL g pc (a0 :: a1 :: a2 :: a3 :: a4 :: a5 :: a6 :: a7 :: a8 :: a9 :: a10 :: a11 :: some (.int x) :: L) st := by
  obtain ⟨p, e, R, s, m, args, below, meth, c, Q, cells, slots⟩ := X
  obtain ⟨hx, hb, hml, hown, hts, hE, hc1, hc2, hfr, hlo⟩ := C
  intro H locs ls hP hS hl
  exact lv_iload hx hb hd (lis_at hl 12 rfl) (k H locs ls hP hS hl)
theorem j_al12 (pc : Nat) {a0 a1 a2 a3 a4 a5 a6 a7 a8 a9 a10 a11 : Option Value} {x : Nat} (C : CX X G own cc nL fr lo) (hd : decode cc pc = .ok (.aload 12, 2)) (k : J X G nL g (pc + 2) (a0 :: a1 :: a2 :: a3 :: a4 :: a5 :: a6 :: a7 :: a8 :: a9 :: a10 :: a11 :: some (.ref x) :: L) (.ref x :: st)) : J X G nL g pc (a0 :: a1 :: a2 :: a3 :: a4 :: a5 :: a6 :: a7 :: a8 :: a9 :: a10 :: a11 :: some (.ref x) :: L) st := by
  obtain ⟨p, e, R, s, m, args, below, meth, c, Q, cells, slots⟩ := X
  obtain ⟨hx, hb, hml, hown, hts, hE, hc1, hc2, hfr, hlo⟩ := C
  intro H locs ls hP hS hl
  exact lv_aload hx hb hd (lis_at hl 12 rfl) (k H locs ls hP hS hl)
theorem j_ll12 (pc : Nat) {a0 a1 a2 a3 a4 a5 a6 a7 a8 a9 a10 a11 : Option Value} {x : Int64} (C : CX X G own cc nL fr lo) (hd : decode cc pc = .ok (.lload 12, 2)) (k : J X G nL g (pc + 2) (a0 :: a1 :: a2 :: a3 :: a4 :: a5 :: a6 :: a7 :: a8 :: a9 :: a10 :: a11 :: some (.long x) :: L) (.long x :: st)) : J X G nL g pc (a0 :: a1 :: a2 :: a3 :: a4 :: a5 :: a6 :: a7 :: a8 :: a9 :: a10 :: a11 :: some (.long x) :: L) st := by
  obtain ⟨p, e, R, s, m, args, below, meth, c, Q, cells, slots⟩ := X
  obtain ⟨hx, hb, hml, hown, hts, hE, hc1, hc2, hfr, hlo⟩ := C
  intro H locs ls hP hS hl
  exact lv_lload hx hb hd (lis_at hl 12 rfl) (k H locs ls hP hS hl)
theorem j_is12 (pc : Nat) {a0 a1 a2 a3 a4 a5 a6 a7 a8 a9 a10 a11 : Option Value} {o : Option Value} {x : Int32} (C : CX X G own cc nL fr lo) (hd : decode cc pc = .ok (.istore 12, 2)) (hn : nlg a11 = true) (hk : 12 < nL) (k : J X G nL g (pc + 2) (a0 :: a1 :: a2 :: a3 :: a4 :: a5 :: a6 :: a7 :: a8 :: a9 :: a10 :: a11 :: some (.int x) :: L) st) : J X G nL g pc (a0 :: a1 :: a2 :: a3 :: a4 :: a5 :: a6 :: a7 :: a8 :: a9 :: a10 :: a11 :: o :: L) (.int x :: st) := by
  obtain ⟨p, e, R, s, m, args, below, meth, c, Q, cells, slots⟩ := X
  obtain ⟨hx, hb, hml, hown, hts, hE, hc1, hc2, hfr, hlo⟩ := C
  intro H locs ls hP hS hl
  refine lv_istore hx hb hd hl hk rfl (fun ls' hl' => k H locs ls' hP hS (hl'.mono ?_))
  exact lis_set (L := (a0 :: a1 :: a2 :: a3 :: a4 :: a5 :: a6 :: a7 :: a8 :: a9 :: a10 :: a11 :: o :: L)) (k := 12) (v := .int x) (fun j w hj hw => by
    obtain rfl : j = 11 := by omega
    obtain rfl : a11 = some w := Option.some.inj hw
    intro hc; simp [nlg, hc] at hn)
theorem j_as12 (pc : Nat) {a0 a1 a2 a3 a4 a5 a6 a7 a8 a9 a10 a11 : Option Value} {o : Option Value} {x : Nat} (C : CX X G own cc nL fr lo) (hd : decode cc pc = .ok (.astore 12, 2)) (hn : nlg a11 = true) (hk : 12 < nL) (k : J X G nL g (pc + 2) (a0 :: a1 :: a2 :: a3 :: a4 :: a5 :: a6 :: a7 :: a8 :: a9 :: a10 :: a11 :: some (.ref x) :: L) st) : J X G nL g pc (a0 :: a1 :: a2 :: a3 :: a4 :: a5 :: a6 :: a7 :: a8 :: a9 :: a10 :: a11 :: o :: L) (.ref x :: st) := by
  obtain ⟨p, e, R, s, m, args, below, meth, c, Q, cells, slots⟩ := X
  obtain ⟨hx, hb, hml, hown, hts, hE, hc1, hc2, hfr, hlo⟩ := C
  intro H locs ls hP hS hl
  refine lv_astore hx hb hd hl hk rfl (fun ls' hl' => k H locs ls' hP hS (hl'.mono ?_))
  exact lis_set (L := (a0 :: a1 :: a2 :: a3 :: a4 :: a5 :: a6 :: a7 :: a8 :: a9 :: a10 :: a11 :: o :: L)) (k := 12) (v := .ref x) (fun j w hj hw => by
    obtain rfl : j = 11 := by omega
    obtain rfl : a11 = some w := Option.some.inj hw
    intro hc; simp [nlg, hc] at hn)
theorem j_inc12 (pc : Nat) {a0 a1 a2 a3 a4 a5 a6 a7 a8 a9 a10 a11 : Option Value} {n : Int} {x v : Int32} (C : CX X G own cc nL fr lo) (hd : decode cc pc = .ok (.iinc 12 n, 3)) (hn : nlg a11 = true) (hv : x + Int32.ofInt n = v) (hk : 12 < nL) (k : J X G nL g (pc + 3) (a0 :: a1 :: a2 :: a3 :: a4 :: a5 :: a6 :: a7 :: a8 :: a9 :: a10 :: a11 :: some (.int v) :: L) st) : J X G nL g pc (a0 :: a1 :: a2 :: a3 :: a4 :: a5 :: a6 :: a7 :: a8 :: a9 :: a10 :: a11 :: some (.int x) :: L) st := by
  obtain ⟨p, e, R, s, m, args, below, meth, c, Q, cells, slots⟩ := X
  obtain ⟨hx, hb, hml, hown, hts, hE, hc1, hc2, hfr, hlo⟩ := C
  intro H locs ls hP hS hl
  obtain ⟨i9, hi9⟩ := List.getElem?_of_mem ((lis_mem (a0 :: a1 :: a2 :: a3 :: a4 :: a5 :: a6 :: a7 :: a8 :: a9 :: a10 :: a11 :: some (.int x) :: L) 0 (12, .int x)).mpr ⟨Nat.zero_le _, rfl⟩)
  refine lv_iinc hx hb hd hl hi9 hv hk rfl (fun ls' hl' => k H locs ls' hP hS (hl'.mono ?_))
  exact lis_set (L := (a0 :: a1 :: a2 :: a3 :: a4 :: a5 :: a6 :: a7 :: a8 :: a9 :: a10 :: a11 :: some (.int x) :: L)) (k := 12) (v := .int v) (fun j w hj hw => by
    obtain rfl : j = 11 := by omega
    obtain rfl : a11 = some w := Option.some.inj hw
    intro hc; simp [nlg, hc] at hn)
theorem j_il13 (pc : Nat) {a0 a1 a2 a3 a4 a5 a6 a7 a8 a9 a10 a11 a12 : Option Value} {x : Int32} (C : CX X G own cc nL fr lo) (hd : decode cc pc = .ok (.iload 13, 2)) (k : J X G nL g (pc + 2) (a0 :: a1 :: a2 :: a3 :: a4 :: a5 :: a6 :: a7 :: a8 :: a9 :: a10 :: a11 :: a12 :: some (.int x) :: L) (.int x :: st)) : J X G nL g pc (a0 :: a1 :: a2 :: a3 :: a4 :: a5 :: a6 :: a7 :: a8 :: a9 :: a10 :: a11 :: a12 :: some (.int x) :: L) st := by
  obtain ⟨p, e, R, s, m, args, below, meth, c, Q, cells, slots⟩ := X
  obtain ⟨hx, hb, hml, hown, hts, hE, hc1, hc2, hfr, hlo⟩ := C
  intro H locs ls hP hS hl
  exact lv_iload hx hb hd (lis_at hl 13 rfl) (k H locs ls hP hS hl)
theorem j_al13 (pc : Nat) {a0 a1 a2 a3 a4 a5 a6 a7 a8 a9 a10 a11 a12 : Option Value} {x : Nat} (C : CX X G own cc nL fr lo) (hd : decode cc pc = .ok (.aload 13, 2)) (k : J X G nL g (pc + 2) (a0 :: a1 :: a2 :: a3 :: a4 :: a5 :: a6 :: a7 :: a8 :: a9 :: a10 :: a11 :: a12 :: some (.ref x) :: L) (.ref x :: st)) : J X G nL g pc (a0 :: a1 :: a2 :: a3 :: a4 :: a5 :: a6 :: a7 :: a8 :: a9 :: a10 :: a11 :: a12 :: some (.ref x) :: L) st := by
  obtain ⟨p, e, R, s, m, args, below, meth, c, Q, cells, slots⟩ := X
  obtain ⟨hx, hb, hml, hown, hts, hE, hc1, hc2, hfr, hlo⟩ := C
  intro H locs ls hP hS hl
  exact lv_aload hx hb hd (lis_at hl 13 rfl) (k H locs ls hP hS hl)
theorem j_ll13 (pc : Nat) {a0 a1 a2 a3 a4 a5 a6 a7 a8 a9 a10 a11 a12 : Option Value} {x : Int64} (C : CX X G own cc nL fr lo) (hd : decode cc pc = .ok (.lload 13, 2)) (k : J X G nL g (pc + 2) (a0 :: a1 :: a2 :: a3 :: a4 :: a5 :: a6 :: a7 :: a8 :: a9 :: a10 :: a11 :: a12 :: some (.long x) :: L) (.long x :: st)) : J X G nL g pc (a0 :: a1 :: a2 :: a3 :: a4 :: a5 :: a6 :: a7 :: a8 :: a9 :: a10 :: a11 :: a12 :: some (.long x) :: L) st := by
  obtain ⟨p, e, R, s, m, args, below, meth, c, Q, cells, slots⟩ := X
  obtain ⟨hx, hb, hml, hown, hts, hE, hc1, hc2, hfr, hlo⟩ := C
  intro H locs ls hP hS hl
  exact lv_lload hx hb hd (lis_at hl 13 rfl) (k H locs ls hP hS hl)
theorem j_is13 (pc : Nat) {a0 a1 a2 a3 a4 a5 a6 a7 a8 a9 a10 a11 a12 : Option Value} {o : Option Value} {x : Int32} (C : CX X G own cc nL fr lo) (hd : decode cc pc = .ok (.istore 13, 2)) (hn : nlg a12 = true) (hk : 13 < nL) (k : J X G nL g (pc + 2) (a0 :: a1 :: a2 :: a3 :: a4 :: a5 :: a6 :: a7 :: a8 :: a9 :: a10 :: a11 :: a12 :: some (.int x) :: L) st) : J X G nL g pc (a0 :: a1 :: a2 :: a3 :: a4 :: a5 :: a6 :: a7 :: a8 :: a9 :: a10 :: a11 :: a12 :: o :: L) (.int x :: st) := by
  obtain ⟨p, e, R, s, m, args, below, meth, c, Q, cells, slots⟩ := X
  obtain ⟨hx, hb, hml, hown, hts, hE, hc1, hc2, hfr, hlo⟩ := C
  intro H locs ls hP hS hl
  refine lv_istore hx hb hd hl hk rfl (fun ls' hl' => k H locs ls' hP hS (hl'.mono ?_))
  exact lis_set (L := (a0 :: a1 :: a2 :: a3 :: a4 :: a5 :: a6 :: a7 :: a8 :: a9 :: a10 :: a11 :: a12 :: o :: L)) (k := 13) (v := .int x) (fun j w hj hw => by
    obtain rfl : j = 12 := by omega
    obtain rfl : a12 = some w := Option.some.inj hw
    intro hc; simp [nlg, hc] at hn)
theorem j_as13 (pc : Nat) {a0 a1 a2 a3 a4 a5 a6 a7 a8 a9 a10 a11 a12 : Option Value} {o : Option Value} {x : Nat} (C : CX X G own cc nL fr lo) (hd : decode cc pc = .ok (.astore 13, 2)) (hn : nlg a12 = true) (hk : 13 < nL) (k : J X G nL g (pc + 2) (a0 :: a1 :: a2 :: a3 :: a4 :: a5 :: a6 :: a7 :: a8 :: a9 :: a10 :: a11 :: a12 :: some (.ref x) :: L) st) : J X G nL g pc (a0 :: a1 :: a2 :: a3 :: a4 :: a5 :: a6 :: a7 :: a8 :: a9 :: a10 :: a11 :: a12 :: o :: L) (.ref x :: st) := by
  obtain ⟨p, e, R, s, m, args, below, meth, c, Q, cells, slots⟩ := X
  obtain ⟨hx, hb, hml, hown, hts, hE, hc1, hc2, hfr, hlo⟩ := C
  intro H locs ls hP hS hl
  refine lv_astore hx hb hd hl hk rfl (fun ls' hl' => k H locs ls' hP hS (hl'.mono ?_))
  exact lis_set (L := (a0 :: a1 :: a2 :: a3 :: a4 :: a5 :: a6 :: a7 :: a8 :: a9 :: a10 :: a11 :: a12 :: o :: L)) (k := 13) (v := .ref x) (fun j w hj hw => by
    obtain rfl : j = 12 := by omega
    obtain rfl : a12 = some w := Option.some.inj hw
    intro hc; simp [nlg, hc] at hn)
theorem j_inc13 (pc : Nat) {a0 a1 a2 a3 a4 a5 a6 a7 a8 a9 a10 a11 a12 : Option Value} {n : Int} {x v : Int32} (C : CX X G own cc nL fr lo) (hd : decode cc pc = .ok (.iinc 13 n, 3)) (hn : nlg a12 = true) (hv : x + Int32.ofInt n = v) (hk : 13 < nL) (k : J X G nL g (pc + 3) (a0 :: a1 :: a2 :: a3 :: a4 :: a5 :: a6 :: a7 :: a8 :: a9 :: a10 :: a11 :: a12 :: some (.int v) :: L) st) : J X G nL g pc (a0 :: a1 :: a2 :: a3 :: a4 :: a5 :: a6 :: a7 :: a8 :: a9 :: a10 :: a11 :: a12 :: some (.int x) :: L) st := by
  obtain ⟨p, e, R, s, m, args, below, meth, c, Q, cells, slots⟩ := X
  obtain ⟨hx, hb, hml, hown, hts, hE, hc1, hc2, hfr, hlo⟩ := C
  intro H locs ls hP hS hl
  obtain ⟨i9, hi9⟩ := List.getElem?_of_mem ((lis_mem (a0 :: a1 :: a2 :: a3 :: a4 :: a5 :: a6 :: a7 :: a8 :: a9 :: a10 :: a11 :: a12 :: some (.int x) :: L) 0 (13, .int x)).mpr ⟨Nat.zero_le _, rfl⟩)
  refine lv_iinc hx hb hd hl hi9 hv hk rfl (fun ls' hl' => k H locs ls' hP hS (hl'.mono ?_))
  exact lis_set (L := (a0 :: a1 :: a2 :: a3 :: a4 :: a5 :: a6 :: a7 :: a8 :: a9 :: a10 :: a11 :: a12 :: some (.int x) :: L)) (k := 13) (v := .int v) (fun j w hj hw => by
    obtain rfl : j = 12 := by omega
    obtain rfl : a12 = some w := Option.some.inj hw
    intro hc; simp [nlg, hc] at hn)
theorem j_ls10 (pc : Nat) {a0 a1 a2 a3 a4 a5 a6 a7 a8 a9 : Option Value} {o o2 : Option Value} {x : Int64} (C : CX X G own cc nL fr lo) (hd : decode cc pc = .ok (.lstore 10, 2)) (hn : nlg a9 = true) (hk : 10 + 1 < nL) (k : J X G nL g (pc + 2) (a0 :: a1 :: a2 :: a3 :: a4 :: a5 :: a6 :: a7 :: a8 :: a9 :: some (.long x) :: none :: L) st) : J X G nL g pc (a0 :: a1 :: a2 :: a3 :: a4 :: a5 :: a6 :: a7 :: a8 :: a9 :: o :: o2 :: L) (.long x :: st) := by
  obtain ⟨p, e, R, s, m, args, below, meth, c, Q, cells, slots⟩ := X
  obtain ⟨hx, hb, hml, hown, hts, hE, hc1, hc2, hfr, hlo⟩ := C
  intro H locs ls hP hS hl
  refine lv_lstore hx hb hd hl hk rfl (fun ls' hl' => k H locs ls' hP hS (hl'.mono ?_))
  intro q hq
  obtain ⟨-, h⟩ := (lis_mem _ 0 q).mp hq
  rw [Nat.sub_zero] at h
  by_cases hk1 : q.1 = 10
  · rw [hk1] at h
    rw [List.mem_cons]; left
    exact Prod.ext hk1 (Option.some.inj (Option.some.inj h)).symm
  · by_cases hk2 : q.1 = 11
    · rw [hk2] at h
      cases Option.some.inj h
    · refine List.mem_cons_of_mem _ (List.mem_filter.mpr ⟨(lis_mem _ 0 q).mpr ⟨Nat.zero_le _, ?_⟩, ?_⟩)
      · rw [Nat.sub_zero]
        have e : (a0 :: a1 :: a2 :: a3 :: a4 :: a5 :: a6 :: a7 :: a8 :: a9 :: o :: o2 :: L)[q.1]? = (((a0 :: a1 :: a2 :: a3 :: a4 :: a5 :: a6 :: a7 :: a8 :: a9 :: some (.long x) :: none :: L).set 10 o).set 11 o2)[q.1]? := rfl
        rw [e, List.getElem?_set_ne (Ne.symm hk2), List.getElem?_set_ne (Ne.symm hk1)]; exact h
      · have h3 : (q.1 == 10) = false := by simpa using hk1
        have h4 : (q.1 == 10 + 1) = false := by simpa using hk2
        show (!(q.1 == 10) && (!(q.1 == 10 + 1) && !(q.1 + 1 == 10 && q.2.category == 2))) = true
        rw [h3, h4]
        by_cases e : q.1 + 1 = 10
        · obtain rfl : a9 = some q.2 := by
            have e9 : q.1 = 9 := by omega
            rw [e9] at h
            exact Option.some.inj h
          have hc : q.2.category ≠ 2 := by intro hc; simp [nlg, hc] at hn
          simp [hc]
        · rw [beq_eq_false_iff_ne.mpr e]
          rfl
theorem j_ls11 (pc : Nat) {a0 a1 a2 a3 a4 a5 a6 a7 a8 a9 a10 : Option Value} {o o2 : Option Value} {x : Int64} (C : CX X G own cc nL fr lo) (hd : decode cc pc = .ok (.lstore 11, 2)) (hn : nlg a10 = true) (hk : 11 + 1 < nL) (k : J X G nL g (pc + 2) (a0 :: a1 :: a2 :: a3 :: a4 :: a5 :: a6 :: a7 :: a8 :: a9 :: a10 :: some (.long x) :: none :: L) st) : J X G nL g pc (a0 :: a1 :: a2 :: a3 :: a4 :: a5 :: a6 :: a7 :: a8 :: a9 :: a10 :: o :: o2 :: L) (.long x :: st) := by
  obtain ⟨p, e, R, s, m, args, below, meth, c, Q, cells, slots⟩ := X
  obtain ⟨hx, hb, hml, hown, hts, hE, hc1, hc2, hfr, hlo⟩ := C
  intro H locs ls hP hS hl
  refine lv_lstore hx hb hd hl hk rfl (fun ls' hl' => k H locs ls' hP hS (hl'.mono ?_))
  intro q hq
  obtain ⟨-, h⟩ := (lis_mem _ 0 q).mp hq
  rw [Nat.sub_zero] at h
  by_cases hk1 : q.1 = 11
  · rw [hk1] at h
    rw [List.mem_cons]; left
    exact Prod.ext hk1 (Option.some.inj (Option.some.inj h)).symm
  · by_cases hk2 : q.1 = 12
    · rw [hk2] at h
      cases Option.some.inj h
    · refine List.mem_cons_of_mem _ (List.mem_filter.mpr ⟨(lis_mem _ 0 q).mpr ⟨Nat.zero_le _, ?_⟩, ?_⟩)
      · rw [Nat.sub_zero]
        have e : (a0 :: a1 :: a2 :: a3 :: a4 :: a5 :: a6 :: a7 :: a8 :: a9 :: a10 :: o :: o2 :: L)[q.1]? = (((a0 :: a1 :: a2 :: a3 :: a4 :: a5 :: a6 :: a7 :: a8 :: a9 :: a10 :: some (.long x) :: none :: L).set 11 o).set 12 o2)[q.1]? := rfl
        rw [e, List.getElem?_set_ne (Ne.symm hk2), List.getElem?_set_ne (Ne.symm hk1)]; exact h
      · have h3 : (q.1 == 11) = false := by simpa using hk1
        have h4 : (q.1 == 11 + 1) = false := by simpa using hk2
        show (!(q.1 == 11) && (!(q.1 == 11 + 1) && !(q.1 + 1 == 11 && q.2.category == 2))) = true
        rw [h3, h4]
        by_cases e : q.1 + 1 = 11
        · obtain rfl : a10 = some q.2 := by
            have e9 : q.1 = 10 := by omega
            rw [e9] at h
            exact Option.some.inj h
          have hc : q.2.category ≠ 2 := by intro hc; simp [nlg, hc] at hn
          simp [hc]
        · rw [beq_eq_false_iff_ne.mpr e]
          rfl
theorem j_ls12 (pc : Nat) {a0 a1 a2 a3 a4 a5 a6 a7 a8 a9 a10 a11 : Option Value} {o o2 : Option Value} {x : Int64} (C : CX X G own cc nL fr lo) (hd : decode cc pc = .ok (.lstore 12, 2)) (hn : nlg a11 = true) (hk : 12 + 1 < nL) (k : J X G nL g (pc + 2) (a0 :: a1 :: a2 :: a3 :: a4 :: a5 :: a6 :: a7 :: a8 :: a9 :: a10 :: a11 :: some (.long x) :: none :: L) st) : J X G nL g pc (a0 :: a1 :: a2 :: a3 :: a4 :: a5 :: a6 :: a7 :: a8 :: a9 :: a10 :: a11 :: o :: o2 :: L) (.long x :: st) := by
  obtain ⟨p, e, R, s, m, args, below, meth, c, Q, cells, slots⟩ := X
  obtain ⟨hx, hb, hml, hown, hts, hE, hc1, hc2, hfr, hlo⟩ := C
  intro H locs ls hP hS hl
  refine lv_lstore hx hb hd hl hk rfl (fun ls' hl' => k H locs ls' hP hS (hl'.mono ?_))
  intro q hq
  obtain ⟨-, h⟩ := (lis_mem _ 0 q).mp hq
  rw [Nat.sub_zero] at h
  by_cases hk1 : q.1 = 12
  · rw [hk1] at h
    rw [List.mem_cons]; left
    exact Prod.ext hk1 (Option.some.inj (Option.some.inj h)).symm
  · by_cases hk2 : q.1 = 13
    · rw [hk2] at h
      cases Option.some.inj h
    · refine List.mem_cons_of_mem _ (List.mem_filter.mpr ⟨(lis_mem _ 0 q).mpr ⟨Nat.zero_le _, ?_⟩, ?_⟩)
      · rw [Nat.sub_zero]
        have e : (a0 :: a1 :: a2 :: a3 :: a4 :: a5 :: a6 :: a7 :: a8 :: a9 :: a10 :: a11 :: o :: o2 :: L)[q.1]? = (((a0 :: a1 :: a2 :: a3 :: a4 :: a5 :: a6 :: a7 :: a8 :: a9 :: a10 :: a11 :: some (.long x) :: none :: L).set 12 o).set 13 o2)[q.1]? := rfl
        rw [e, List.getElem?_set_ne (Ne.symm hk2), List.getElem?_set_ne (Ne.symm hk1)]; exact h
      · have h3 : (q.1 == 12) = false := by simpa using hk1
        have h4 : (q.1 == 12 + 1) = false := by simpa using hk2
        show (!(q.1 == 12) && (!(q.1 == 12 + 1) && !(q.1 + 1 == 12 && q.2.category == 2))) = true
        rw [h3, h4]
        by_cases e : q.1 + 1 = 12
        · obtain rfl : a11 = some q.2 := by
            have e9 : q.1 = 11 := by omega
            rw [e9] at h
            exact Option.some.inj h
          have hc : q.2.category ≠ 2 := by intro hc; simp [nlg, hc] at hn
          simp [hc]
        · rw [beq_eq_false_iff_ne.mpr e]
          rfl
end ROWS2
