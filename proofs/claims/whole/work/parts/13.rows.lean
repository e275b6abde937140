section ROWS
variable {X : XT} {G : GT} {own : String} {cc : ByteArray} {nL fr lo : Nat} {g : Mem} {L : List (Option Value)} {st : List Value}
theorem j_iadd (pc : Nat) {x y : Int32} (C : CX X G own cc nL fr lo) (hd : decode cc pc = .ok (.iadd, 1)) (k : J X G nL g (pc + 1) L (.int (x + y) :: st)) : J X G nL g pc L (.int y :: .int x :: st) := by
  obtain ⟨p, e, R, s, m, args, below, meth, c, Q, cells, slots⟩ := X
  obtain ⟨hx, hb, hml, hown, hts, hE, hc1, hc2, hfr, hlo⟩ := C
  intro H locs ls hP hS hl
  exact lv_iadd hx hb hd (k H locs ls hP hS hl)
theorem j_isub (pc : Nat) {x y : Int32} (C : CX X G own cc nL fr lo) (hd : decode cc pc = .ok (.isub, 1)) (k : J X G nL g (pc + 1) L (.int (x - y) :: st)) : J X G nL g pc L (.int y :: .int x :: st) := by
  obtain ⟨p, e, R, s, m, args, below, meth, c, Q, cells, slots⟩ := X
  obtain ⟨hx, hb, hml, hown, hts, hE, hc1, hc2, hfr, hlo⟩ := C
  intro H locs ls hP hS hl
  exact lv_isub hx hb hd (k H locs ls hP hS hl)
theorem j_imul (pc : Nat) {x y : Int32} (C : CX X G own cc nL fr lo) (hd : decode cc pc = .ok (.imul, 1)) (k : J X G nL g (pc + 1) L (.int (x * y) :: st)) : J X G nL g pc L (.int y :: .int x :: st) := by
  obtain ⟨p, e, R, s, m, args, below, meth, c, Q, cells, slots⟩ := X
  obtain ⟨hx, hb, hml, hown, hts, hE, hc1, hc2, hfr, hlo⟩ := C
  intro H locs ls hP hS hl
  exact lv_imul hx hb hd (k H locs ls hP hS hl)
theorem j_iand (pc : Nat) {x y : Int32} (C : CX X G own cc nL fr lo) (hd : decode cc pc = .ok (.iand, 1)) (k : J X G nL g (pc + 1) L (.int (x &&& y) :: st)) : J X G nL g pc L (.int y :: .int x :: st) := by
  obtain ⟨p, e, R, s, m, args, below, meth, c, Q, cells, slots⟩ := X
  obtain ⟨hx, hb, hml, hown, hts, hE, hc1, hc2, hfr, hlo⟩ := C
  intro H locs ls hP hS hl
  exact lv_iand hx hb hd (k H locs ls hP hS hl)
theorem j_ior (pc : Nat) {x y : Int32} (C : CX X G own cc nL fr lo) (hd : decode cc pc = .ok (.ior, 1)) (k : J X G nL g (pc + 1) L (.int (x ||| y) :: st)) : J X G nL g pc L (.int y :: .int x :: st) := by
  obtain ⟨p, e, R, s, m, args, below, meth, c, Q, cells, slots⟩ := X
  obtain ⟨hx, hb, hml, hown, hts, hE, hc1, hc2, hfr, hlo⟩ := C
  intro H locs ls hP hS hl
  exact lv_ior hx hb hd (k H locs ls hP hS hl)
theorem j_ixor (pc : Nat) {x y : Int32} (C : CX X G own cc nL fr lo) (hd : decode cc pc = .ok (.ixor, 1)) (k : J X G nL g (pc + 1) L (.int (x ^^^ y) :: st)) : J X G nL g pc L (.int y :: .int x :: st) := by
  obtain ⟨p, e, R, s, m, args, below, meth, c, Q, cells, slots⟩ := X
  obtain ⟨hx, hb, hml, hown, hts, hE, hc1, hc2, hfr, hlo⟩ := C
  intro H locs ls hP hS hl
  exact lv_ixor hx hb hd (k H locs ls hP hS hl)
theorem j_ishl (pc : Nat) {x y : Int32} (C : CX X G own cc nL fr lo) (hd : decode cc pc = .ok (.ishl, 1)) (k : J X G nL g (pc + 1) L (.int (x <<< (y &&& 31)) :: st)) : J X G nL g pc L (.int y :: .int x :: st) := by
  obtain ⟨p, e, R, s, m, args, below, meth, c, Q, cells, slots⟩ := X
  obtain ⟨hx, hb, hml, hown, hts, hE, hc1, hc2, hfr, hlo⟩ := C
  intro H locs ls hP hS hl
  exact lv_ishl hx hb hd (k H locs ls hP hS hl)
theorem j_ishr (pc : Nat) {x y : Int32} (C : CX X G own cc nL fr lo) (hd : decode cc pc = .ok (.ishr, 1)) (k : J X G nL g (pc + 1) L (.int (x >>> (y &&& 31)) :: st)) : J X G nL g pc L (.int y :: .int x :: st) := by
  obtain ⟨p, e, R, s, m, args, below, meth, c, Q, cells, slots⟩ := X
  obtain ⟨hx, hb, hml, hown, hts, hE, hc1, hc2, hfr, hlo⟩ := C
  intro H locs ls hP hS hl
  exact lv_ishr hx hb hd (k H locs ls hP hS hl)
theorem j_idiv (pc : Nat) {x y : Int32} (C : CX X G own cc nL fr lo) (hd : decode cc pc = .ok (.idiv, 1)) (hne : ¬ y = 0) (k : J X G nL g (pc + 1) L (.int (x / y) :: st)) : J X G nL g pc L (.int y :: .int x :: st) := by
  obtain ⟨p, e, R, s, m, args, below, meth, c, Q, cells, slots⟩ := X
  obtain ⟨hx, hb, hml, hown, hts, hE, hc1, hc2, hfr, hlo⟩ := C
  intro H locs ls hP hS hl
  exact lv_idiv hx hb hd hne (k H locs ls hP hS hl)
theorem j_irem (pc : Nat) {x y : Int32} (C : CX X G own cc nL fr lo) (hd : decode cc pc = .ok (.irem, 1)) (hne : ¬ y = 0) (k : J X G nL g (pc + 1) L (.int (x - x / y * y) :: st)) : J X G nL g pc L (.int y :: .int x :: st) := by
  obtain ⟨p, e, R, s, m, args, below, meth, c, Q, cells, slots⟩ := X
  obtain ⟨hx, hb, hml, hown, hts, hE, hc1, hc2, hfr, hlo⟩ := C
  intro H locs ls hP hS hl
  exact lv_irem hx hb hd hne (k H locs ls hP hS hl)
theorem j_iushr (pc : Nat) {x y v : Int32} (C : CX X G own cc nL fr lo) (hd : decode cc pc = .ok (.iushr, 1)) (hv : (x.toUInt32 >>> (y.toUInt32 &&& Int32.toUInt32 31)).toInt32 = v) (k : J X G nL g (pc + 1) L (.int v :: st)) : J X G nL g pc L (.int y :: .int x :: st) := by
  obtain ⟨p, e, R, s, m, args, below, meth, c, Q, cells, slots⟩ := X
  obtain ⟨hx, hb, hml, hown, hts, hE, hc1, hc2, hfr, hlo⟩ := C
  intro H locs ls hP hS hl
  exact lv_iushr hx hb hd hv (k H locs ls hP hS hl)
theorem j_ladd (pc : Nat) {x y : Int64} (C : CX X G own cc nL fr lo) (hd : decode cc pc = .ok (.ladd, 1)) (k : J X G nL g (pc + 1) L (.long (x + y) :: st)) : J X G nL g pc L (.long y :: .long x :: st) := by
  obtain ⟨p, e, R, s, m, args, below, meth, c, Q, cells, slots⟩ := X
  obtain ⟨hx, hb, hml, hown, hts, hE, hc1, hc2, hfr, hlo⟩ := C
  intro H locs ls hP hS hl
  exact lv_ladd hx hb hd (k H locs ls hP hS hl)
theorem j_lmul (pc : Nat) {x y : Int64} (C : CX X G own cc nL fr lo) (hd : decode cc pc = .ok (.lmul, 1)) (k : J X G nL g (pc + 1) L (.long (x * y) :: st)) : J X G nL g pc L (.long y :: .long x :: st) := by
  obtain ⟨p, e, R, s, m, args, below, meth, c, Q, cells, slots⟩ := X
  obtain ⟨hx, hb, hml, hown, hts, hE, hc1, hc2, hfr, hlo⟩ := C
  intro H locs ls hP hS hl
  exact lv_lmul hx hb hd (k H locs ls hP hS hl)
theorem j_ldiv (pc : Nat) {x y : Int64} (C : CX X G own cc nL fr lo) (hd : decode cc pc = .ok (.ldiv, 1)) (hne : ¬ y = 0) (k : J X G nL g (pc + 1) L (.long (x / y) :: st)) : J X G nL g pc L (.long y :: .long x :: st) := by
  obtain ⟨p, e, R, s, m, args, below, meth, c, Q, cells, slots⟩ := X
  obtain ⟨hx, hb, hml, hown, hts, hE, hc1, hc2, hfr, hlo⟩ := C
  intro H locs ls hP hS hl
  exact lv_ldiv hx hb hd hne (k H locs ls hP hS hl)
theorem j_lrem (pc : Nat) {x y : Int64} (C : CX X G own cc nL fr lo) (hd : decode cc pc = .ok (.lrem, 1)) (hne : ¬ y = 0) (k : J X G nL g (pc + 1) L (.long (x - x / y * y) :: st)) : J X G nL g pc L (.long y :: .long x :: st) := by
  obtain ⟨p, e, R, s, m, args, below, meth, c, Q, cells, slots⟩ := X
  obtain ⟨hx, hb, hml, hown, hts, hE, hc1, hc2, hfr, hlo⟩ := C
  intro H locs ls hP hS hl
  exact lv_lrem hx hb hd hne (k H locs ls hP hS hl)
theorem j_i2l (pc : Nat) {x : Int32} (C : CX X G own cc nL fr lo) (hd : decode cc pc = .ok (.i2l, 1)) (k : J X G nL g (pc + 1) L (.long x.toInt64 :: st)) : J X G nL g pc L (.int x :: st) := by
  obtain ⟨p, e, R, s, m, args, below, meth, c, Q, cells, slots⟩ := X
  obtain ⟨hx, hb, hml, hown, hts, hE, hc1, hc2, hfr, hlo⟩ := C
  intro H locs ls hP hS hl
  exact lv_i2l hx hb hd rfl (k H locs ls hP hS hl)
theorem j_i2b (pc : Nat) {x : Int32} (C : CX X G own cc nL fr lo) (hd : decode cc pc = .ok (.i2b, 1)) (k : J X G nL g (pc + 1) L (.int x.toInt8.toInt32 :: st)) : J X G nL g pc L (.int x :: st) := by
  obtain ⟨p, e, R, s, m, args, below, meth, c, Q, cells, slots⟩ := X
  obtain ⟨hx, hb, hml, hown, hts, hE, hc1, hc2, hfr, hlo⟩ := C
  intro H locs ls hP hS hl
  exact lv_i2b hx hb hd rfl (k H locs ls hP hS hl)
theorem j_i2s (pc : Nat) {x : Int32} (C : CX X G own cc nL fr lo) (hd : decode cc pc = .ok (.i2s, 1)) (k : J X G nL g (pc + 1) L (.int x.toInt16.toInt32 :: st)) : J X G nL g pc L (.int x :: st) := by
  obtain ⟨p, e, R, s, m, args, below, meth, c, Q, cells, slots⟩ := X
  obtain ⟨hx, hb, hml, hown, hts, hE, hc1, hc2, hfr, hlo⟩ := C
  intro H locs ls hP hS hl
  exact lv_i2s hx hb hd rfl (k H locs ls hP hS hl)
theorem j_lcmp (pc : Nat) {x y : Int64} (C : CX X G own cc nL fr lo) (hd : decode cc pc = .ok (.lcmp, 1)) (k : J X G nL g (pc + 1) L (.int (lg_cmp x y) :: st)) : J X G nL g pc L (.long y :: .long x :: st) := by
  obtain ⟨p, e, R, s, m, args, below, meth, c, Q, cells, slots⟩ := X
  obtain ⟨hx, hb, hml, hown, hts, hE, hc1, hc2, hfr, hlo⟩ := C
  intro H locs ls hP hS hl
  exact W.lcmp hx hb hd (k H locs ls hP hS hl)
theorem j_iconst (pc : Nat) {n : Int} {v : Int32} (C : CX X G own cc nL fr lo) (hd : decode cc pc = .ok (.iconst n, 1)) (hv : Int32.ofInt n = v) (k : J X G nL g (pc + 1) L (.int v :: st)) : J X G nL g pc L st := by
  obtain ⟨p, e, R, s, m, args, below, meth, c, Q, cells, slots⟩ := X
  obtain ⟨hx, hb, hml, hown, hts, hE, hc1, hc2, hfr, hlo⟩ := C
  intro H locs ls hP hS hl
  exact lv_iconst hx hb hd hv (k H locs ls hP hS hl)
theorem j_bipush (pc : Nat) {n : Int} {v : Int32} (C : CX X G own cc nL fr lo) (hd : decode cc pc = .ok (.bipush n, 2)) (hv : (Int8.ofInt n).toInt32 = v) (k : J X G nL g (pc + 2) L (.int v :: st)) : J X G nL g pc L st := by
  obtain ⟨p, e, R, s, m, args, below, meth, c, Q, cells, slots⟩ := X
  obtain ⟨hx, hb, hml, hown, hts, hE, hc1, hc2, hfr, hlo⟩ := C
  intro H locs ls hP hS hl
  exact lv_bipush hx hb hd hv (k H locs ls hP hS hl)
theorem j_sipush (pc : Nat) {n : Int} {v : Int32} (C : CX X G own cc nL fr lo) (hd : decode cc pc = .ok (.sipush n, 3)) (hv : (Int16.ofInt n).toInt32 = v) (k : J X G nL g (pc + 3) L (.int v :: st)) : J X G nL g pc L st := by
  obtain ⟨p, e, R, s, m, args, below, meth, c, Q, cells, slots⟩ := X
  obtain ⟨hx, hb, hml, hown, hts, hE, hc1, hc2, hfr, hlo⟩ := C
  intro H locs ls hP hS hl
  exact lv_sipush hx hb hd hv (k H locs ls hP hS hl)
theorem j_lconst (pc : Nat) {n : Fin 2} {v : Int64} (C : CX X G own cc nL fr lo) (hd : decode cc pc = .ok (.lconst n, 1)) (hv : Int64.ofNat (n : Nat) = v) (k : J X G nL g (pc + 1) L (.long v :: st)) : J X G nL g pc L st := by
  obtain ⟨p, e, R, s, m, args, below, meth, c, Q, cells, slots⟩ := X
  obtain ⟨hx, hb, hml, hown, hts, hE, hc1, hc2, hfr, hlo⟩ := C
  intro H locs ls hP hS hl
  exact lv_lconst hx hb hd hv (k H locs ls hP hS hl)
theorem j_ldc (pc : Nat) {i : Nat} {v : Int32} (C : CX X G own cc nL fr lo) (hd : decode cc pc = .ok (.ldc i, 2)) (hw : Cond.constant own i v ∈ TBL) (k : J X G nL g (pc + 2) L (.int v :: st)) : J X G nL g pc L st := by
  obtain ⟨p, e, R, s, m, args, below, meth, c, Q, cells, slots⟩ := X
  obtain ⟨hx, hb, hml, hown, hts, hE, hc1, hc2, hfr, hlo⟩ := C
  intro H locs ls hP hS hl
  exact lv_ldc hx hb hown (hts _ hw) hd (k H locs ls hP hS hl)
theorem j_ldcw (pc : Nat) {i : Nat} {v : Int32} (C : CX X G own cc nL fr lo) (hd : decode cc pc = .ok (.ldc_w i, 3)) (hw : Cond.constant own i v ∈ TBL) (k : J X G nL g (pc + 3) L (.int v :: st)) : J X G nL g pc L st := by
  obtain ⟨p, e, R, s, m, args, below, meth, c, Q, cells, slots⟩ := X
  obtain ⟨hx, hb, hml, hown, hts, hE, hc1, hc2, hfr, hlo⟩ := C
  intro H locs ls hP hS hl
  exact lv_ldcw hx hb hown (hts _ hw) hd (k H locs ls hP hS hl)
theorem j_ldc2 (pc : Nat) {i : Nat} {v : Int64} (C : CX X G own cc nL fr lo) (hd : decode cc pc = .ok (.ldc2_w i, 3)) (hw : Cond.constantLong own i v ∈ TBL) (k : J X G nL g (pc + 3) L (.long v :: st)) : J X G nL g pc L st := by
  obtain ⟨p, e, R, s, m, args, below, meth, c, Q, cells, slots⟩ := X
  obtain ⟨hx, hb, hml, hown, hts, hE, hc1, hc2, hfr, hlo⟩ := C
  intro H locs ls hP hS hl
  exact lv_ldc2 hx hb hown (hts _ hw) hd (k H locs ls hP hS hl)
theorem j_dup (pc : Nat) {v : Value} (C : CX X G own cc nL fr lo) (hd : decode cc pc = .ok (.dup, 1)) (hv : v.category = 1) (k : J X G nL g (pc + 1) L (v :: v :: st)) : J X G nL g pc L (v :: st) := by
  obtain ⟨p, e, R, s, m, args, below, meth, c, Q, cells, slots⟩ := X
  obtain ⟨hx, hb, hml, hown, hts, hE, hc1, hc2, hfr, hlo⟩ := C
  intro H locs ls hP hS hl
  exact lv_dup hx hb hd hv (k H locs ls hP hS hl)
theorem j_dup2 (pc : Nat) {v w : Value} (C : CX X G own cc nL fr lo) (hd : decode cc pc = .ok (.dup2, 1)) (hv : v.category = 1) (hw : w.category = 1) (k : J X G nL g (pc + 1) L (v :: w :: v :: w :: st)) : J X G nL g pc L (v :: w :: st) := by
  obtain ⟨p, e, R, s, m, args, below, meth, c, Q, cells, slots⟩ := X
  obtain ⟨hx, hb, hml, hown, hts, hE, hc1, hc2, hfr, hlo⟩ := C
  intro H locs ls hP hS hl
  exact lv_dup2_11 hx hb hd hv hw (k H locs ls hP hS hl)
theorem j_pop (pc : Nat) {v : Value} (C : CX X G own cc nL fr lo) (hd : decode cc pc = .ok (.pop, 1)) (hv : v.category = 1) (k : J X G nL g (pc + 1) L st) : J X G nL g pc L (v :: st) := by
  obtain ⟨p, e, R, s, m, args, below, meth, c, Q, cells, slots⟩ := X
  obtain ⟨hx, hb, hml, hown, hts, hE, hc1, hc2, hfr, hlo⟩ := C
  intro H locs ls hP hS hl
  exact lv_pop hx hb hd hv (k H locs ls hP hS hl)
theorem j_ifeq (pc : Nat) (tgt : Nat) {x : Int32} {off : Int} (C : CX X G own cc nL fr lo) (hd : decode cc pc = .ok (.ifCond .eq off, 3)) (ht : (pc : Int) + off = (tgt : Int)) (kt : x = 0 → J X G nL g tgt L st) (kf : ¬ x = 0 → J X G nL g (pc + 3) L st) : J X G nL g pc L (.int x :: st) := by
  obtain ⟨p, e, R, s, m, args, below, meth, c, Q, cells, slots⟩ := X
  obtain ⟨hx, hb, hml, hown, hts, hE, hc1, hc2, hfr, hlo⟩ := C
  intro H locs ls hP hS hl
  exact lv_if_eq hx hb hd ht (fun q => kt q H locs ls hP hS hl) (fun q => kf q H locs ls hP hS hl)
theorem j_iceq (pc : Nat) (tgt : Nat) {x y : Int32} {off : Int} (C : CX X G own cc nL fr lo) (hd : decode cc pc = .ok (.if_icmp .eq off, 3)) (ht : (pc : Int) + off = (tgt : Int)) (kt : x = y → J X G nL g tgt L st) (kf : ¬ x = y → J X G nL g (pc + 3) L st) : J X G nL g pc L (.int y :: .int x :: st) := by
  obtain ⟨p, e, R, s, m, args, below, meth, c, Q, cells, slots⟩ := X
  obtain ⟨hx, hb, hml, hown, hts, hE, hc1, hc2, hfr, hlo⟩ := C
  intro H locs ls hP hS hl
  exact lv_icmp_eq hx hb hd ht (fun q => kt q H locs ls hP hS hl) (fun q => kf q H locs ls hP hS hl)
theorem j_ifne (pc : Nat) (tgt : Nat) {x : Int32} {off : Int} (C : CX X G own cc nL fr lo) (hd : decode cc pc = .ok (.ifCond .ne off, 3)) (ht : (pc : Int) + off = (tgt : Int)) (kt : ¬ x = 0 → J X G nL g tgt L st) (kf : x = 0 → J X G nL g (pc + 3) L st) : J X G nL g pc L (.int x :: st) := by
  obtain ⟨p, e, R, s, m, args, below, meth, c, Q, cells, slots⟩ := X
  obtain ⟨hx, hb, hml, hown, hts, hE, hc1, hc2, hfr, hlo⟩ := C
  intro H locs ls hP hS hl
  exact lv_if_ne hx hb hd ht (fun q => kt q H locs ls hP hS hl) (fun q => kf q H locs ls hP hS hl)
theorem j_icne (pc : Nat) (tgt : Nat) {x y : Int32} {off : Int} (C : CX X G own cc nL fr lo) (hd : decode cc pc = .ok (.if_icmp .ne off, 3)) (ht : (pc : Int) + off = (tgt : Int)) (kt : ¬ x = y → J X G nL g tgt L st) (kf : x = y → J X G nL g (pc + 3) L st) : J X G nL g pc L (.int y :: .int x :: st) := by
  obtain ⟨p, e, R, s, m, args, below, meth, c, Q, cells, slots⟩ := X
  obtain ⟨hx, hb, hml, hown, hts, hE, hc1, hc2, hfr, hlo⟩ := C
  intro H locs ls hP hS hl
  exact lv_icmp_ne hx hb hd ht (fun q => kt q H locs ls hP hS hl) (fun q => kf q H locs ls hP hS hl)
theorem j_iflt (pc : Nat) (tgt : Nat) {x : Int32} {off : Int} (C : CX X G own cc nL fr lo) (hd : decode cc pc = .ok (.ifCond .lt off, 3)) (ht : (pc : Int) + off = (tgt : Int)) (kt : x < 0 → J X G nL g tgt L st) (kf : ¬ x < 0 → J X G nL g (pc + 3) L st) : J X G nL g pc L (.int x :: st) := by
  obtain ⟨p, e, R, s, m, args, below, meth, c, Q, cells, slots⟩ := X
  obtain ⟨hx, hb, hml, hown, hts, hE, hc1, hc2, hfr, hlo⟩ := C
  intro H locs ls hP hS hl
  exact lv_if_lt hx hb hd ht (fun q => kt q H locs ls hP hS hl) (fun q => kf q H locs ls hP hS hl)
theorem j_iclt (pc : Nat) (tgt : Nat) {x y : Int32} {off : Int} (C : CX X G own cc nL fr lo) (hd : decode cc pc = .ok (.if_icmp .lt off, 3)) (ht : (pc : Int) + off = (tgt : Int)) (kt : x < y → J X G nL g tgt L st) (kf : ¬ x < y → J X G nL g (pc + 3) L st) : J X G nL g pc L (.int y :: .int x :: st) := by
  obtain ⟨p, e, R, s, m, args, below, meth, c, Q, cells, slots⟩ := X
  obtain ⟨hx, hb, hml, hown, hts, hE, hc1, hc2, hfr, hlo⟩ := C
  intro H locs ls hP hS hl
  exact lv_icmp_lt hx hb hd ht (fun q => kt q H locs ls hP hS hl) (fun q => kf q H locs ls hP hS hl)
theorem j_ifge (pc : Nat) (tgt : Nat) {x : Int32} {off : Int} (C : CX X G own cc nL fr lo) (hd : decode cc pc = .ok (.ifCond .ge off, 3)) (ht : (pc : Int) + off = (tgt : Int)) (kt : 0 ≤ x → J X G nL g tgt L st) (kf : ¬ 0 ≤ x → J X G nL g (pc + 3) L st) : J X G nL g pc L (.int x :: st) := by
  obtain ⟨p, e, R, s, m, args, below, meth, c, Q, cells, slots⟩ := X
  obtain ⟨hx, hb, hml, hown, hts, hE, hc1, hc2, hfr, hlo⟩ := C
  intro H locs ls hP hS hl
  exact lv_if_ge hx hb hd ht (fun q => kt q H locs ls hP hS hl) (fun q => kf q H locs ls hP hS hl)
theorem j_icge (pc : Nat) (tgt : Nat) {x y : Int32} {off : Int} (C : CX X G own cc nL fr lo) (hd : decode cc pc = .ok (.if_icmp .ge off, 3)) (ht : (pc : Int) + off = (tgt : Int)) (kt : y ≤ x → J X G nL g tgt L st) (kf : ¬ y ≤ x → J X G nL g (pc + 3) L st) : J X G nL g pc L (.int y :: .int x :: st) := by
  obtain ⟨p, e, R, s, m, args, below, meth, c, Q, cells, slots⟩ := X
  obtain ⟨hx, hb, hml, hown, hts, hE, hc1, hc2, hfr, hlo⟩ := C
  intro H locs ls hP hS hl
  exact lv_icmp_ge hx hb hd ht (fun q => kt q H locs ls hP hS hl) (fun q => kf q H locs ls hP hS hl)
theorem j_ifgt (pc : Nat) (tgt : Nat) {x : Int32} {off : Int} (C : CX X G own cc nL fr lo) (hd : decode cc pc = .ok (.ifCond .gt off, 3)) (ht : (pc : Int) + off = (tgt : Int)) (kt : 0 < x → J X G nL g tgt L st) (kf : ¬ 0 < x → J X G nL g (pc + 3) L st) : J X G nL g pc L (.int x :: st) := by
  obtain ⟨p, e, R, s, m, args, below, meth, c, Q, cells, slots⟩ := X
  obtain ⟨hx, hb, hml, hown, hts, hE, hc1, hc2, hfr, hlo⟩ := C
  intro H locs ls hP hS hl
  exact lv_if_gt hx hb hd ht (fun q => kt q H locs ls hP hS hl) (fun q => kf q H locs ls hP hS hl)
theorem j_icgt (pc : Nat) (tgt : Nat) {x y : Int32} {off : Int} (C : CX X G own cc nL fr lo) (hd : decode cc pc = .ok (.if_icmp .gt off, 3)) (ht : (pc : Int) + off = (tgt : Int)) (kt : y < x → J X G nL g tgt L st) (kf : ¬ y < x → J X G nL g (pc + 3) L st) : J X G nL g pc L (.int y :: .int x :: st) := by
  obtain ⟨p, e, R, s, m, args, below, meth, c, Q, cells, slots⟩ := X
  obtain ⟨hx, hb, hml, hown, hts, hE, hc1, hc2, hfr, hlo⟩ := C
  intro H locs ls hP hS hl
  exact lv_icmp_gt hx hb hd ht (fun q => kt q H locs ls hP hS hl) (fun q => kf q H locs ls hP hS hl)
theorem j_ifle (pc : Nat) (tgt : Nat) {x : Int32} {off : Int} (C : CX X G own cc nL fr lo) (hd : decode cc pc = .ok (.ifCond .le off, 3)) (ht : (pc : Int) + off = (tgt : Int)) (kt : x ≤ 0 → J X G nL g tgt L st) (kf : ¬ x ≤ 0 → J X G nL g (pc + 3) L st) : J X G nL g pc L (.int x :: st) := by
  obtain ⟨p, e, R, s, m, args, below, meth, c, Q, cells, slots⟩ := X
  obtain ⟨hx, hb, hml, hown, hts, hE, hc1, hc2, hfr, hlo⟩ := C
  intro H locs ls hP hS hl
  exact lv_if_le hx hb hd ht (fun q => kt q H locs ls hP hS hl) (fun q => kf q H locs ls hP hS hl)
theorem j_icle (pc : Nat) (tgt : Nat) {x y : Int32} {off : Int} (C : CX X G own cc nL fr lo) (hd : decode cc pc = .ok (.if_icmp .le off, 3)) (ht : (pc : Int) + off = (tgt : Int)) (kt : x ≤ y → J X G nL g tgt L st) (kf : ¬ x ≤ y → J X G nL g (pc + 3) L st) : J X G nL g pc L (.int y :: .int x :: st) := by
  obtain ⟨p, e, R, s, m, args, below, meth, c, Q, cells, slots⟩ := X
  obtain ⟨hx, hb, hml, hown, hts, hE, hc1, hc2, hfr, hlo⟩ := C
  intro H locs ls hP hS hl
  exact lv_icmp_le hx hb hd ht (fun q => kt q H locs ls hP hS hl) (fun q => kf q H locs ls hP hS hl)
theorem j_goto (pc : Nat) (tgt : Nat) {off : Int} (C : CX X G own cc nL fr lo) (hd : decode cc pc = .ok (.goto off, 3)) (ht : (pc : Int) + off = (tgt : Int)) (k : J X G nL g tgt L st) : J X G nL g pc L st := by
  obtain ⟨p, e, R, s, m, args, below, meth, c, Q, cells, slots⟩ := X
  obtain ⟨hx, hb, hml, hown, hts, hE, hc1, hc2, hfr, hlo⟩ := C
  intro H locs ls hP hS hl
  exact lv_goto hx hb hd ht (k H locs ls hP hS hl)
theorem j_tsOut (pc : Nat) (tgt : Nat) {dflt lo1 hi1 : Int} {offs : Array Int} {len : Nat} {x : Int32} (C : CX X G own cc nL fr lo) (hd : decode cc pc = .ok (.tableswitch dflt lo1 hi1 offs, len)) (h : x.toInt < lo1 ∨ hi1 < x.toInt) (ht : (pc : Int) + dflt = (tgt : Int)) (k : J X G nL g tgt L st) : J X G nL g pc L (.int x :: st) := by
  obtain ⟨p, e, R, s, m, args, below, meth, c, Q, cells, slots⟩ := X
  obtain ⟨hx, hb, hml, hown, hts, hE, hc1, hc2, hfr, hlo⟩ := C
  intro H locs ls hP hS hl
  exact lv_tableOut hx hb hd h ht (k H locs ls hP hS hl)
theorem j_tsIn (pc : Nat) (tgt : Nat) {dflt lo1 hi1 : Int} {offs : Array Int} {len : Nat} {x : Int32} {off : Int} (C : CX X G own cc nL fr lo) (hd : decode cc pc = .ok (.tableswitch dflt lo1 hi1 offs, len)) (h1 : ¬ x.toInt < lo1) (h2 : ¬ hi1 < x.toInt) (ho : offs[(x.toInt - lo1).toNat]? = some off) (ht : (pc : Int) + off = (tgt : Int)) (k : J X G nL g tgt L st) : J X G nL g pc L (.int x :: st) := by
  obtain ⟨p, e, R, s, m, args, below, meth, c, Q, cells, slots⟩ := X
  obtain ⟨hx, hb, hml, hown, hts, hE, hc1, hc2, hfr, hlo⟩ := C
  intro H locs ls hP hS hl
  exact lv_tableIn hx hb hd h1 h2 ho ht (k H locs ls hP hS hl)
theorem j_lookup (pc : Nat) (tgt : Nat) {dflt : Int} {ps : Array (Int × Int)} {len : Nat} {x : Int32} {off : Int} (C : CX X G own cc nL fr lo) (hd : decode cc pc = .ok (.lookupswitch dflt ps, len)) (hp : (ps.toList.zip (ps.toList.drop 1)).all (fun (a, next) => a.1 < next.1) = true) (ho : Op.lookupswitch.offset ps.toList dflt x.toInt = off) (ht : (pc : Int) + off = (tgt : Int)) (k : J X G nL g tgt L st) : J X G nL g pc L (.int x :: st) := by
  obtain ⟨p, e, R, s, m, args, below, meth, c, Q, cells, slots⟩ := X
  obtain ⟨hx, hb, hml, hown, hts, hE, hc1, hc2, hfr, hlo⟩ := C
  intro H locs ls hP hS hl
  exact lv_lookup hx hb hd hp ho ht (k H locs ls hP hS hl)
theorem j_top {pc : Nat} {x : Int32} (y : Int32) (h : x = y) (k : J X G nL g pc L (.int y :: st)) : J X G nL g pc L (.int x :: st) := h ▸ k
theorem j_top2 {pc : Nat} {x : Int32} {v : Value} (y : Int32) (h : x = y) (k : J X G nL g pc L (v :: .int y :: st)) : J X G nL g pc L (v :: .int x :: st) := h ▸ k
theorem j_mem {pc : Nat} (g' : Mem) (h : g = g') (k : J X G nL g' pc L st) : J X G nL g pc L st := h ▸ k
theorem j_il0 (pc : Nat)  {x : Int32} (C : CX X G own cc nL fr lo) (hd : decode cc pc = .ok (.iload_n 0, 1)) (k : J X G nL g (pc + 1) (some (.int x) :: L) (.int x :: st)) : J X G nL g pc (some (.int x) :: L) st := by
  obtain ⟨p, e, R, s, m, args, below, meth, c, Q, cells, slots⟩ := X
  obtain ⟨hx, hb, hml, hown, hts, hE, hc1, hc2, hfr, hlo⟩ := C
  intro H locs ls hP hS hl
  exact lv_iload_n hx hb hd rfl (lis_at hl 0 rfl) (k H locs ls hP hS hl)
theorem j_al0 (pc : Nat)  {x : Nat} (C : CX X G own cc nL fr lo) (hd : decode cc pc = .ok (.aload_n 0, 1)) (k : J X G nL g (pc + 1) (some (.ref x) :: L) (.ref x :: st)) : J X G nL g pc (some (.ref x) :: L) st := by
  obtain ⟨p, e, R, s, m, args, below, meth, c, Q, cells, slots⟩ := X
  obtain ⟨hx, hb, hml, hown, hts, hE, hc1, hc2, hfr, hlo⟩ := C
  intro H locs ls hP hS hl
  exact lv_aload_n hx hb hd rfl (lis_at hl 0 rfl) (k H locs ls hP hS hl)
theorem j_ll0 (pc : Nat)  {x : Int64} (C : CX X G own cc nL fr lo) (hd : decode cc pc = .ok (.lload_n 0, 1)) (k : J X G nL g (pc + 1) (some (.long x) :: L) (.long x :: st)) : J X G nL g pc (some (.long x) :: L) st := by
  obtain ⟨p, e, R, s, m, args, below, meth, c, Q, cells, slots⟩ := X
  obtain ⟨hx, hb, hml, hown, hts, hE, hc1, hc2, hfr, hlo⟩ := C
  intro H locs ls hP hS hl
  exact lv_lload_n hx hb hd rfl (lis_at hl 0 rfl) (k H locs ls hP hS hl)
theorem j_is0 (pc : Nat)  {o : Option Value} {x : Int32} (C : CX X G own cc nL fr lo) (hd : decode cc pc = .ok (.istore_n 0, 1)) (hk : 0 < nL) (k : J X G nL g (pc + 1) (some (.int x) :: L) st) : J X G nL g pc (o :: L) (.int x :: st) := by
  obtain ⟨p, e, R, s, m, args, below, meth, c, Q, cells, slots⟩ := X
  obtain ⟨hx, hb, hml, hown, hts, hE, hc1, hc2, hfr, hlo⟩ := C
  intro H locs ls hP hS hl
  refine lv_istore_n hx hb hd rfl hl hk rfl (fun ls' hl' => k H locs ls' hP hS (hl'.mono ?_))
  exact lis_set (L := (o :: L)) (k := 0) (v := .int x) (fun j w hj hw => by omega)
theorem j_as0 (pc : Nat)  {o : Option Value} {x : Nat} (C : CX X G own cc nL fr lo) (hd : decode cc pc = .ok (.astore_n 0, 1)) (hk : 0 < nL) (k : J X G nL g (pc + 1) (some (.ref x) :: L) st) : J X G nL g pc (o :: L) (.ref x :: st) := by
  obtain ⟨p, e, R, s, m, args, below, meth, c, Q, cells, slots⟩ := X
  obtain ⟨hx, hb, hml, hown, hts, hE, hc1, hc2, hfr, hlo⟩ := C
  intro H locs ls hP hS hl
  refine lv_astore_n hx hb hd rfl hl hk rfl (fun ls' hl' => k H locs ls' hP hS (hl'.mono ?_))
  exact lis_set (L := (o :: L)) (k := 0) (v := .ref x) (fun j w hj hw => by omega)
theorem j_inc0 (pc : Nat)  {n : Int} {x v : Int32} (C : CX X G own cc nL fr lo) (hd : decode cc pc = .ok (.iinc 0 n, 3)) (hv : x + Int32.ofInt n = v) (hk : 0 < nL) (k : J X G nL g (pc + 3) (some (.int v) :: L) st) : J X G nL g pc (some (.int x) :: L) st := by
  obtain ⟨p, e, R, s, m, args, below, meth, c, Q, cells, slots⟩ := X
  obtain ⟨hx, hb, hml, hown, hts, hE, hc1, hc2, hfr, hlo⟩ := C
  intro H locs ls hP hS hl
  obtain ⟨i9, hi9⟩ := List.getElem?_of_mem ((lis_mem (some (.int x) :: L) 0 (0, .int x)).mpr ⟨Nat.zero_le _, rfl⟩)
  refine lv_iinc hx hb hd hl hi9 hv hk rfl (fun ls' hl' => k H locs ls' hP hS (hl'.mono ?_))
  exact lis_set (L := (some (.int x) :: L)) (k := 0) (v := .int v) (fun j w hj hw => by omega)
theorem j_il1 (pc : Nat) {a0 : Option Value} {x : Int32} (C : CX X G own cc nL fr lo) (hd : decode cc pc = .ok (.iload_n 1, 1)) (k : J X G nL g (pc + 1) (a0 :: some (.int x) :: L) (.int x :: st)) : J X G nL g pc (a0 :: some (.int x) :: L) st := by
  obtain ⟨p, e, R, s, m, args, below, meth, c, Q, cells, slots⟩ := X
  obtain ⟨hx, hb, hml, hown, hts, hE, hc1, hc2, hfr, hlo⟩ := C
  intro H locs ls hP hS hl
  exact lv_iload_n hx hb hd rfl (lis_at hl 1 rfl) (k H locs ls hP hS hl)
theorem j_al1 (pc : Nat) {a0 : Option Value} {x : Nat} (C : CX X G own cc nL fr lo) (hd : decode cc pc = .ok (.aload_n 1, 1)) (k : J X G nL g (pc + 1) (a0 :: some (.ref x) :: L) (.ref x :: st)) : J X G nL g pc (a0 :: some (.ref x) :: L) st := by
  obtain ⟨p, e, R, s, m, args, below, meth, c, Q, cells, slots⟩ := X
  obtain ⟨hx, hb, hml, hown, hts, hE, hc1, hc2, hfr, hlo⟩ := C
  intro H locs ls hP hS hl
  exact lv_aload_n hx hb hd rfl (lis_at hl 1 rfl) (k H locs ls hP hS hl)
theorem j_ll1 (pc : Nat) {a0 : Option Value} {x : Int64} (C : CX X G own cc nL fr lo) (hd : decode cc pc = .ok (.lload_n 1, 1)) (k : J X G nL g (pc + 1) (a0 :: some (.long x) :: L) (.long x :: st)) : J X G nL g pc (a0 :: some (.long x) :: L) st := by
  obtain ⟨p, e, R, s, m, args, below, meth, c, Q, cells, slots⟩ := X
  obtain ⟨hx, hb, hml, hown, hts, hE, hc1, hc2, hfr, hlo⟩ := C
  intro H locs ls hP hS hl
  exact lv_lload_n hx hb hd rfl (lis_at hl 1 rfl) (k H locs ls hP hS hl)
theorem j_is1 (pc : Nat) {a0 : Option Value} {o : Option Value} {x : Int32} (C : CX X G own cc nL fr lo) (hd : decode cc pc = .ok (.istore_n 1, 1)) (hn : nlg a0 = true) (hk : 1 < nL) (k : J X G nL g (pc + 1) (a0 :: some (.int x) :: L) st) : J X G nL g pc (a0 :: o :: L) (.int x :: st) := by
  obtain ⟨p, e, R, s, m, args, below, meth, c, Q, cells, slots⟩ := X
  obtain ⟨hx, hb, hml, hown, hts, hE, hc1, hc2, hfr, hlo⟩ := C
  intro H locs ls hP hS hl
  refine lv_istore_n hx hb hd rfl hl hk rfl (fun ls' hl' => k H locs ls' hP hS (hl'.mono ?_))
  exact lis_set (L := (a0 :: o :: L)) (k := 1) (v := .int x) (fun j w hj hw => by
    obtain rfl : j = 0 := by omega
    obtain rfl : a0 = some w := Option.some.inj hw
    intro hc; simp [nlg, hc] at hn)
theorem j_as1 (pc : Nat) {a0 : Option Value} {o : Option Value} {x : Nat} (C : CX X G own cc nL fr lo) (hd : decode cc pc = .ok (.astore_n 1, 1)) (hn : nlg a0 = true) (hk : 1 < nL) (k : J X G nL g (pc + 1) (a0 :: some (.ref x) :: L) st) : J X G nL g pc (a0 :: o :: L) (.ref x :: st) := by
  obtain ⟨p, e, R, s, m, args, below, meth, c, Q, cells, slots⟩ := X
  obtain ⟨hx, hb, hml, hown, hts, hE, hc1, hc2, hfr, hlo⟩ := C
  intro H locs ls hP hS hl
  refine lv_astore_n hx hb hd rfl hl hk rfl (fun ls' hl' => k H locs ls' hP hS (hl'.mono ?_))
  exact lis_set (L := (a0 :: o :: L)) (k := 1) (v := .ref x) (fun j w hj hw => by
    obtain rfl : j = 0 := by omega
    obtain rfl : a0 = some w := Option.some.inj hw
    intro hc; simp [nlg, hc] at hn)
theorem j_inc1 (pc : Nat) {a0 : Option Value} {n : Int} {x v : Int32} (C : CX X G own cc nL fr lo) (hd : decode cc pc = .ok (.iinc 1 n, 3)) (hn : nlg a0 = true) (hv : x + Int32.ofInt n = v) (hk : 1 < nL) (k : J X G nL g (pc + 3) (a0 :: some (.int v) :: L) st) : J X G nL g pc (a0 :: some (.int x) :: L) st := by
  obtain ⟨p, e, R, s, m, args, below, meth, c, Q, cells, slots⟩ := X
  obtain ⟨hx, hb, hml, hown, hts, hE, hc1, hc2, hfr, hlo⟩ := C
  intro H locs ls hP hS hl
  obtain ⟨i9, hi9⟩ := List.getElem?_of_mem ((lis_mem (a0 :: some (.int x) :: L) 0 (1, .int x)).mpr ⟨Nat.zero_le _, rfl⟩)
  refine lv_iinc hx hb hd hl hi9 hv hk rfl (fun ls' hl' => k H locs ls' hP hS (hl'.mono ?_))
  exact lis_set (L := (a0 :: some (.int x) :: L)) (k := 1) (v := .int v) (fun j w hj hw => by
    obtain rfl : j = 0 := by omega
    obtain rfl : a0 = some w := Option.some.inj hw
    intro hc; simp [nlg, hc] at hn)
theorem j_il2 (pc : Nat) {a0 a1 : Option Value} {x : Int32} (C : CX X G own cc nL fr lo) (hd : decode cc pc = .ok (.iload_n 2, 1)) (k : J X G nL g (pc + 1) (a0 :: a1 :: some (.int x) :: L) (.int x :: st)) : J X G nL g pc (a0 :: a1 :: some (.int x) :: L) st := by
  obtain ⟨p, e, R, s, m, args, below, meth, c, Q, cells, slots⟩ := X
  obtain ⟨hx, hb, hml, hown, hts, hE, hc1, hc2, hfr, hlo⟩ := C
  intro H locs ls hP hS hl
  exact lv_iload_n hx hb hd rfl (lis_at hl 2 rfl) (k H locs ls hP hS hl)
theorem j_al2 (pc : Nat) {a0 a1 : Option Value} {x : Nat} (C : CX X G own cc nL fr lo) (hd : decode cc pc = .ok (.aload_n 2, 1)) (k : J X G nL g (pc + 1) (a0 :: a1 :: some (.ref x) :: L) (.ref x :: st)) : J X G nL g pc (a0 :: a1 :: some (.ref x) :: L) st := by
  obtain ⟨p, e, R, s, m, args, below, meth, c, Q, cells, slots⟩ := X
  obtain ⟨hx, hb, hml, hown, hts, hE, hc1, hc2, hfr, hlo⟩ := C
  intro H locs ls hP hS hl
  exact lv_aload_n hx hb hd rfl (lis_at hl 2 rfl) (k H locs ls hP hS hl)
theorem j_ll2 (pc : Nat) {a0 a1 : Option Value} {x : Int64} (C : CX X G own cc nL fr lo) (hd : decode cc pc = .ok (.lload_n 2, 1)) (k : J X G nL g (pc + 1) (a0 :: a1 :: some (.long x) :: L) (.long x :: st)) : J X G nL g pc (a0 :: a1 :: some (.long x) :: L) st := by
  obtain ⟨p, e, R, s, m, args, below, meth, c, Q, cells, slots⟩ := X
  obtain ⟨hx, hb, hml, hown, hts, hE, hc1, hc2, hfr, hlo⟩ := C
  intro H locs ls hP hS hl
  exact lv_lload_n hx hb hd rfl (lis_at hl 2 rfl) (k H locs ls hP hS hl)
theorem j_is2 (pc : Nat) {a0 a1 : Option Value} {o : Option Value} {x : Int32} (C : CX X G own cc nL fr lo) (hd : decode cc pc = .ok (.istore_n 2, 1)) (hn : nlg a1 = true) (hk : 2 < nL) (k : J X G nL g (pc + 1) (a0 :: a1 :: some (.int x) :: L) st) : J X G nL g pc (a0 :: a1 :: o :: L) (.int x :: st) := by
  obtain ⟨p, e, R, s, m, args, below, meth, c, Q, cells, slots⟩ := X
  obtain ⟨hx, hb, hml, hown, hts, hE, hc1, hc2, hfr, hlo⟩ := C
  intro H locs ls hP hS hl
  refine lv_istore_n hx hb hd rfl hl hk rfl (fun ls' hl' => k H locs ls' hP hS (hl'.mono ?_))
  exact lis_set (L := (a0 :: a1 :: o :: L)) (k := 2) (v := .int x) (fun j w hj hw => by
    obtain rfl : j = 1 := by omega
    obtain rfl : a1 = some w := Option.some.inj hw
    intro hc; simp [nlg, hc] at hn)
theorem j_as2 (pc : Nat) {a0 a1 : Option Value} {o : Option Value} {x : Nat} (C : CX X G own cc nL fr lo) (hd : decode cc pc = .ok (.astore_n 2, 1)) (hn : nlg a1 = true) (hk : 2 < nL) (k : J X G nL g (pc + 1) (a0 :: a1 :: some (.ref x) :: L) st) : J X G nL g pc (a0 :: a1 :: o :: L) (.ref x :: st) := by
  obtain ⟨p, e, R, s, m, args, below, meth, c, Q, cells, slots⟩ := X
  obtain ⟨hx, hb, hml, hown, hts, hE, hc1, hc2, hfr, hlo⟩ := C
  intro H locs ls hP hS hl
  refine lv_astore_n hx hb hd rfl hl hk rfl (fun ls' hl' => k H locs ls' hP hS (hl'.mono ?_))
  exact lis_set (L := (a0 :: a1 :: o :: L)) (k := 2) (v := .ref x) (fun j w hj hw => by
    obtain rfl : j = 1 := by omega
    obtain rfl : a1 = some w := Option.some.inj hw
    intro hc; simp [nlg, hc] at hn)
theorem j_inc2 (pc : Nat) {a0 a1 : Option Value} {n : Int} {x v : Int32} (C : CX X G own cc nL fr lo) (hd : decode cc pc = .ok (.iinc 2 n, 3)) (hn : nlg a1 = true) (hv : x + Int32.ofInt n = v) (hk : 2 < nL) (k : J X G nL g (pc + 3) (a0 :: a1 :: some (.int v) :: L) st) : J X G nL g pc (a0 :: a1 :: some (.int x) :: L) st := by
  obtain ⟨p, e, R, s, m, args, below, meth, c, Q, cells, slots⟩ := X
  obtain ⟨hx, hb, hml, hown, hts, hE, hc1, hc2, hfr, hlo⟩ := C
  intro H locs ls hP hS hl
  obtain ⟨i9, hi9⟩ := List.getElem?_of_mem ((lis_mem (a0 :: a1 :: some (.int x) :: L) 0 (2, .int x)).mpr ⟨Nat.zero_le _, rfl⟩)
  refine lv_iinc hx hb hd hl hi9 hv hk rfl (fun ls' hl' => k H locs ls' hP hS (hl'.mono ?_))
  exact lis_set (L := (a0 :: a1 :: some (.int x) :: L)) (k := 2) (v := .int v) (fun j w hj hw => by
    obtain rfl : j = 1 := by omega
    obtain rfl : a1 = some w := Option.some.inj hw
    intro hc; simp [nlg, hc] at hn)
theorem j_il3 (pc : Nat) {a0 a1 a2 : Option Value} {x : Int32} (C : CX X G own cc nL fr lo) (hd : decode cc pc = .ok (.iload_n 3, 1)) (k : J X G nL g (pc + 1) (a0 :: a1 :: a2 :: some (.int x) :: L) (.int x :: st)) : J X G nL g pc (a0 :: a1 :: a2 :: some (.int x) :: L) st := by
  obtain ⟨p, e, R, s, m, args, below, meth, c, Q, cells, slots⟩ := X
  obtain ⟨hx, hb, hml, hown, hts, hE, hc1, hc2, hfr, hlo⟩ := C
  intro H locs ls hP hS hl
  exact lv_iload_n hx hb hd rfl (lis_at hl 3 rfl) (k H locs ls hP hS hl)
theorem j_al3 (pc : Nat) {a0 a1 a2 : Option Value} {x : Nat} (C : CX X G own cc nL fr lo) (hd : decode cc pc = .ok (.aload_n 3, 1)) (k : J X G nL g (pc + 1) (a0 :: a1 :: a2 :: some (.ref x) :: L) (.ref x :: st)) : J X G nL g pc (a0 :: a1 :: a2 :: some (.ref x) :: L) st := by
  obtain ⟨p, e, R, s, m, args, below, meth, c, Q, cells, slots⟩ := X
  obtain ⟨hx, hb, hml, hown, hts, hE, hc1, hc2, hfr, hlo⟩ := C
  intro H locs ls hP hS hl
  exact lv_aload_n hx hb hd rfl (lis_at hl 3 rfl) (k H locs ls hP hS hl)
theorem j_ll3 (pc : Nat) {a0 a1 a2 : Option Value} {x : Int64} (C : CX X G own cc nL fr lo) (hd : decode cc pc = .ok (.lload_n 3, 1)) (k : J X G nL g (pc + 1) (a0 :: a1 :: a2 :: some (.long x) :: L) (.long x :: st)) : J X G nL g pc (a0 :: a1 :: a2 :: some (.long x) :: L) st := by
  obtain ⟨p, e, R, s, m, args, below, meth, c, Q, cells, slots⟩ := X
  obtain ⟨hx, hb, hml, hown, hts, hE, hc1, hc2, hfr, hlo⟩ := C
  intro H locs ls hP hS hl
  exact lv_lload_n hx hb hd rfl (lis_at hl 3 rfl) (k H locs ls hP hS hl)
theorem j_is3 (pc : Nat) {a0 a1 a2 : Option Value} {o : Option Value} {x : Int32} (C : CX X G own cc nL fr lo) (hd : decode cc pc = .ok (.istore_n 3, 1)) (hn : nlg a2 = true) (hk : 3 < nL) (k : J X G nL g (pc + 1) (a0 :: a1 :: a2 :: some (.int x) :: L) st) : J X G nL g pc (a0 :: a1 :: a2 :: o :: L) (.int x :: st) := by
  obtain ⟨p, e, R, s, m, args, below, meth, c, Q, cells, slots⟩ := X
  obtain ⟨hx, hb, hml, hown, hts, hE, hc1, hc2, hfr, hlo⟩ := C
  intro H locs ls hP hS hl
  refine lv_istore_n hx hb hd rfl hl hk rfl (fun ls' hl' => k H locs ls' hP hS (hl'.mono ?_))
  exact lis_set (L := (a0 :: a1 :: a2 :: o :: L)) (k := 3) (v := .int x) (fun j w hj hw => by
    obtain rfl : j = 2 := by omega
    obtain rfl : a2 = some w := Option.some.inj hw
    intro hc; simp [nlg, hc] at hn)
theorem j_as3 (pc : Nat) {a0 a1 a2 : Option Value} {o : Option Value} {x : Nat} (C : CX X G own cc nL fr lo) (hd : decode cc pc = .ok (.astore_n 3, 1)) (hn : nlg a2 = true) (hk : 3 < nL) (k : J X G nL g (pc + 1) (a0 :: a1 :: a2 :: some (.ref x) :: L) st) : J X G nL g pc (a0 :: a1 :: a2 :: o :: L) (.ref x :: st) := by
  obtain ⟨p, e, R, s, m, args, below, meth, c, Q, cells, slots⟩ := X
  obtain ⟨hx, hb, hml, hown, hts, hE, hc1, hc2, hfr, hlo⟩ := C
  intro H locs ls hP hS hl
  refine lv_astore_n hx hb hd rfl hl hk rfl (fun ls' hl' => k H locs ls' hP hS (hl'.mono ?_))
  exact lis_set (L := (a0 :: a1 :: a2 :: o :: L)) (k := 3) (v := .ref x) (fun j w hj hw => by
    obtain rfl : j = 2 := by omega
    obtain rfl : a2 = some w := Option.some.inj hw
    intro hc; simp [nlg, hc] at hn)
theorem j_inc3 (pc : Nat) {a0 a1 a2 : Option Value} {n : Int} {x v : Int32} (C : CX X G own cc nL fr lo) (hd : decode cc pc = .ok (.iinc 3 n, 3)) (hn : nlg a2 = true) (hv : x + Int32.ofInt n = v) (hk : 3 < nL) (k : J X G nL g (pc + 3) (a0 :: a1 :: a2 :: some (.int v) :: L) st) : J X G nL g pc (a0 :: a1 :: a2 :: some (.int x) :: L) st := by
  obtain ⟨p, e, R, s, m, args, below, meth, c, Q, cells, slots⟩ := X
  obtain ⟨hx, hb, hml, hown, hts, hE, hc1, hc2, hfr, hlo⟩ := C
  intro H locs ls hP hS hl
  obtain ⟨i9, hi9⟩ := List.getElem?_of_mem ((lis_mem (a0 :: a1 :: a2 :: some (.int x) :: L) 0 (3, .int x)).mpr ⟨Nat.zero_le _, rfl⟩)
  refine lv_iinc hx hb hd hl hi9 hv hk rfl (fun ls' hl' => k H locs ls' hP hS (hl'.mono ?_))
  exact lis_set (L := (a0 :: a1 :: a2 :: some (.int x) :: L)) (k := 3) (v := .int v) (fun j w hj hw => by
    obtain rfl : j = 2 := by omega
    obtain rfl : a2 = some w := Option.some.inj hw
    intro hc; simp [nlg, hc] at hn)
theorem j_il4 (pc : Nat) {a0 a1 a2 a3 : Option Value} {x : Int32} (C : CX X G own cc nL fr lo) (hd : decode cc pc = .ok (.iload 4, 2)) (k : J X G nL g (pc + 2) (a0 :: a1 :: a2 :: a3 :: some (.int x) :: L) (.int x :: st)) : J X G nL g pc (a0 :: a1 :: a2 :: a3 :: some (.int x) :: L) st := by
  obtain ⟨p, e, R, s, m, args, below, meth, c, Q, cells, slots⟩ := X
  obtain ⟨hx, hb, hml, hown, hts, hE, hc1, hc2, hfr, hlo⟩ := C
  intro H locs ls hP hS hl
  exact lv_iload hx hb hd (lis_at hl 4 rfl) (k H locs ls hP hS hl)
theorem j_al4 (pc : Nat) {a0 a1 a2 a3 : Option Value} {x : Nat} (C : CX X G own cc nL fr lo) (hd : decode cc pc = .ok (.aload 4, 2)) (k : J X G nL g (pc + 2) (a0 :: a1 :: a2 :: a3 :: some (.ref x) :: L) (.ref x :: st)) : J X G nL g pc (a0 :: a1 :: a2 :: a3 :: some (.ref x) :: L) st := by
  obtain ⟨p, e, R, s, m, args, below, meth, c, Q, cells, slots⟩ := X
  obtain ⟨hx, hb, hml, hown, hts, hE, hc1, hc2, hfr, hlo⟩ := C
  intro H locs ls hP hS hl
  exact lv_aload hx hb hd (lis_at hl 4 rfl) (k H locs ls hP hS hl)
theorem j_ll4 (pc : Nat) {a0 a1 a2 a3 : Option Value} {x : Int64} (C : CX X G own cc nL fr lo) (hd : decode cc pc = .ok (.lload 4, 2)) (k : J X G nL g (pc + 2) (a0 :: a1 :: a2 :: a3 :: some (.long x) :: L) (.long x :: st)) : J X G nL g pc (a0 :: a1 :: a2 :: a3 :: some (.long x) :: L) st := by
  obtain ⟨p, e, R, s, m, args, below, meth, c, Q, cells, slots⟩ := X
  obtain ⟨hx, hb, hml, hown, hts, hE, hc1, hc2, hfr, hlo⟩ := C
  intro H locs ls hP hS hl
  exact lv_lload hx hb hd (lis_at hl 4 rfl) (k H locs ls hP hS hl)
theorem j_is4 (pc : Nat) {a0 a1 a2 a3 : Option Value} {o : Option Value} {x : Int32} (C : CX X G own cc nL fr lo) (hd : decode cc pc = .ok (.istore 4, 2)) (hn : nlg a3 = true) (hk : 4 < nL) (k : J X G nL g (pc + 2) (a0 :: a1 :: a2 :: a3 :: some (.int x) :: L) st) : J X G nL g pc (a0 :: a1 :: a2 :: a3 :: o :: L) (.int x :: st) := by
  obtain ⟨p, e, R, s, m, args, below, meth, c, Q, cells, slots⟩ := X
  obtain ⟨hx, hb, hml, hown, hts, hE, hc1, hc2, hfr, hlo⟩ := C
  intro H locs ls hP hS hl
  refine lv_istore hx hb hd hl hk rfl (fun ls' hl' => k H locs ls' hP hS (hl'.mono ?_))
  exact lis_set (L := (a0 :: a1 :: a2 :: a3 :: o :: L)) (k := 4) (v := .int x) (fun j w hj hw => by
    obtain rfl : j = 3 := by omega
    obtain rfl : a3 = some w := Option.some.inj hw
    intro hc; simp [nlg, hc] at hn)
theorem j_as4 (pc : Nat) {a0 a1 a2 a3 : Option Value} {o : Option Value} {x : Nat} (C : CX X G own cc nL fr lo) (hd : decode cc pc = .ok (.astore 4, 2)) (hn : nlg a3 = true) (hk : 4 < nL) (k : J X G nL g (pc + 2) (a0 :: a1 :: a2 :: a3 :: some (.ref x) :: L) st) : J X G nL g pc (a0 :: a1 :: a2 :: a3 :: o :: L) (.ref x :: st) := by
  obtain ⟨p, e, R, s, m, args, below, meth, c, Q, cells, slots⟩ := X
  obtain ⟨hx, hb, hml, hown, hts, hE, hc1, hc2, hfr, hlo⟩ := C
  intro H locs ls hP hS hl
  refine lv_astore hx hb hd hl hk rfl (fun ls' hl' => k H locs ls' hP hS (hl'.mono ?_))
  exact lis_set (L := (a0 :: a1 :: a2 :: a3 :: o :: L)) (k := 4) (v := .ref x) (fun j w hj hw => by
    obtain rfl : j = 3 := by omega
    obtain rfl : a3 = some w := Option.some.inj hw
    intro hc; simp [nlg, hc] at hn)
theorem j_inc4 (pc : Nat) {a0 a1 a2 a3 : Option Value} {n : Int} {x v : Int32} (C : CX X G own cc nL fr lo) (hd : decode cc pc = .ok (.iinc 4 n, 3)) (hn : nlg a3 = true) (hv : x + Int32.ofInt n = v) (hk : 4 < nL) (k : J X G nL g (pc + 3) (a0 :: a1 :: a2 :: a3 :: some (.int v) :: L) st) : J X G nL g pc (a0 :: a1 :: a2 :: a3 :: some (.int x) :: L) st := by
  obtain ⟨p, e, R, s, m, args, below, meth, c, Q, cells, slots⟩ := X
  obtain ⟨hx, hb, hml, hown, hts, hE, hc1, hc2, hfr, hlo⟩ := C
  intro H locs ls hP hS hl
  obtain ⟨i9, hi9⟩ := List.getElem?_of_mem ((lis_mem (a0 :: a1 :: a2 :: a3 :: some (.int x) :: L) 0 (4, .int x)).mpr ⟨Nat.zero_le _, rfl⟩)
  refine lv_iinc hx hb hd hl hi9 hv hk rfl (fun ls' hl' => k H locs ls' hP hS (hl'.mono ?_))
  exact lis_set (L := (a0 :: a1 :: a2 :: a3 :: some (.int x) :: L)) (k := 4) (v := .int v) (fun j w hj hw => by
    obtain rfl : j = 3 := by omega
    obtain rfl : a3 = some w := Option.some.inj hw
    intro hc; simp [nlg, hc] at hn)
theorem j_il5 (pc : Nat) {a0 a1 a2 a3 a4 : Option Value} {x : Int32} (C : CX X G own cc nL fr lo) (hd : decode cc pc = .ok (.iload 5, 2)) (k : J X G nL g (pc + 2) (a0 :: a1 :: a2 :: a3 :: a4 :: some (.int x) :: L) (.int x :: st)) : J X G nL g pc (a0 :: a1 :: a2 :: a3 :: a4 :: some (.int x) :: L) st := by
  obtain ⟨p, e, R, s, m, args, below, meth, c, Q, cells, slots⟩ := X
  obtain ⟨hx, hb, hml, hown, hts, hE, hc1, hc2, hfr, hlo⟩ := C
  intro H locs ls hP hS hl
  exact lv_iload hx hb hd (lis_at hl 5 rfl) (k H locs ls hP hS hl)
theorem j_al5 (pc : Nat) {a0 a1 a2 a3 a4 : Option Value} {x : Nat} (C : CX X G own cc nL fr lo) (hd : decode cc pc = .ok (.aload 5, 2)) (k : J X G nL g (pc + 2) (a0 :: a1 :: a2 :: a3 :: a4 :: some (.ref x) :: L) (.ref x :: st)) : J X G nL g pc (a0 :: a1 :: a2 :: a3 :: a4 :: some (.ref x) :: L) st := by
  obtain ⟨p, e, R, s, m, args, below, meth, c, Q, cells, slots⟩ := X
  obtain ⟨hx, hb, hml, hown, hts, hE, hc1, hc2, hfr, hlo⟩ := C
  intro H locs ls hP hS hl
  exact lv_aload hx hb hd (lis_at hl 5 rfl) (k H locs ls hP hS hl)
theorem j_ll5 (pc : Nat) {a0 a1 a2 a3 a4 : Option Value} {x : Int64} (C : CX X G own cc nL fr lo) (hd : decode cc pc = .ok (.lload 5, 2)) (k : J X G nL g (pc + 2) (a0 :: a1 :: a2 :: a3 :: a4 :: some (.long x) :: L) (.long x :: st)) : J X G nL g pc (a0 :: a1 :: a2 :: a3 :: a4 :: some (.long x) :: L) st := by
  obtain ⟨p, e, R, s, m, args, below, meth, c, Q, cells, slots⟩ := X
  obtain ⟨hx, hb, hml, hown, hts, hE, hc1, hc2, hfr, hlo⟩ := C
  intro H locs ls hP hS hl
  exact lv_lload hx hb hd (lis_at hl 5 rfl) (k H locs ls hP hS hl)
theorem j_is5 (pc : Nat) {a0 a1 a2 a3 a4 : Option Value} {o : Option Value} {x : Int32} (C : CX X G own cc nL fr lo) (hd : decode cc pc = .ok (.istore 5, 2)) (hn : nlg a4 = true) (hk : 5 < nL) (k : J X G nL g (pc + 2) (a0 :: a1 :: a2 :: a3 :: a4 :: some (.int x) :: L) st) : J X G nL g pc (a0 :: a1 :: a2 :: a3 :: a4 :: o :: L) (.int x :: st) := by
  obtain ⟨p, e, R, s, m, args, below, meth, c, Q, cells, slots⟩ := X
  obtain ⟨hx, hb, hml, hown, hts, hE, hc1, hc2, hfr, hlo⟩ := C
  intro H locs ls hP hS hl
  refine lv_istore hx hb hd hl hk rfl (fun ls' hl' => k H locs ls' hP hS (hl'.mono ?_))
  exact lis_set (L := (a0 :: a1 :: a2 :: a3 :: a4 :: o :: L)) (k := 5) (v := .int x) (fun j w hj hw => by
    obtain rfl : j = 4 := by omega
    obtain rfl : a4 = some w := Option.some.inj hw
    intro hc; simp [nlg, hc] at hn)
theorem j_as5 (pc : Nat) {a0 a1 a2 a3 a4 : Option Value} {o : Option Value} {x : Nat} (C : CX X G own cc nL fr lo) (hd : decode cc pc = .ok (.astore 5, 2)) (hn : nlg a4 = true) (hk : 5 < nL) (k : J X G nL g (pc + 2) (a0 :: a1 :: a2 :: a3 :: a4 :: some (.ref x) :: L) st) : J X G nL g pc (a0 :: a1 :: a2 :: a3 :: a4 :: o :: L) (.ref x :: st) := by
  obtain ⟨p, e, R, s, m, args, below, meth, c, Q, cells, slots⟩ := X
  obtain ⟨hx, hb, hml, hown, hts, hE, hc1, hc2, hfr, hlo⟩ := C
  intro H locs ls hP hS hl
  refine lv_astore hx hb hd hl hk rfl (fun ls' hl' => k H locs ls' hP hS (hl'.mono ?_))
  exact lis_set (L := (a0 :: a1 :: a2 :: a3 :: a4 :: o :: L)) (k := 5) (v := .ref x) (fun j w hj hw => by
    obtain rfl : j = 4 := by omega
    obtain rfl : a4 = some w := Option.some.inj hw
    intro hc; simp [nlg, hc] at hn)
theorem j_inc5 (pc : Nat) {a0 a1 a2 a3 a4 : Option Value} {n : Int} {x v : Int32} (C : CX X G own cc nL fr lo) (hd : decode cc pc = .ok (.iinc 5 n, 3)) (hn : nlg a4 = true) (hv : x + Int32.ofInt n = v) (hk : 5 < nL) (k : J X G nL g (pc + 3) (a0 :: a1 :: a2 :: a3 :: a4 :: some (.int v) :: L) st) : J X G nL g pc (a0 :: a1 :: a2 :: a3 :: a4 :: some (.int x) :: L) st := by
  obtain ⟨p, e, R, s, m, args, below, meth, c, Q, cells, slots⟩ := X
  obtain ⟨hx, hb, hml, hown, hts, hE, hc1, hc2, hfr, hlo⟩ := C
  intro H locs ls hP hS hl
  obtain ⟨i9, hi9⟩ := List.getElem?_of_mem ((lis_mem (a0 :: a1 :: a2 :: a3 :: a4 :: some (.int x) :: L) 0 (5, .int x)).mpr ⟨Nat.zero_le _, rfl⟩)
  refine lv_iinc hx hb hd hl hi9 hv hk rfl (fun ls' hl' => k H locs ls' hP hS (hl'.mono ?_))
  exact lis_set (L := (a0 :: a1 :: a2 :: a3 :: a4 :: some (.int x) :: L)) (k := 5) (v := .int v) (fun j w hj hw => by
    obtain rfl : j = 4 := by omega
    obtain rfl : a4 = some w := Option.some.inj hw
    intro hc; simp [nlg, hc] at hn)
theorem j_il6 (pc : Nat) {a0 a1 a2 a3 a4 a5 : Option Value} {x : Int32} (C : CX X G own cc nL fr lo) (hd : decode cc pc = .ok (.iload 6, 2)) (k : J X G nL g (pc + 2) (a0 :: a1 :: a2 :: a3 :: a4 :: a5 :: some (.int x) :: L) (.int x :: st)) : J X G nL g pc (a0 :: a1 :: a2 :: a3 :: a4 :: a5 :: some (.int x) :: L) st := by
  obtain ⟨p, e, R, s, m, args, below, meth, c, Q, cells, slots⟩ := X
  obtain ⟨hx, hb, hml, hown, hts, hE, hc1, hc2, hfr, hlo⟩ := C
  intro H locs ls hP hS hl
  exact lv_iload hx hb hd (lis_at hl 6 rfl) (k H locs ls hP hS hl)
theorem j_al6 (pc : Nat) {a0 a1 a2 a3 a4 a5 : Option Value} {x : Nat} (C : CX X G own cc nL fr lo) (hd : decode cc pc = .ok (.aload 6, 2)) (k : J X G nL g (pc + 2) (a0 :: a1 :: a2 :: a3 :: a4 :: a5 :: some (.ref x) :: L) (.ref x :: st)) : J X G nL g pc (a0 :: a1 :: a2 :: a3 :: a4 :: a5 :: some (.ref x) :: L) st := by
  obtain ⟨p, e, R, s, m, args, below, meth, c, Q, cells, slots⟩ := X
  obtain ⟨hx, hb, hml, hown, hts, hE, hc1, hc2, hfr, hlo⟩ := C
  intro H locs ls hP hS hl
  exact lv_aload hx hb hd (lis_at hl 6 rfl) (k H locs ls hP hS hl)
theorem j_ll6 (pc : Nat) {a0 a1 a2 a3 a4 a5 : Option Value} {x : Int64} (C : CX X G own cc nL fr lo) (hd : decode cc pc = .ok (.lload 6, 2)) (k : J X G nL g (pc + 2) (a0 :: a1 :: a2 :: a3 :: a4 :: a5 :: some (.long x) :: L) (.long x :: st)) : J X G nL g pc (a0 :: a1 :: a2 :: a3 :: a4 :: a5 :: some (.long x) :: L) st := by
  obtain ⟨p, e, R, s, m, args, below, meth, c, Q, cells, slots⟩ := X
  obtain ⟨hx, hb, hml, hown, hts, hE, hc1, hc2, hfr, hlo⟩ := C
  intro H locs ls hP hS hl
  exact lv_lload hx hb hd (lis_at hl 6 rfl) (k H locs ls hP hS hl)
theorem j_is6 (pc : Nat) {a0 a1 a2 a3 a4 a5 : Option Value} {o : Option Value} {x : Int32} (C : CX X G own cc nL fr lo) (hd : decode cc pc = .ok (.istore 6, 2)) (hn : nlg a5 = true) (hk : 6 < nL) (k : J X G nL g (pc + 2) (a0 :: a1 :: a2 :: a3 :: a4 :: a5 :: some (.int x) :: L) st) : J X G nL g pc (a0 :: a1 :: a2 :: a3 :: a4 :: a5 :: o :: L) (.int x :: st) := by
  obtain ⟨p, e, R, s, m, args, below, meth, c, Q, cells, slots⟩ := X
  obtain ⟨hx, hb, hml, hown, hts, hE, hc1, hc2, hfr, hlo⟩ := C
  intro H locs ls hP hS hl
  refine lv_istore hx hb hd hl hk rfl (fun ls' hl' => k H locs ls' hP hS (hl'.mono ?_))
  exact lis_set (L := (a0 :: a1 :: a2 :: a3 :: a4 :: a5 :: o :: L)) (k := 6) (v := .int x) (fun j w hj hw => by
    obtain rfl : j = 5 := by omega
    obtain rfl : a5 = some w := Option.some.inj hw
    intro hc; simp [nlg, hc] at hn)
theorem j_as6 (pc : Nat) {a0 a1 a2 a3 a4 a5 : Option Value} {o : Option Value} {x : Nat} (C : CX X G own cc nL fr lo) (hd : decode cc pc = .ok (.astore 6, 2)) (hn : nlg a5 = true) (hk : 6 < nL) (k : J X G nL g (pc + 2) (a0 :: a1 :: a2 :: a3 :: a4 :: a5 :: some (.ref x) :: L) st) : J X G nL g pc (a0 :: a1 :: a2 :: a3 :: a4 :: a5 :: o :: L) (.ref x :: st) := by
  obtain ⟨p, e, R, s, m, args, below, meth, c, Q, cells, slots⟩ := X
  obtain ⟨hx, hb, hml, hown, hts, hE, hc1, hc2, hfr, hlo⟩ := C
  intro H locs ls hP hS hl
  refine lv_astore hx hb hd hl hk rfl (fun ls' hl' => k H locs ls' hP hS (hl'.mono ?_))
  exact lis_set (L := (a0 :: a1 :: a2 :: a3 :: a4 :: a5 :: o :: L)) (k := 6) (v := .ref x) (fun j w hj hw => by
    obtain rfl : j = 5 := by omega
    obtain rfl : a5 = some w := Option.some.inj hw
    intro hc; simp [nlg, hc] at hn)
theorem j_inc6 (pc : Nat) {a0 a1 a2 a3 a4 a5 : Option Value} {n : Int} {x v : Int32} (C : CX X G own cc nL fr lo) (hd : decode cc pc = .ok (.iinc 6 n, 3)) (hn : nlg a5 = true) (hv : x + Int32.ofInt n = v) (hk : 6 < nL) (k : J X G nL g (pc + 3) (a0 :: a1 :: a2 :: a3 :: a4 :: a5 :: some (.int v) :: L) st) : J X G nL g pc (a0 :: a1 :: a2 :: a3 :: a4 :: a5 :: some (.int x) :: L) st := by
  obtain ⟨p, e, R, s, m, args, below, meth, c, Q, cells, slots⟩ := X
  obtain ⟨hx, hb, hml, hown, hts, hE, hc1, hc2, hfr, hlo⟩ := C
  intro H locs ls hP hS hl
  obtain ⟨i9, hi9⟩ := List.getElem?_of_mem ((lis_mem (a0 :: a1 :: a2 :: a3 :: a4 :: a5 :: some (.int x) :: L) 0 (6, .int x)).mpr ⟨Nat.zero_le _, rfl⟩)
  refine lv_iinc hx hb hd hl hi9 hv hk rfl (fun ls' hl' => k H locs ls' hP hS (hl'.mono ?_))
  exact lis_set (L := (a0 :: a1 :: a2 :: a3 :: a4 :: a5 :: some (.int x) :: L)) (k := 6) (v := .int v) (fun j w hj hw => by
    obtain rfl : j = 5 := by omega
    obtain rfl : a5 = some w := Option.some.inj hw
    intro hc; simp [nlg, hc] at hn)
theorem j_il7 (pc : Nat) {a0 a1 a2 a3 a4 a5 a6 : Option Value} {x : Int32} (C : CX X G own cc nL fr lo) (hd : decode cc pc = .ok (.iload 7, 2)) (k : J X G nL g (pc + 2) (a0 :: a1 :: a2 :: a3 :: a4 :: a5 :: a6 :: some (.int x) :: L) (.int x :: st)) : J X G nL g pc (a0 :: a1 :: a2 :: a3 :: a4 :: a5 :: a6 :: some (.int x) :: L) st := by
  obtain ⟨p, e, R, s, m, args, below, meth, c, Q, cells, slots⟩ := X
  obtain ⟨hx, hb, hml, hown, hts, hE, hc1, hc2, hfr, hlo⟩ := C
  intro H locs ls hP hS hl
  exact lv_iload hx hb hd (lis_at hl 7 rfl) (k H locs ls hP hS hl)
theorem j_al7 (pc : Nat) {a0 a1 a2 a3 a4 a5 a6 : Option Value} {x : Nat} (C : CX X G own cc nL fr lo) (hd : decode cc pc = .ok (.aload 7, 2)) (k : J X G nL g (pc + 2) (a0 :: a1 :: a2 :: a3 :: a4 :: a5 :: a6 :: some (.ref x) :: L) (.ref x :: st)) : J X G nL g pc (a0 :: a1 :: a2 :: a3 :: a4 :: a5 :: a6 :: some (.ref x) :: L) st := by
  obtain ⟨p, e, R, s, m, args, below, meth, c, Q, cells, slots⟩ := X
  obtain ⟨hx, hb, hml, hown, hts, hE, hc1, hc2, hfr, hlo⟩ := C
  intro H locs ls hP hS hl
  exact lv_aload hx hb hd (lis_at hl 7 rfl) (k H locs ls hP hS hl)
theorem j_ll7 (pc : Nat) {a0 a1 a2 a3 a4 a5 a6 : Option Value} {x : Int64} (C : CX X G own cc nL fr lo) (hd : decode cc pc = .ok (.lload 7, 2)) (k : J X G nL g (pc + 2) (a0 :: a1 :: a2 :: a3 :: a4 :: a5 :: a6 :: some (.long x) :: L) (.long x :: st)) : J X G nL g pc (a0 :: a1 :: a2 :: a3 :: a4 :: a5 :: a6 :: some (.long x) :: L) st := by
  obtain ⟨p, e, R, s, m, args, below, meth, c, Q, cells, slots⟩ := X
  obtain ⟨hx, hb, hml, hown, hts, hE, hc1, hc2, hfr, hlo⟩ := C
  intro H locs ls hP hS hl
  exact lv_lload hx hb hd (lis_at hl 7 rfl) (k H locs ls hP hS hl)
theorem j_is7 (pc : Nat) {a0 a1 a2 a3 a4 a5 a6 : Option Value} {o : Option Value} {x : Int32} (C : CX X G own cc nL fr lo) (hd : decode cc pc = .ok (.istore 7, 2)) (hn : nlg a6 = true) (hk : 7 < nL) (k : J X G nL g (pc + 2) (a0 :: a1 :: a2 :: a3 :: a4 :: a5 :: a6 :: some (.int x) :: L) st) : J X G nL g pc (a0 :: a1 :: a2 :: a3 :: a4 :: a5 :: a6 :: o :: L) (.int x :: st) := by
  obtain ⟨p, e, R, s, m, args, below, meth, c, Q, cells, slots⟩ := X
  obtain ⟨hx, hb, hml, hown, hts, hE, hc1, hc2, hfr, hlo⟩ := C
  intro H locs ls hP hS hl
  refine lv_istore hx hb hd hl hk rfl (fun ls' hl' => k H locs ls' hP hS (hl'.mono ?_))
  exact lis_set (L := (a0 :: a1 :: a2 :: a3 :: a4 :: a5 :: a6 :: o :: L)) (k := 7) (v := .int x) (fun j w hj hw => by
    obtain rfl : j = 6 := by omega
    obtain rfl : a6 = some w := Option.some.inj hw
    intro hc; simp [nlg, hc] at hn)
theorem j_as7 (pc : Nat) {a0 a1 a2 a3 a4 a5 a6 : Option Value} {o : Option Value} {x : Nat} (C : CX X G own cc nL fr lo) (hd : decode cc pc = .ok (.astore 7, 2)) (hn : nlg a6 = true) (hk : 7 < nL) (k : J X G nL g (pc + 2) (a0 :: a1 :: a2 :: a3 :: a4 :: a5 :: a6 :: some (.ref x) :: L) st) : J X G nL g pc (a0 :: a1 :: a2 :: a3 :: a4 :: a5 :: a6 :: o :: L) (.ref x :: st) := by
  obtain ⟨p, e, R, s, m, args, below, meth, c, Q, cells, slots⟩ := X
  obtain ⟨hx, hb, hml, hown, hts, hE, hc1, hc2, hfr, hlo⟩ := C
  intro H locs ls hP hS hl
  refine lv_astore hx hb hd hl hk rfl (fun ls' hl' => k H locs ls' hP hS (hl'.mono ?_))
  exact lis_set (L := (a0 :: a1 :: a2 :: a3 :: a4 :: a5 :: a6 :: o :: L)) (k := 7) (v := .ref x) (fun j w hj hw => by
    obtain rfl : j = 6 := by omega
    obtain rfl : a6 = some w := Option.some.inj hw
    intro hc; simp [nlg, hc] at hn)
theorem j_inc7 (pc : Nat) {a0 a1 a2 a3 a4 a5 a6 : Option Value} {n : Int} {x v : Int32} (C : CX X G own cc nL fr lo) (hd : decode cc pc = .ok (.iinc 7 n, 3)) (hn : nlg a6 = true) (hv : x + Int32.ofInt n = v) (hk : 7 < nL) (k : J X G nL g (pc + 3) (a0 :: a1 :: a2 :: a3 :: a4 :: a5 :: a6 :: some (.int v) :: L) st) : J X G nL g pc (a0 :: a1 :: a2 :: a3 :: a4 :: a5 :: a6 :: some (.int x) :: L) st := by
  obtain ⟨p, e, R, s, m, args, below, meth, c, Q, cells, slots⟩ := X
  obtain ⟨hx, hb, hml, hown, hts, hE, hc1, hc2, hfr, hlo⟩ := C
  intro H locs ls hP hS hl
  obtain ⟨i9, hi9⟩ := List.getElem?_of_mem ((lis_mem (a0 :: a1 :: a2 :: a3 :: a4 :: a5 :: a6 :: some (.int x) :: L) 0 (7, .int x)).mpr ⟨Nat.zero_le _, rfl⟩)
  refine lv_iinc hx hb hd hl hi9 hv hk rfl (fun ls' hl' => k H locs ls' hP hS (hl'.mono ?_))
  exact lis_set (L := (a0 :: a1 :: a2 :: a3 :: a4 :: a5 :: a6 :: some (.int x) :: L)) (k := 7) (v := .int v) (fun j w hj hw => by
    obtain rfl : j = 6 := by omega
    obtain rfl : a6 = some w := Option.some.inj hw
    intro hc; simp [nlg, hc] at hn)
theorem j_il8 (pc : Nat) {a0 a1 a2 a3 a4 a5 a6 a7 : Option Value} {x : Int32} (C : CX X G own cc nL fr lo) (hd : decode cc pc = .ok (.iload 8, 2)) (k : J X G nL g (pc + 2) (a0 :: a1 :: a2 :: a3 :: a4 :: a5 :: a6 :: a7 :: some (.int x) :: L) (.int x :: st)) : J X G nL g pc (a0 :: a1 :: a2 :: a3 :: a4 :: a5 :: a6 :: a7 :: some (.int x) :: L) st := by
  obtain ⟨p, e, R, s, m, args, below, meth, c, Q, cells, slots⟩ := X
  obtain ⟨hx, hb, hml, hown, hts, hE, hc1, hc2, hfr, hlo⟩ := C
  intro H locs ls hP hS hl
  exact lv_iload hx hb hd (lis_at hl 8 rfl) (k H locs ls hP hS hl)
theorem j_al8 (pc : Nat) {a0 a1 a2 a3 a4 a5 a6 a7 : Option Value} {x : Nat} (C : CX X G own cc nL fr lo) (hd : decode cc pc = .ok (.aload 8, 2)) (k : J X G nL g (pc + 2) (a0 :: a1 :: a2 :: a3 :: a4 :: a5 :: a6 :: a7 :: some (.ref x) :: L) (.ref x :: st)) : J X G nL g pc (a0 :: a1 :: a2 :: a3 :: a4 :: a5 :: a6 :: a7 :: some (.ref x) :: L) st := by
  obtain ⟨p, e, R, s, m, args, below, meth, c, Q, cells, slots⟩ := X
  obtain ⟨hx, hb, hml, hown, hts, hE, hc1, hc2, hfr, hlo⟩ := C
  intro H locs ls hP hS hl
  exact lv_aload hx hb hd (lis_at hl 8 rfl) (k H locs ls hP hS hl)
theorem j_ll8 (pc : Nat) {a0 a1 a2 a3 a4 a5 a6 a7 : Option Value} {x : Int64} (C : CX X G own cc nL fr lo) (hd : decode cc pc = .ok (.lload 8, 2)) (k : J X G nL g (pc + 2) (a0 :: a1 :: a2 :: a3 :: a4 :: a5 :: a6 :: a7 :: some (.long x) :: L) (.long x :: st)) : J X G nL g pc (a0 :: a1 :: a2 :: a3 :: a4 :: a5 :: a6 :: a7 :: some (.long x) :: L) st := by
  obtain ⟨p, e, R, s, m, args, below, meth, c, Q, cells, slots⟩ := X
  obtain ⟨hx, hb, hml, hown, hts, hE, hc1, hc2, hfr, hlo⟩ := C
  intro H locs ls hP hS hl
  exact lv_lload hx hb hd (lis_at hl 8 rfl) (k H locs ls hP hS hl)
theorem j_is8 (pc : Nat) {a0 a1 a2 a3 a4 a5 a6 a7 : Option Value} {o : Option Value} {x : Int32} (C : CX X G own cc nL fr lo) (hd : decode cc pc = .ok (.istore 8, 2)) (hn : nlg a7 = true) (hk : 8 < nL) (k : J X G nL g (pc + 2) (a0 :: a1 :: a2 :: a3 :: a4 :: a5 :: a6 :: a7 :: some (.int x) :: L) st) : J X G nL g pc (a0 :: a1 :: a2 :: a3 :: a4 :: a5 :: a6 :: a7 :: o :: L) (.int x :: st) := by
  obtain ⟨p, e, R, s, m, args, below, meth, c, Q, cells, slots⟩ := X
  obtain ⟨hx, hb, hml, hown, hts, hE, hc1, hc2, hfr, hlo⟩ := C
  intro H locs ls hP hS hl
  refine lv_istore hx hb hd hl hk rfl (fun ls' hl' => k H locs ls' hP hS (hl'.mono ?_))
  exact lis_set (L := (a0 :: a1 :: a2 :: a3 :: a4 :: a5 :: a6 :: a7 :: o :: L)) (k := 8) (v := .int x) (fun j w hj hw => by
    obtain rfl : j = 7 := by omega
    obtain rfl : a7 = some w := Option.some.inj hw
    intro hc; simp [nlg, hc] at hn)
theorem j_as8 (pc : Nat) {a0 a1 a2 a3 a4 a5 a6 a7 : Option Value} {o : Option Value} {x : Nat} (C : CX X G own cc nL fr lo) (hd : decode cc pc = .ok (.astore 8, 2)) (hn : nlg a7 = true) (hk : 8 < nL) (k : J X G nL g (pc + 2) (a0 :: a1 :: a2 :: a3 :: a4 :: a5 :: a6 :: a7 :: some (.ref x) :: L) st) : J X G nL g pc (a0 :: a1 :: a2 :: a3 :: a4 :: a5 :: a6 :: a7 :: o :: L) (.ref x :: st) := by
  obtain ⟨p, e, R, s, m, args, below, meth, c, Q, cells, slots⟩ := X
  obtain ⟨hx, hb, hml, hown, hts, hE, hc1, hc2, hfr, hlo⟩ := C
  intro H locs ls hP hS hl
  refine lv_astore hx hb hd hl hk rfl (fun ls' hl' => k H locs ls' hP hS (hl'.mono ?_))
  exact lis_set (L := (a0 :: a1 :: a2 :: a3 :: a4 :: a5 :: a6 :: a7 :: o :: L)) (k := 8) (v := .ref x) (fun j w hj hw => by
    obtain rfl : j = 7 := by omega
    obtain rfl : a7 = some w := Option.some.inj hw
    intro hc; simp [nlg, hc] at hn)
theorem j_inc8 (pc : Nat) {a0 a1 a2 a3 a4 a5 a6 a7 : Option Value} {n : Int} {x v : Int32} (C : CX X G own cc nL fr lo) (hd : decode cc pc = .ok (.iinc 8 n, 3)) (hn : nlg a7 = true) (hv : x + Int32.ofInt n = v) (hk : 8 < nL) (k : J X G nL g (pc + 3) (a0 :: a1 :: a2 :: a3 :: a4 :: a5 :: a6 :: a7 :: some (.int v) :: L) st) : J X G nL g pc (a0 :: a1 :: a2 :: a3 :: a4 :: a5 :: a6 :: a7 :: some (.int x) :: L) st := by
  obtain ⟨p, e, R, s, m, args, below, meth, c, Q, cells, slots⟩ := X
  obtain ⟨hx, hb, hml, hown, hts, hE, hc1, hc2, hfr, hlo⟩ := C
  intro H locs ls hP hS hl
  obtain ⟨i9, hi9⟩ := List.getElem?_of_mem ((lis_mem (a0 :: a1 :: a2 :: a3 :: a4 :: a5 :: a6 :: a7 :: some (.int x) :: L) 0 (8, .int x)).mpr ⟨Nat.zero_le _, rfl⟩)
  refine lv_iinc hx hb hd hl hi9 hv hk rfl (fun ls' hl' => k H locs ls' hP hS (hl'.mono ?_))
  exact lis_set (L := (a0 :: a1 :: a2 :: a3 :: a4 :: a5 :: a6 :: a7 :: some (.int x) :: L)) (k := 8) (v := .int v) (fun j w hj hw => by
    obtain rfl : j = 7 := by omega
    obtain rfl : a7 = some w := Option.some.inj hw
    intro hc; simp [nlg, hc] at hn)
theorem j_il9 (pc : Nat) {a0 a1 a2 a3 a4 a5 a6 a7 a8 : Option Value} {x : Int32} (C : CX X G own cc nL fr lo) (hd : decode cc pc = .ok (.iload 9, 2)) (k : J X G nL g (pc + 2) (a0 :: a1 :: a2 :: a3 :: a4 :: a5 :: a6 :: a7 :: a8 :: some (.int x) :: L) (.int x :: st)) : J X G nL g pc (a0 :: a1 :: a2 :: a3 :: a4 :: a5 :: a6 :: a7 :: a8 :: some (.int x) :: L) st := by
  obtain ⟨p, e, R, s, m, args, below, meth, c, Q, cells, slots⟩ := X
  obtain ⟨hx, hb, hml, hown, hts, hE, hc1, hc2, hfr, hlo⟩ := C
  intro H locs ls hP hS hl
  exact lv_iload hx hb hd (lis_at hl 9 rfl) (k H locs ls hP hS hl)
theorem j_al9 (pc : Nat) {a0 a1 a2 a3 a4 a5 a6 a7 a8 : Option Value} {x : Nat} (C : CX X G own cc nL fr lo) (hd : decode cc pc = .ok (.aload 9, 2)) (k : J X G nL g (pc + 2) (a0 :: a1 :: a2 :: a3 :: a4 :: a5 :: a6 :: a7 :: a8 :: some (.ref x) :: L) (.ref x :: st)) : J X G nL g pc (a0 :: a1 :: a2 :: a3 :: a4 :: a5 :: a6 :: a7 :: a8 :: some (.ref x) :: L) st := by
  obtain ⟨p, e, R, s, m, args, below, meth, c, Q, cells, slots⟩ := X
  obtain ⟨hx, hb, hml, hown, hts, hE, hc1, hc2, hfr, hlo⟩ := C
  intro H locs ls hP hS hl
  exact lv_aload hx hb hd (lis_at hl 9 rfl) (k H locs ls hP hS hl)
theorem j_ll9 (pc : Nat) {a0 a1 a2 a3 a4 a5 a6 a7 a8 : Option Value} {x : Int64} (C : CX X G own cc nL fr lo) (hd : decode cc pc = .ok (.lload 9, 2)) (k : J X G nL g (pc + 2) (a0 :: a1 :: a2 :: a3 :: a4 :: a5 :: a6 :: a7 :: a8 :: some (.long x) :: L) (.long x :: st)) : J X G nL g pc (a0 :: a1 :: a2 :: a3 :: a4 :: a5 :: a6 :: a7 :: a8 :: some (.long x) :: L) st := by
  obtain ⟨p, e, R, s, m, args, below, meth, c, Q, cells, slots⟩ := X
  obtain ⟨hx, hb, hml, hown, hts, hE, hc1, hc2, hfr, hlo⟩ := C
  intro H locs ls hP hS hl
  exact lv_lload hx hb hd (lis_at hl 9 rfl) (k H locs ls hP hS hl)
theorem j_is9 (pc : Nat) {a0 a1 a2 a3 a4 a5 a6 a7 a8 : Option Value} {o : Option Value} {x : Int32} (C : CX X G own cc nL fr lo) (hd : decode cc pc = .ok (.istore 9, 2)) (hn : nlg a8 = true) (hk : 9 < nL) (k : J X G nL g (pc + 2) (a0 :: a1 :: a2 :: a3 :: a4 :: a5 :: a6 :: a7 :: a8 :: some (.int x) :: L) st) : J X G nL g pc (a0 :: a1 :: a2 :: a3 :: a4 :: a5 :: a6 :: a7 :: a8 :: o :: L) (.int x :: st) := by
  obtain ⟨p, e, R, s, m, args, below, meth, c, Q, cells, slots⟩ := X
  obtain ⟨hx, hb, hml, hown, hts, hE, hc1, hc2, hfr, hlo⟩ := C
  intro H locs ls hP hS hl
  refine lv_istore hx hb hd hl hk rfl (fun ls' hl' => k H locs ls' hP hS (hl'.mono ?_))
  exact lis_set (L := (a0 :: a1 :: a2 :: a3 :: a4 :: a5 :: a6 :: a7 :: a8 :: o :: L)) (k := 9) (v := .int x) (fun j w hj hw => by
    obtain rfl : j = 8 := by omega
    obtain rfl : a8 = some w := Option.some.inj hw
    intro hc; simp [nlg, hc] at hn)
theorem j_as9 (pc : Nat) {a0 a1 a2 a3 a4 a5 a6 a7 a8 : Option Value} {o : Option Value} {x : Nat} (C : CX X G own cc nL fr lo) (hd : decode cc pc = .ok (.astore 9, 2)) (hn : nlg a8 = true) (hk : 9 < nL) (k : J X G nL g (pc + 2) (a0 :: a1 :: a2 :: a3 :: a4 :: a5 :: a6 :: a7 :: a8 :: some (.ref x) :: L) st) : J X G nL g pc (a0 :: a1 :: a2 :: a3 :: a4 :: a5 :: a6 :: a7 :: a8 :: o :: L) (.ref x :: st) := by
  obtain ⟨p, e, R, s, m, args, below, meth, c, Q, cells, slots⟩ := X
  obtain ⟨hx, hb, hml, hown, hts, hE, hc1, hc2, hfr, hlo⟩ := C
  intro H locs ls hP hS hl
  refine lv_astore hx hb hd hl hk rfl (fun ls' hl' => k H locs ls' hP hS (hl'.mono ?_))
  exact lis_set (L := (a0 :: a1 :: a2 :: a3 :: a4 :: a5 :: a6 :: a7 :: a8 :: o :: L)) (k := 9) (v := .ref x) (fun j w hj hw => by
    obtain rfl : j = 8 := by omega
    obtain rfl : a8 = some w := Option.some.inj hw
    intro hc; simp [nlg, hc] at hn)
theorem j_inc9 (pc : Nat) {a0 a1 a2 a3 a4 a5 a6 a7 a8 : Option Value} {n : Int} {x v : Int32} (C : CX X G own cc nL fr lo) (hd : decode cc pc = .ok (.iinc 9 n, 3)) (hn : nlg a8 = true) (hv : x + Int32.ofInt n = v) (hk : 9 < nL) (k : J X G nL g (pc + 3) (a0 :: a1 :: a2 :: a3 :: a4 :: a5 :: a6 :: a7 :: a8 :: some (.int v) :: L) st) : J X G nL g pc (a0 :: a1 :: a2 :: a3 :: a4 :: a5 :: a6 :: a7 :: a8 :: some (.int x) :: L) st := by
  obtain ⟨p, e, R, s, m, args, below, meth, c, Q, cells, slots⟩ := X
  obtain ⟨hx, hb, hml, hown, hts, hE, hc1, hc2, hfr, hlo⟩ := C
  intro H locs ls hP hS hl
  obtain ⟨i9, hi9⟩ := List.getElem?_of_mem ((lis_mem (a0 :: a1 :: a2 :: a3 :: a4 :: a5 :: a6 :: a7 :: a8 :: some (.int x) :: L) 0 (9, .int x)).mpr ⟨Nat.zero_le _, rfl⟩)
  refine lv_iinc hx hb hd hl hi9 hv hk rfl (fun ls' hl' => k H locs ls' hP hS (hl'.mono ?_))
  exact lis_set (L := (a0 :: a1 :: a2 :: a3 :: a4 :: a5 :: a6 :: a7 :: a8 :: some (.int x) :: L)) (k := 9) (v := .int v) (fun j w hj hw => by
    obtain rfl : j = 8 := by omega
    obtain rfl : a8 = some w := Option.some.inj hw
    intro hc; simp [nlg, hc] at hn)
theorem j_ls0 (pc : Nat)  {o o2 : Option Value} {x : Int64} (C : CX X G own cc nL fr lo) (hd : decode cc pc = .ok (.lstore_n 0, 1)) (hk : 0 + 1 < nL) (k : J X G nL g (pc + 1) (some (.long x) :: none :: L) st) : J X G nL g pc (o :: o2 :: L) (.long x :: st) := by
  obtain ⟨p, e, R, s, m, args, below, meth, c, Q, cells, slots⟩ := X
  obtain ⟨hx, hb, hml, hown, hts, hE, hc1, hc2, hfr, hlo⟩ := C
  intro H locs ls hP hS hl
  refine lv_lstore_n hx hb hd rfl hl hk rfl (fun ls' hl' => k H locs ls' hP hS (hl'.mono ?_))
  intro q hq
  obtain ⟨-, h⟩ := (lis_mem _ 0 q).mp hq
  rw [Nat.sub_zero] at h
  by_cases hk1 : q.1 = 0
  · rw [hk1] at h
    rw [List.mem_cons]; left
    exact Prod.ext hk1 (Option.some.inj (Option.some.inj h)).symm
  · by_cases hk2 : q.1 = 1
    · rw [hk2] at h
      cases Option.some.inj h
    · refine List.mem_cons_of_mem _ (List.mem_filter.mpr ⟨(lis_mem _ 0 q).mpr ⟨Nat.zero_le _, ?_⟩, ?_⟩)
      · rw [Nat.sub_zero]
        have e : (o :: o2 :: L)[q.1]? = (((some (.long x) :: none :: L).set 0 o).set 1 o2)[q.1]? := rfl
        rw [e, List.getElem?_set_ne (Ne.symm hk2), List.getElem?_set_ne (Ne.symm hk1)]; exact h
      · have h3 : (q.1 == 0) = false := by simpa using hk1
        have h4 : (q.1 == 0 + 1) = false := by simpa using hk2
        show (!(q.1 == 0) && (!(q.1 == 0 + 1) && !(q.1 + 1 == 0 && q.2.category == 2))) = true
        rw [h3, h4]
        by_cases e : q.1 + 1 = 0
        · omega
        · rw [beq_eq_false_iff_ne.mpr e]
          rfl
theorem j_ls1 (pc : Nat) {a0 : Option Value} {o o2 : Option Value} {x : Int64} (C : CX X G own cc nL fr lo) (hd : decode cc pc = .ok (.lstore_n 1, 1)) (hn : nlg a0 = true) (hk : 1 + 1 < nL) (k : J X G nL g (pc + 1) (a0 :: some (.long x) :: none :: L) st) : J X G nL g pc (a0 :: o :: o2 :: L) (.long x :: st) := by
  obtain ⟨p, e, R, s, m, args, below, meth, c, Q, cells, slots⟩ := X
  obtain ⟨hx, hb, hml, hown, hts, hE, hc1, hc2, hfr, hlo⟩ := C
  intro H locs ls hP hS hl
  refine lv_lstore_n hx hb hd rfl hl hk rfl (fun ls' hl' => k H locs ls' hP hS (hl'.mono ?_))
  intro q hq
  obtain ⟨-, h⟩ := (lis_mem _ 0 q).mp hq
  rw [Nat.sub_zero] at h
  by_cases hk1 : q.1 = 1
  · rw [hk1] at h
    rw [List.mem_cons]; left
    exact Prod.ext hk1 (Option.some.inj (Option.some.inj h)).symm
  · by_cases hk2 : q.1 = 2
    · rw [hk2] at h
      cases Option.some.inj h
    · refine List.mem_cons_of_mem _ (List.mem_filter.mpr ⟨(lis_mem _ 0 q).mpr ⟨Nat.zero_le _, ?_⟩, ?_⟩)
      · rw [Nat.sub_zero]
        have e : (a0 :: o :: o2 :: L)[q.1]? = (((a0 :: some (.long x) :: none :: L).set 1 o).set 2 o2)[q.1]? := rfl
        rw [e, List.getElem?_set_ne (Ne.symm hk2), List.getElem?_set_ne (Ne.symm hk1)]; exact h
      · have h3 : (q.1 == 1) = false := by simpa using hk1
        have h4 : (q.1 == 1 + 1) = false := by simpa using hk2
        show (!(q.1 == 1) && (!(q.1 == 1 + 1) && !(q.1 + 1 == 1 && q.2.category == 2))) = true
        rw [h3, h4]
        by_cases e : q.1 + 1 = 1
        · obtain rfl : a0 = some q.2 := by
            have e9 : q.1 = 0 := by omega
            rw [e9] at h
            exact Option.some.inj h
          have hc : q.2.category ≠ 2 := by intro hc; simp [nlg, hc] at hn
          simp [hc]
        · rw [beq_eq_false_iff_ne.mpr e]
          rfl
theorem j_ls2 (pc : Nat) {a0 a1 : Option Value} {o o2 : Option Value} {x : Int64} (C : CX X G own cc nL fr lo) (hd : decode cc pc = .ok (.lstore_n 2, 1)) (hn : nlg a1 = true) (hk : 2 + 1 < nL) (k : J X G nL g (pc + 1) (a0 :: a1 :: some (.long x) :: none :: L) st) : J X G nL g pc (a0 :: a1 :: o :: o2 :: L) (.long x :: st) := by
  obtain ⟨p, e, R, s, m, args, below, meth, c, Q, cells, slots⟩ := X
  obtain ⟨hx, hb, hml, hown, hts, hE, hc1, hc2, hfr, hlo⟩ := C
  intro H locs ls hP hS hl
  refine lv_lstore_n hx hb hd rfl hl hk rfl (fun ls' hl' => k H locs ls' hP hS (hl'.mono ?_))
  intro q hq
  obtain ⟨-, h⟩ := (lis_mem _ 0 q).mp hq
  rw [Nat.sub_zero] at h
  by_cases hk1 : q.1 = 2
  · rw [hk1] at h
    rw [List.mem_cons]; left
    exact Prod.ext hk1 (Option.some.inj (Option.some.inj h)).symm
  · by_cases hk2 : q.1 = 3
    · rw [hk2] at h
      cases Option.some.inj h
    · refine List.mem_cons_of_mem _ (List.mem_filter.mpr ⟨(lis_mem _ 0 q).mpr ⟨Nat.zero_le _, ?_⟩, ?_⟩)
      · rw [Nat.sub_zero]
        have e : (a0 :: a1 :: o :: o2 :: L)[q.1]? = (((a0 :: a1 :: some (.long x) :: none :: L).set 2 o).set 3 o2)[q.1]? := rfl
        rw [e, List.getElem?_set_ne (Ne.symm hk2), List.getElem?_set_ne (Ne.symm hk1)]; exact h
      · have h3 : (q.1 == 2) = false := by simpa using hk1
        have h4 : (q.1 == 2 + 1) = false := by simpa using hk2
        show (!(q.1 == 2) && (!(q.1 == 2 + 1) && !(q.1 + 1 == 2 && q.2.category == 2))) = true
        rw [h3, h4]
        by_cases e : q.1 + 1 = 2
        · obtain rfl : a1 = some q.2 := by
            have e9 : q.1 = 1 := by omega
            rw [e9] at h
            exact Option.some.inj h
          have hc : q.2.category ≠ 2 := by intro hc; simp [nlg, hc] at hn
          simp [hc]
        · rw [beq_eq_false_iff_ne.mpr e]
          rfl
theorem j_ls3 (pc : Nat) {a0 a1 a2 : Option Value} {o o2 : Option Value} {x : Int64} (C : CX X G own cc nL fr lo) (hd : decode cc pc = .ok (.lstore_n 3, 1)) (hn : nlg a2 = true) (hk : 3 + 1 < nL) (k : J X G nL g (pc + 1) (a0 :: a1 :: a2 :: some (.long x) :: none :: L) st) : J X G nL g pc (a0 :: a1 :: a2 :: o :: o2 :: L) (.long x :: st) := by
  obtain ⟨p, e, R, s, m, args, below, meth, c, Q, cells, slots⟩ := X
  obtain ⟨hx, hb, hml, hown, hts, hE, hc1, hc2, hfr, hlo⟩ := C
  intro H locs ls hP hS hl
  refine lv_lstore_n hx hb hd rfl hl hk rfl (fun ls' hl' => k H locs ls' hP hS (hl'.mono ?_))
  intro q hq
  obtain ⟨-, h⟩ := (lis_mem _ 0 q).mp hq
  rw [Nat.sub_zero] at h
  by_cases hk1 : q.1 = 3
  · rw [hk1] at h
    rw [List.mem_cons]; left
    exact Prod.ext hk1 (Option.some.inj (Option.some.inj h)).symm
  · by_cases hk2 : q.1 = 4
    · rw [hk2] at h
      cases Option.some.inj h
    · refine List.mem_cons_of_mem _ (List.mem_filter.mpr ⟨(lis_mem _ 0 q).mpr ⟨Nat.zero_le _, ?_⟩, ?_⟩)
      · rw [Nat.sub_zero]
        have e : (a0 :: a1 :: a2 :: o :: o2 :: L)[q.1]? = (((a0 :: a1 :: a2 :: some (.long x) :: none :: L).set 3 o).set 4 o2)[q.1]? := rfl
        rw [e, List.getElem?_set_ne (Ne.symm hk2), List.getElem?_set_ne (Ne.symm hk1)]; exact h
      · have h3 : (q.1 == 3) = false := by simpa using hk1
        have h4 : (q.1 == 3 + 1) = false := by simpa using hk2
        show (!(q.1 == 3) && (!(q.1 == 3 + 1) && !(q.1 + 1 == 3 && q.2.category == 2))) = true
        rw [h3, h4]
        by_cases e : q.1 + 1 = 3
        · obtain rfl : a2 = some q.2 := by
            have e9 : q.1 = 2 := by omega
            rw [e9] at h
            exact Option.some.inj h
          have hc : q.2.category ≠ 2 := by intro hc; simp [nlg, hc] at hn
          simp [hc]
        · rw [beq_eq_false_iff_ne.mpr e]
          rfl
theorem j_ls4 (pc : Nat) {a0 a1 a2 a3 : Option Value} {o o2 : Option Value} {x : Int64} (C : CX X G own cc nL fr lo) (hd : decode cc pc = .ok (.lstore 4, 2)) (hn : nlg a3 = true) (hk : 4 + 1 < nL) (k : J X G nL g (pc + 2) (a0 :: a1 :: a2 :: a3 :: some (.long x) :: none :: L) st) : J X G nL g pc (a0 :: a1 :: a2 :: a3 :: o :: o2 :: L) (.long x :: st) := by
  obtain ⟨p, e, R, s, m, args, below, meth, c, Q, cells, slots⟩ := X
  obtain ⟨hx, hb, hml, hown, hts, hE, hc1, hc2, hfr, hlo⟩ := C
  intro H locs ls hP hS hl
  refine lv_lstore hx hb hd hl hk rfl (fun ls' hl' => k H locs ls' hP hS (hl'.mono ?_))
  intro q hq
  obtain ⟨-, h⟩ := (lis_mem _ 0 q).mp hq
  rw [Nat.sub_zero] at h
  by_cases hk1 : q.1 = 4
  · rw [hk1] at h
    rw [List.mem_cons]; left
    exact Prod.ext hk1 (Option.some.inj (Option.some.inj h)).symm
  · by_cases hk2 : q.1 = 5
    · rw [hk2] at h
      cases Option.some.inj h
    · refine List.mem_cons_of_mem _ (List.mem_filter.mpr ⟨(lis_mem _ 0 q).mpr ⟨Nat.zero_le _, ?_⟩, ?_⟩)
      · rw [Nat.sub_zero]
        have e : (a0 :: a1 :: a2 :: a3 :: o :: o2 :: L)[q.1]? = (((a0 :: a1 :: a2 :: a3 :: some (.long x) :: none :: L).set 4 o).set 5 o2)[q.1]? := rfl
        rw [e, List.getElem?_set_ne (Ne.symm hk2), List.getElem?_set_ne (Ne.symm hk1)]; exact h
      · have h3 : (q.1 == 4) = false := by simpa using hk1
        have h4 : (q.1 == 4 + 1) = false := by simpa using hk2
        show (!(q.1 == 4) && (!(q.1 == 4 + 1) && !(q.1 + 1 == 4 && q.2.category == 2))) = true
        rw [h3, h4]
        by_cases e : q.1 + 1 = 4
        · obtain rfl : a3 = some q.2 := by
            have e9 : q.1 = 3 := by omega
            rw [e9] at h
            exact Option.some.inj h
          have hc : q.2.category ≠ 2 := by intro hc; simp [nlg, hc] at hn
          simp [hc]
        · rw [beq_eq_false_iff_ne.mpr e]
          rfl
theorem j_ls5 (pc : Nat) {a0 a1 a2 a3 a4 : Option Value} {o o2 : Option Value} {x : Int64} (C : CX X G own cc nL fr lo) (hd : decode cc pc = .ok (.lstore 5, 2)) (hn : nlg a4 = true) (hk : 5 + 1 < nL) (k : J X G nL g (pc + 2) (a0 :: a1 :: a2 :: a3 :: a4 :: some (.long x) :: none :: L) st) : J X G nL g pc (a0 :: a1 :: a2 :: a3 :: a4 :: o :: o2 :: L) (.long x :: st) := by
  obtain ⟨p, e, R, s, m, args, below, meth, c, Q, cells, slots⟩ := X
  obtain ⟨hx, hb, hml, hown, hts, hE, hc1, hc2, hfr, hlo⟩ := C
  intro H locs ls hP hS hl
  refine lv_lstore hx hb hd hl hk rfl (fun ls' hl' => k H locs ls' hP hS (hl'.mono ?_))
  intro q hq
  obtain ⟨-, h⟩ := (lis_mem _ 0 q).mp hq
  rw [Nat.sub_zero] at h
  by_cases hk1 : q.1 = 5
  · rw [hk1] at h
    rw [List.mem_cons]; left
    exact Prod.ext hk1 (Option.some.inj (Option.some.inj h)).symm
  · by_cases hk2 : q.1 = 6
    · rw [hk2] at h
      cases Option.some.inj h
    · refine List.mem_cons_of_mem _ (List.mem_filter.mpr ⟨(lis_mem _ 0 q).mpr ⟨Nat.zero_le _, ?_⟩, ?_⟩)
      · rw [Nat.sub_zero]
        have e : (a0 :: a1 :: a2 :: a3 :: a4 :: o :: o2 :: L)[q.1]? = (((a0 :: a1 :: a2 :: a3 :: a4 :: some (.long x) :: none :: L).set 5 o).set 6 o2)[q.1]? := rfl
        rw [e, List.getElem?_set_ne (Ne.symm hk2), List.getElem?_set_ne (Ne.symm hk1)]; exact h
      · have h3 : (q.1 == 5) = false := by simpa using hk1
        have h4 : (q.1 == 5 + 1) = false := by simpa using hk2
        show (!(q.1 == 5) && (!(q.1 == 5 + 1) && !(q.1 + 1 == 5 && q.2.category == 2))) = true
        rw [h3, h4]
        by_cases e : q.1 + 1 = 5
        · obtain rfl : a4 = some q.2 := by
            have e9 : q.1 = 4 := by omega
            rw [e9] at h
            exact Option.some.inj h
          have hc : q.2.category ≠ 2 := by intro hc; simp [nlg, hc] at hn
          simp [hc]
        · rw [beq_eq_false_iff_ne.mpr e]
          rfl
theorem j_ls6 (pc : Nat) {a0 a1 a2 a3 a4 a5 : Option Value} {o o2 : Option Value} {x : Int64} (C : CX X G own cc nL fr lo) (hd : decode cc pc = .ok (.lstore 6, 2)) (hn : nlg a5 = true) (hk : 6 + 1 < nL) (k : J X G nL g (pc + 2) (a0 :: a1 :: a2 :: a3 :: a4 :: a5 :: some (.long x) :: none :: L) st) : J X G nL g pc (a0 :: a1 :: a2 :: a3 :: a4 :: a5 :: o :: o2 :: L) (.long x :: st) := by
  obtain ⟨p, e, R, s, m, args, below, meth, c, Q, cells, slots⟩ := X
  obtain ⟨hx, hb, hml, hown, hts, hE, hc1, hc2, hfr, hlo⟩ := C
  intro H locs ls hP hS hl
  refine lv_lstore hx hb hd hl hk rfl (fun ls' hl' => k H locs ls' hP hS (hl'.mono ?_))
  intro q hq
  obtain ⟨-, h⟩ := (lis_mem _ 0 q).mp hq
  rw [Nat.sub_zero] at h
  by_cases hk1 : q.1 = 6
  · rw [hk1] at h
    rw [List.mem_cons]; left
    exact Prod.ext hk1 (Option.some.inj (Option.some.inj h)).symm
  · by_cases hk2 : q.1 = 7
    · rw [hk2] at h
      cases Option.some.inj h
    · refine List.mem_cons_of_mem _ (List.mem_filter.mpr ⟨(lis_mem _ 0 q).mpr ⟨Nat.zero_le _, ?_⟩, ?_⟩)
      · rw [Nat.sub_zero]
        have e : (a0 :: a1 :: a2 :: a3 :: a4 :: a5 :: o :: o2 :: L)[q.1]? = (((a0 :: a1 :: a2 :: a3 :: a4 :: a5 :: some (.long x) :: none :: L).set 6 o).set 7 o2)[q.1]? := rfl
        rw [e, List.getElem?_set_ne (Ne.symm hk2), List.getElem?_set_ne (Ne.symm hk1)]; exact h
      · have h3 : (q.1 == 6) = false := by simpa using hk1
        have h4 : (q.1 == 6 + 1) = false := by simpa using hk2
        show (!(q.1 == 6) && (!(q.1 == 6 + 1) && !(q.1 + 1 == 6 && q.2.category == 2))) = true
        rw [h3, h4]
        by_cases e : q.1 + 1 = 6
        · obtain rfl : a5 = some q.2 := by
            have e9 : q.1 = 5 := by omega
            rw [e9] at h
            exact Option.some.inj h
          have hc : q.2.category ≠ 2 := by intro hc; simp [nlg, hc] at hn
          simp [hc]
        · rw [beq_eq_false_iff_ne.mpr e]
          rfl
theorem j_ls7 (pc : Nat) {a0 a1 a2 a3 a4 a5 a6 : Option Value} {o o2 : Option Value} {x : Int64} (C : CX X G own cc nL fr lo) (hd : decode cc pc = .ok (.lstore 7, 2)) (hn : nlg a6 = true) (hk : 7 + 1 < nL) (k : J X G nL g (pc + 2) (a0 :: a1 :: a2 :: a3 :: a4 :: a5 :: a6 :: some (.long x) :: none :: L) st) : J X G nL g pc (a0 :: a1 :: a2 :: a3 :: a4 :: a5 :: a6 :: o :: o2 :: L) (.long x :: st) := by
  obtain ⟨p, e, R, s, m, args, below, meth, c, Q, cells, slots⟩ := X
  obtain ⟨hx, hb, hml, hown, hts, hE, hc1, hc2, hfr, hlo⟩ := C
  intro H locs ls hP hS hl
  refine lv_lstore hx hb hd hl hk rfl (fun ls' hl' => k H locs ls' hP hS (hl'.mono ?_))
  intro q hq
  obtain ⟨-, h⟩ := (lis_mem _ 0 q).mp hq
  rw [Nat.sub_zero] at h
  by_cases hk1 : q.1 = 7
  · rw [hk1] at h
    rw [List.mem_cons]; left
    exact Prod.ext hk1 (Option.some.inj (Option.some.inj h)).symm
  · by_cases hk2 : q.1 = 8
    · rw [hk2] at h
      cases Option.some.inj h
    · refine List.mem_cons_of_mem _ (List.mem_filter.mpr ⟨(lis_mem _ 0 q).mpr ⟨Nat.zero_le _, ?_⟩, ?_⟩)
      · rw [Nat.sub_zero]
        have e : (a0 :: a1 :: a2 :: a3 :: a4 :: a5 :: a6 :: o :: o2 :: L)[q.1]? = (((a0 :: a1 :: a2 :: a3 :: a4 :: a5 :: a6 :: some (.long x) :: none :: L).set 7 o).set 8 o2)[q.1]? := rfl
        rw [e, List.getElem?_set_ne (Ne.symm hk2), List.getElem?_set_ne (Ne.symm hk1)]; exact h
      · have h3 : (q.1 == 7) = false := by simpa using hk1
        have h4 : (q.1 == 7 + 1) = false := by simpa using hk2
        show (!(q.1 == 7) && (!(q.1 == 7 + 1) && !(q.1 + 1 == 7 && q.2.category == 2))) = true
        rw [h3, h4]
        by_cases e : q.1 + 1 = 7
        · obtain rfl : a6 = some q.2 := by
            have e9 : q.1 = 6 := by omega
            rw [e9] at h
            exact Option.some.inj h
          have hc : q.2.category ≠ 2 := by intro hc; simp [nlg, hc] at hn
          simp [hc]
        · rw [beq_eq_false_iff_ne.mpr e]
          rfl
theorem j_ls8 (pc : Nat) {a0 a1 a2 a3 a4 a5 a6 a7 : Option Value} {o o2 : Option Value} {x : Int64} (C : CX X G own cc nL fr lo) (hd : decode cc pc = .ok (.lstore 8, 2)) (hn : nlg a7 = true) (hk : 8 + 1 < nL) (k : J X G nL g (pc + 2) (a0 :: a1 :: a2 :: a3 :: a4 :: a5 :: a6 :: a7 :: some (.long x) :: none :: L) st) : J X G nL g pc (a0 :: a1 :: a2 :: a3 :: a4 :: a5 :: a6 :: a7 :: o :: o2 :: L) (.long x :: st) := by
  obtain ⟨p, e, R, s, m, args, below, meth, c, Q, cells, slots⟩ := X
  obtain ⟨hx, hb, hml, hown, hts, hE, hc1, hc2, hfr, hlo⟩ := C
  intro H locs ls hP hS hl
  refine lv_lstore hx hb hd hl hk rfl (fun ls' hl' => k H locs ls' hP hS (hl'.mono ?_))
  intro q hq
  obtain ⟨-, h⟩ := (lis_mem _ 0 q).mp hq
  rw [Nat.sub_zero] at h
  by_cases hk1 : q.1 = 8
  · rw [hk1] at h
    rw [List.mem_cons]; left
    exact Prod.ext hk1 (Option.some.inj (Option.some.inj h)).symm
  · by_cases hk2 : q.1 = 9
    · rw [hk2] at h
      cases Option.some.inj h
    · refine List.mem_cons_of_mem _ (List.mem_filter.mpr ⟨(lis_mem _ 0 q).mpr ⟨Nat.zero_le _, ?_⟩, ?_⟩)
      · rw [Nat.sub_zero]
        have e : (a0 :: a1 :: a2 :: a3 :: a4 :: a5 :: a6 :: a7 :: o :: o2 :: L)[q.1]? = (((a0 :: a1 :: a2 :: a3 :: a4 :: a5 :: a6 :: a7 :: some (.long x) :: none :: L).set 8 o).set 9 o2)[q.1]? := rfl
        rw [e, List.getElem?_set_ne (Ne.symm hk2), List.getElem?_set_ne (Ne.symm hk1)]; exact h
      · have h3 : (q.1 == 8) = false := by simpa using hk1
        have h4 : (q.1 == 8 + 1) = false := by simpa using hk2
        show (!(q.1 == 8) && (!(q.1 == 8 + 1) && !(q.1 + 1 == 8 && q.2.category == 2))) = true
        rw [h3, h4]
        by_cases e : q.1 + 1 = 8
        · obtain rfl : a7 = some q.2 := by
            have e9 : q.1 = 7 := by omega
            rw [e9] at h
            exact Option.some.inj h
          have hc : q.2.category ≠ 2 := by intro hc; simp [nlg, hc] at hn
          simp [hc]
        · rw [beq_eq_false_iff_ne.mpr e]
          rfl
end ROWS
