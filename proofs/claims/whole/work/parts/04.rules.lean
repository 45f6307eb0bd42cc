/-! THE RULES: a row an instruction, over the abstract memory -/
section Rules
variable {d : Nat} {I : j_I} {X : j_X} {pc : Nat} {L : List (Option Value)} {st : List Value} {M : j_M}
theorem jx_iadd {x y : Int32} (hd : decode I.2.1 pc = .ok (.iadd, 1))  (k : j_W d I X (pc + 1) L (.int (x + y) :: st) M) : j_W d I X pc L (.int y :: .int x :: st) M := by
  obtain ⟨⟨p, l, e, R, s⟩, ⟨m, args, below, meth, c⟩, ⟨w, A, cells, slots, Q⟩⟩ := X
  intro hG H locs ls hP hS hl
  obtain ⟨hx, hb, hml, hown, hts, hK, hZ, hD, hA, hfr, hlo, hce, hsl⟩ := id hG
  exact lv_iadd hx hb hd (k hG H locs ls hP hS hl)
theorem jx_isub {x y : Int32} (hd : decode I.2.1 pc = .ok (.isub, 1))  (k : j_W d I X (pc + 1) L (.int (x - y) :: st) M) : j_W d I X pc L (.int y :: .int x :: st) M := by
  obtain ⟨⟨p, l, e, R, s⟩, ⟨m, args, below, meth, c⟩, ⟨w, A, cells, slots, Q⟩⟩ := X
  intro hG H locs ls hP hS hl
  obtain ⟨hx, hb, hml, hown, hts, hK, hZ, hD, hA, hfr, hlo, hce, hsl⟩ := id hG
  exact lv_isub hx hb hd (k hG H locs ls hP hS hl)
theorem jx_imul {x y : Int32} (hd : decode I.2.1 pc = .ok (.imul, 1))  (k : j_W d I X (pc + 1) L (.int (x * y) :: st) M) : j_W d I X pc L (.int y :: .int x :: st) M := by
  obtain ⟨⟨p, l, e, R, s⟩, ⟨m, args, below, meth, c⟩, ⟨w, A, cells, slots, Q⟩⟩ := X
  intro hG H locs ls hP hS hl
  obtain ⟨hx, hb, hml, hown, hts, hK, hZ, hD, hA, hfr, hlo, hce, hsl⟩ := id hG
  exact lv_imul hx hb hd (k hG H locs ls hP hS hl)
theorem jx_iand {x y : Int32} (hd : decode I.2.1 pc = .ok (.iand, 1))  (k : j_W d I X (pc + 1) L (.int (x &&& y) :: st) M) : j_W d I X pc L (.int y :: .int x :: st) M := by
  obtain ⟨⟨p, l, e, R, s⟩, ⟨m, args, below, meth, c⟩, ⟨w, A, cells, slots, Q⟩⟩ := X
  intro hG H locs ls hP hS hl
  obtain ⟨hx, hb, hml, hown, hts, hK, hZ, hD, hA, hfr, hlo, hce, hsl⟩ := id hG
  exact lv_iand hx hb hd (k hG H locs ls hP hS hl)
theorem jx_ior {x y : Int32} (hd : decode I.2.1 pc = .ok (.ior, 1))  (k : j_W d I X (pc + 1) L (.int (x ||| y) :: st) M) : j_W d I X pc L (.int y :: .int x :: st) M := by
  obtain ⟨⟨p, l, e, R, s⟩, ⟨m, args, below, meth, c⟩, ⟨w, A, cells, slots, Q⟩⟩ := X
  intro hG H locs ls hP hS hl
  obtain ⟨hx, hb, hml, hown, hts, hK, hZ, hD, hA, hfr, hlo, hce, hsl⟩ := id hG
  exact lv_ior hx hb hd (k hG H locs ls hP hS hl)
theorem jx_ixor {x y : Int32} (hd : decode I.2.1 pc = .ok (.ixor, 1))  (k : j_W d I X (pc + 1) L (.int (x ^^^ y) :: st) M) : j_W d I X pc L (.int y :: .int x :: st) M := by
  obtain ⟨⟨p, l, e, R, s⟩, ⟨m, args, below, meth, c⟩, ⟨w, A, cells, slots, Q⟩⟩ := X
  intro hG H locs ls hP hS hl
  obtain ⟨hx, hb, hml, hown, hts, hK, hZ, hD, hA, hfr, hlo, hce, hsl⟩ := id hG
  exact lv_ixor hx hb hd (k hG H locs ls hP hS hl)
theorem jx_idiv {x y : Int32} (hd : decode I.2.1 pc = .ok (.idiv, 1)) (hne : ¬ y = 0) (k : j_W d I X (pc + 1) L (.int (x / y) :: st) M) : j_W d I X pc L (.int y :: .int x :: st) M := by
  obtain ⟨⟨p, l, e, R, s⟩, ⟨m, args, below, meth, c⟩, ⟨w, A, cells, slots, Q⟩⟩ := X
  intro hG H locs ls hP hS hl
  obtain ⟨hx, hb, hml, hown, hts, hK, hZ, hD, hA, hfr, hlo, hce, hsl⟩ := id hG
  exact lv_idiv hx hb hd hne (k hG H locs ls hP hS hl)
theorem jx_irem {x y : Int32} (hd : decode I.2.1 pc = .ok (.irem, 1)) (hne : ¬ y = 0) (k : j_W d I X (pc + 1) L (.int (x - x / y * y) :: st) M) : j_W d I X pc L (.int y :: .int x :: st) M := by
  obtain ⟨⟨p, l, e, R, s⟩, ⟨m, args, below, meth, c⟩, ⟨w, A, cells, slots, Q⟩⟩ := X
  intro hG H locs ls hP hS hl
  obtain ⟨hx, hb, hml, hown, hts, hK, hZ, hD, hA, hfr, hlo, hce, hsl⟩ := id hG
  exact lv_irem hx hb hd hne (k hG H locs ls hP hS hl)
theorem jx_ineg {x : Int32} (hd : decode I.2.1 pc = .ok (.ineg, 1))  (k : j_W d I X (pc + 1) L (.int (-x) :: st) M) : j_W d I X pc L (.int x :: st) M := by
  obtain ⟨⟨p, l, e, R, s⟩, ⟨m, args, below, meth, c⟩, ⟨w, A, cells, slots, Q⟩⟩ := X
  intro hG H locs ls hP hS hl
  obtain ⟨hx, hb, hml, hown, hts, hK, hZ, hD, hA, hfr, hlo, hce, hsl⟩ := id hG
  exact lv_ineg hx hb hd (k hG H locs ls hP hS hl)
theorem jx_ishl {x y : Int32} (hd : decode I.2.1 pc = .ok (.ishl, 1))  (k : j_W d I X (pc + 1) L (.int (x <<< (y &&& 31)) :: st) M) : j_W d I X pc L (.int y :: .int x :: st) M := by
  obtain ⟨⟨p, l, e, R, s⟩, ⟨m, args, below, meth, c⟩, ⟨w, A, cells, slots, Q⟩⟩ := X
  intro hG H locs ls hP hS hl
  obtain ⟨hx, hb, hml, hown, hts, hK, hZ, hD, hA, hfr, hlo, hce, hsl⟩ := id hG
  exact lv_ishl hx hb hd (k hG H locs ls hP hS hl)
theorem jx_ishr {x y : Int32} (hd : decode I.2.1 pc = .ok (.ishr, 1))  (k : j_W d I X (pc + 1) L (.int (x >>> (y &&& 31)) :: st) M) : j_W d I X pc L (.int y :: .int x :: st) M := by
  obtain ⟨⟨p, l, e, R, s⟩, ⟨m, args, below, meth, c⟩, ⟨w, A, cells, slots, Q⟩⟩ := X
  intro hG H locs ls hP hS hl
  obtain ⟨hx, hb, hml, hown, hts, hK, hZ, hD, hA, hfr, hlo, hce, hsl⟩ := id hG
  exact lv_ishr hx hb hd (k hG H locs ls hP hS hl)
theorem jx_iushr {x y : Int32} (hd : decode I.2.1 pc = .ok (.iushr, 1))  (k : j_W d I X (pc + 1) L (.int ((x.toUInt32 >>> (y.toUInt32 &&& Int32.toUInt32 31)).toInt32) :: st) M) : j_W d I X pc L (.int y :: .int x :: st) M := by
  obtain ⟨⟨p, l, e, R, s⟩, ⟨m, args, below, meth, c⟩, ⟨w, A, cells, slots, Q⟩⟩ := X
  intro hG H locs ls hP hS hl
  obtain ⟨hx, hb, hml, hown, hts, hK, hZ, hD, hA, hfr, hlo, hce, hsl⟩ := id hG
  exact lv_iushr hx hb hd rfl (k hG H locs ls hP hS hl)
theorem jx_ladd {x y : Int64} (hd : decode I.2.1 pc = .ok (.ladd, 1))  (k : j_W d I X (pc + 1) L (.long (x + y) :: st) M) : j_W d I X pc L (.long y :: .long x :: st) M := by
  obtain ⟨⟨p, l, e, R, s⟩, ⟨m, args, below, meth, c⟩, ⟨w, A, cells, slots, Q⟩⟩ := X
  intro hG H locs ls hP hS hl
  obtain ⟨hx, hb, hml, hown, hts, hK, hZ, hD, hA, hfr, hlo, hce, hsl⟩ := id hG
  exact lv_ladd hx hb hd (k hG H locs ls hP hS hl)
theorem jx_lsub {x y : Int64} (hd : decode I.2.1 pc = .ok (.lsub, 1))  (k : j_W d I X (pc + 1) L (.long (x - y) :: st) M) : j_W d I X pc L (.long y :: .long x :: st) M := by
  obtain ⟨⟨p, l, e, R, s⟩, ⟨m, args, below, meth, c⟩, ⟨w, A, cells, slots, Q⟩⟩ := X
  intro hG H locs ls hP hS hl
  obtain ⟨hx, hb, hml, hown, hts, hK, hZ, hD, hA, hfr, hlo, hce, hsl⟩ := id hG
  exact lv_lsub hx hb hd (k hG H locs ls hP hS hl)
theorem jx_lmul {x y : Int64} (hd : decode I.2.1 pc = .ok (.lmul, 1))  (k : j_W d I X (pc + 1) L (.long (x * y) :: st) M) : j_W d I X pc L (.long y :: .long x :: st) M := by
  obtain ⟨⟨p, l, e, R, s⟩, ⟨m, args, below, meth, c⟩, ⟨w, A, cells, slots, Q⟩⟩ := X
  intro hG H locs ls hP hS hl
  obtain ⟨hx, hb, hml, hown, hts, hK, hZ, hD, hA, hfr, hlo, hce, hsl⟩ := id hG
  exact lv_lmul hx hb hd (k hG H locs ls hP hS hl)
theorem jx_ldiv {x y : Int64} (hd : decode I.2.1 pc = .ok (.ldiv, 1)) (hne : ¬ y = 0) (k : j_W d I X (pc + 1) L (.long (x / y) :: st) M) : j_W d I X pc L (.long y :: .long x :: st) M := by
  obtain ⟨⟨p, l, e, R, s⟩, ⟨m, args, below, meth, c⟩, ⟨w, A, cells, slots, Q⟩⟩ := X
  intro hG H locs ls hP hS hl
  obtain ⟨hx, hb, hml, hown, hts, hK, hZ, hD, hA, hfr, hlo, hce, hsl⟩ := id hG
  exact lv_ldiv hx hb hd hne (k hG H locs ls hP hS hl)
theorem jx_lrem {x y : Int64} (hd : decode I.2.1 pc = .ok (.lrem, 1)) (hne : ¬ y = 0) (k : j_W d I X (pc + 1) L (.long (x - x / y * y) :: st) M) : j_W d I X pc L (.long y :: .long x :: st) M := by
  obtain ⟨⟨p, l, e, R, s⟩, ⟨m, args, below, meth, c⟩, ⟨w, A, cells, slots, Q⟩⟩ := X
  intro hG H locs ls hP hS hl
  obtain ⟨hx, hb, hml, hown, hts, hK, hZ, hD, hA, hfr, hlo, hce, hsl⟩ := id hG
  exact lv_lrem hx hb hd hne (k hG H locs ls hP hS hl)
theorem jx_lshl {x : Int64} {y : Int32} (hd : decode I.2.1 pc = .ok (.lshl, 1))  (k : j_W d I X (pc + 1) L (.long (x <<< (y.toInt64 &&& 63)) :: st) M) : j_W d I X pc L (.int y :: .long x :: st) M := by
  obtain ⟨⟨p, l, e, R, s⟩, ⟨m, args, below, meth, c⟩, ⟨w, A, cells, slots, Q⟩⟩ := X
  intro hG H locs ls hP hS hl
  obtain ⟨hx, hb, hml, hown, hts, hK, hZ, hD, hA, hfr, hlo, hce, hsl⟩ := id hG
  exact lv_lshl hx hb hd rfl (k hG H locs ls hP hS hl)
theorem jx_i2l {x : Int32} (hd : decode I.2.1 pc = .ok (.i2l, 1))  (k : j_W d I X (pc + 1) L (.long x.toInt64 :: st) M) : j_W d I X pc L (.int x :: st) M := by
  obtain ⟨⟨p, l, e, R, s⟩, ⟨m, args, below, meth, c⟩, ⟨w, A, cells, slots, Q⟩⟩ := X
  intro hG H locs ls hP hS hl
  obtain ⟨hx, hb, hml, hown, hts, hK, hZ, hD, hA, hfr, hlo, hce, hsl⟩ := id hG
  exact lv_i2l hx hb hd rfl (k hG H locs ls hP hS hl)
theorem jx_l2i {x : Int64} (hd : decode I.2.1 pc = .ok (.l2i, 1))  (k : j_W d I X (pc + 1) L (.int x.toInt32 :: st) M) : j_W d I X pc L (.long x :: st) M := by
  obtain ⟨⟨p, l, e, R, s⟩, ⟨m, args, below, meth, c⟩, ⟨w, A, cells, slots, Q⟩⟩ := X
  intro hG H locs ls hP hS hl
  obtain ⟨hx, hb, hml, hown, hts, hK, hZ, hD, hA, hfr, hlo, hce, hsl⟩ := id hG
  exact lv_l2i hx hb hd rfl (k hG H locs ls hP hS hl)
theorem jx_i2b {x : Int32} (hd : decode I.2.1 pc = .ok (.i2b, 1))  (k : j_W d I X (pc + 1) L (.int x.toInt8.toInt32 :: st) M) : j_W d I X pc L (.int x :: st) M := by
  obtain ⟨⟨p, l, e, R, s⟩, ⟨m, args, below, meth, c⟩, ⟨w, A, cells, slots, Q⟩⟩ := X
  intro hG H locs ls hP hS hl
  obtain ⟨hx, hb, hml, hown, hts, hK, hZ, hD, hA, hfr, hlo, hce, hsl⟩ := id hG
  exact lv_i2b hx hb hd rfl (k hG H locs ls hP hS hl)
theorem jx_i2s {x : Int32} (hd : decode I.2.1 pc = .ok (.i2s, 1))  (k : j_W d I X (pc + 1) L (.int x.toInt16.toInt32 :: st) M) : j_W d I X pc L (.int x :: st) M := by
  obtain ⟨⟨p, l, e, R, s⟩, ⟨m, args, below, meth, c⟩, ⟨w, A, cells, slots, Q⟩⟩ := X
  intro hG H locs ls hP hS hl
  obtain ⟨hx, hb, hml, hown, hts, hK, hZ, hD, hA, hfr, hlo, hce, hsl⟩ := id hG
  exact lv_i2s hx hb hd rfl (k hG H locs ls hP hS hl)
theorem jx_iconst {n : Int} {v : Int32} (hd : decode I.2.1 pc = .ok (.iconst n, 1)) (hv : Int32.ofInt n = v) (k : j_W d I X (pc + 1) L (.int v :: st) M) : j_W d I X pc L st M := by
  obtain ⟨⟨p, l, e, R, s⟩, ⟨m, args, below, meth, c⟩, ⟨w, A, cells, slots, Q⟩⟩ := X
  intro hG H locs ls hP hS hl
  obtain ⟨hx, hb, hml, hown, hts, hK, hZ, hD, hA, hfr, hlo, hce, hsl⟩ := id hG
  exact lv_iconst hx hb hd hv (k hG H locs ls hP hS hl)
theorem jx_bipush {n : Int} {v : Int32} (hd : decode I.2.1 pc = .ok (.bipush n, 2)) (hv : (Int8.ofInt n).toInt32 = v) (k : j_W d I X (pc + 2) L (.int v :: st) M) : j_W d I X pc L st M := by
  obtain ⟨⟨p, l, e, R, s⟩, ⟨m, args, below, meth, c⟩, ⟨w, A, cells, slots, Q⟩⟩ := X
  intro hG H locs ls hP hS hl
  obtain ⟨hx, hb, hml, hown, hts, hK, hZ, hD, hA, hfr, hlo, hce, hsl⟩ := id hG
  exact lv_bipush hx hb hd hv (k hG H locs ls hP hS hl)
theorem jx_sipush {n : Int} {v : Int32} (hd : decode I.2.1 pc = .ok (.sipush n, 3)) (hv : (Int16.ofInt n).toInt32 = v) (k : j_W d I X (pc + 3) L (.int v :: st) M) : j_W d I X pc L st M := by
  obtain ⟨⟨p, l, e, R, s⟩, ⟨m, args, below, meth, c⟩, ⟨w, A, cells, slots, Q⟩⟩ := X
  intro hG H locs ls hP hS hl
  obtain ⟨hx, hb, hml, hown, hts, hK, hZ, hD, hA, hfr, hlo, hce, hsl⟩ := id hG
  exact lv_sipush hx hb hd hv (k hG H locs ls hP hS hl)
theorem jx_lconst {n : Fin 2} {v : Int64} (hd : decode I.2.1 pc = .ok (.lconst n, 1)) (hv : Int64.ofNat (n : Nat) = v) (k : j_W d I X (pc + 1) L (.long v :: st) M) : j_W d I X pc L st M := by
  obtain ⟨⟨p, l, e, R, s⟩, ⟨m, args, below, meth, c⟩, ⟨w, A, cells, slots, Q⟩⟩ := X
  intro hG H locs ls hP hS hl
  obtain ⟨hx, hb, hml, hown, hts, hK, hZ, hD, hA, hfr, hlo, hce, hsl⟩ := id hG
  exact lv_lconst hx hb hd hv (k hG H locs ls hP hS hl)
theorem jx_lcmp {x y : Int64} (hd : decode I.2.1 pc = .ok (.lcmp, 1)) (k : j_W d I X (pc + 1) L (.int (lg_cmp x y) :: st) M) : j_W d I X pc L (.long y :: .long x :: st) M := by
  obtain ⟨⟨p, l, e, R, s⟩, ⟨m, args, below, meth, c⟩, ⟨w, A, cells, slots, Q⟩⟩ := X
  intro hG H locs ls hP hS hl
  obtain ⟨hx, hb, hml, hown, hts, hK, hZ, hD, hA, hfr, hlo, hce, hsl⟩ := id hG
  exact W.lcmp hx hb hd (k hG H locs ls hP hS hl)
theorem jx_dupi {x : Int32} (hd : decode I.2.1 pc = .ok (.dup, 1)) (k : j_W d I X (pc + 1) L (.int x :: .int x :: st) M) : j_W d I X pc L (.int x :: st) M := by
  obtain ⟨⟨p, l, e, R, s⟩, ⟨m, args, below, meth, c⟩, ⟨w, A, cells, slots, Q⟩⟩ := X
  intro hG H locs ls hP hS hl
  obtain ⟨hx, hb, hml, hown, hts, hK, hZ, hD, hA, hfr, hlo, hce, hsl⟩ := id hG
  exact lv_dup hx hb hd rfl (k hG H locs ls hP hS hl)
theorem jx_dupr {x : Nat} (hd : decode I.2.1 pc = .ok (.dup, 1)) (k : j_W d I X (pc + 1) L (.ref x :: .ref x :: st) M) : j_W d I X pc L (.ref x :: st) M := by
  obtain ⟨⟨p, l, e, R, s⟩, ⟨m, args, below, meth, c⟩, ⟨w, A, cells, slots, Q⟩⟩ := X
  intro hG H locs ls hP hS hl
  obtain ⟨hx, hb, hml, hown, hts, hK, hZ, hD, hA, hfr, hlo, hce, hsl⟩ := id hG
  exact lv_dup hx hb hd rfl (k hG H locs ls hP hS hl)
theorem jx_popi {x : Int32} (hd : decode I.2.1 pc = .ok (.pop, 1)) (k : j_W d I X (pc + 1) L st M) : j_W d I X pc L (.int x :: st) M := by
  obtain ⟨⟨p, l, e, R, s⟩, ⟨m, args, below, meth, c⟩, ⟨w, A, cells, slots, Q⟩⟩ := X
  intro hG H locs ls hP hS hl
  obtain ⟨hx, hb, hml, hown, hts, hK, hZ, hD, hA, hfr, hlo, hce, hsl⟩ := id hG
  exact lv_pop hx hb hd rfl (k hG H locs ls hP hS hl)
theorem jx_dup2ri {x : Nat} {i : Int32} (hd : decode I.2.1 pc = .ok (.dup2, 1)) (k : j_W d I X (pc + 1) L (.int i :: .ref x :: .int i :: .ref x :: st) M) : j_W d I X pc L (.int i :: .ref x :: st) M := by
  obtain ⟨⟨p, l, e, R, s⟩, ⟨m, args, below, meth, c⟩, ⟨w, A, cells, slots, Q⟩⟩ := X
  intro hG H locs ls hP hS hl
  obtain ⟨hx, hb, hml, hown, hts, hK, hZ, hD, hA, hfr, hlo, hce, hsl⟩ := id hG
  exact lv_dup2_11 hx hb hd rfl rfl (k hG H locs ls hP hS hl)
theorem jx_ldc {index : Nat} {v : Int32} (hd : decode I.2.1 pc = .ok (.ldc index, 2)) (hc : Cond.constant I.1.cls index v ∈ j_tbl) (k : j_W d I X (pc + 2) L (.int v :: st) M) : j_W d I X pc L st M := by
  obtain ⟨⟨p, l, e, R, s⟩, ⟨m, args, below, meth, c⟩, ⟨w, A, cells, slots, Q⟩⟩ := X
  intro hG H locs ls hP hS hl
  obtain ⟨hx, hb, hml, hown, hts, hK, hZ, hD, hA, hfr, hlo, hce, hsl⟩ := id hG
  exact lv_ldc hx hb hown (hts _ hc) hd (k hG H locs ls hP hS hl)
theorem jx_ldcw {index : Nat} {v : Int32} (hd : decode I.2.1 pc = .ok (.ldc_w index, 3)) (hc : Cond.constant I.1.cls index v ∈ j_tbl) (k : j_W d I X (pc + 3) L (.int v :: st) M) : j_W d I X pc L st M := by
  obtain ⟨⟨p, l, e, R, s⟩, ⟨m, args, below, meth, c⟩, ⟨w, A, cells, slots, Q⟩⟩ := X
  intro hG H locs ls hP hS hl
  obtain ⟨hx, hb, hml, hown, hts, hK, hZ, hD, hA, hfr, hlo, hce, hsl⟩ := id hG
  exact lv_ldcw hx hb hown (hts _ hc) hd (k hG H locs ls hP hS hl)
theorem jx_ldc2 {index : Nat} {v : Int64} (hd : decode I.2.1 pc = .ok (.ldc2_w index, 3)) (hc : Cond.constantLong I.1.cls index v ∈ j_tbl) (k : j_W d I X (pc + 3) L (.long v :: st) M) : j_W d I X pc L st M := by
  obtain ⟨⟨p, l, e, R, s⟩, ⟨m, args, below, meth, c⟩, ⟨w, A, cells, slots, Q⟩⟩ := X
  intro hG H locs ls hP hS hl
  obtain ⟨hx, hb, hml, hown, hts, hK, hZ, hD, hA, hfr, hlo, hce, hsl⟩ := id hG
  exact lv_ldc2 hx hb hown (hts _ hc) hd (k hG H locs ls hP hS hl)
theorem jx_if_eq {x : Int32} {off : Int} (tgt : Nat) (hd : decode I.2.1 pc = .ok (.ifCond .eq off, 3)) (ht : (pc : Int) + off = (tgt : Int)) (kt : x = 0 → j_W d I X tgt L st M) (kf : ¬ x = 0 → j_W d I X (pc + 3) L st M) : j_W d I X pc L (.int x :: st) M := by
  obtain ⟨⟨p, l, e, R, s⟩, ⟨m, args, below, meth, c⟩, ⟨w, A, cells, slots, Q⟩⟩ := X
  intro hG H locs ls hP hS hl
  obtain ⟨hx, hb, hml, hown, hts, hK, hZ, hD, hA, hfr, hlo, hce, hsl⟩ := id hG
  exact lv_if_eq hx hb hd ht (fun h => kt h hG H locs ls hP hS hl) (fun h => kf h hG H locs ls hP hS hl)
theorem jx_if_ne {x : Int32} {off : Int} (tgt : Nat) (hd : decode I.2.1 pc = .ok (.ifCond .ne off, 3)) (ht : (pc : Int) + off = (tgt : Int)) (kt : ¬ x = 0 → j_W d I X tgt L st M) (kf : x = 0 → j_W d I X (pc + 3) L st M) : j_W d I X pc L (.int x :: st) M := by
  obtain ⟨⟨p, l, e, R, s⟩, ⟨m, args, below, meth, c⟩, ⟨w, A, cells, slots, Q⟩⟩ := X
  intro hG H locs ls hP hS hl
  obtain ⟨hx, hb, hml, hown, hts, hK, hZ, hD, hA, hfr, hlo, hce, hsl⟩ := id hG
  exact lv_if_ne hx hb hd ht (fun h => kt h hG H locs ls hP hS hl) (fun h => kf h hG H locs ls hP hS hl)
theorem jx_if_lt {x : Int32} {off : Int} (tgt : Nat) (hd : decode I.2.1 pc = .ok (.ifCond .lt off, 3)) (ht : (pc : Int) + off = (tgt : Int)) (kt : x < 0 → j_W d I X tgt L st M) (kf : ¬ x < 0 → j_W d I X (pc + 3) L st M) : j_W d I X pc L (.int x :: st) M := by
  obtain ⟨⟨p, l, e, R, s⟩, ⟨m, args, below, meth, c⟩, ⟨w, A, cells, slots, Q⟩⟩ := X
  intro hG H locs ls hP hS hl
  obtain ⟨hx, hb, hml, hown, hts, hK, hZ, hD, hA, hfr, hlo, hce, hsl⟩ := id hG
  exact lv_if_lt hx hb hd ht (fun h => kt h hG H locs ls hP hS hl) (fun h => kf h hG H locs ls hP hS hl)
theorem jx_if_ge {x : Int32} {off : Int} (tgt : Nat) (hd : decode I.2.1 pc = .ok (.ifCond .ge off, 3)) (ht : (pc : Int) + off = (tgt : Int)) (kt : 0 ≤ x → j_W d I X tgt L st M) (kf : ¬ 0 ≤ x → j_W d I X (pc + 3) L st M) : j_W d I X pc L (.int x :: st) M := by
  obtain ⟨⟨p, l, e, R, s⟩, ⟨m, args, below, meth, c⟩, ⟨w, A, cells, slots, Q⟩⟩ := X
  intro hG H locs ls hP hS hl
  obtain ⟨hx, hb, hml, hown, hts, hK, hZ, hD, hA, hfr, hlo, hce, hsl⟩ := id hG
  exact lv_if_ge hx hb hd ht (fun h => kt h hG H locs ls hP hS hl) (fun h => kf h hG H locs ls hP hS hl)
theorem jx_if_gt {x : Int32} {off : Int} (tgt : Nat) (hd : decode I.2.1 pc = .ok (.ifCond .gt off, 3)) (ht : (pc : Int) + off = (tgt : Int)) (kt : 0 < x → j_W d I X tgt L st M) (kf : ¬ 0 < x → j_W d I X (pc + 3) L st M) : j_W d I X pc L (.int x :: st) M := by
  obtain ⟨⟨p, l, e, R, s⟩, ⟨m, args, below, meth, c⟩, ⟨w, A, cells, slots, Q⟩⟩ := X
  intro hG H locs ls hP hS hl
  obtain ⟨hx, hb, hml, hown, hts, hK, hZ, hD, hA, hfr, hlo, hce, hsl⟩ := id hG
  exact lv_if_gt hx hb hd ht (fun h => kt h hG H locs ls hP hS hl) (fun h => kf h hG H locs ls hP hS hl)
theorem jx_if_le {x : Int32} {off : Int} (tgt : Nat) (hd : decode I.2.1 pc = .ok (.ifCond .le off, 3)) (ht : (pc : Int) + off = (tgt : Int)) (kt : x ≤ 0 → j_W d I X tgt L st M) (kf : ¬ x ≤ 0 → j_W d I X (pc + 3) L st M) : j_W d I X pc L (.int x :: st) M := by
  obtain ⟨⟨p, l, e, R, s⟩, ⟨m, args, below, meth, c⟩, ⟨w, A, cells, slots, Q⟩⟩ := X
  intro hG H locs ls hP hS hl
  obtain ⟨hx, hb, hml, hown, hts, hK, hZ, hD, hA, hfr, hlo, hce, hsl⟩ := id hG
  exact lv_if_le hx hb hd ht (fun h => kt h hG H locs ls hP hS hl) (fun h => kf h hG H locs ls hP hS hl)
theorem jx_icmp_eq {x y : Int32} {off : Int} (tgt : Nat) (hd : decode I.2.1 pc = .ok (.if_icmp .eq off, 3)) (ht : (pc : Int) + off = (tgt : Int)) (kt : x = y → j_W d I X tgt L st M) (kf : ¬ x = y → j_W d I X (pc + 3) L st M) : j_W d I X pc L (.int y :: .int x :: st) M := by
  obtain ⟨⟨p, l, e, R, s⟩, ⟨m, args, below, meth, c⟩, ⟨w, A, cells, slots, Q⟩⟩ := X
  intro hG H locs ls hP hS hl
  obtain ⟨hx, hb, hml, hown, hts, hK, hZ, hD, hA, hfr, hlo, hce, hsl⟩ := id hG
  exact lv_icmp_eq hx hb hd ht (fun h => kt h hG H locs ls hP hS hl) (fun h => kf h hG H locs ls hP hS hl)
theorem jx_icmp_ne {x y : Int32} {off : Int} (tgt : Nat) (hd : decode I.2.1 pc = .ok (.if_icmp .ne off, 3)) (ht : (pc : Int) + off = (tgt : Int)) (kt : ¬ x = y → j_W d I X tgt L st M) (kf : x = y → j_W d I X (pc + 3) L st M) : j_W d I X pc L (.int y :: .int x :: st) M := by
  obtain ⟨⟨p, l, e, R, s⟩, ⟨m, args, below, meth, c⟩, ⟨w, A, cells, slots, Q⟩⟩ := X
  intro hG H locs ls hP hS hl
  obtain ⟨hx, hb, hml, hown, hts, hK, hZ, hD, hA, hfr, hlo, hce, hsl⟩ := id hG
  exact lv_icmp_ne hx hb hd ht (fun h => kt h hG H locs ls hP hS hl) (fun h => kf h hG H locs ls hP hS hl)
theorem jx_icmp_lt {x y : Int32} {off : Int} (tgt : Nat) (hd : decode I.2.1 pc = .ok (.if_icmp .lt off, 3)) (ht : (pc : Int) + off = (tgt : Int)) (kt : x < y → j_W d I X tgt L st M) (kf : ¬ x < y → j_W d I X (pc + 3) L st M) : j_W d I X pc L (.int y :: .int x :: st) M := by
  obtain ⟨⟨p, l, e, R, s⟩, ⟨m, args, below, meth, c⟩, ⟨w, A, cells, slots, Q⟩⟩ := X
  intro hG H locs ls hP hS hl
  obtain ⟨hx, hb, hml, hown, hts, hK, hZ, hD, hA, hfr, hlo, hce, hsl⟩ := id hG
  exact lv_icmp_lt hx hb hd ht (fun h => kt h hG H locs ls hP hS hl) (fun h => kf h hG H locs ls hP hS hl)
theorem jx_icmp_ge {x y : Int32} {off : Int} (tgt : Nat) (hd : decode I.2.1 pc = .ok (.if_icmp .ge off, 3)) (ht : (pc : Int) + off = (tgt : Int)) (kt : y ≤ x → j_W d I X tgt L st M) (kf : ¬ y ≤ x → j_W d I X (pc + 3) L st M) : j_W d I X pc L (.int y :: .int x :: st) M := by
  obtain ⟨⟨p, l, e, R, s⟩, ⟨m, args, below, meth, c⟩, ⟨w, A, cells, slots, Q⟩⟩ := X
  intro hG H locs ls hP hS hl
  obtain ⟨hx, hb, hml, hown, hts, hK, hZ, hD, hA, hfr, hlo, hce, hsl⟩ := id hG
  exact lv_icmp_ge hx hb hd ht (fun h => kt h hG H locs ls hP hS hl) (fun h => kf h hG H locs ls hP hS hl)
theorem jx_icmp_gt {x y : Int32} {off : Int} (tgt : Nat) (hd : decode I.2.1 pc = .ok (.if_icmp .gt off, 3)) (ht : (pc : Int) + off = (tgt : Int)) (kt : y < x → j_W d I X tgt L st M) (kf : ¬ y < x → j_W d I X (pc + 3) L st M) : j_W d I X pc L (.int y :: .int x :: st) M := by
  obtain ⟨⟨p, l, e, R, s⟩, ⟨m, args, below, meth, c⟩, ⟨w, A, cells, slots, Q⟩⟩ := X
  intro hG H locs ls hP hS hl
  obtain ⟨hx, hb, hml, hown, hts, hK, hZ, hD, hA, hfr, hlo, hce, hsl⟩ := id hG
  exact lv_icmp_gt hx hb hd ht (fun h => kt h hG H locs ls hP hS hl) (fun h => kf h hG H locs ls hP hS hl)
theorem jx_icmp_le {x y : Int32} {off : Int} (tgt : Nat) (hd : decode I.2.1 pc = .ok (.if_icmp .le off, 3)) (ht : (pc : Int) + off = (tgt : Int)) (kt : x ≤ y → j_W d I X tgt L st M) (kf : ¬ x ≤ y → j_W d I X (pc + 3) L st M) : j_W d I X pc L (.int y :: .int x :: st) M := by
  obtain ⟨⟨p, l, e, R, s⟩, ⟨m, args, below, meth, c⟩, ⟨w, A, cells, slots, Q⟩⟩ := X
  intro hG H locs ls hP hS hl
  obtain ⟨hx, hb, hml, hown, hts, hK, hZ, hD, hA, hfr, hlo, hce, hsl⟩ := id hG
  exact lv_icmp_le hx hb hd ht (fun h => kt h hG H locs ls hP hS hl) (fun h => kf h hG H locs ls hP hS hl)
theorem jx_goto {off : Int} (tgt : Nat) (hd : decode I.2.1 pc = .ok (.goto off, 3)) (ht : (pc : Int) + off = (tgt : Int)) (k : j_W d I X tgt L st M) : j_W d I X pc L st M := by
  obtain ⟨⟨p, l, e, R, s⟩, ⟨m, args, below, meth, c⟩, ⟨w, A, cells, slots, Q⟩⟩ := X
  intro hG H locs ls hP hS hl
  obtain ⟨hx, hb, hml, hown, hts, hK, hZ, hD, hA, hfr, hlo, hce, hsl⟩ := id hG
  exact lv_goto hx hb hd ht (k hG H locs ls hP hS hl)
theorem jx_tableIn {dflt lo hi : Int} {offs : Array Int} {len : Nat} {x : Int32} {off : Int} (tgt : Nat) (hd : decode I.2.1 pc = .ok (.tableswitch dflt lo hi offs, len)) (h1 : ¬ x.toInt < lo) (h2 : ¬ hi < x.toInt) (ho : offs[(x.toInt - lo).toNat]? = some off) (ht : (pc : Int) + off = (tgt : Int)) (k : j_W d I X tgt L st M) : j_W d I X pc L (.int x :: st) M := by
  obtain ⟨⟨p, l, e, R, s⟩, ⟨m, args, below, meth, c⟩, ⟨w, A, cells, slots, Q⟩⟩ := X
  intro hG H locs ls hP hS hl
  obtain ⟨hx, hb, hml, hown, hts, hK, hZ, hD, hA, hfr, hlo, hce, hsl⟩ := id hG
  exact lv_tableIn hx hb hd h1 h2 ho ht (k hG H locs ls hP hS hl)
theorem jx_tableOut {dflt lo hi : Int} {offs : Array Int} {len : Nat} {x : Int32} (tgt : Nat) (hd : decode I.2.1 pc = .ok (.tableswitch dflt lo hi offs, len)) (h : x.toInt < lo ∨ hi < x.toInt) (ht : (pc : Int) + dflt = (tgt : Int)) (k : j_W d I X tgt L st M) : j_W d I X pc L (.int x :: st) M := by
  obtain ⟨⟨p, l, e, R, s⟩, ⟨m, args, below, meth, c⟩, ⟨w, A, cells, slots, Q⟩⟩ := X
  intro hG H locs ls hP hS hl
  obtain ⟨hx, hb, hml, hown, hts, hK, hZ, hD, hA, hfr, hlo, hce, hsl⟩ := id hG
  exact lv_tableOut hx hb hd h ht (k hG H locs ls hP hS hl)
theorem jx_lookup {dflt : Int} {ps : Array (Int × Int)} {len : Nat} {x : Int32} {off : Int} (tgt : Nat) (hd : decode I.2.1 pc = .ok (.lookupswitch dflt ps, len)) (hp : (ps.toList.zip (ps.toList.drop 1)).all (fun (a, next) => a.1 < next.1) = true) (ho : Op.lookupswitch.offset ps.toList dflt x.toInt = off) (ht : (pc : Int) + off = (tgt : Int)) (k : j_W d I X tgt L st M) : j_W d I X pc L (.int x :: st) M := by
  obtain ⟨⟨p, l, e, R, s⟩, ⟨m, args, below, meth, c⟩, ⟨w, A, cells, slots, Q⟩⟩ := X
  intro hG H locs ls hP hS hl
  obtain ⟨hx, hb, hml, hown, hts, hK, hZ, hD, hA, hfr, hlo, hce, hsl⟩ := id hG
  exact lv_lookup hx hb hd hp ho ht (k hG H locs ls hP hS hl)
theorem jx_iload_nG {i : Fin 4} {x : Int32} (hi : L[(i : Nat)]? = some (some (.int x))) (hd : decode I.2.1 pc = .ok (.iload_n i, 1)) (k : j_W d I X (pc + 1) L (.int x :: st) M) : j_W d I X pc L st M := by
  obtain ⟨⟨p, l, e, R, s⟩, ⟨m, args, below, meth, c⟩, ⟨w, A, cells, slots, Q⟩⟩ := X
  intro hG H locs ls hP hS hl
  obtain ⟨hx, hb, hml, hown, hts, hK, hZ, hD, hA, hfr, hlo, hce, hsl⟩ := id hG
  exact lv_iload_n hx hb hd rfl (j_lv_get hl hi) (k hG H locs ls hP hS hl)
theorem jx_iloadG {i : Nat} {x : Int32} (hi : L[i]? = some (some (.int x))) (hd : decode I.2.1 pc = .ok (.iload i, 2)) (k : j_W d I X (pc + 2) L (.int x :: st) M) : j_W d I X pc L st M := by
  obtain ⟨⟨p, l, e, R, s⟩, ⟨m, args, below, meth, c⟩, ⟨w, A, cells, slots, Q⟩⟩ := X
  intro hG H locs ls hP hS hl
  obtain ⟨hx, hb, hml, hown, hts, hK, hZ, hD, hA, hfr, hlo, hce, hsl⟩ := id hG
  exact lv_iload hx hb hd (j_lv_get hl hi) (k hG H locs ls hP hS hl)
theorem jx_istore_nG {i : Fin 4} {x : Int32} (hn : (i : Nat) < I.2.2.1) (hp : (i : Nat) = 0 ∨ j_c1 L[(i : Nat) - 1]? = true) (hd : decode I.2.1 pc = .ok (.istore_n i, 1)) (k : j_W d I X (pc + 1) (L.set (i : Nat) (some (.int x))) st M) : j_W d I X pc L (.int x :: st) M := by
  obtain ⟨⟨p, l, e, R, s⟩, ⟨m, args, below, meth, c⟩, ⟨w, A, cells, slots, Q⟩⟩ := X
  intro hG H locs ls hP hS hl
  obtain ⟨hx, hb, hml, hown, hts, hK, hZ, hD, hA, hfr, hlo, hce, hsl⟩ := id hG
  exact lv_istore_n hx hb hd rfl hl hn rfl (fun ls2 hl2 => k hG H locs ls2 hP hS (j_lv_set1 hp hl2))
theorem jx_istoreG {i : Nat} {x : Int32} (hn : i < I.2.2.1) (hp : i = 0 ∨ j_c1 L[i - 1]? = true) (hd : decode I.2.1 pc = .ok (.istore i, 2)) (k : j_W d I X (pc + 2) (L.set i (some (.int x))) st M) : j_W d I X pc L (.int x :: st) M := by
  obtain ⟨⟨p, l, e, R, s⟩, ⟨m, args, below, meth, c⟩, ⟨w, A, cells, slots, Q⟩⟩ := X
  intro hG H locs ls hP hS hl
  obtain ⟨hx, hb, hml, hown, hts, hK, hZ, hD, hA, hfr, hlo, hce, hsl⟩ := id hG
  exact lv_istore hx hb hd hl hn rfl (fun ls2 hl2 => k hG H locs ls2 hP hS (j_lv_set1 hp hl2))
theorem jx_lload_nG {i : Fin 4} {x : Int64} (hi : L[(i : Nat)]? = some (some (.long x))) (hd : decode I.2.1 pc = .ok (.lload_n i, 1)) (k : j_W d I X (pc + 1) L (.long x :: st) M) : j_W d I X pc L st M := by
  obtain ⟨⟨p, l, e, R, s⟩, ⟨m, args, below, meth, c⟩, ⟨w, A, cells, slots, Q⟩⟩ := X
  intro hG H locs ls hP hS hl
  obtain ⟨hx, hb, hml, hown, hts, hK, hZ, hD, hA, hfr, hlo, hce, hsl⟩ := id hG
  exact lv_lload_n hx hb hd rfl (j_lv_get hl hi) (k hG H locs ls hP hS hl)
theorem jx_lloadG {i : Nat} {x : Int64} (hi : L[i]? = some (some (.long x))) (hd : decode I.2.1 pc = .ok (.lload i, 2)) (k : j_W d I X (pc + 2) L (.long x :: st) M) : j_W d I X pc L st M := by
  obtain ⟨⟨p, l, e, R, s⟩, ⟨m, args, below, meth, c⟩, ⟨w, A, cells, slots, Q⟩⟩ := X
  intro hG H locs ls hP hS hl
  obtain ⟨hx, hb, hml, hown, hts, hK, hZ, hD, hA, hfr, hlo, hce, hsl⟩ := id hG
  exact lv_lload hx hb hd (j_lv_get hl hi) (k hG H locs ls hP hS hl)
theorem jx_lstore_nG {i : Fin 4} {x : Int64} (hn : (i : Nat) + 1 < I.2.2.1) (hp : (i : Nat) = 0 ∨ j_c1 L[(i : Nat) - 1]? = true) (hd : decode I.2.1 pc = .ok (.lstore_n i, 1)) (k : j_W d I X (pc + 1) ((L.set (i : Nat) (some (.long x))).set ((i : Nat) + 1) none) st M) : j_W d I X pc L (.long x :: st) M := by
  obtain ⟨⟨p, l, e, R, s⟩, ⟨m, args, below, meth, c⟩, ⟨w, A, cells, slots, Q⟩⟩ := X
  intro hG H locs ls hP hS hl
  obtain ⟨hx, hb, hml, hown, hts, hK, hZ, hD, hA, hfr, hlo, hce, hsl⟩ := id hG
  exact lv_lstore_n hx hb hd rfl hl hn rfl (fun ls2 hl2 => k hG H locs ls2 hP hS (j_lv_set2 hp hl2))
theorem jx_lstoreG {i : Nat} {x : Int64} (hn : i + 1 < I.2.2.1) (hp : i = 0 ∨ j_c1 L[i - 1]? = true) (hd : decode I.2.1 pc = .ok (.lstore i, 2)) (k : j_W d I X (pc + 2) ((L.set i (some (.long x))).set (i + 1) none) st M) : j_W d I X pc L (.long x :: st) M := by
  obtain ⟨⟨p, l, e, R, s⟩, ⟨m, args, below, meth, c⟩, ⟨w, A, cells, slots, Q⟩⟩ := X
  intro hG H locs ls hP hS hl
  obtain ⟨hx, hb, hml, hown, hts, hK, hZ, hD, hA, hfr, hlo, hce, hsl⟩ := id hG
  exact lv_lstore hx hb hd hl hn rfl (fun ls2 hl2 => k hG H locs ls2 hP hS (j_lv_set2 hp hl2))
theorem jx_aload_nG {i : Fin 4} {x : Nat} (hi : L[(i : Nat)]? = some (some (.ref x))) (hd : decode I.2.1 pc = .ok (.aload_n i, 1)) (k : j_W d I X (pc + 1) L (.ref x :: st) M) : j_W d I X pc L st M := by
  obtain ⟨⟨p, l, e, R, s⟩, ⟨m, args, below, meth, c⟩, ⟨w, A, cells, slots, Q⟩⟩ := X
  intro hG H locs ls hP hS hl
  obtain ⟨hx, hb, hml, hown, hts, hK, hZ, hD, hA, hfr, hlo, hce, hsl⟩ := id hG
  exact lv_aload_n hx hb hd rfl (j_lv_get hl hi) (k hG H locs ls hP hS hl)
theorem jx_aloadG {i : Nat} {x : Nat} (hi : L[i]? = some (some (.ref x))) (hd : decode I.2.1 pc = .ok (.aload i, 2)) (k : j_W d I X (pc + 2) L (.ref x :: st) M) : j_W d I X pc L st M := by
  obtain ⟨⟨p, l, e, R, s⟩, ⟨m, args, below, meth, c⟩, ⟨w, A, cells, slots, Q⟩⟩ := X
  intro hG H locs ls hP hS hl
  obtain ⟨hx, hb, hml, hown, hts, hK, hZ, hD, hA, hfr, hlo, hce, hsl⟩ := id hG
  exact lv_aload hx hb hd (j_lv_get hl hi) (k hG H locs ls hP hS hl)
theorem jx_astore_nG {i : Fin 4} {x : Nat} (hn : (i : Nat) < I.2.2.1) (hp : (i : Nat) = 0 ∨ j_c1 L[(i : Nat) - 1]? = true) (hd : decode I.2.1 pc = .ok (.astore_n i, 1)) (k : j_W d I X (pc + 1) (L.set (i : Nat) (some (.ref x))) st M) : j_W d I X pc L (.ref x :: st) M := by
  obtain ⟨⟨p, l, e, R, s⟩, ⟨m, args, below, meth, c⟩, ⟨w, A, cells, slots, Q⟩⟩ := X
  intro hG H locs ls hP hS hl
  obtain ⟨hx, hb, hml, hown, hts, hK, hZ, hD, hA, hfr, hlo, hce, hsl⟩ := id hG
  exact lv_astore_n hx hb hd rfl hl hn rfl (fun ls2 hl2 => k hG H locs ls2 hP hS (j_lv_set1 hp hl2))
theorem jx_astoreG {i : Nat} {x : Nat} (hn : i < I.2.2.1) (hp : i = 0 ∨ j_c1 L[i - 1]? = true) (hd : decode I.2.1 pc = .ok (.astore i, 2)) (k : j_W d I X (pc + 2) (L.set i (some (.ref x))) st M) : j_W d I X pc L (.ref x :: st) M := by
  obtain ⟨⟨p, l, e, R, s⟩, ⟨m, args, below, meth, c⟩, ⟨w, A, cells, slots, Q⟩⟩ := X
  intro hG H locs ls hP hS hl
  obtain ⟨hx, hb, hml, hown, hts, hK, hZ, hD, hA, hfr, hlo, hce, hsl⟩ := id hG
  exact lv_astore hx hb hd hl hn rfl (fun ls2 hl2 => k hG H locs ls2 hP hS (j_lv_set1 hp hl2))
theorem j_lv_ix {w : j_w} {i : Nat} {v : Value} : ∀ (L : List (Option Value)) (k : Nat), L[i]? = some (some v) → ∃ n : Nat, (j_lv w k L)[n]? = some (k + i, j_e w v) := by
  intro L k h
  exact List.getElem?_of_mem ((j_lv_mem w L k _).mpr ⟨i, v, h, rfl⟩)
theorem jx_iincG {i : Nat} {n : Int} {x : Int32} (hi : L[i]? = some (some (.int x))) (hn : i < I.2.2.1) (hp : i = 0 ∨ j_c1 L[i - 1]? = true) (hd : decode I.2.1 pc = .ok (.iinc i n, 3)) (k : j_W d I X (pc + 3) (L.set i (some (.int (x + Int32.ofInt n)))) st M) : j_W d I X pc L st M := by
  obtain ⟨⟨p, l, e, R, s⟩, ⟨m, args, below, meth, c⟩, ⟨w, A, cells, slots, Q⟩⟩ := X
  intro hG H locs ls hP hS hl
  obtain ⟨hx, hb, hml, hown, hts, hK, hZ, hD, hA, hfr, hlo, hce, hsl⟩ := id hG
  obtain ⟨n0, hn0⟩ := j_lv_ix (w := w) L 0 hi
  rw [Nat.zero_add] at hn0
  exact lv_iinc hx hb hd hl hn0 rfl hn rfl (fun ls2 hl2 => k hG H locs ls2 hP hS (j_lv_set1 hp hl2))
theorem jx_iload0 {r : List (Option Value)} {x : Int32} (hd : decode I.2.1 pc = .ok (.iload_n 0, 1)) (k : j_W d I X (pc + 1) (some (.int x) :: r) (.int x :: st) M) : j_W d I X pc (some (.int x) :: r) st M := jx_iload_nG (i := 0) rfl hd k
theorem jx_istore0 {y : Option Value} {r : List (Option Value)} {x : Int32} (hd : decode I.2.1 pc = .ok (.istore_n 0, 1)) (hn : 0 < I.2.2.1) (k : j_W d I X (pc + 1) (some (.int x) :: r) st M) : j_W d I X pc (y :: r) (.int x :: st) M := jx_istore_nG (i := 0) hn (Or.inl rfl) hd k
theorem jx_lload0 {r : List (Option Value)} {x : Int64} (hd : decode I.2.1 pc = .ok (.lload_n 0, 1)) (k : j_W d I X (pc + 1) (some (.long x) :: r) (.long x :: st) M) : j_W d I X pc (some (.long x) :: r) st M := jx_lload_nG (i := 0) rfl hd k
theorem jx_lstore0 {y z : Option Value} {r : List (Option Value)} {x : Int64} (hd : decode I.2.1 pc = .ok (.lstore_n 0, 1)) (hn : 0 + 1 < I.2.2.1) (k : j_W d I X (pc + 1) (some (.long x) :: none :: r) st M) : j_W d I X pc (y :: z :: r) (.long x :: st) M := jx_lstore_nG (i := 0) hn (Or.inl rfl) hd k
theorem jx_aload0 {r : List (Option Value)} {x : Nat} (hd : decode I.2.1 pc = .ok (.aload_n 0, 1)) (k : j_W d I X (pc + 1) (some (.ref x) :: r) (.ref x :: st) M) : j_W d I X pc (some (.ref x) :: r) st M := jx_aload_nG (i := 0) rfl hd k
theorem jx_astore0 {y : Option Value} {r : List (Option Value)} {x : Nat} (hd : decode I.2.1 pc = .ok (.astore_n 0, 1)) (hn : 0 < I.2.2.1) (k : j_W d I X (pc + 1) (some (.ref x) :: r) st M) : j_W d I X pc (y :: r) (.ref x :: st) M := jx_astore_nG (i := 0) hn (Or.inl rfl) hd k
theorem jx_iinc0 {r : List (Option Value)} {x : Int32} {n : Int} (hd : decode I.2.1 pc = .ok (.iinc 0 n, 3)) (hn : 0 < I.2.2.1) (k : j_W d I X (pc + 3) (some (.int (x + Int32.ofInt n)) :: r) st M) : j_W d I X pc (some (.int x) :: r) st M := jx_iincG (i := 0) rfl hn (Or.inl rfl) hd k
theorem jx_iload1 {x0 : Option Value} {r : List (Option Value)} {x : Int32} (hd : decode I.2.1 pc = .ok (.iload_n 1, 1)) (k : j_W d I X (pc + 1) (x0 :: some (.int x) :: r) (.int x :: st) M) : j_W d I X pc (x0 :: some (.int x) :: r) st M := jx_iload_nG (i := 1) rfl hd k
theorem jx_istore1 {x0 : Option Value} {y : Option Value} {r : List (Option Value)} {x : Int32} (hd : decode I.2.1 pc = .ok (.istore_n 1, 1)) (hp : j_c1 (some x0) = true) (hn : 1 < I.2.2.1) (k : j_W d I X (pc + 1) (x0 :: some (.int x) :: r) st M) : j_W d I X pc (x0 :: y :: r) (.int x :: st) M := jx_istore_nG (i := 1) hn (Or.inr hp) hd k
theorem jx_lload1 {x0 : Option Value} {r : List (Option Value)} {x : Int64} (hd : decode I.2.1 pc = .ok (.lload_n 1, 1)) (k : j_W d I X (pc + 1) (x0 :: some (.long x) :: r) (.long x :: st) M) : j_W d I X pc (x0 :: some (.long x) :: r) st M := jx_lload_nG (i := 1) rfl hd k
theorem jx_lstore1 {x0 : Option Value} {y z : Option Value} {r : List (Option Value)} {x : Int64} (hd : decode I.2.1 pc = .ok (.lstore_n 1, 1)) (hp : j_c1 (some x0) = true) (hn : 1 + 1 < I.2.2.1) (k : j_W d I X (pc + 1) (x0 :: some (.long x) :: none :: r) st M) : j_W d I X pc (x0 :: y :: z :: r) (.long x :: st) M := jx_lstore_nG (i := 1) hn (Or.inr hp) hd k
theorem jx_aload1 {x0 : Option Value} {r : List (Option Value)} {x : Nat} (hd : decode I.2.1 pc = .ok (.aload_n 1, 1)) (k : j_W d I X (pc + 1) (x0 :: some (.ref x) :: r) (.ref x :: st) M) : j_W d I X pc (x0 :: some (.ref x) :: r) st M := jx_aload_nG (i := 1) rfl hd k
theorem jx_astore1 {x0 : Option Value} {y : Option Value} {r : List (Option Value)} {x : Nat} (hd : decode I.2.1 pc = .ok (.astore_n 1, 1)) (hp : j_c1 (some x0) = true) (hn : 1 < I.2.2.1) (k : j_W d I X (pc + 1) (x0 :: some (.ref x) :: r) st M) : j_W d I X pc (x0 :: y :: r) (.ref x :: st) M := jx_astore_nG (i := 1) hn (Or.inr hp) hd k
theorem jx_iinc1 {x0 : Option Value} {r : List (Option Value)} {x : Int32} {n : Int} (hd : decode I.2.1 pc = .ok (.iinc 1 n, 3)) (hp : j_c1 (some x0) = true) (hn : 1 < I.2.2.1) (k : j_W d I X (pc + 3) (x0 :: some (.int (x + Int32.ofInt n)) :: r) st M) : j_W d I X pc (x0 :: some (.int x) :: r) st M := jx_iincG (i := 1) rfl hn (Or.inr hp) hd k
theorem jx_iload2 {x0 x1 : Option Value} {r : List (Option Value)} {x : Int32} (hd : decode I.2.1 pc = .ok (.iload_n 2, 1)) (k : j_W d I X (pc + 1) (x0 :: x1 :: some (.int x) :: r) (.int x :: st) M) : j_W d I X pc (x0 :: x1 :: some (.int x) :: r) st M := jx_iload_nG (i := 2) rfl hd k
theorem jx_istore2 {x0 x1 : Option Value} {y : Option Value} {r : List (Option Value)} {x : Int32} (hd : decode I.2.1 pc = .ok (.istore_n 2, 1)) (hp : j_c1 (some x1) = true) (hn : 2 < I.2.2.1) (k : j_W d I X (pc + 1) (x0 :: x1 :: some (.int x) :: r) st M) : j_W d I X pc (x0 :: x1 :: y :: r) (.int x :: st) M := jx_istore_nG (i := 2) hn (Or.inr hp) hd k
theorem jx_lload2 {x0 x1 : Option Value} {r : List (Option Value)} {x : Int64} (hd : decode I.2.1 pc = .ok (.lload_n 2, 1)) (k : j_W d I X (pc + 1) (x0 :: x1 :: some (.long x) :: r) (.long x :: st) M) : j_W d I X pc (x0 :: x1 :: some (.long x) :: r) st M := jx_lload_nG (i := 2) rfl hd k
theorem jx_lstore2 {x0 x1 : Option Value} {y z : Option Value} {r : List (Option Value)} {x : Int64} (hd : decode I.2.1 pc = .ok (.lstore_n 2, 1)) (hp : j_c1 (some x1) = true) (hn : 2 + 1 < I.2.2.1) (k : j_W d I X (pc + 1) (x0 :: x1 :: some (.long x) :: none :: r) st M) : j_W d I X pc (x0 :: x1 :: y :: z :: r) (.long x :: st) M := jx_lstore_nG (i := 2) hn (Or.inr hp) hd k
theorem jx_aload2 {x0 x1 : Option Value} {r : List (Option Value)} {x : Nat} (hd : decode I.2.1 pc = .ok (.aload_n 2, 1)) (k : j_W d I X (pc + 1) (x0 :: x1 :: some (.ref x) :: r) (.ref x :: st) M) : j_W d I X pc (x0 :: x1 :: some (.ref x) :: r) st M := jx_aload_nG (i := 2) rfl hd k
theorem jx_astore2 {x0 x1 : Option Value} {y : Option Value} {r : List (Option Value)} {x : Nat} (hd : decode I.2.1 pc = .ok (.astore_n 2, 1)) (hp : j_c1 (some x1) = true) (hn : 2 < I.2.2.1) (k : j_W d I X (pc + 1) (x0 :: x1 :: some (.ref x) :: r) st M) : j_W d I X pc (x0 :: x1 :: y :: r) (.ref x :: st) M := jx_astore_nG (i := 2) hn (Or.inr hp) hd k
theorem jx_iinc2 {x0 x1 : Option Value} {r : List (Option Value)} {x : Int32} {n : Int} (hd : decode I.2.1 pc = .ok (.iinc 2 n, 3)) (hp : j_c1 (some x1) = true) (hn : 2 < I.2.2.1) (k : j_W d I X (pc + 3) (x0 :: x1 :: some (.int (x + Int32.ofInt n)) :: r) st M) : j_W d I X pc (x0 :: x1 :: some (.int x) :: r) st M := jx_iincG (i := 2) rfl hn (Or.inr hp) hd k
theorem jx_iload3 {x0 x1 x2 : Option Value} {r : List (Option Value)} {x : Int32} (hd : decode I.2.1 pc = .ok (.iload_n 3, 1)) (k : j_W d I X (pc + 1) (x0 :: x1 :: x2 :: some (.int x) :: r) (.int x :: st) M) : j_W d I X pc (x0 :: x1 :: x2 :: some (.int x) :: r) st M := jx_iload_nG (i := 3) rfl hd k
theorem jx_istore3 {x0 x1 x2 : Option Value} {y : Option Value} {r : List (Option Value)} {x : Int32} (hd : decode I.2.1 pc = .ok (.istore_n 3, 1)) (hp : j_c1 (some x2) = true) (hn : 3 < I.2.2.1) (k : j_W d I X (pc + 1) (x0 :: x1 :: x2 :: some (.int x) :: r) st M) : j_W d I X pc (x0 :: x1 :: x2 :: y :: r) (.int x :: st) M := jx_istore_nG (i := 3) hn (Or.inr hp) hd k
theorem jx_lload3 {x0 x1 x2 : Option Value} {r : List (Option Value)} {x : Int64} (hd : decode I.2.1 pc = .ok (.lload_n 3, 1)) (k : j_W d I X (pc + 1) (x0 :: x1 :: x2 :: some (.long x) :: r) (.long x :: st) M) : j_W d I X pc (x0 :: x1 :: x2 :: some (.long x) :: r) st M := jx_lload_nG (i := 3) rfl hd k
theorem jx_lstore3 {x0 x1 x2 : Option Value} {y z : Option Value} {r : List (Option Value)} {x : Int64} (hd : decode I.2.1 pc = .ok (.lstore_n 3, 1)) (hp : j_c1 (some x2) = true) (hn : 3 + 1 < I.2.2.1) (k : j_W d I X (pc + 1) (x0 :: x1 :: x2 :: some (.long x) :: none :: r) st M) : j_W d I X pc (x0 :: x1 :: x2 :: y :: z :: r) (.long x :: st) M := jx_lstore_nG (i := 3) hn (Or.inr hp) hd k
theorem jx_aload3 {x0 x1 x2 : Option Value} {r : List (Option Value)} {x : Nat} (hd : decode I.2.1 pc = .ok (.aload_n 3, 1)) (k : j_W d I X (pc + 1) (x0 :: x1 :: x2 :: some (.ref x) :: r) (.ref x :: st) M) : j_W d I X pc (x0 :: x1 :: x2 :: some (.ref x) :: r) st M := jx_aload_nG (i := 3) rfl hd k
theorem jx_astore3 {x0 x1 x2 : Option Value} {y : Option Value} {r : List (Option Value)} {x : Nat} (hd : decode I.2.1 pc = .ok (.astore_n 3, 1)) (hp : j_c1 (some x2) = true) (hn : 3 < I.2.2.1) (k : j_W d I X (pc + 1) (x0 :: x1 :: x2 :: some (.ref x) :: r) st M) : j_W d I X pc (x0 :: x1 :: x2 :: y :: r) (.ref x :: st) M := jx_astore_nG (i := 3) hn (Or.inr hp) hd k
theorem jx_iinc3 {x0 x1 x2 : Option Value} {r : List (Option Value)} {x : Int32} {n : Int} (hd : decode I.2.1 pc = .ok (.iinc 3 n, 3)) (hp : j_c1 (some x2) = true) (hn : 3 < I.2.2.1) (k : j_W d I X (pc + 3) (x0 :: x1 :: x2 :: some (.int (x + Int32.ofInt n)) :: r) st M) : j_W d I X pc (x0 :: x1 :: x2 :: some (.int x) :: r) st M := jx_iincG (i := 3) rfl hn (Or.inr hp) hd k
theorem jx_iload4 {x0 x1 x2 x3 : Option Value} {r : List (Option Value)} {x : Int32} (hd : decode I.2.1 pc = .ok (.iload 4, 2)) (k : j_W d I X (pc + 2) (x0 :: x1 :: x2 :: x3 :: some (.int x) :: r) (.int x :: st) M) : j_W d I X pc (x0 :: x1 :: x2 :: x3 :: some (.int x) :: r) st M := jx_iloadG (i := 4) rfl hd k
theorem jx_istore4 {x0 x1 x2 x3 : Option Value} {y : Option Value} {r : List (Option Value)} {x : Int32} (hd : decode I.2.1 pc = .ok (.istore 4, 2)) (hp : j_c1 (some x3) = true) (hn : 4 < I.2.2.1) (k : j_W d I X (pc + 2) (x0 :: x1 :: x2 :: x3 :: some (.int x) :: r) st M) : j_W d I X pc (x0 :: x1 :: x2 :: x3 :: y :: r) (.int x :: st) M := jx_istoreG (i := 4) hn (Or.inr hp) hd k
theorem jx_lload4 {x0 x1 x2 x3 : Option Value} {r : List (Option Value)} {x : Int64} (hd : decode I.2.1 pc = .ok (.lload 4, 2)) (k : j_W d I X (pc + 2) (x0 :: x1 :: x2 :: x3 :: some (.long x) :: r) (.long x :: st) M) : j_W d I X pc (x0 :: x1 :: x2 :: x3 :: some (.long x) :: r) st M := jx_lloadG (i := 4) rfl hd k
theorem jx_lstore4 {x0 x1 x2 x3 : Option Value} {y z : Option Value} {r : List (Option Value)} {x : Int64} (hd : decode I.2.1 pc = .ok (.lstore 4, 2)) (hp : j_c1 (some x3) = true) (hn : 4 + 1 < I.2.2.1) (k : j_W d I X (pc + 2) (x0 :: x1 :: x2 :: x3 :: some (.long x) :: none :: r) st M) : j_W d I X pc (x0 :: x1 :: x2 :: x3 :: y :: z :: r) (.long x :: st) M := jx_lstoreG (i := 4) hn (Or.inr hp) hd k
theorem jx_aload4 {x0 x1 x2 x3 : Option Value} {r : List (Option Value)} {x : Nat} (hd : decode I.2.1 pc = .ok (.aload 4, 2)) (k : j_W d I X (pc + 2) (x0 :: x1 :: x2 :: x3 :: some (.ref x) :: r) (.ref x :: st) M) : j_W d I X pc (x0 :: x1 :: x2 :: x3 :: some (.ref x) :: r) st M := jx_aloadG (i := 4) rfl hd k
theorem jx_astore4 {x0 x1 x2 x3 : Option Value} {y : Option Value} {r : List (Option Value)} {x : Nat} (hd : decode I.2.1 pc = .ok (.astore 4, 2)) (hp : j_c1 (some x3) = true) (hn : 4 < I.2.2.1) (k : j_W d I X (pc + 2) (x0 :: x1 :: x2 :: x3 :: some (.ref x) :: r) st M) : j_W d I X pc (x0 :: x1 :: x2 :: x3 :: y :: r) (.ref x :: st) M := jx_astoreG (i := 4) hn (Or.inr hp) hd k
theorem jx_iinc4 {x0 x1 x2 x3 : Option Value} {r : List (Option Value)} {x : Int32} {n : Int} (hd : decode I.2.1 pc = .ok (.iinc 4 n, 3)) (hp : j_c1 (some x3) = true) (hn : 4 < I.2.2.1) (k : j_W d I X (pc + 3) (x0 :: x1 :: x2 :: x3 :: some (.int (x + Int32.ofInt n)) :: r) st M) : j_W d I X pc (x0 :: x1 :: x2 :: x3 :: some (.int x) :: r) st M := jx_iincG (i := 4) rfl hn (Or.inr hp) hd k
theorem jx_iload5 {x0 x1 x2 x3 x4 : Option Value} {r : List (Option Value)} {x : Int32} (hd : decode I.2.1 pc = .ok (.iload 5, 2)) (k : j_W d I X (pc + 2) (x0 :: x1 :: x2 :: x3 :: x4 :: some (.int x) :: r) (.int x :: st) M) : j_W d I X pc (x0 :: x1 :: x2 :: x3 :: x4 :: some (.int x) :: r) st M := jx_iloadG (i := 5) rfl hd k
theorem jx_istore5 {x0 x1 x2 x3 x4 : Option Value} {y : Option Value} {r : List (Option Value)} {x : Int32} (hd : decode I.2.1 pc = .ok (.istore 5, 2)) (hp : j_c1 (some x4) = true) (hn : 5 < I.2.2.1) (k : j_W d I X (pc + 2) (x0 :: x1 :: x2 :: x3 :: x4 :: some (.int x) :: r) st M) : j_W d I X pc (x0 :: x1 :: x2 :: x3 :: x4 :: y :: r) (.int x :: st) M := jx_istoreG (i := 5) hn (Or.inr hp) hd k
theorem jx_lload5 {x0 x1 x2 x3 x4 : Option Value} {r : List (Option Value)} {x : Int64} (hd : decode I.2.1 pc = .ok (.lload 5, 2)) (k : j_W d I X (pc + 2) (x0 :: x1 :: x2 :: x3 :: x4 :: some (.long x) :: r) (.long x :: st) M) : j_W d I X pc (x0 :: x1 :: x2 :: x3 :: x4 :: some (.long x) :: r) st M := jx_lloadG (i := 5) rfl hd k
theorem jx_lstore5 {x0 x1 x2 x3 x4 : Option Value} {y z : Option Value} {r : List (Option Value)} {x : Int64} (hd : decode I.2.1 pc = .ok (.lstore 5, 2)) (hp : j_c1 (some x4) = true) (hn : 5 + 1 < I.2.2.1) (k : j_W d I X (pc + 2) (x0 :: x1 :: x2 :: x3 :: x4 :: some (.long x) :: none :: r) st M) : j_W d I X pc (x0 :: x1 :: x2 :: x3 :: x4 :: y :: z :: r) (.long x :: st) M := jx_lstoreG (i := 5) hn (Or.inr hp) hd k
theorem jx_aload5 {x0 x1 x2 x3 x4 : Option Value} {r : List (Option Value)} {x : Nat} (hd : decode I.2.1 pc = .ok (.aload 5, 2)) (k : j_W d I X (pc + 2) (x0 :: x1 :: x2 :: x3 :: x4 :: some (.ref x) :: r) (.ref x :: st) M) : j_W d I X pc (x0 :: x1 :: x2 :: x3 :: x4 :: some (.ref x) :: r) st M := jx_aloadG (i := 5) rfl hd k
theorem jx_astore5 {x0 x1 x2 x3 x4 : Option Value} {y : Option Value} {r : List (Option Value)} {x : Nat} (hd : decode I.2.1 pc = .ok (.astore 5, 2)) (hp : j_c1 (some x4) = true) (hn : 5 < I.2.2.1) (k : j_W d I X (pc + 2) (x0 :: x1 :: x2 :: x3 :: x4 :: some (.ref x) :: r) st M) : j_W d I X pc (x0 :: x1 :: x2 :: x3 :: x4 :: y :: r) (.ref x :: st) M := jx_astoreG (i := 5) hn (Or.inr hp) hd k
theorem jx_iinc5 {x0 x1 x2 x3 x4 : Option Value} {r : List (Option Value)} {x : Int32} {n : Int} (hd : decode I.2.1 pc = .ok (.iinc 5 n, 3)) (hp : j_c1 (some x4) = true) (hn : 5 < I.2.2.1) (k : j_W d I X (pc + 3) (x0 :: x1 :: x2 :: x3 :: x4 :: some (.int (x + Int32.ofInt n)) :: r) st M) : j_W d I X pc (x0 :: x1 :: x2 :: x3 :: x4 :: some (.int x) :: r) st M := jx_iincG (i := 5) rfl hn (Or.inr hp) hd k
theorem jx_iload6 {x0 x1 x2 x3 x4 x5 : Option Value} {r : List (Option Value)} {x : Int32} (hd : decode I.2.1 pc = .ok (.iload 6, 2)) (k : j_W d I X (pc + 2) (x0 :: x1 :: x2 :: x3 :: x4 :: x5 :: some (.int x) :: r) (.int x :: st) M) : j_W d I X pc (x0 :: x1 :: x2 :: x3 :: x4 :: x5 :: some (.int x) :: r) st M := jx_iloadG (i := 6) rfl hd k
theorem jx_istore6 {x0 x1 x2 x3 x4 x5 : Option Value} {y : Option Value} {r : List (Option Value)} {x : Int32} (hd : decode I.2.1 pc = .ok (.istore 6, 2)) (hp : j_c1 (some x5) = true) (hn : 6 < I.2.2.1) (k : j_W d I X (pc + 2) (x0 :: x1 :: x2 :: x3 :: x4 :: x5 :: some (.int x) :: r) st M) : j_W d I X pc (x0 :: x1 :: x2 :: x3 :: x4 :: x5 :: y :: r) (.int x :: st) M := jx_istoreG (i := 6) hn (Or.inr hp) hd k
theorem jx_lload6 {x0 x1 x2 x3 x4 x5 : Option Value} {r : List (Option Value)} {x : Int64} (hd : decode I.2.1 pc = .ok (.lload 6, 2)) (k : j_W d I X (pc + 2) (x0 :: x1 :: x2 :: x3 :: x4 :: x5 :: some (.long x) :: r) (.long x :: st) M) : j_W d I X pc (x0 :: x1 :: x2 :: x3 :: x4 :: x5 :: some (.long x) :: r) st M := jx_lloadG (i := 6) rfl hd k
theorem jx_lstore6 {x0 x1 x2 x3 x4 x5 : Option Value} {y z : Option Value} {r : List (Option Value)} {x : Int64} (hd : decode I.2.1 pc = .ok (.lstore 6, 2)) (hp : j_c1 (some x5) = true) (hn : 6 + 1 < I.2.2.1) (k : j_W d I X (pc + 2) (x0 :: x1 :: x2 :: x3 :: x4 :: x5 :: some (.long x) :: none :: r) st M) : j_W d I X pc (x0 :: x1 :: x2 :: x3 :: x4 :: x5 :: y :: z :: r) (.long x :: st) M := jx_lstoreG (i := 6) hn (Or.inr hp) hd k
theorem jx_aload6 {x0 x1 x2 x3 x4 x5 : Option Value} {r : List (Option Value)} {x : Nat} (hd : decode I.2.1 pc = .ok (.aload 6, 2)) (k : j_W d I X (pc + 2) (x0 :: x1 :: x2 :: x3 :: x4 :: x5 :: some (.ref x) :: r) (.ref x :: st) M) : j_W d I X pc (x0 :: x1 :: x2 :: x3 :: x4 :: x5 :: some (.ref x) :: r) st M := jx_aloadG (i := 6) rfl hd k
theorem jx_astore6 {x0 x1 x2 x3 x4 x5 : Option Value} {y : Option Value} {r : List (Option Value)} {x : Nat} (hd : decode I.2.1 pc = .ok (.astore 6, 2)) (hp : j_c1 (some x5) = true) (hn : 6 < I.2.2.1) (k : j_W d I X (pc + 2) (x0 :: x1 :: x2 :: x3 :: x4 :: x5 :: some (.ref x) :: r) st M) : j_W d I X pc (x0 :: x1 :: x2 :: x3 :: x4 :: x5 :: y :: r) (.ref x :: st) M := jx_astoreG (i := 6) hn (Or.inr hp) hd k
theorem jx_iinc6 {x0 x1 x2 x3 x4 x5 : Option Value} {r : List (Option Value)} {x : Int32} {n : Int} (hd : decode I.2.1 pc = .ok (.iinc 6 n, 3)) (hp : j_c1 (some x5) = true) (hn : 6 < I.2.2.1) (k : j_W d I X (pc + 3) (x0 :: x1 :: x2 :: x3 :: x4 :: x5 :: some (.int (x + Int32.ofInt n)) :: r) st M) : j_W d I X pc (x0 :: x1 :: x2 :: x3 :: x4 :: x5 :: some (.int x) :: r) st M := jx_iincG (i := 6) rfl hn (Or.inr hp) hd k
theorem jx_iload7 {x0 x1 x2 x3 x4 x5 x6 : Option Value} {r : List (Option Value)} {x : Int32} (hd : decode I.2.1 pc = .ok (.iload 7, 2)) (k : j_W d I X (pc + 2) (x0 :: x1 :: x2 :: x3 :: x4 :: x5 :: x6 :: some (.int x) :: r) (.int x :: st) M) : j_W d I X pc (x0 :: x1 :: x2 :: x3 :: x4 :: x5 :: x6 :: some (.int x) :: r) st M := jx_iloadG (i := 7) rfl hd k
theorem jx_istore7 {x0 x1 x2 x3 x4 x5 x6 : Option Value} {y : Option Value} {r : List (Option Value)} {x : Int32} (hd : decode I.2.1 pc = .ok (.istore 7, 2)) (hp : j_c1 (some x6) = true) (hn : 7 < I.2.2.1) (k : j_W d I X (pc + 2) (x0 :: x1 :: x2 :: x3 :: x4 :: x5 :: x6 :: some (.int x) :: r) st M) : j_W d I X pc (x0 :: x1 :: x2 :: x3 :: x4 :: x5 :: x6 :: y :: r) (.int x :: st) M := jx_istoreG (i := 7) hn (Or.inr hp) hd k
theorem jx_lload7 {x0 x1 x2 x3 x4 x5 x6 : Option Value} {r : List (Option Value)} {x : Int64} (hd : decode I.2.1 pc = .ok (.lload 7, 2)) (k : j_W d I X (pc + 2) (x0 :: x1 :: x2 :: x3 :: x4 :: x5 :: x6 :: some (.long x) :: r) (.long x :: st) M) : j_W d I X pc (x0 :: x1 :: x2 :: x3 :: x4 :: x5 :: x6 :: some (.long x) :: r) st M := jx_lloadG (i := 7) rfl hd k
theorem jx_lstore7 {x0 x1 x2 x3 x4 x5 x6 : Option Value} {y z : Option Value} {r : List (Option Value)} {x : Int64} (hd : decode I.2.1 pc = .ok (.lstore 7, 2)) (hp : j_c1 (some x6) = true) (hn : 7 + 1 < I.2.2.1) (k : j_W d I X (pc + 2) (x0 :: x1 :: x2 :: x3 :: x4 :: x5 :: x6 :: some (.long x) :: none :: r) st M) : j_W d I X pc (x0 :: x1 :: x2 :: x3 :: x4 :: x5 :: x6 :: y :: z :: r) (.long x :: st) M := jx_lstoreG (i := 7) hn (Or.inr hp) hd k
theorem jx_aload7 {x0 x1 x2 x3 x4 x5 x6 : Option Value} {r : List (Option Value)} {x : Nat} (hd : decode I.2.1 pc = .ok (.aload 7, 2)) (k : j_W d I X (pc + 2) (x0 :: x1 :: x2 :: x3 :: x4 :: x5 :: x6 :: some (.ref x) :: r) (.ref x :: st) M) : j_W d I X pc (x0 :: x1 :: x2 :: x3 :: x4 :: x5 :: x6 :: some (.ref x) :: r) st M := jx_aloadG (i := 7) rfl hd k
theorem jx_astore7 {x0 x1 x2 x3 x4 x5 x6 : Option Value} {y : Option Value} {r : List (Option Value)} {x : Nat} (hd : decode I.2.1 pc = .ok (.astore 7, 2)) (hp : j_c1 (some x6) = true) (hn : 7 < I.2.2.1) (k : j_W d I X (pc + 2) (x0 :: x1 :: x2 :: x3 :: x4 :: x5 :: x6 :: some (.ref x) :: r) st M) : j_W d I X pc (x0 :: x1 :: x2 :: x3 :: x4 :: x5 :: x6 :: y :: r) (.ref x :: st) M := jx_astoreG (i := 7) hn (Or.inr hp) hd k
theorem jx_iinc7 {x0 x1 x2 x3 x4 x5 x6 : Option Value} {r : List (Option Value)} {x : Int32} {n : Int} (hd : decode I.2.1 pc = .ok (.iinc 7 n, 3)) (hp : j_c1 (some x6) = true) (hn : 7 < I.2.2.1) (k : j_W d I X (pc + 3) (x0 :: x1 :: x2 :: x3 :: x4 :: x5 :: x6 :: some (.int (x + Int32.ofInt n)) :: r) st M) : j_W d I X pc (x0 :: x1 :: x2 :: x3 :: x4 :: x5 :: x6 :: some (.int x) :: r) st M := jx_iincG (i := 7) rfl hn (Or.inr hp) hd k
theorem jx_iload8 {x0 x1 x2 x3 x4 x5 x6 x7 : Option Value} {r : List (Option Value)} {x : Int32} (hd : decode I.2.1 pc = .ok (.iload 8, 2)) (k : j_W d I X (pc + 2) (x0 :: x1 :: x2 :: x3 :: x4 :: x5 :: x6 :: x7 :: some (.int x) :: r) (.int x :: st) M) : j_W d I X pc (x0 :: x1 :: x2 :: x3 :: x4 :: x5 :: x6 :: x7 :: some (.int x) :: r) st M := jx_iloadG (i := 8) rfl hd k
theorem jx_istore8 {x0 x1 x2 x3 x4 x5 x6 x7 : Option Value} {y : Option Value} {r : List (Option Value)} {x : Int32} (hd : decode I.2.1 pc = .ok (.istore 8, 2)) (hp : j_c1 (some x7) = true) (hn : 8 < I.2.2.1) (k : j_W d I X (pc + 2) (x0 :: x1 :: x2 :: x3 :: x4 :: x5 :: x6 :: x7 :: some (.int x) :: r) st M) : j_W d I X pc (x0 :: x1 :: x2 :: x3 :: x4 :: x5 :: x6 :: x7 :: y :: r) (.int x :: st) M := jx_istoreG (i := 8) hn (Or.inr hp) hd k
theorem jx_lload8 {x0 x1 x2 x3 x4 x5 x6 x7 : Option Value} {r : List (Option Value)} {x : Int64} (hd : decode I.2.1 pc = .ok (.lload 8, 2)) (k : j_W d I X (pc + 2) (x0 :: x1 :: x2 :: x3 :: x4 :: x5 :: x6 :: x7 :: some (.long x) :: r) (.long x :: st) M) : j_W d I X pc (x0 :: x1 :: x2 :: x3 :: x4 :: x5 :: x6 :: x7 :: some (.long x) :: r) st M := jx_lloadG (i := 8) rfl hd k
theorem jx_lstore8 {x0 x1 x2 x3 x4 x5 x6 x7 : Option Value} {y z : Option Value} {r : List (Option Value)} {x : Int64} (hd : decode I.2.1 pc = .ok (.lstore 8, 2)) (hp : j_c1 (some x7) = true) (hn : 8 + 1 < I.2.2.1) (k : j_W d I X (pc + 2) (x0 :: x1 :: x2 :: x3 :: x4 :: x5 :: x6 :: x7 :: some (.long x) :: none :: r) st M) : j_W d I X pc (x0 :: x1 :: x2 :: x3 :: x4 :: x5 :: x6 :: x7 :: y :: z :: r) (.long x :: st) M := jx_lstoreG (i := 8) hn (Or.inr hp) hd k
theorem jx_aload8 {x0 x1 x2 x3 x4 x5 x6 x7 : Option Value} {r : List (Option Value)} {x : Nat} (hd : decode I.2.1 pc = .ok (.aload 8, 2)) (k : j_W d I X (pc + 2) (x0 :: x1 :: x2 :: x3 :: x4 :: x5 :: x6 :: x7 :: some (.ref x) :: r) (.ref x :: st) M) : j_W d I X pc (x0 :: x1 :: x2 :: x3 :: x4 :: x5 :: x6 :: x7 :: some (.ref x) :: r) st M := jx_aloadG (i := 8) rfl hd k
theorem jx_astore8 {x0 x1 x2 x3 x4 x5 x6 x7 : Option Value} {y : Option Value} {r : List (Option Value)} {x : Nat} (hd : decode I.2.1 pc = .ok (.astore 8, 2)) (hp : j_c1 (some x7) = true) (hn : 8 < I.2.2.1) (k : j_W d I X (pc + 2) (x0 :: x1 :: x2 :: x3 :: x4 :: x5 :: x6 :: x7 :: some (.ref x) :: r) st M) : j_W d I X pc (x0 :: x1 :: x2 :: x3 :: x4 :: x5 :: x6 :: x7 :: y :: r) (.ref x :: st) M := jx_astoreG (i := 8) hn (Or.inr hp) hd k
theorem jx_iinc8 {x0 x1 x2 x3 x4 x5 x6 x7 : Option Value} {r : List (Option Value)} {x : Int32} {n : Int} (hd : decode I.2.1 pc = .ok (.iinc 8 n, 3)) (hp : j_c1 (some x7) = true) (hn : 8 < I.2.2.1) (k : j_W d I X (pc + 3) (x0 :: x1 :: x2 :: x3 :: x4 :: x5 :: x6 :: x7 :: some (.int (x + Int32.ofInt n)) :: r) st M) : j_W d I X pc (x0 :: x1 :: x2 :: x3 :: x4 :: x5 :: x6 :: x7 :: some (.int x) :: r) st M := jx_iincG (i := 8) rfl hn (Or.inr hp) hd k
theorem jx_iload9 {x0 x1 x2 x3 x4 x5 x6 x7 x8 : Option Value} {r : List (Option Value)} {x : Int32} (hd : decode I.2.1 pc = .ok (.iload 9, 2)) (k : j_W d I X (pc + 2) (x0 :: x1 :: x2 :: x3 :: x4 :: x5 :: x6 :: x7 :: x8 :: some (.int x) :: r) (.int x :: st) M) : j_W d I X pc (x0 :: x1 :: x2 :: x3 :: x4 :: x5 :: x6 :: x7 :: x8 :: some (.int x) :: r) st M := jx_iloadG (i := 9) rfl hd k
theorem jx_istore9 {x0 x1 x2 x3 x4 x5 x6 x7 x8 : Option Value} {y : Option Value} {r : List (Option Value)} {x : Int32} (hd : decode I.2.1 pc = .ok (.istore 9, 2)) (hp : j_c1 (some x8) = true) (hn : 9 < I.2.2.1) (k : j_W d I X (pc + 2) (x0 :: x1 :: x2 :: x3 :: x4 :: x5 :: x6 :: x7 :: x8 :: some (.int x) :: r) st M) : j_W d I X pc (x0 :: x1 :: x2 :: x3 :: x4 :: x5 :: x6 :: x7 :: x8 :: y :: r) (.int x :: st) M := jx_istoreG (i := 9) hn (Or.inr hp) hd k
theorem jx_lload9 {x0 x1 x2 x3 x4 x5 x6 x7 x8 : Option Value} {r : List (Option Value)} {x : Int64} (hd : decode I.2.1 pc = .ok (.lload 9, 2)) (k : j_W d I X (pc + 2) (x0 :: x1 :: x2 :: x3 :: x4 :: x5 :: x6 :: x7 :: x8 :: some (.long x) :: r) (.long x :: st) M) : j_W d I X pc (x0 :: x1 :: x2 :: x3 :: x4 :: x5 :: x6 :: x7 :: x8 :: some (.long x) :: r) st M := jx_lloadG (i := 9) rfl hd k
theorem jx_lstore9 {x0 x1 x2 x3 x4 x5 x6 x7 x8 : Option Value} {y z : Option Value} {r : List (Option Value)} {x : Int64} (hd : decode I.2.1 pc = .ok (.lstore 9, 2)) (hp : j_c1 (some x8) = true) (hn : 9 + 1 < I.2.2.1) (k : j_W d I X (pc + 2) (x0 :: x1 :: x2 :: x3 :: x4 :: x5 :: x6 :: x7 :: x8 :: some (.long x) :: none :: r) st M) : j_W d I X pc (x0 :: x1 :: x2 :: x3 :: x4 :: x5 :: x6 :: x7 :: x8 :: y :: z :: r) (.long x :: st) M := jx_lstoreG (i := 9) hn (Or.inr hp) hd k
theorem jx_aload9 {x0 x1 x2 x3 x4 x5 x6 x7 x8 : Option Value} {r : List (Option Value)} {x : Nat} (hd : decode I.2.1 pc = .ok (.aload 9, 2)) (k : j_W d I X (pc + 2) (x0 :: x1 :: x2 :: x3 :: x4 :: x5 :: x6 :: x7 :: x8 :: some (.ref x) :: r) (.ref x :: st) M) : j_W d I X pc (x0 :: x1 :: x2 :: x3 :: x4 :: x5 :: x6 :: x7 :: x8 :: some (.ref x) :: r) st M := jx_aloadG (i := 9) rfl hd k
theorem jx_astore9 {x0 x1 x2 x3 x4 x5 x6 x7 x8 : Option Value} {y : Option Value} {r : List (Option Value)} {x : Nat} (hd : decode I.2.1 pc = .ok (.astore 9, 2)) (hp : j_c1 (some x8) = true) (hn : 9 < I.2.2.1) (k : j_W d I X (pc + 2) (x0 :: x1 :: x2 :: x3 :: x4 :: x5 :: x6 :: x7 :: x8 :: some (.ref x) :: r) st M) : j_W d I X pc (x0 :: x1 :: x2 :: x3 :: x4 :: x5 :: x6 :: x7 :: x8 :: y :: r) (.ref x :: st) M := jx_astoreG (i := 9) hn (Or.inr hp) hd k
theorem jx_iinc9 {x0 x1 x2 x3 x4 x5 x6 x7 x8 : Option Value} {r : List (Option Value)} {x : Int32} {n : Int} (hd : decode I.2.1 pc = .ok (.iinc 9 n, 3)) (hp : j_c1 (some x8) = true) (hn : 9 < I.2.2.1) (k : j_W d I X (pc + 3) (x0 :: x1 :: x2 :: x3 :: x4 :: x5 :: x6 :: x7 :: x8 :: some (.int (x + Int32.ofInt n)) :: r) st M) : j_W d I X pc (x0 :: x1 :: x2 :: x3 :: x4 :: x5 :: x6 :: x7 :: x8 :: some (.int x) :: r) st M := jx_iincG (i := 9) rfl hn (Or.inr hp) hd k
theorem jx_iload10 {x0 x1 x2 x3 x4 x5 x6 x7 x8 x9 : Option Value} {r : List (Option Value)} {x : Int32} (hd : decode I.2.1 pc = .ok (.iload 10, 2)) (k : j_W d I X (pc + 2) (x0 :: x1 :: x2 :: x3 :: x4 :: x5 :: x6 :: x7 :: x8 :: x9 :: some (.int x) :: r) (.int x :: st) M) : j_W d I X pc (x0 :: x1 :: x2 :: x3 :: x4 :: x5 :: x6 :: x7 :: x8 :: x9 :: some (.int x) :: r) st M := jx_iloadG (i := 10) rfl hd k
theorem jx_istore10 {x0 x1 x2 x3 x4 x5 x6 x7 x8 x9 : Option Value} {y : Option Value} {r : List (Option Value)} {x : Int32} (hd : decode I.2.1 pc = .ok (.istore 10, 2)) (hp : j_c1 (some x9) = true) (hn : 10 < I.2.2.1) (k : j_W d I X (pc + 2) (x0 :: x1 :: x2 :: x3 :: x4 :: x5 :: x6 :: x7 :: x8 :: x9 :: some (.int x) :: r) st M) : j_W d I X pc (x0 :: x1 :: x2 :: x3 :: x4 :: x5 :: x6 :: x7 :: x8 :: x9 :: y :: r) (.int x :: st) M := jx_istoreG (i := 10) hn (Or.inr hp) hd k
theorem jx_lload10 {x0 x1 x2 x3 x4 x5 x6 x7 x8 x9 : Option Value} {r : List (Option Value)} {x : Int64} (hd : decode I.2.1 pc = .ok (.lload 10, 2)) (k : j_W d I X (pc + 2) (x0 :: x1 :: x2 :: x3 :: x4 :: x5 :: x6 :: x7 :: x8 :: x9 :: some (.long x) :: r) (.long x :: st) M) : j_W d I X pc (x0 :: x1 :: x2 :: x3 :: x4 :: x5 :: x6 :: x7 :: x8 :: x9 :: some (.long x) :: r) st M := jx_lloadG (i := 10) rfl hd k
theorem jx_lstore10 {x0 x1 x2 x3 x4 x5 x6 x7 x8 x9 : Option Value} {y z : Option Value} {r : List (Option Value)} {x : Int64} (hd : decode I.2.1 pc = .ok (.lstore 10, 2)) (hp : j_c1 (some x9) = true) (hn : 10 + 1 < I.2.2.1) (k : j_W d I X (pc + 2) (x0 :: x1 :: x2 :: x3 :: x4 :: x5 :: x6 :: x7 :: x8 :: x9 :: some (.long x) :: none :: r) st M) : j_W d I X pc (x0 :: x1 :: x2 :: x3 :: x4 :: x5 :: x6 :: x7 :: x8 :: x9 :: y :: z :: r) (.long x :: st) M := jx_lstoreG (i := 10) hn (Or.inr hp) hd k
theorem jx_aload10 {x0 x1 x2 x3 x4 x5 x6 x7 x8 x9 : Option Value} {r : List (Option Value)} {x : Nat} (hd : decode I.2.1 pc = .ok (.aload 10, 2)) (k : j_W d I X (pc + 2) (x0 :: x1 :: x2 :: x3 :: x4 :: x5 :: x6 :: x7 :: x8 :: x9 :: some (.ref x) :: r) (.ref x :: st) M) : j_W d I X pc (x0 :: x1 :: x2 :: x3 :: x4 :: x5 :: x6 :: x7 :: x8 :: x9 :: some (.ref x) :: r) st M := jx_aloadG (i := 10) rfl hd k
theorem jx_astore10 {x0 x1 x2 x3 x4 x5 x6 x7 x8 x9 : Option Value} {y : Option Value} {r : List (Option Value)} {x : Nat} (hd : decode I.2.1 pc = .ok (.astore 10, 2)) (hp : j_c1 (some x9) = true) (hn : 10 < I.2.2.1) (k : j_W d I X (pc + 2) (x0 :: x1 :: x2 :: x3 :: x4 :: x5 :: x6 :: x7 :: x8 :: x9 :: some (.ref x) :: r) st M) : j_W d I X pc (x0 :: x1 :: x2 :: x3 :: x4 :: x5 :: x6 :: x7 :: x8 :: x9 :: y :: r) (.ref x :: st) M := jx_astoreG (i := 10) hn (Or.inr hp) hd k
theorem jx_iinc10 {x0 x1 x2 x3 x4 x5 x6 x7 x8 x9 : Option Value} {r : List (Option Value)} {x : Int32} {n : Int} (hd : decode I.2.1 pc = .ok (.iinc 10 n, 3)) (hp : j_c1 (some x9) = true) (hn : 10 < I.2.2.1) (k : j_W d I X (pc + 3) (x0 :: x1 :: x2 :: x3 :: x4 :: x5 :: x6 :: x7 :: x8 :: x9 :: some (.int (x + Int32.ofInt n)) :: r) st M) : j_W d I X pc (x0 :: x1 :: x2 :: x3 :: x4 :: x5 :: x6 :: x7 :: x8 :: x9 :: some (.int x) :: r) st M := jx_iincG (i := 10) rfl hn (Or.inr hp) hd k
theorem jx_iload11 {x0 x1 x2 x3 x4 x5 x6 x7 x8 x9 x10 : Option Value} {r : List (Option Value)} {x : Int32} (hd : decode I.2.1 pc = .ok (.iload 11, 2)) (k : j_W d I X (pc + 2) (x0 :: x1 :: x2 :: x3 :: x4 :: x5 :: x6 :: x7 :: x8 :: x9 :: x10 :: some (.int x) :: r) (.int x :: st) M) : j_W d I X pc (x0 :: x1 :: x2 :: x3 :: x4 :: x5 :: x6 :: x7 :: x8 :: x9 :: x10 :: some (.int x) :: r) st M := jx_iloadG (i := 11) rfl hd k
theorem jx_istore11 {x0 x1 x2 x3 x4 x5 x6 x7 x8 x9 x10 : Option Value} {y : Option Value} {r : List (Option Value)} {x : Int32} (hd : decode I.2.1 pc = .ok (.istore 11, 2)) (hp : j_c1 (some x10) = true) (hn : 11 < I.2.2.1) (k : j_W d I X (pc + 2) (x0 :: x1 :: x2 :: x3 :: x4 :: x5 :: x6 :: x7 :: x8 :: x9 :: x10 :: some (.int x) :: r) st M) : j_W d I X pc (x0 :: x1 :: x2 :: x3 :: x4 :: x5 :: x6 :: x7 :: x8 :: x9 :: x10 :: y :: r) (.int x :: st) M := jx_istoreG (i := 11) hn (Or.inr hp) hd k
theorem jx_lload11 {x0 x1 x2 x3 x4 x5 x6 x7 x8 x9 x10 : Option Value} {r : List (Option Value)} {x : Int64} (hd : decode I.2.1 pc = .ok (.lload 11, 2)) (k : j_W d I X (pc + 2) (x0 :: x1 :: x2 :: x3 :: x4 :: x5 :: x6 :: x7 :: x8 :: x9 :: x10 :: some (.long x) :: r) (.long x :: st) M) : j_W d I X pc (x0 :: x1 :: x2 :: x3 :: x4 :: x5 :: x6 :: x7 :: x8 :: x9 :: x10 :: some (.long x) :: r) st M := jx_lloadG (i := 11) rfl hd k
theorem jx_lstore11 {x0 x1 x2 x3 x4 x5 x6 x7 x8 x9 x10 : Option Value} {y z : Option Value} {r : List (Option Value)} {x : Int64} (hd : decode I.2.1 pc = .ok (.lstore 11, 2)) (hp : j_c1 (some x10) = true) (hn : 11 + 1 < I.2.2.1) (k : j_W d I X (pc + 2) (x0 :: x1 :: x2 :: x3 :: x4 :: x5 :: x6 :: x7 :: x8 :: x9 :: x10 :: some (.long x) :: none :: r) st M) : j_W d I X pc (x0 :: x1 :: x2 :: x3 :: x4 :: x5 :: x6 :: x7 :: x8 :: x9 :: x10 :: y :: z :: r) (.long x :: st) M := jx_lstoreG (i := 11) hn (Or.inr hp) hd k
theorem jx_aload11 {x0 x1 x2 x3 x4 x5 x6 x7 x8 x9 x10 : Option Value} {r : List (Option Value)} {x : Nat} (hd : decode I.2.1 pc = .ok (.aload 11, 2)) (k : j_W d I X (pc + 2) (x0 :: x1 :: x2 :: x3 :: x4 :: x5 :: x6 :: x7 :: x8 :: x9 :: x10 :: some (.ref x) :: r) (.ref x :: st) M) : j_W d I X pc (x0 :: x1 :: x2 :: x3 :: x4 :: x5 :: x6 :: x7 :: x8 :: x9 :: x10 :: some (.ref x) :: r) st M := jx_aloadG (i := 11) rfl hd k
theorem jx_astore11 {x0 x1 x2 x3 x4 x5 x6 x7 x8 x9 x10 : Option Value} {y : Option Value} {r : List (Option Value)} {x : Nat} (hd : decode I.2.1 pc = .ok (.astore 11, 2)) (hp : j_c1 (some x10) = true) (hn : 11 < I.2.2.1) (k : j_W d I X (pc + 2) (x0 :: x1 :: x2 :: x3 :: x4 :: x5 :: x6 :: x7 :: x8 :: x9 :: x10 :: some (.ref x) :: r) st M) : j_W d I X pc (x0 :: x1 :: x2 :: x3 :: x4 :: x5 :: x6 :: x7 :: x8 :: x9 :: x10 :: y :: r) (.ref x :: st) M := jx_astoreG (i := 11) hn (Or.inr hp) hd k
theorem jx_iinc11 {x0 x1 x2 x3 x4 x5 x6 x7 x8 x9 x10 : Option Value} {r : List (Option Value)} {x : Int32} {n : Int} (hd : decode I.2.1 pc = .ok (.iinc 11 n, 3)) (hp : j_c1 (some x10) = true) (hn : 11 < I.2.2.1) (k : j_W d I X (pc + 3) (x0 :: x1 :: x2 :: x3 :: x4 :: x5 :: x6 :: x7 :: x8 :: x9 :: x10 :: some (.int (x + Int32.ofInt n)) :: r) st M) : j_W d I X pc (x0 :: x1 :: x2 :: x3 :: x4 :: x5 :: x6 :: x7 :: x8 :: x9 :: x10 :: some (.int x) :: r) st M := jx_iincG (i := 11) rfl hn (Or.inr hp) hd k
theorem jx_iload12 {x0 x1 x2 x3 x4 x5 x6 x7 x8 x9 x10 x11 : Option Value} {r : List (Option Value)} {x : Int32} (hd : decode I.2.1 pc = .ok (.iload 12, 2)) (k : j_W d I X (pc + 2) (x0 :: x1 :: x2 :: x3 :: x4 :: x5 :: x6 :: x7 :: x8 :: x9 :: x10 :: x11 :: some (.int x) :: r) (.int x :: st) M) : j_W d I X pc (x0 :: x1 :: x2 :: x3 :: x4 :: x5 :: x6 :: x7 :: x8 :: x9 :: x10 :: x11 :: some (.int x) :: r) st M := jx_iloadG (i := 12) rfl hd k
theorem jx_istore12 {x0 x1 x2 x3 x4 x5 x6 x7 x8 x9 x10 x11 : Option Value} {y : Option Value} {r : List (Option Value)} {x : Int32} (hd : decode I.2.1 pc = .ok (.istore 12, 2)) (hp : j_c1 (some x11) = true) (hn : 12 < I.2.2.1) (k : j_W d I X (pc + 2) (x0 :: x1 :: x2 :: x3 :: x4 :: x5 :: x6 :: x7 :: x8 :: x9 :: x10 :: x11 :: some (.int x) :: r) st M) : j_W d I X pc (x0 :: x1 :: x2 :: x3 :: x4 :: x5 :: x6 :: x7 :: x8 :: x9 :: x10 :: x11 :: y :: r) (.int x :: st) M := jx_istoreG (i := 12) hn (Or.inr hp) hd k
theorem jx_lload12 {x0 x1 x2 x3 x4 x5 x6 x7 x8 x9 x10 x11 : Option Value} {r : List (Option Value)} {x : Int64} (hd : decode I.2.1 pc = .ok (.lload 12, 2)) (k : j_W d I X (pc + 2) (x0 :: x1 :: x2 :: x3 :: x4 :: x5 :: x6 :: x7 :: x8 :: x9 :: x10 :: x11 :: some (.long x) :: r) (.long x :: st) M) : j_W d I X pc (x0 :: x1 :: x2 :: x3 :: x4 :: x5 :: x6 :: x7 :: x8 :: x9 :: x10 :: x11 :: some (.long x) :: r) st M := jx_lloadG (i := 12) rfl hd k
theorem jx_lstore12 {x0 x1 x2 x3 x4 x5 x6 x7 x8 x9 x10 x11 : Option Value} {y z : Option Value} {r : List (Option Value)} {x : Int64} (hd : decode I.2.1 pc = .ok (.lstore 12, 2)) (hp : j_c1 (some x11) = true) (hn : 12 + 1 < I.2.2.1) (k : j_W d I X (pc + 2) (x0 :: x1 :: x2 :: x3 :: x4 :: x5 :: x6 :: x7 :: x8 :: x9 :: x10 :: x11 :: some (.long x) :: none :: r) st M) : j_W d I X pc (x0 :: x1 :: x2 :: x3 :: x4 :: x5 :: x6 :: x7 :: x8 :: x9 :: x10 :: x11 :: y :: z :: r) (.long x :: st) M := jx_lstoreG (i := 12) hn (Or.inr hp) hd k
theorem jx_aload12 {x0 x1 x2 x3 x4 x5 x6 x7 x8 x9 x10 x11 : Option Value} {r : List (Option Value)} {x : Nat} (hd : decode I.2.1 pc = .ok (.aload 12, 2)) (k : j_W d I X (pc + 2) (x0 :: x1 :: x2 :: x3 :: x4 :: x5 :: x6 :: x7 :: x8 :: x9 :: x10 :: x11 :: some (.ref x) :: r) (.ref x :: st) M) : j_W d I X pc (x0 :: x1 :: x2 :: x3 :: x4 :: x5 :: x6 :: x7 :: x8 :: x9 :: x10 :: x11 :: some (.ref x) :: r) st M := jx_aloadG (i := 12) rfl hd k
theorem jx_astore12 {x0 x1 x2 x3 x4 x5 x6 x7 x8 x9 x10 x11 : Option Value} {y : Option Value} {r : List (Option Value)} {x : Nat} (hd : decode I.2.1 pc = .ok (.astore 12, 2)) (hp : j_c1 (some x11) = true) (hn : 12 < I.2.2.1) (k : j_W d I X (pc + 2) (x0 :: x1 :: x2 :: x3 :: x4 :: x5 :: x6 :: x7 :: x8 :: x9 :: x10 :: x11 :: some (.ref x) :: r) st M) : j_W d I X pc (x0 :: x1 :: x2 :: x3 :: x4 :: x5 :: x6 :: x7 :: x8 :: x9 :: x10 :: x11 :: y :: r) (.ref x :: st) M := jx_astoreG (i := 12) hn (Or.inr hp) hd k
theorem jx_iinc12 {x0 x1 x2 x3 x4 x5 x6 x7 x8 x9 x10 x11 : Option Value} {r : List (Option Value)} {x : Int32} {n : Int} (hd : decode I.2.1 pc = .ok (.iinc 12 n, 3)) (hp : j_c1 (some x11) = true) (hn : 12 < I.2.2.1) (k : j_W d I X (pc + 3) (x0 :: x1 :: x2 :: x3 :: x4 :: x5 :: x6 :: x7 :: x8 :: x9 :: x10 :: x11 :: some (.int (x + Int32.ofInt n)) :: r) st M) : j_W d I X pc (x0 :: x1 :: x2 :: x3 :: x4 :: x5 :: x6 :: x7 :: x8 :: x9 :: x10 :: x11 :: some (.int x) :: r) st M := jx_iincG (i := 12) rfl hn (Or.inr hp) hd k
theorem jx_iload13 {x0 x1 x2 x3 x4 x5 x6 x7 x8 x9 x10 x11 x12 : Option Value} {r : List (Option Value)} {x : Int32} (hd : decode I.2.1 pc = .ok (.iload 13, 2)) (k : j_W d I X (pc + 2) (x0 :: x1 :: x2 :: x3 :: x4 :: x5 :: x6 :: x7 :: x8 :: x9 :: x10 :: x11 :: x12 :: some (.int x) :: r) (.int x :: st) M) : j_W d I X pc (x0 :: x1 :: x2 :: x3 :: x4 :: x5 :: x6 :: x7 :: x8 :: x9 :: x10 :: x11 :: x12 :: some (.int x) :: r) st M := jx_iloadG (i := 13) rfl hd k
theorem jx_istore13 {x0 x1 x2 x3 x4 x5 x6 x7 x8 x9 x10 x11 x12 : Option Value} {y : Option Value} {r : List (Option Value)} {x : Int32} (hd : decode I.2.1 pc = .ok (.istore 13, 2)) (hp : j_c1 (some x12) = true) (hn : 13 < I.2.2.1) (k : j_W d I X (pc + 2) (x0 :: x1 :: x2 :: x3 :: x4 :: x5 :: x6 :: x7 :: x8 :: x9 :: x10 :: x11 :: x12 :: some (.int x) :: r) st M) : j_W d I X pc (x0 :: x1 :: x2 :: x3 :: x4 :: x5 :: x6 :: x7 :: x8 :: x9 :: x10 :: x11 :: x12 :: y :: r) (.int x :: st) M := jx_istoreG (i := 13) hn (Or.inr hp) hd k
theorem jx_lload13 {x0 x1 x2 x3 x4 x5 x6 x7 x8 x9 x10 x11 x12 : Option Value} {r : List (Option Value)} {x : Int64} (hd : decode I.2.1 pc = .ok (.lload 13, 2)) (k : j_W d I X (pc + 2) (x0 :: x1 :: x2 :: x3 :: x4 :: x5 :: x6 :: x7 :: x8 :: x9 :: x10 :: x11 :: x12 :: some (.long x) :: r) (.long x :: st) M) : j_W d I X pc (x0 :: x1 :: x2 :: x3 :: x4 :: x5 :: x6 :: x7 :: x8 :: x9 :: x10 :: x11 :: x12 :: some (.long x) :: r) st M := jx_lloadG (i := 13) rfl hd k
theorem jx_lstore13 {x0 x1 x2 x3 x4 x5 x6 x7 x8 x9 x10 x11 x12 : Option Value} {y z : Option Value} {r : List (Option Value)} {x : Int64} (hd : decode I.2.1 pc = .ok (.lstore 13, 2)) (hp : j_c1 (some x12) = true) (hn : 13 + 1 < I.2.2.1) (k : j_W d I X (pc + 2) (x0 :: x1 :: x2 :: x3 :: x4 :: x5 :: x6 :: x7 :: x8 :: x9 :: x10 :: x11 :: x12 :: some (.long x) :: none :: r) st M) : j_W d I X pc (x0 :: x1 :: x2 :: x3 :: x4 :: x5 :: x6 :: x7 :: x8 :: x9 :: x10 :: x11 :: x12 :: y :: z :: r) (.long x :: st) M := jx_lstoreG (i := 13) hn (Or.inr hp) hd k
theorem jx_aload13 {x0 x1 x2 x3 x4 x5 x6 x7 x8 x9 x10 x11 x12 : Option Value} {r : List (Option Value)} {x : Nat} (hd : decode I.2.1 pc = .ok (.aload 13, 2)) (k : j_W d I X (pc + 2) (x0 :: x1 :: x2 :: x3 :: x4 :: x5 :: x6 :: x7 :: x8 :: x9 :: x10 :: x11 :: x12 :: some (.ref x) :: r) (.ref x :: st) M) : j_W d I X pc (x0 :: x1 :: x2 :: x3 :: x4 :: x5 :: x6 :: x7 :: x8 :: x9 :: x10 :: x11 :: x12 :: some (.ref x) :: r) st M := jx_aloadG (i := 13) rfl hd k
theorem jx_astore13 {x0 x1 x2 x3 x4 x5 x6 x7 x8 x9 x10 x11 x12 : Option Value} {y : Option Value} {r : List (Option Value)} {x : Nat} (hd : decode I.2.1 pc = .ok (.astore 13, 2)) (hp : j_c1 (some x12) = true) (hn : 13 < I.2.2.1) (k : j_W d I X (pc + 2) (x0 :: x1 :: x2 :: x3 :: x4 :: x5 :: x6 :: x7 :: x8 :: x9 :: x10 :: x11 :: x12 :: some (.ref x) :: r) st M) : j_W d I X pc (x0 :: x1 :: x2 :: x3 :: x4 :: x5 :: x6 :: x7 :: x8 :: x9 :: x10 :: x11 :: x12 :: y :: r) (.ref x :: st) M := jx_astoreG (i := 13) hn (Or.inr hp) hd k
theorem jx_iinc13 {x0 x1 x2 x3 x4 x5 x6 x7 x8 x9 x10 x11 x12 : Option Value} {r : List (Option Value)} {x : Int32} {n : Int} (hd : decode I.2.1 pc = .ok (.iinc 13 n, 3)) (hp : j_c1 (some x12) = true) (hn : 13 < I.2.2.1) (k : j_W d I X (pc + 3) (x0 :: x1 :: x2 :: x3 :: x4 :: x5 :: x6 :: x7 :: x8 :: x9 :: x10 :: x11 :: x12 :: some (.int (x + Int32.ofInt n)) :: r) st M) : j_W d I X pc (x0 :: x1 :: x2 :: x3 :: x4 :: x5 :: x6 :: x7 :: x8 :: x9 :: x10 :: x11 :: x12 :: some (.int x) :: r) st M := jx_iincG (i := 13) rfl hn (Or.inr hp) hd k
theorem jx_iload14 {x0 x1 x2 x3 x4 x5 x6 x7 x8 x9 x10 x11 x12 x13 : Option Value} {r : List (Option Value)} {x : Int32} (hd : decode I.2.1 pc = .ok (.iload 14, 2)) (k : j_W d I X (pc + 2) (x0 :: x1 :: x2 :: x3 :: x4 :: x5 :: x6 :: x7 :: x8 :: x9 :: x10 :: x11 :: x12 :: x13 :: some (.int x) :: r) (.int x :: st) M) : j_W d I X pc (x0 :: x1 :: x2 :: x3 :: x4 :: x5 :: x6 :: x7 :: x8 :: x9 :: x10 :: x11 :: x12 :: x13 :: some (.int x) :: r) st M := jx_iloadG (i := 14) rfl hd k
theorem jx_istore14 {x0 x1 x2 x3 x4 x5 x6 x7 x8 x9 x10 x11 x12 x13 : Option Value} {y : Option Value} {r : List (Option Value)} {x : Int32} (hd : decode I.2.1 pc = .ok (.istore 14, 2)) (hp : j_c1 (some x13) = true) (hn : 14 < I.2.2.1) (k : j_W d I X (pc + 2) (x0 :: x1 :: x2 :: x3 :: x4 :: x5 :: x6 :: x7 :: x8 :: x9 :: x10 :: x11 :: x12 :: x13 :: some (.int x) :: r) st M) : j_W d I X pc (x0 :: x1 :: x2 :: x3 :: x4 :: x5 :: x6 :: x7 :: x8 :: x9 :: x10 :: x11 :: x12 :: x13 :: y :: r) (.int x :: st) M := jx_istoreG (i := 14) hn (Or.inr hp) hd k
theorem jx_lload14 {x0 x1 x2 x3 x4 x5 x6 x7 x8 x9 x10 x11 x12 x13 : Option Value} {r : List (Option Value)} {x : Int64} (hd : decode I.2.1 pc = .ok (.lload 14, 2)) (k : j_W d I X (pc + 2) (x0 :: x1 :: x2 :: x3 :: x4 :: x5 :: x6 :: x7 :: x8 :: x9 :: x10 :: x11 :: x12 :: x13 :: some (.long x) :: r) (.long x :: st) M) : j_W d I X pc (x0 :: x1 :: x2 :: x3 :: x4 :: x5 :: x6 :: x7 :: x8 :: x9 :: x10 :: x11 :: x12 :: x13 :: some (.long x) :: r) st M := jx_lloadG (i := 14) rfl hd k
theorem jx_lstore14 {x0 x1 x2 x3 x4 x5 x6 x7 x8 x9 x10 x11 x12 x13 : Option Value} {y z : Option Value} {r : List (Option Value)} {x : Int64} (hd : decode I.2.1 pc = .ok (.lstore 14, 2)) (hp : j_c1 (some x13) = true) (hn : 14 + 1 < I.2.2.1) (k : j_W d I X (pc + 2) (x0 :: x1 :: x2 :: x3 :: x4 :: x5 :: x6 :: x7 :: x8 :: x9 :: x10 :: x11 :: x12 :: x13 :: some (.long x) :: none :: r) st M) : j_W d I X pc (x0 :: x1 :: x2 :: x3 :: x4 :: x5 :: x6 :: x7 :: x8 :: x9 :: x10 :: x11 :: x12 :: x13 :: y :: z :: r) (.long x :: st) M := jx_lstoreG (i := 14) hn (Or.inr hp) hd k
theorem jx_aload14 {x0 x1 x2 x3 x4 x5 x6 x7 x8 x9 x10 x11 x12 x13 : Option Value} {r : List (Option Value)} {x : Nat} (hd : decode I.2.1 pc = .ok (.aload 14, 2)) (k : j_W d I X (pc + 2) (x0 :: x1 :: x2 :: x3 :: x4 :: x5 :: x6 :: x7 :: x8 :: x9 :: x10 :: x11 :: x12 :: x13 :: some (.ref x) :: r) (.ref x :: st) M) : j_W d I X pc (x0 :: x1 :: x2 :: x3 :: x4 :: x5 :: x6 :: x7 :: x8 :: x9 :: x10 :: x11 :: x12 :: x13 :: some (.ref x) :: r) st M := jx_aloadG (i := 14) rfl hd k
theorem jx_astore14 {x0 x1 x2 x3 x4 x5 x6 x7 x8 x9 x10 x11 x12 x13 : Option Value} {y : Option Value} {r : List (Option Value)} {x : Nat} (hd : decode I.2.1 pc = .ok (.astore 14, 2)) (hp : j_c1 (some x13) = true) (hn : 14 < I.2.2.1) (k : j_W d I X (pc + 2) (x0 :: x1 :: x2 :: x3 :: x4 :: x5 :: x6 :: x7 :: x8 :: x9 :: x10 :: x11 :: x12 :: x13 :: some (.ref x) :: r) st M) : j_W d I X pc (x0 :: x1 :: x2 :: x3 :: x4 :: x5 :: x6 :: x7 :: x8 :: x9 :: x10 :: x11 :: x12 :: x13 :: y :: r) (.ref x :: st) M := jx_astoreG (i := 14) hn (Or.inr hp) hd k
theorem jx_iinc14 {x0 x1 x2 x3 x4 x5 x6 x7 x8 x9 x10 x11 x12 x13 : Option Value} {r : List (Option Value)} {x : Int32} {n : Int} (hd : decode I.2.1 pc = .ok (.iinc 14 n, 3)) (hp : j_c1 (some x13) = true) (hn : 14 < I.2.2.1) (k : j_W d I X (pc + 3) (x0 :: x1 :: x2 :: x3 :: x4 :: x5 :: x6 :: x7 :: x8 :: x9 :: x10 :: x11 :: x12 :: x13 :: some (.int (x + Int32.ofInt n)) :: r) st M) : j_W d I X pc (x0 :: x1 :: x2 :: x3 :: x4 :: x5 :: x6 :: x7 :: x8 :: x9 :: x10 :: x11 :: x12 :: x13 :: some (.int x) :: r) st M := jx_iincG (i := 14) rfl hn (Or.inr hp) hd k
theorem jx_iload15 {x0 x1 x2 x3 x4 x5 x6 x7 x8 x9 x10 x11 x12 x13 x14 : Option Value} {r : List (Option Value)} {x : Int32} (hd : decode I.2.1 pc = .ok (.iload 15, 2)) (k : j_W d I X (pc + 2) (x0 :: x1 :: x2 :: x3 :: x4 :: x5 :: x6 :: x7 :: x8 :: x9 :: x10 :: x11 :: x12 :: x13 :: x14 :: some (.int x) :: r) (.int x :: st) M) : j_W d I X pc (x0 :: x1 :: x2 :: x3 :: x4 :: x5 :: x6 :: x7 :: x8 :: x9 :: x10 :: x11 :: x12 :: x13 :: x14 :: some (.int x) :: r) st M := jx_iloadG (i := 15) rfl hd k
theorem jx_istore15 {x0 x1 x2 x3 x4 x5 x6 x7 x8 x9 x10 x11 x12 x13 x14 : Option Value} {y : Option Value} {r : List (Option Value)} {x : Int32} (hd : decode I.2.1 pc = .ok (.istore 15, 2)) (hp : j_c1 (some x14) = true) (hn : 15 < I.2.2.1) (k : j_W d I X (pc + 2) (x0 :: x1 :: x2 :: x3 :: x4 :: x5 :: x6 :: x7 :: x8 :: x9 :: x10 :: x11 :: x12 :: x13 :: x14 :: some (.int x) :: r) st M) : j_W d I X pc (x0 :: x1 :: x2 :: x3 :: x4 :: x5 :: x6 :: x7 :: x8 :: x9 :: x10 :: x11 :: x12 :: x13 :: x14 :: y :: r) (.int x :: st) M := jx_istoreG (i := 15) hn (Or.inr hp) hd k
theorem jx_lload15 {x0 x1 x2 x3 x4 x5 x6 x7 x8 x9 x10 x11 x12 x13 x14 : Option Value} {r : List (Option Value)} {x : Int64} (hd : decode I.2.1 pc = .ok (.lload 15, 2)) (k : j_W d I X (pc + 2) (x0 :: x1 :: x2 :: x3 :: x4 :: x5 :: x6 :: x7 :: x8 :: x9 :: x10 :: x11 :: x12 :: x13 :: x14 :: some (.long x) :: r) (.long x :: st) M) : j_W d I X pc (x0 :: x1 :: x2 :: x3 :: x4 :: x5 :: x6 :: x7 :: x8 :: x9 :: x10 :: x11 :: x12 :: x13 :: x14 :: some (.long x) :: r) st M := jx_lloadG (i := 15) rfl hd k
theorem jx_lstore15 {x0 x1 x2 x3 x4 x5 x6 x7 x8 x9 x10 x11 x12 x13 x14 : Option Value} {y z : Option Value} {r : List (Option Value)} {x : Int64} (hd : decode I.2.1 pc = .ok (.lstore 15, 2)) (hp : j_c1 (some x14) = true) (hn : 15 + 1 < I.2.2.1) (k : j_W d I X (pc + 2) (x0 :: x1 :: x2 :: x3 :: x4 :: x5 :: x6 :: x7 :: x8 :: x9 :: x10 :: x11 :: x12 :: x13 :: x14 :: some (.long x) :: none :: r) st M) : j_W d I X pc (x0 :: x1 :: x2 :: x3 :: x4 :: x5 :: x6 :: x7 :: x8 :: x9 :: x10 :: x11 :: x12 :: x13 :: x14 :: y :: z :: r) (.long x :: st) M := jx_lstoreG (i := 15) hn (Or.inr hp) hd k
theorem jx_aload15 {x0 x1 x2 x3 x4 x5 x6 x7 x8 x9 x10 x11 x12 x13 x14 : Option Value} {r : List (Option Value)} {x : Nat} (hd : decode I.2.1 pc = .ok (.aload 15, 2)) (k : j_W d I X (pc + 2) (x0 :: x1 :: x2 :: x3 :: x4 :: x5 :: x6 :: x7 :: x8 :: x9 :: x10 :: x11 :: x12 :: x13 :: x14 :: some (.ref x) :: r) (.ref x :: st) M) : j_W d I X pc (x0 :: x1 :: x2 :: x3 :: x4 :: x5 :: x6 :: x7 :: x8 :: x9 :: x10 :: x11 :: x12 :: x13 :: x14 :: some (.ref x) :: r) st M := jx_aloadG (i := 15) rfl hd k
theorem jx_astore15 {x0 x1 x2 x3 x4 x5 x6 x7 x8 x9 x10 x11 x12 x13 x14 : Option Value} {y : Option Value} {r : List (Option Value)} {x : Nat} (hd : decode I.2.1 pc = .ok (.astore 15, 2)) (hp : j_c1 (some x14) = true) (hn : 15 < I.2.2.1) (k : j_W d I X (pc + 2) (x0 :: x1 :: x2 :: x3 :: x4 :: x5 :: x6 :: x7 :: x8 :: x9 :: x10 :: x11 :: x12 :: x13 :: x14 :: some (.ref x) :: r) st M) : j_W d I X pc (x0 :: x1 :: x2 :: x3 :: x4 :: x5 :: x6 :: x7 :: x8 :: x9 :: x10 :: x11 :: x12 :: x13 :: x14 :: y :: r) (.ref x :: st) M := jx_astoreG (i := 15) hn (Or.inr hp) hd k
theorem jx_iinc15 {x0 x1 x2 x3 x4 x5 x6 x7 x8 x9 x10 x11 x12 x13 x14 : Option Value} {r : List (Option Value)} {x : Int32} {n : Int} (hd : decode I.2.1 pc = .ok (.iinc 15 n, 3)) (hp : j_c1 (some x14) = true) (hn : 15 < I.2.2.1) (k : j_W d I X (pc + 3) (x0 :: x1 :: x2 :: x3 :: x4 :: x5 :: x6 :: x7 :: x8 :: x9 :: x10 :: x11 :: x12 :: x13 :: x14 :: some (.int (x + Int32.ofInt n)) :: r) st M) : j_W d I X pc (x0 :: x1 :: x2 :: x3 :: x4 :: x5 :: x6 :: x7 :: x8 :: x9 :: x10 :: x11 :: x12 :: x13 :: x14 :: some (.int x) :: r) st M := jx_iincG (i := 15) rfl hn (Or.inr hp) hd k
end Rules
