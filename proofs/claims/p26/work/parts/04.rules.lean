/-! one instruction, one rule, on zJ -/
section ZR
variable {G : zG} {X : zT} {R : Room} {cc : ByteArray} {Ts : List Cond} {own : String} {pc cells slots : Nat} {ws : va_W} {lv : List (Option Value)} {st : List Value}
theorem z_iconst (hF : zF G X R cc Ts own) {k : Int} {v : Int32} (hdg : decode cc pc = .ok (.iconst k, 1)) (hv : Int32.ofInt k = v)
    (kk : zJ G X (pc + 1) ws lv (.int v :: st) cells slots) : zJ G X pc ws lv (st) cells slots := by
  obtain ⟨p, l, e, R', s, m, args, below, meth, c, Q, A, n⟩ := X
  intro H locs ls hP hD hS hl
  exact lv_iconst hF.2.2.2.1.1 hF.2.2.2.1.2.1 hdg hv (kk H locs ls hP hD hS hl)
theorem z_bipush (hF : zF G X R cc Ts own) {k : Int} {v : Int32} (hdg : decode cc pc = .ok (.bipush k, 2)) (hv : (Int8.ofInt k).toInt32 = v)
    (kk : zJ G X (pc + 2) ws lv (.int v :: st) cells slots) : zJ G X pc ws lv (st) cells slots := by
  obtain ⟨p, l, e, R', s, m, args, below, meth, c, Q, A, n⟩ := X
  intro H locs ls hP hD hS hl
  exact lv_bipush hF.2.2.2.1.1 hF.2.2.2.1.2.1 hdg hv (kk H locs ls hP hD hS hl)
theorem z_sipush (hF : zF G X R cc Ts own) {k : Int} {v : Int32} (hdg : decode cc pc = .ok (.sipush k, 3)) (hv : (Int16.ofInt k).toInt32 = v)
    (kk : zJ G X (pc + 3) ws lv (.int v :: st) cells slots) : zJ G X pc ws lv (st) cells slots := by
  obtain ⟨p, l, e, R', s, m, args, below, meth, c, Q, A, n⟩ := X
  intro H locs ls hP hD hS hl
  exact lv_sipush hF.2.2.2.1.1 hF.2.2.2.1.2.1 hdg hv (kk H locs ls hP hD hS hl)
theorem z_lconst (hF : zF G X R cc Ts own) {k : Fin 2} {v : Int64} (hdg : decode cc pc = .ok (.lconst k, 1)) (hv : Int64.ofNat (k : Nat) = v)
    (kk : zJ G X (pc + 1) ws lv (.long v :: st) cells slots) : zJ G X pc ws lv (st) cells slots := by
  obtain ⟨p, l, e, R', s, m, args, below, meth, c, Q, A, n⟩ := X
  intro H locs ls hP hD hS hl
  exact lv_lconst hF.2.2.2.1.1 hF.2.2.2.1.2.1 hdg hv (kk H locs ls hP hD hS hl)
theorem z_iload_n (hF : zF G X R cc Ts own) {k : Fin 4} {x : Int32} (hdg : decode cc pc = .ok (.iload_n k, 1)) (hq : lv[(k : Nat)]? = some (some (.int x)))
    (kk : zJ G X (pc + 1) ws lv (.int x :: st) cells slots) : zJ G X pc ws lv (st) cells slots := by
  obtain ⟨p, l, e, R', s, m, args, below, meth, c, Q, A, n⟩ := X
  intro H locs ls hP hD hS hl
  exact lv_iload_n hF.2.2.2.1.1 hF.2.2.2.1.2.1 hdg rfl (hl.2.2.1 _ _ hq).2 (kk H locs ls hP hD hS hl)
theorem z_iload (hF : zF G X R cc Ts own) {k : Nat} {x : Int32} (hdg : decode cc pc = .ok (.iload k, 2)) (hq : lv[k]? = some (some (.int x)))
    (kk : zJ G X (pc + 2) ws lv (.int x :: st) cells slots) : zJ G X pc ws lv (st) cells slots := by
  obtain ⟨p, l, e, R', s, m, args, below, meth, c, Q, A, n⟩ := X
  intro H locs ls hP hD hS hl
  exact lv_iload hF.2.2.2.1.1 hF.2.2.2.1.2.1 hdg (hl.2.2.1 _ _ hq).2 (kk H locs ls hP hD hS hl)
theorem z_aload_n (hF : zF G X R cc Ts own) {k : Fin 4} {x : Nat} (hdg : decode cc pc = .ok (.aload_n k, 1)) (hq : lv[(k : Nat)]? = some (some (.ref x)))
    (kk : zJ G X (pc + 1) ws lv (.ref x :: st) cells slots) : zJ G X pc ws lv (st) cells slots := by
  obtain ⟨p, l, e, R', s, m, args, below, meth, c, Q, A, n⟩ := X
  intro H locs ls hP hD hS hl
  exact lv_aload_n hF.2.2.2.1.1 hF.2.2.2.1.2.1 hdg rfl (hl.2.2.1 _ _ hq).2 (kk H locs ls hP hD hS hl)
theorem z_aload (hF : zF G X R cc Ts own) {k : Nat} {x : Nat} (hdg : decode cc pc = .ok (.aload k, 2)) (hq : lv[k]? = some (some (.ref x)))
    (kk : zJ G X (pc + 2) ws lv (.ref x :: st) cells slots) : zJ G X pc ws lv (st) cells slots := by
  obtain ⟨p, l, e, R', s, m, args, below, meth, c, Q, A, n⟩ := X
  intro H locs ls hP hD hS hl
  exact lv_aload hF.2.2.2.1.1 hF.2.2.2.1.2.1 hdg (hl.2.2.1 _ _ hq).2 (kk H locs ls hP hD hS hl)
theorem z_iadd (hF : zF G X R cc Ts own) {x y : Int32} (hdg : decode cc pc = .ok (.iadd, 1))
    (kk : zJ G X (pc + 1) ws lv (.int (x + y) :: st) cells slots) : zJ G X pc ws lv (.int y :: .int x :: st) cells slots := by
  obtain ⟨p, l, e, R', s, m, args, below, meth, c, Q, A, n⟩ := X
  intro H locs ls hP hD hS hl
  exact lv_iadd hF.2.2.2.1.1 hF.2.2.2.1.2.1 hdg (kk H locs ls hP hD hS hl)
theorem z_isub (hF : zF G X R cc Ts own) {x y : Int32} (hdg : decode cc pc = .ok (.isub, 1))
    (kk : zJ G X (pc + 1) ws lv (.int (x - y) :: st) cells slots) : zJ G X pc ws lv (.int y :: .int x :: st) cells slots := by
  obtain ⟨p, l, e, R', s, m, args, below, meth, c, Q, A, n⟩ := X
  intro H locs ls hP hD hS hl
  exact lv_isub hF.2.2.2.1.1 hF.2.2.2.1.2.1 hdg (kk H locs ls hP hD hS hl)
theorem z_imul (hF : zF G X R cc Ts own) {x y : Int32} (hdg : decode cc pc = .ok (.imul, 1))
    (kk : zJ G X (pc + 1) ws lv (.int (x * y) :: st) cells slots) : zJ G X pc ws lv (.int y :: .int x :: st) cells slots := by
  obtain ⟨p, l, e, R', s, m, args, below, meth, c, Q, A, n⟩ := X
  intro H locs ls hP hD hS hl
  exact lv_imul hF.2.2.2.1.1 hF.2.2.2.1.2.1 hdg (kk H locs ls hP hD hS hl)
theorem z_iand (hF : zF G X R cc Ts own) {x y : Int32} (hdg : decode cc pc = .ok (.iand, 1))
    (kk : zJ G X (pc + 1) ws lv (.int (x &&& y) :: st) cells slots) : zJ G X pc ws lv (.int y :: .int x :: st) cells slots := by
  obtain ⟨p, l, e, R', s, m, args, below, meth, c, Q, A, n⟩ := X
  intro H locs ls hP hD hS hl
  exact lv_iand hF.2.2.2.1.1 hF.2.2.2.1.2.1 hdg (kk H locs ls hP hD hS hl)
theorem z_ior (hF : zF G X R cc Ts own) {x y : Int32} (hdg : decode cc pc = .ok (.ior, 1))
    (kk : zJ G X (pc + 1) ws lv (.int (x ||| y) :: st) cells slots) : zJ G X pc ws lv (.int y :: .int x :: st) cells slots := by
  obtain ⟨p, l, e, R', s, m, args, below, meth, c, Q, A, n⟩ := X
  intro H locs ls hP hD hS hl
  exact lv_ior hF.2.2.2.1.1 hF.2.2.2.1.2.1 hdg (kk H locs ls hP hD hS hl)
theorem z_ixor (hF : zF G X R cc Ts own) {x y : Int32} (hdg : decode cc pc = .ok (.ixor, 1))
    (kk : zJ G X (pc + 1) ws lv (.int (x ^^^ y) :: st) cells slots) : zJ G X pc ws lv (.int y :: .int x :: st) cells slots := by
  obtain ⟨p, l, e, R', s, m, args, below, meth, c, Q, A, n⟩ := X
  intro H locs ls hP hD hS hl
  exact lv_ixor hF.2.2.2.1.1 hF.2.2.2.1.2.1 hdg (kk H locs ls hP hD hS hl)
theorem z_ishl (hF : zF G X R cc Ts own) {x y : Int32} (hdg : decode cc pc = .ok (.ishl, 1))
    (kk : zJ G X (pc + 1) ws lv (.int (x <<< (y &&& 31)) :: st) cells slots) : zJ G X pc ws lv (.int y :: .int x :: st) cells slots := by
  obtain ⟨p, l, e, R', s, m, args, below, meth, c, Q, A, n⟩ := X
  intro H locs ls hP hD hS hl
  exact lv_ishl hF.2.2.2.1.1 hF.2.2.2.1.2.1 hdg (kk H locs ls hP hD hS hl)
theorem z_idiv (hF : zF G X R cc Ts own) {x y : Int32} (hdg : decode cc pc = .ok (.idiv, 1)) (h0 : ¬ y = 0)
    (kk : zJ G X (pc + 1) ws lv (.int (x / y) :: st) cells slots) : zJ G X pc ws lv (.int y :: .int x :: st) cells slots := by
  obtain ⟨p, l, e, R', s, m, args, below, meth, c, Q, A, n⟩ := X
  intro H locs ls hP hD hS hl
  exact lv_idiv hF.2.2.2.1.1 hF.2.2.2.1.2.1 hdg h0 (kk H locs ls hP hD hS hl)
theorem z_irem (hF : zF G X R cc Ts own) {x y : Int32} (hdg : decode cc pc = .ok (.irem, 1)) (h0 : ¬ y = 0)
    (kk : zJ G X (pc + 1) ws lv (.int (x - x / y * y) :: st) cells slots) : zJ G X pc ws lv (.int y :: .int x :: st) cells slots := by
  obtain ⟨p, l, e, R', s, m, args, below, meth, c, Q, A, n⟩ := X
  intro H locs ls hP hD hS hl
  exact lv_irem hF.2.2.2.1.1 hF.2.2.2.1.2.1 hdg h0 (kk H locs ls hP hD hS hl)
theorem z_iushr (hF : zF G X R cc Ts own) {x y : Int32} (hdg : decode cc pc = .ok (.iushr, 1))
    (kk : zJ G X (pc + 1) ws lv (.int (x.toUInt32 >>> (y.toUInt32 &&& Int32.toUInt32 31)).toInt32 :: st) cells slots) : zJ G X pc ws lv (.int y :: .int x :: st) cells slots := by
  obtain ⟨p, l, e, R', s, m, args, below, meth, c, Q, A, n⟩ := X
  intro H locs ls hP hD hS hl
  exact lv_iushr hF.2.2.2.1.1 hF.2.2.2.1.2.1 hdg rfl (kk H locs ls hP hD hS hl)
theorem z_ineg (hF : zF G X R cc Ts own) {x : Int32} (hdg : decode cc pc = .ok (.ineg, 1))
    (kk : zJ G X (pc + 1) ws lv (.int (-x) :: st) cells slots) : zJ G X pc ws lv (.int x :: st) cells slots := by
  obtain ⟨p, l, e, R', s, m, args, below, meth, c, Q, A, n⟩ := X
  intro H locs ls hP hD hS hl
  exact lv_ineg hF.2.2.2.1.1 hF.2.2.2.1.2.1 hdg (kk H locs ls hP hD hS hl)
theorem z_i2l (hF : zF G X R cc Ts own) {x : Int32} (hdg : decode cc pc = .ok (.i2l, 1))
    (kk : zJ G X (pc + 1) ws lv (.long x.toInt64 :: st) cells slots) : zJ G X pc ws lv (.int x :: st) cells slots := by
  obtain ⟨p, l, e, R', s, m, args, below, meth, c, Q, A, n⟩ := X
  intro H locs ls hP hD hS hl
  exact lv_i2l hF.2.2.2.1.1 hF.2.2.2.1.2.1 hdg rfl (kk H locs ls hP hD hS hl)
theorem z_dup (hF : zF G X R cc Ts own) {v : Value} (hdg : decode cc pc = .ok (.dup, 1)) (hv : v.category = 1)
    (kk : zJ G X (pc + 1) ws lv (v :: v :: st) cells slots) : zJ G X pc ws lv (v :: st) cells slots := by
  obtain ⟨p, l, e, R', s, m, args, below, meth, c, Q, A, n⟩ := X
  intro H locs ls hP hD hS hl
  exact lv_dup hF.2.2.2.1.1 hF.2.2.2.1.2.1 hdg hv (kk H locs ls hP hD hS hl)
theorem z_pop (hF : zF G X R cc Ts own) {v : Value} (hdg : decode cc pc = .ok (.pop, 1)) (hv : v.category = 1)
    (kk : zJ G X (pc + 1) ws lv (st) cells slots) : zJ G X pc ws lv (v :: st) cells slots := by
  obtain ⟨p, l, e, R', s, m, args, below, meth, c, Q, A, n⟩ := X
  intro H locs ls hP hD hS hl
  exact lv_pop hF.2.2.2.1.1 hF.2.2.2.1.2.1 hdg hv (kk H locs ls hP hD hS hl)
theorem z_dup2 (hF : zF G X R cc Ts own) {v w : Value} (hdg : decode cc pc = .ok (.dup2, 1)) (hv : v.category = 1) (hw : w.category = 1)
    (kk : zJ G X (pc + 1) ws lv (v :: w :: v :: w :: st) cells slots) : zJ G X pc ws lv (v :: w :: st) cells slots := by
  obtain ⟨p, l, e, R', s, m, args, below, meth, c, Q, A, n⟩ := X
  intro H locs ls hP hD hS hl
  exact lv_dup2_11 hF.2.2.2.1.1 hF.2.2.2.1.2.1 hdg hv hw (kk H locs ls hP hD hS hl)
theorem z_goto (hF : zF G X R cc Ts own) {off : Int} {tgt : Nat} (hdg : decode cc pc = .ok (.goto off, 3)) (ht : (pc : Int) + off = (tgt : Int))
    (kk : zJ G X (tgt) ws lv (st) cells slots) : zJ G X pc ws lv (st) cells slots := by
  obtain ⟨p, l, e, R', s, m, args, below, meth, c, Q, A, n⟩ := X
  intro H locs ls hP hD hS hl
  exact lv_goto hF.2.2.2.1.1 hF.2.2.2.1.2.1 hdg ht (kk H locs ls hP hD hS hl)
theorem z_ldc (hF : zF G X R cc Ts own) {index : Nat} {v : Int32} (hdg : decode cc pc = .ok (.ldc index, 2)) (hc : zH X (.constant own index v))
    (kk : zJ G X (pc + 2) ws lv (.int v :: st) cells slots) : zJ G X pc ws lv (st) cells slots := by
  obtain ⟨p, l, e, R', s, m, args, below, meth, c, Q, A, n⟩ := X
  intro H locs ls hP hD hS hl
  exact lv_ldc hF.2.2.2.1.1 hF.2.2.2.1.2.1 hF.2.2.2.1.2.2.2.1 hc hdg (kk H locs ls hP hD hS hl)
theorem z_istore_n (hF : zF G X R cc Ts own) {k : Fin 4} {x : Int32} {lv' : List (Option Value)} (hdg : decode cc pc = .ok (.istore_n k, 1)) (hlv : lv.set k (some (.int x)) = lv') (hn : decide ((k : Nat) < lv.length) = true)
    (kk : zJ G X (pc + 1) ws lv' st cells slots) : zJ G X pc ws lv (.int x :: st) cells slots := by
  obtain ⟨p, l, e, R', s, m, args, below, meth, c, Q, A, n⟩ := X
  intro H locs ls hP hD hS hl
  subst hlv
  exact lv_istore_n hF.2.2.2.1.1 hF.2.2.2.1.2.1 hdg rfl hl.has (Nat.lt_of_lt_of_eq (of_decide_eq_true hn) hl.2.2.2) rfl (fun ls' h' => kk H locs ls' hP hD hS (hl.set rfl h'))
theorem z_istore (hF : zF G X R cc Ts own) {k : Nat} {x : Int32} {lv' : List (Option Value)} (hdg : decode cc pc = .ok (.istore k, 2)) (hlv : lv.set k (some (.int x)) = lv') (hn : decide (k < lv.length) = true)
    (kk : zJ G X (pc + 2) ws lv' st cells slots) : zJ G X pc ws lv (.int x :: st) cells slots := by
  obtain ⟨p, l, e, R', s, m, args, below, meth, c, Q, A, n⟩ := X
  intro H locs ls hP hD hS hl
  subst hlv
  exact lv_istore hF.2.2.2.1.1 hF.2.2.2.1.2.1 hdg hl.has (Nat.lt_of_lt_of_eq (of_decide_eq_true hn) hl.2.2.2) rfl (fun ls' h' => kk H locs ls' hP hD hS (hl.set rfl h'))
theorem z_astore_n (hF : zF G X R cc Ts own) {k : Fin 4} {x : Nat} {lv' : List (Option Value)} (hdg : decode cc pc = .ok (.astore_n k, 1)) (hlv : lv.set k (some (.ref x)) = lv') (hn : decide ((k : Nat) < lv.length) = true)
    (kk : zJ G X (pc + 1) ws lv' st cells slots) : zJ G X pc ws lv (.ref x :: st) cells slots := by
  obtain ⟨p, l, e, R', s, m, args, below, meth, c, Q, A, n⟩ := X
  intro H locs ls hP hD hS hl
  subst hlv
  exact lv_astore_n hF.2.2.2.1.1 hF.2.2.2.1.2.1 hdg rfl hl.has (Nat.lt_of_lt_of_eq (of_decide_eq_true hn) hl.2.2.2) rfl (fun ls' h' => kk H locs ls' hP hD hS (hl.set rfl h'))
theorem z_astore (hF : zF G X R cc Ts own) {k : Nat} {x : Nat} {lv' : List (Option Value)} (hdg : decode cc pc = .ok (.astore k, 2)) (hlv : lv.set k (some (.ref x)) = lv') (hn : decide (k < lv.length) = true)
    (kk : zJ G X (pc + 2) ws lv' st cells slots) : zJ G X pc ws lv (.ref x :: st) cells slots := by
  obtain ⟨p, l, e, R', s, m, args, below, meth, c, Q, A, n⟩ := X
  intro H locs ls hP hD hS hl
  subst hlv
  exact lv_astore hF.2.2.2.1.1 hF.2.2.2.1.2.1 hdg hl.has (Nat.lt_of_lt_of_eq (of_decide_eq_true hn) hl.2.2.2) rfl (fun ls' h' => kk H locs ls' hP hD hS (hl.set rfl h'))
theorem z_iinc (hF : zF G X R cc Ts own) {k : Nat} {n : Int} {x v : Int32} {lv' : List (Option Value)} (hdg : decode cc pc = .ok (.iinc k n, 3)) (hq : lv[k]? = some (some (.int x))) (hv : x + Int32.ofInt n = v) (hlv : lv.set k (some (.int v)) = lv') (hn : decide (k < lv.length) = true)
    (kk : zJ G X (pc + 3) ws lv' st cells slots) : zJ G X pc ws lv st cells slots := by
  obtain ⟨p, l, e, R', s, m, args, below, meth, c, Q, A, n⟩ := X
  intro H locs ls hP hD hS hl
  subst hlv
  obtain ⟨j, hj⟩ := List.getElem?_of_mem (zl_mem.mpr hq)
  exact lv_iinc hF.2.2.2.1.1 hF.2.2.2.1.2.1 hdg hl.has hj hv (Nat.lt_of_lt_of_eq (of_decide_eq_true hn) hl.2.2.2) rfl (fun ls' h' => kk H locs ls' hP hD hS (hl.set rfl h'))
theorem z_if_eq (hF : zF G X R cc Ts own) {x : Int32} {off : Int} {tgt : Nat} (hdg : decode cc pc = .ok (.ifCond .eq off, 3)) (ht : (pc : Int) + off = (tgt : Int))
    (kt : x = 0 → zJ G X tgt ws lv st cells slots) (kf : ¬ x = 0 → zJ G X (pc + 3) ws lv st cells slots) : zJ G X pc ws lv (.int x :: st) cells slots := by
  obtain ⟨p, l, e, R', s, m, args, below, meth, c, Q, A, n⟩ := X
  intro H locs ls hP hD hS hl
  exact lv_if_eq hF.2.2.2.1.1 hF.2.2.2.1.2.1 hdg ht (fun h => kt h H locs ls hP hD hS hl) (fun h => kf h H locs ls hP hD hS hl)
theorem z_if_ne (hF : zF G X R cc Ts own) {x : Int32} {off : Int} {tgt : Nat} (hdg : decode cc pc = .ok (.ifCond .ne off, 3)) (ht : (pc : Int) + off = (tgt : Int))
    (kt : ¬ x = 0 → zJ G X tgt ws lv st cells slots) (kf : x = 0 → zJ G X (pc + 3) ws lv st cells slots) : zJ G X pc ws lv (.int x :: st) cells slots := by
  obtain ⟨p, l, e, R', s, m, args, below, meth, c, Q, A, n⟩ := X
  intro H locs ls hP hD hS hl
  exact lv_if_ne hF.2.2.2.1.1 hF.2.2.2.1.2.1 hdg ht (fun h => kt h H locs ls hP hD hS hl) (fun h => kf h H locs ls hP hD hS hl)
theorem z_if_lt (hF : zF G X R cc Ts own) {x : Int32} {off : Int} {tgt : Nat} (hdg : decode cc pc = .ok (.ifCond .lt off, 3)) (ht : (pc : Int) + off = (tgt : Int))
    (kt : x < 0 → zJ G X tgt ws lv st cells slots) (kf : ¬ x < 0 → zJ G X (pc + 3) ws lv st cells slots) : zJ G X pc ws lv (.int x :: st) cells slots := by
  obtain ⟨p, l, e, R', s, m, args, below, meth, c, Q, A, n⟩ := X
  intro H locs ls hP hD hS hl
  exact lv_if_lt hF.2.2.2.1.1 hF.2.2.2.1.2.1 hdg ht (fun h => kt h H locs ls hP hD hS hl) (fun h => kf h H locs ls hP hD hS hl)
theorem z_if_ge (hF : zF G X R cc Ts own) {x : Int32} {off : Int} {tgt : Nat} (hdg : decode cc pc = .ok (.ifCond .ge off, 3)) (ht : (pc : Int) + off = (tgt : Int))
    (kt : 0 ≤ x → zJ G X tgt ws lv st cells slots) (kf : ¬ 0 ≤ x → zJ G X (pc + 3) ws lv st cells slots) : zJ G X pc ws lv (.int x :: st) cells slots := by
  obtain ⟨p, l, e, R', s, m, args, below, meth, c, Q, A, n⟩ := X
  intro H locs ls hP hD hS hl
  exact lv_if_ge hF.2.2.2.1.1 hF.2.2.2.1.2.1 hdg ht (fun h => kt h H locs ls hP hD hS hl) (fun h => kf h H locs ls hP hD hS hl)
theorem z_if_le (hF : zF G X R cc Ts own) {x : Int32} {off : Int} {tgt : Nat} (hdg : decode cc pc = .ok (.ifCond .le off, 3)) (ht : (pc : Int) + off = (tgt : Int))
    (kt : x ≤ 0 → zJ G X tgt ws lv st cells slots) (kf : ¬ x ≤ 0 → zJ G X (pc + 3) ws lv st cells slots) : zJ G X pc ws lv (.int x :: st) cells slots := by
  obtain ⟨p, l, e, R', s, m, args, below, meth, c, Q, A, n⟩ := X
  intro H locs ls hP hD hS hl
  exact lv_if_le hF.2.2.2.1.1 hF.2.2.2.1.2.1 hdg ht (fun h => kt h H locs ls hP hD hS hl) (fun h => kf h H locs ls hP hD hS hl)
theorem z_if_gt (hF : zF G X R cc Ts own) {x : Int32} {off : Int} {tgt : Nat} (hdg : decode cc pc = .ok (.ifCond .gt off, 3)) (ht : (pc : Int) + off = (tgt : Int))
    (kt : 0 < x → zJ G X tgt ws lv st cells slots) (kf : ¬ 0 < x → zJ G X (pc + 3) ws lv st cells slots) : zJ G X pc ws lv (.int x :: st) cells slots := by
  obtain ⟨p, l, e, R', s, m, args, below, meth, c, Q, A, n⟩ := X
  intro H locs ls hP hD hS hl
  exact lv_if_gt hF.2.2.2.1.1 hF.2.2.2.1.2.1 hdg ht (fun h => kt h H locs ls hP hD hS hl) (fun h => kf h H locs ls hP hD hS hl)
theorem z_ic_eq (hF : zF G X R cc Ts own) {x y : Int32} {off : Int} {tgt : Nat} (hdg : decode cc pc = .ok (.if_icmp .eq off, 3)) (ht : (pc : Int) + off = (tgt : Int))
    (kt : x = y → zJ G X tgt ws lv st cells slots) (kf : ¬ x = y → zJ G X (pc + 3) ws lv st cells slots) : zJ G X pc ws lv (.int y :: .int x :: st) cells slots := by
  obtain ⟨p, l, e, R', s, m, args, below, meth, c, Q, A, n⟩ := X
  intro H locs ls hP hD hS hl
  exact lv_icmp_eq hF.2.2.2.1.1 hF.2.2.2.1.2.1 hdg ht (fun h => kt h H locs ls hP hD hS hl) (fun h => kf h H locs ls hP hD hS hl)
theorem z_ic_ne (hF : zF G X R cc Ts own) {x y : Int32} {off : Int} {tgt : Nat} (hdg : decode cc pc = .ok (.if_icmp .ne off, 3)) (ht : (pc : Int) + off = (tgt : Int))
    (kt : ¬ x = y → zJ G X tgt ws lv st cells slots) (kf : x = y → zJ G X (pc + 3) ws lv st cells slots) : zJ G X pc ws lv (.int y :: .int x :: st) cells slots := by
  obtain ⟨p, l, e, R', s, m, args, below, meth, c, Q, A, n⟩ := X
  intro H locs ls hP hD hS hl
  exact lv_icmp_ne hF.2.2.2.1.1 hF.2.2.2.1.2.1 hdg ht (fun h => kt h H locs ls hP hD hS hl) (fun h => kf h H locs ls hP hD hS hl)
theorem z_ic_lt (hF : zF G X R cc Ts own) {x y : Int32} {off : Int} {tgt : Nat} (hdg : decode cc pc = .ok (.if_icmp .lt off, 3)) (ht : (pc : Int) + off = (tgt : Int))
    (kt : x < y → zJ G X tgt ws lv st cells slots) (kf : ¬ x < y → zJ G X (pc + 3) ws lv st cells slots) : zJ G X pc ws lv (.int y :: .int x :: st) cells slots := by
  obtain ⟨p, l, e, R', s, m, args, below, meth, c, Q, A, n⟩ := X
  intro H locs ls hP hD hS hl
  exact lv_icmp_lt hF.2.2.2.1.1 hF.2.2.2.1.2.1 hdg ht (fun h => kt h H locs ls hP hD hS hl) (fun h => kf h H locs ls hP hD hS hl)
theorem z_ic_ge (hF : zF G X R cc Ts own) {x y : Int32} {off : Int} {tgt : Nat} (hdg : decode cc pc = .ok (.if_icmp .ge off, 3)) (ht : (pc : Int) + off = (tgt : Int))
    (kt : y ≤ x → zJ G X tgt ws lv st cells slots) (kf : ¬ y ≤ x → zJ G X (pc + 3) ws lv st cells slots) : zJ G X pc ws lv (.int y :: .int x :: st) cells slots := by
  obtain ⟨p, l, e, R', s, m, args, below, meth, c, Q, A, n⟩ := X
  intro H locs ls hP hD hS hl
  exact lv_icmp_ge hF.2.2.2.1.1 hF.2.2.2.1.2.1 hdg ht (fun h => kt h H locs ls hP hD hS hl) (fun h => kf h H locs ls hP hD hS hl)
theorem z_ic_le (hF : zF G X R cc Ts own) {x y : Int32} {off : Int} {tgt : Nat} (hdg : decode cc pc = .ok (.if_icmp .le off, 3)) (ht : (pc : Int) + off = (tgt : Int))
    (kt : x ≤ y → zJ G X tgt ws lv st cells slots) (kf : ¬ x ≤ y → zJ G X (pc + 3) ws lv st cells slots) : zJ G X pc ws lv (.int y :: .int x :: st) cells slots := by
  obtain ⟨p, l, e, R', s, m, args, below, meth, c, Q, A, n⟩ := X
  intro H locs ls hP hD hS hl
  exact lv_icmp_le hF.2.2.2.1.1 hF.2.2.2.1.2.1 hdg ht (fun h => kt h H locs ls hP hD hS hl) (fun h => kf h H locs ls hP hD hS hl)
theorem z_ic_gt (hF : zF G X R cc Ts own) {x y : Int32} {off : Int} {tgt : Nat} (hdg : decode cc pc = .ok (.if_icmp .gt off, 3)) (ht : (pc : Int) + off = (tgt : Int))
    (kt : y < x → zJ G X tgt ws lv st cells slots) (kf : ¬ y < x → zJ G X (pc + 3) ws lv st cells slots) : zJ G X pc ws lv (.int y :: .int x :: st) cells slots := by
  obtain ⟨p, l, e, R', s, m, args, below, meth, c, Q, A, n⟩ := X
  intro H locs ls hP hD hS hl
  exact lv_icmp_gt hF.2.2.2.1.1 hF.2.2.2.1.2.1 hdg ht (fun h => kt h H locs ls hP hD hS hl) (fun h => kf h H locs ls hP hD hS hl)
def zb (P : Prop) [Decidable P] : Int32 := if P then 1 else 0
theorem zb_0 {P : Prop} [Decidable P] : zb P = 0 ↔ ¬ P := by
  unfold zb
  split <;> simp_all
theorem zb_nar {P : Prop} [Decidable P] : narrow .boolean (.int (zb P)) = .int (zb P) := by
  unfold zb
  split <;> rfl
theorem zb_iff {P P' : Prop} [Decidable P] [Decidable P'] (h : P ↔ P') : zb P = zb P' := by
  unfold zb
  split <;> split <;> simp_all
theorem zb_1 {P : Prop} [Decidable P] (h : P) : (1 : Int32) = zb P := by
  unfold zb
  rw [if_pos h]
theorem zb_z {P : Prop} [Decidable P] (h : ¬ P) : (0 : Int32) = zb P := by
  unfold zb
  rw [if_neg h]
theorem z_if_eq_b (hF : zF G X R cc Ts own) {P : Prop} [Decidable P] {off : Int} {tgt : Nat} (hdg : decode cc pc = .ok (.ifCond .eq off, 3)) (ht : (pc : Int) + off = (tgt : Int))
    (kt : ¬ P → zJ G X tgt ws lv st cells slots) (kf : P → zJ G X (pc + 3) ws lv st cells slots) : zJ G X pc ws lv (.int (zb P) :: st) cells slots :=
  z_if_eq hF hdg ht (fun h => kt (zb_0.mp h)) (fun h => kf (Decidable.not_not.mp (fun z => h (zb_0.mpr z))))
theorem z_if_ne_b (hF : zF G X R cc Ts own) {P : Prop} [Decidable P] {off : Int} {tgt : Nat} (hdg : decode cc pc = .ok (.ifCond .ne off, 3)) (ht : (pc : Int) + off = (tgt : Int))
    (kt : P → zJ G X tgt ws lv st cells slots) (kf : ¬ P → zJ G X (pc + 3) ws lv st cells slots) : zJ G X pc ws lv (.int (zb P) :: st) cells slots :=
  z_if_ne hF hdg ht (fun h => kt (Decidable.not_not.mp (fun z => h (zb_0.mpr z)))) (fun h => kf (zb_0.mp h))
/-- rewriting what stands on top, a local, the world -/
theorem z_top {x y : Int32} (h : x = y) (kk : zJ G X pc ws lv (.int y :: st) cells slots) : zJ G X pc ws lv (.int x :: st) cells slots := h ▸ kk
theorem z_top2 {x y : Int32} {v : Value} (h : x = y) (kk : zJ G X pc ws lv (v :: .int y :: st) cells slots) : zJ G X pc ws lv (v :: .int x :: st) cells slots := h ▸ kk
theorem z_nm {x : Int32} (kk : ∀ y : Int32, y = x → zJ G X pc ws lv (.int y :: st) cells slots) : zJ G X pc ws lv (.int x :: st) cells slots := kk x rfl
theorem z_ws {ws' : va_W} (h : ws = ws') (kk : zJ G X pc ws' lv st cells slots) : zJ G X pc ws lv st cells slots := h ▸ kk
theorem z_lv {lv' : List (Option Value)} (h : lv = lv') (kk : zJ G X pc ws lv' st cells slots) : zJ G X pc ws lv st cells slots := h ▸ kk
theorem z_st {st' : List Value} (h : st = st') (kk : zJ G X pc ws lv st' cells slots) : zJ G X pc ws lv st cells slots := h ▸ kk
/-- forgetting locals -/
theorem z_drop {lv' : List (Option Value)} (h : (∀ (i : Nat) (v : Value), lv'[i]? = some (some v) → lv[i]? = some (some v)) ∧ lv'.length = lv.length) (kk : zJ G X pc ws lv' st cells slots) : zJ G X pc ws lv st cells slots := by
  obtain ⟨p, l, e, R', s, m, args, below, meth, c, Q, A, n⟩ := X
  intro H locs ls hP hD hS hl
  exact kk H locs ls hP hD hS ⟨hl.1, hl.2.1, fun i v hv => hl.2.2.1 i v (h.1 i v hv), h.2.trans hl.2.2.2⟩
def zle : List (Option Value) → List (Option Value) → Prop
  | [], [] => True
  | none :: l, _ :: l' => zle l l'
  | some v :: l, w :: l' => w = some v ∧ zle l l'
  | _, _ => False
theorem zle_at : ∀ {l l' : List (Option Value)}, zle l l' → (∀ (i : Nat) (v : Value), l[i]? = some (some v) → l'[i]? = some (some v)) ∧ l.length = l'.length
  | [], [], _ => ⟨fun _ _ h => h, rfl⟩
  | none :: l, _ :: l', h => ⟨fun i v hv => match i, hv with
      | 0, hv => by cases hv
      | i + 1, hv => (zle_at (l := l) (l' := l') h).1 i v hv, congrArg (· + 1) (zle_at (l := l) (l' := l') h).2⟩
  | some w :: l, x :: l', h => ⟨fun i v hv => match i, hv with
      | 0, hv => by cases hv; exact congrArg some h.1
      | i + 1, hv => (zle_at (l := l) (l' := l') h.2).1 i v hv, congrArg (· + 1) (zle_at (l := l) (l' := l') h.2).2⟩
  | [], _ :: _, h => h.elim
  | none :: _, [], h => h.elim
  | some _ :: _, [], h => h.elim
theorem z_forget {lv' : List (Option Value)} (h : zle lv' lv) (kk : zJ G X pc ws lv' st cells slots) : zJ G X pc ws lv st cells slots := z_drop (zle_at h) kk
theorem z_widen {k n : Nat} (h1 : cells ≤ k) (h2 : slots ≤ n) (kk : zJ G X pc ws lv st k n) : zJ G X pc ws lv st cells slots := by
  obtain ⟨p, l, e, R', s, m, args, below, meth, c, Q, A, n⟩ := X
  intro H locs ls hP hD hS hl
  exact W.widen h1 h2 (kk H locs ls hP hD hS hl)
end ZR
