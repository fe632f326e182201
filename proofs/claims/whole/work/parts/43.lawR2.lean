/-! the wrapper that makes a boolean into 1L or 0L -/
section LR2
variable {G : zG} {X : zT} {R : Room} {cc : ByteArray} {Ts : List Cond} {own : String} {pc cells slots : Nat} {ws ws' : va_W} {lv : List (Option Value)} {st : List Value}
theorem z_lconst (hF : zF G X R cc Ts own) {k : Fin 2} {v : Int64} (hdg : decode cc pc = .ok (.lconst k, 1)) (hv : Int64.ofNat (k : Nat) = v)
    (kk : zJ G X (pc + 1) ws lv (.long v :: st) cells slots) : zJ G X pc ws lv (st) cells slots := by
  obtain ⟨p, l, e, R', s, m, args, below, meth, c, Q, A, n⟩ := X
  intro H locs ls hP hD hS hl
  exact lv_lconst hF.2.2.2.1.1 hF.2.2.2.1.2.1 hdg hv (kk H locs ls hP hD hS hl)
theorem z_topL {x y : Int64} (h : x = y) (kk : zJ G X pc ws lv (.long y :: st) cells slots) : zJ G X pc ws lv (.long x :: st) cells slots := h ▸ kk
theorem zbL1 {P : Prop} [Decidable P] (h : P) : (1 : Int64) = (zb P).toInt64 := by
  rw [← zb_1 h]
  decide
theorem zbL0 {P : Prop} [Decidable P] (h : ¬ P) : (0 : Int64) = (zb P).toInt64 := by
  rw [← zb_z h]
  decide
end LR2
