/-! the wrapper that makes a boolean into 1L or 0L -/
section LR2
variable {G : zG} {X : zT} {R : Room} {cc : ByteArray} {Ts : List Cond} {own : String} {pc cells slots : Nat} {ws ws' : va_W} {lv : List (Option Value)} {st : List Value}
theorem z_topL {x y : Int64} (h : x = y) (kk : zJ G X pc ws lv (.long y :: st) cells slots) : zJ G X pc ws lv (.long x :: st) cells slots := h ▸ kk
theorem zbL1 {P : Prop} [Decidable P] (h : P) : (1 : Int64) = (zb P).toInt64 := by
  rw [← zb_1 h]
  decide
theorem zbL0 {P : Prop} [Decidable P] (h : ¬ P) : (0 : Int64) = (zb P).toInt64 := by
  rw [← zb_z h]
  decide
end LR2
