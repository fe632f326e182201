theorem z_alen {G : zG} {X : zT} {R : Room} {cc : ByteArray} {Ts : List Cond} {own : String} {pc cells slots : Nat} {ws : va_W} {lv : List (Option Value)} {st : List Value} (hF : zF G X R cc Ts own) (q0 : Nat) {a n : Nat} {f : Nat → Int32} (ha : ws[q0]? = some (a, eI G n f)) (hdg : decode cc pc = .ok (.arraylength, 1))
    (kk : zJ G X (pc + 1) ws lv (.int (nI n) :: st) cells slots) : zJ G X pc ws lv (.ref a :: st) cells slots := by
  obtain ⟨p, l, e, R', s, m, args, below, meth, c, Q, A, n9⟩ := X
  obtain ⟨rfl, rfl, hfl, ⟨hx, hb, hml, hown, hts⟩, hE, hA⟩ := hF
  intro H locs ls hP hD hS hl
  exact va_alen hx hb hE.1 hP q0 0 ha (ty := .int) rfl rfl hdg (kk H locs ls hP hD hS hl)
/-- setting cells aside behind a binary rewriting: any equal world -/
theorem upd_id {f : Nat → Int32} {k : Nat} {x : Int32} (h : f k = x) : upd f k x = f := by
  funext i
  simp only [upd]
  split
  · subst_vars; rfl
  · rfl
theorem z_ldcw {G : zG} {X : zT} {R : Room} {cc : ByteArray} {Ts : List Cond} {own : String} {pc cells slots : Nat} {ws : va_W} {lv : List (Option Value)} {st : List Value} (hF : zF G X R cc Ts own) {index : Nat} {v : Int32} (hdg : decode cc pc = .ok (.ldc_w index, 3)) (hc : zH X (.constant own index v))
    (kk : zJ G X (pc + 3) ws lv (.int v :: st) cells slots) : zJ G X pc ws lv st cells slots := by
  obtain ⟨p, l, e, R', s, m, args, below, meth, c, Q, A, n9⟩ := X
  obtain ⟨rfl, rfl, hfl, ⟨hx, hb, hml, hown, hts⟩, hE, hA⟩ := hF
  intro H locs ls hP hD hS hl
  exact lv_ldcw hx hb hown hc hdg (kk H locs ls hP hD hS hl)
