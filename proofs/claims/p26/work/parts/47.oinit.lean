/-! the call of Object's constructor -/
theorem z_objInit {G : zG} {X : zT} {R : Room} {cc : ByteArray} {Ts : List Cond} {own : String} {pc cells slots : Nat} {ws : va_W} {lv : List (Option Value)} (hF : zF G X R cc Ts own) {b index : Nat} (hlink : zH X (.methodLink own index objectInit)) (hins : zH X (.instanceMethod objectInit)) (hcode : zH X (.code objectInit ⟨#[0xb1]⟩ 1 none)) (hfr : 1 ≤ R.frames) (hlo : 20 ≤ R.locals) (hdg : decode cc pc = .ok (.invokespecial index, 3))
    (kk : zJ G X (pc + 3) ws lv [] cells slots) : zJ G X pc ws lv [.ref b] cells slots := by
  obtain ⟨p, l, e, R', s, m, args, below, meth, c, Q, A, n⟩ := X
  obtain ⟨rfl, rfl, hfl, ⟨hx, hb, hml, hown, hts⟩, hE, hA⟩ := hF
  intro H locs ls hP hD hS hl
  refine W.objInit hx hb hown hlink hins hcode rfl (by rw [hml]; exact hl.1) rfl hdg hfr ?_ (kk H locs ls hP hD hS hl)
  first | exact hlo | exact Nat.le_trans (Nat.le_of_ble_eq_true rfl) hlo
