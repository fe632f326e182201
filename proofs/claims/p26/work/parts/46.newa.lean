/-! new arrays -/
section ZA
variable {G : zG} {X : zT} {R : Room} {cc : ByteArray} {Ts : List Cond} {own : String} {pc cells slots : Nat} {ws ws' : va_W} {lv : List (Option Value)} {st : List Value}
theorem z_newI (hF : zF G X R cc Ts own) {atype : ArrayType} {n : Nat} (harr : zH X (.arrayClass (newarray.typeOf atype))) (hty : newarray.typeOf atype = .int) (hn : decide (n ≤ 4096) = true) (hcells : cells + 1 ≤ R.cells) (hslots : slots + n ≤ R.slots) {c2 s2 : Nat} (hc2 : cells + 1 = c2) (hs2 : slots + n = s2) (hdg : decode cc pc = .ok (.newarray atype, 2))
    (kk : ∀ q : Nat, zJ G X (pc + 2) (ws ++ [(q, eI G n (fun _ => nI 0))]) lv (.ref q :: st) c2 s2) : zJ G X pc ws lv (.int (nI n) :: st) cells slots := by
  obtain ⟨p, l, e, R', s, m, args, below, meth, c, Q, A, n9⟩ := X
  obtain ⟨rfl, rfl, hfl, ⟨hx, hb, hml, hown, hts⟩, hE, hA⟩ := hF
  intro H locs ls hP hD hS hl
  subst hc2; subst hs2
  have hn := of_decide_eq_true hn
  refine va_newa (a0 := (n, .inl (fun _ => nI 0))) (N' := n) hx hb harr hty hE.1 hP hD hS hA (fun _ => rfl) (fun h => ?_) (nI_clamp (by omega)) (by show n * 4 ≤ _; omega) hcells hslots hdg (fun q cA H1 k1 h1 h2 h3 => ?_)
  · have := (nI_ltI (a := n) (b := 0) (by omega) (by omega)).mp h
    omega
  · have e1 : cA = G.2.2.1 := Option.some.inj ((k1.2 1 (cA, .int) rfl).2.symm.trans (hE.1.2 0 (G.2.2.1, .int) rfl).2)
    subst e1
    exact kk q H1 locs ls h1 h2 h3 hl
end ZA
