/-! the law's wrappers: methods with tables -/
def zTb : zT → List (Nat × Nat × Nat × Nat) → Prop
  | (p, l, e, R, s, m, args, below, meth, c, Q, A, n), hh => c.exceptionTable.toList = tableOf hh
theorem z_vk {G : zG} {X : zT} {pc cells slots code k : Nat} {ws : va_W} {lv : List (Option Value)} {rest : List Value} (h : code = k) (kk : zV G X pc ws lv rest (zEx k) cells slots) : zV G X pc ws lv rest (zEx code) cells slots := by
  subst h; exact kk
theorem z_catch {G : zG} {X : zT} {R : Room} {cc : ByteArray} {Ts : List Cond} {own : String} {hh : List (Nat × Nat × Nat × Nat)} {pc cells slots k : Nat} {ws : va_W} {lv : List (Option Value)} {rest : List Value} (hF : zF G X R cc Ts own) (hT : zTb X hh) (pre : List ExceptionTableEntry) (x : ExceptionTableEntry) (suf : List ExceptionTableEntry) (hsp : tableOf hh = pre ++ x :: suf)
    (hpass : ∀ z ∈ pre, covers z pc = false ∨ (z.catchType ≠ 0 ∧ ∃ nm : String, zH X (.classLink own z.catchType nm) ∧ (zEx k, nm) ∈ zNN)) (hx : covers x pc = true) (h0 : x.catchType ≠ 0) (hlink : zH X (.classLink own x.catchType (zEx k))) (hcast : (zEx k, zEx k) ∈ zNC)
    (kk : ∀ q : Nat, zJ G X x.handlerPc ws lv [.ref q] cells slots) : zV G X pc ws lv rest (zEx k) cells slots := by
  obtain ⟨p, l, e, R', s, m, args, below, meth, c, Q, A, n⟩ := X
  obtain ⟨rfl, rfl, hfl, ⟨hx', hb, hml, hown, hts⟩, hE, hA⟩ := hF
  intro H locs ls q ce hP hD hS hl hq hv hcl
  have hT' : c.exceptionTable.toList = tableOf hh := hT
  exact vx_catch hown pre x suf (hT'.trans hsp) (fun z hz => (hpass z hz).imp id fun ⟨h1, nm, h2, h3⟩ => ⟨h1, nm, h2, hE.2.1.2.2.2.2.2 _ h3⟩) hx h0 hlink (va_Nw.use rfl (hE.2.1.2.2.2.2.1 _ hcast)) hq hv hcl (kk q H locs ls hP hD hS hl)
set_option maxHeartbeats 2000000 in
theorem zM.ofIh {G : zG} {y : MethodName} {wsy ws' : List Cond} {rm : Room} {cc : ByteArray} {maxL mc ms : Nat} {av : List Value} {wc w1 : va_W} {sp : Int32} {ret : FieldType} {own : String} {hh : List (Nat × Nat × Nat × Nat)} (ho : y.cls = own) (hy : plainName y.cls = true) (hw : wsy = Cond.codeWith y cc maxL (some ret) hh :: ws') (hret : narrow ret (.int sp) = .int sp) (hav : ∀ v ∈ av, v.category = 1) (hlen : av.length ≤ maxL)
    (body : ∀ X : zT, zF G X rm cc wsy own → zTb X hh → zR G X cc w1 (some (.int sp)) mc ms → zJ G X 0 wc (zlv av maxL) [] 0 0) : zM G y wsy rm av wc w1 (some (.int sp)) mc ms := by
  subst ho
  intro hfl sz
  refine va_MetW (cc := cc) (maxL := maxL) (ret := some ret) (hh := hh) hy hw ?_
  intro p e s m args below meth c s₁ B hml hv
  obtain ⟨rfl, hsz, hP, hD0, hE⟩ := hv
  have hx := B.exec
  have hb := B.bytes
  have hr := B.returns
  have hts := atoms_spec (ws := wsy) B.pre
  have hown := findClass_of_methodNamed B.named
  have htb := vx_table (x := y) B (hts _ (by rw [hw]; exact List.mem_cons_self))
  subst hsz
  have hD := hD0.self (sz := s.heap.size)
  have key := body (p, G.1, e, (headSpec wsy rm).room, s, m, av.toArray, below, meth, c, MQ below (zQ G (some (.int sp)) w1 (va_A wc s.heap.size)) av.toArray s mc ms (va_A wc s.heap.size), va_A wc s.heap.size, maxL) ⟨rfl, rfl, hfl, ⟨hx, hb, hml, hown, hts⟩, hE, fun q h => Or.inr h⟩ htb ?_
  · rw [lg_entry_eq]
    exact key s.heap [] _ hP hD va_S.rf (zh_entry hav hlen)
  · intro pc lv cells slots hc hs d H locs ls hP hD hS hl
    refine W.widen hc hs ?_
    exact W.zret hx hb hr hret (fun t ht hW => ⟨⟨rfl, by rw [ht]; exact hP⟩, hS.F ht⟩) hS.2.2 d
