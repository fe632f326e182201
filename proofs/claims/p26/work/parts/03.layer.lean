/-! a layer over the kit: one judgement zJ (pc, world, locals, stack), with the heap hidden; contracts zM (returns) and zX (returns or throws) -/
abbrev zG : Type := Launch × va_G × ClassId × ClassId × ClassId
abbrev zTy (G : zG) : List (ClassId × FieldType) := [(G.2.2.1, .int)]
abbrev eI (G : zG) (n : Nat) (f : Nat → Int32) : va_E := .inl (G.2.2.1, n, .inl f)
abbrev eZ (G : zG) (n : Nat) (f : Nat → Int32) : va_E := .inl (G.2.2.2.1, n, .inl f)
abbrev eL (G : zG) (n : Nat) (f : Nat → Int64) : va_E := .inl (G.2.2.2.2, n, .inr (.inl f))
-- the words that a nest mate's call or field needs, the strings, the casts: what every method of the system is given
def zNF : List (String × Nat × String × String × String) := [("MarginDesk", 170, "MarginDesk$Ranges", "begins", "[I"), ("MarginDesk", 173, "MarginDesk$Ranges", "ends", "[I"), ("MarginDesk", 78, "MarginDesk$Text", "size", "I"), ("MarginDesk", 92, "MarginDesk$Ranges", "count", "I"), ("MarginDesk$History", 15, "MarginDesk$Ranges", "count", "I"), ("MarginDesk$Quotes", 24, "MarginDesk$Text", "letters", "[I"), ("MarginDesk$Quotes", 37, "MarginDesk$Text", "size", "I")]
def zNM : List (String × Nat × MethodName) := [(RX4, 9, yX3_init), (RX4, 18, yX2_init), (RX4, 25, yX1_init), (RX4, 32, yX0_init), (RX4, 119, yX2_isGone), (RX4, 146, yX2_covering), (RX2, 29, yX4_bit), (RX4, 222, yX0_write), (RX0, 21, yX2_asNumber), (RX4, 202, yX2_moveByInsertion), (RX4, 205, yX3_putIn), (RX4, 113, yX3_mark), (RX4, 208, yX2_moveByRemoval), (RX4, 214, yX3_takeOut), (RX4, 85, yX3_letterBehind), (RX4, 102, yX2_add), (RX4, 106, yX1_keep), (RX1, 33, yX3_letterBehind), (RX4, 125, yX1_bestPlace), (RX4, 129, yX1_sizeOf), (RX4, 132, yX2_bringBack), (RX4, 135, yX2_asNumber), (RX4, 143, yX0_rangeAt), (RX4, 149, yX3_marksBehind), (RX4, 226, yX2_share)]
def zST : List (Nat × String) := [(123, "the comment is no orphan"), (140, "no such version"), (155, "no such piece"), (157, "there are 10 suggestions"), (168, "the suggestion overlaps another one"), (180, "no such place"), (184, "the end is not later than the beginning"), (187, "an argument is out of its range"), (189, "no such comment"), (191, "no such suggestion"), (193, "the suggestion is not waiting"), (195, "the document would have more than 60 letters"), (197, "there would be more than 300 edits"), (97, "there are 12 comments")]
abbrev zRun : String := "java/lang/RuntimeException"
abbrev zExc : String := "java/lang/Exception"
def zEx : Nat → String
  | 1 => "java/lang/IndexOutOfBoundsException"
  | 2 => "java/lang/IllegalArgumentException"
  | _ => "java/lang/IllegalStateException"
def zND : List MethodName := [Bundle.initS zRun, Bundle.initS zExc, Bundle.initS Bundle.tN]
def zNC : List (String × String) := [(zEx 1, zEx 1), (zEx 2, zEx 2), (zEx 3, zEx 3)]
def zNN : List (String × String) := []
def zE0 (U : State) : Prop := (∀ q ∈ zNF, va_Nw (.fieldLinkNest q.1 q.2.1 q.2.2.1 q.2.2.2.1 q.2.2.2.2 RX4) U) ∧ (∀ q ∈ zNM, va_Nw (.methodLinkNest q.1 q.2.1 q.2.2 RX4) U) ∧ (∀ q ∈ zST, ∃ a, vk_R RX4 q.1 q.2 a U) ∧ (∀ q ∈ zND, va_Nw (.declares q) U) ∧ (∀ q ∈ zNC, va_Nw (.castable q.1 q.2) U) ∧ (∀ q ∈ zNN, va_Nc q.1 q.2 U)
def zE (G : zG) (A : Nat → Prop) (U : State) (H : Heap) : Prop := va_K G.2.1 vwCl (zTy G) U ∧ zE0 U ∧ vx_Zq Bundle.tN "UNASSIGNED_STACK" Bundle.steD A U H ∧ vx_Zq Bundle.tN "SUPPRESSED_SENTINEL" Bundle.listD A U H
theorem zE0.moved {u U : State} (hW : u.WarmedH U.vm) (h : zE0 u) : zE0 U :=
  ⟨fun q hq => va_Nw.warmF hW (h.1 q hq), fun q hq => va_Nw.warmM hW (h.2.1 q hq), fun q hq => (h.2.2.1 q hq).imp fun _ ha => vk_R.warm hW ha, fun q hq => va_Nw.warmD hW (h.2.2.2.1 q hq), fun q hq => va_Nw.warmC hW (h.2.2.2.2.1 q hq), fun q hq => va_Nc.moved hW.alike (h.2.2.2.2.2 q hq)⟩
theorem zE.moved {G : zG} {A : Nat → Prop} {u U : State} {H : Heap} (hW : u.WarmedH U.vm) (h : zE G A u H) : zE G A U H :=
  ⟨va_K.moved hW.alike h.1, zE0.moved hW h.2.1, vx_Zq.moved hW.alike h.2.2.1, vx_Zq.moved hW.alike h.2.2.2⟩
theorem zE.blind {G : zG} {A : Nat → Prop} {U : State} {H : Heap} {g : JFrame} {mk : MethodId} {a : Array Value} (h : zE G A U H) : zE G A (U.calling g mk a) H :=
  zE.moved (u := U) (U := U.calling g mk a) (State.WarmedH.refl U) h
theorem zE.call {G : zG} {A A' : Nat → Prop} {s U : State} {H : Heap} {locs : List Loc} (h : zE G A s s.heap) (hS : va_S A s.heap H locs) (hsub : ∀ q, A' q → A q) (hW : s.WarmedH U.vm) : zE G A' U H :=
  ⟨va_K.moved hW.alike h.1, zE0.moved hW h.2.1, vx_Zq.moved hW.alike ((h.2.2.1.kept hS.2.1).narrow hsub), vx_Zq.moved hW.alike ((h.2.2.2.kept hS.2.1).narrow hsub)⟩
def zPre (G : zG) (ws : va_W) (sz : Nat) : State → Prop := fun U => U.heap.size = sz ∧ va_P G.2.1 vwCl ws U.heap ∧ va_D (fun _ => True) ws ∧ zE G (va_A ws sz) U U.heap
theorem zPre.blind {G : zG} {av : List Value} {ws : va_W} {sz : Nat} : FrameBlind (va_Pc av (zPre G ws sz)) := fun a U g mk q => by
  obtain ⟨q0, q1, q2, q3, q4⟩ := q
  exact ⟨q0, q1, q2, q3, zE.blind q4⟩
def zQ (G : zG) (o : Option Value) (w1 : va_W) (A : Nat → Prop) : Array Value → State → Outcome → State → Prop := fun _ st oc t => (oc = .returned o ∧ va_P G.2.1 vwCl w1 t.heap) ∧ va_F A st t
def zQx (G : zG) (code : Nat) (o : Option Value) (w1 : va_W) (A : Nat → Prop) : Array Value → State → Outcome → State → Prop := fun _ st oc t => (code = 0 ∧ oc = .returned o ∧ va_P G.2.1 vwCl w1 t.heap) ∧ va_F A st t
def zXC (G : zG) (code : Nat) (wc : va_W) (A : Nat → Prop) : String → State → State → Prop := fun E st t => (code ≠ 0 ∧ E = zEx code ∧ va_P G.2.1 vwCl wc t.heap) ∧ va_F A st t
/-- a contract: returns o, its cells wc hold w1 then -/
def zM (G : zG) (y : MethodName) (wsy : List Cond) (rm : Room) (av : List Value) (wc w1 : va_W) (o : Option Value) (mc ms : Nat) : Prop :=
  G.1.stackTraces = false → ∀ sz, Met G.1 y wsy rm (va_Pc av (zPre G wc sz)) (zQ G o w1 (va_A wc sz)) mc ms (va_A wc sz)
/-- a contract: code 0: it returns o, its cells hold w1 then; else it throws the exception of that number, its cells as they were -/
def zX (G : zG) (y : MethodName) (wsy : List Cond) (rm : Room) (av : List Value) (wc w1 : va_W) (code : Nat) (o : Option Value) (mc ms : Nat) : Prop :=
  G.1.stackTraces = false → ∀ sz, vx_Met G.1 y wsy rm (va_Pc av (zPre G wc sz)) (zQx G code o w1 (va_A wc sz)) (zXC G code wc (va_A wc sz)) mc ms (va_A wc sz)
-- locals by their numbers; values of one slot alone
def zh (ls : Array Slot) (n : Nat) (lv : List (Option Value)) : Prop := ls.size = n ∧ lv_wf ls ∧ (∀ (i : Nat) (v : Value), lv[i]? = some (some v) → v.category = 1 ∧ ls[i]? = some (.val v)) ∧ lv.length = n
def zl (lv : List (Option Value)) : List (Nat × Value) := (List.range lv.length).filterMap (fun j => (lv[j]?.join).map (fun w => (j, w)))
theorem zl_mem {lv : List (Option Value)} {j : Nat} {w : Value} : (j, w) ∈ zl lv ↔ lv[j]? = some (some w) := by
  constructor
  · intro h
    obtain ⟨i, hi, he⟩ := List.mem_filterMap.mp h
    obtain ⟨w', hw, he⟩ := Option.map_eq_some_iff.mp he
    cases he
    exact Option.join_eq_some_iff.mp hw
  · intro h
    refine List.mem_filterMap.mpr ⟨j, List.mem_range.mpr (List.getElem?_eq_some_iff.mp h).1, ?_⟩
    simp [h]
theorem zh.has {ls : Array Slot} {n : Nat} {lv : List (Option Value)} (h : zh ls n lv) : lv_has ls n (zl lv) :=
  ⟨h.1, h.2.1, fun q hq => (h.2.2.1 q.1 q.2 (zl_mem.mp hq)).2⟩
theorem zh.set {ls ls' : Array Slot} {n i : Nat} {v : Value} {lv : List (Option Value)} (h : zh ls n lv) (hc : v.category = 1) (h' : lv_has ls' n ((i, v) :: (zl lv).filter (fun q => !(q.1 == i) && !(q.1 + 1 == i && q.2.category == 2)))) : zh ls' n (lv.set i (some v)) := by
  refine ⟨h'.1, h'.2.1, fun j w hw => ?_, by rw [List.length_set]; exact h.2.2.2⟩
  by_cases hij : i = j
  · subst hij
    rw [List.getElem?_set_self' ] at hw
    cases hq : lv[i]? with
    | none => rw [hq] at hw; cases hw
    | some x =>
      rw [hq] at hw
      cases hw
      exact ⟨hc, h'.2.2 (i, v) List.mem_cons_self⟩
  · rw [List.getElem?_set_ne hij] at hw
    obtain ⟨h1, -⟩ := h.2.2.1 j w hw
    refine ⟨h1, h'.2.2 (j, w) (List.mem_cons_of_mem _ (List.mem_filter.mpr ⟨zl_mem.mpr hw, ?_⟩))⟩
    have e1 : (j == i) = false := beq_false_of_ne (fun e => hij e.symm)
    simp [e1, h1]
def zlv (av : List Value) (n : Nat) : List (Option Value) := av.map some ++ List.replicate (n - av.length) none
theorem zlv_args : ∀ (av : List Value) (r k i : Nat) (v : Value), (∀ w ∈ av, w.category = 1) → (av.map some ++ List.replicate r none)[i]? = some (some v) → v ∈ av ∧ (k + i, v) ∈ lv_args k av
  | [], r, k, i, v, _, h => by
    rw [List.map_nil, List.nil_append, List.getElem?_replicate] at h
    split at h <;> cases h
  | a :: av, r, k, 0, v, _, h => by
    cases h
    exact ⟨List.mem_cons_self, List.mem_cons_self⟩
  | a :: av, r, k, i + 1, v, hc, h => by
    obtain ⟨h1, h2⟩ := zlv_args av r (k + 1) i v (fun w hw => hc w (List.mem_cons_of_mem _ hw)) h
    refine ⟨List.mem_cons_of_mem _ h1, List.mem_cons_of_mem _ ?_⟩
    rw [hc a List.mem_cons_self, if_neg (by decide), show k + (i + 1) = k + 1 + i by omega]
    exact h2
theorem zlg : ∀ (av : List Value), (∀ w ∈ av, w.category = 1) → (lg_sl av).length = av.length
  | [], _ => rfl
  | a :: av, hc => by
    show ((if a.category = 2 then _ else _) ++ lg_sl av).length = _
    rw [hc a List.mem_cons_self, if_neg (by decide), List.length_append, zlg av (fun w hw => hc w (List.mem_cons_of_mem _ hw))]
    simp only [List.length_cons, List.length_nil]
    omega
theorem zh_entry {av : List Value} {n : Nat} (hc : ∀ w ∈ av, w.category = 1) (hn : av.length ≤ n) : zh ((lg_sl av ++ List.replicate (n - (lg_sl av).length) Slot.unset).toArray) n (zlv av n) := by
  have h := lv_entry av (n := n) (by rw [zlg av hc]; exact hn)
  refine ⟨h.1, h.2.1, fun i v hv => ?_, by simp only [zlv, List.length_append, List.length_map, List.length_replicate]; omega⟩
  obtain ⟨h1, h2⟩ := zlv_args av _ 0 i v hc hv
  refine ⟨hc v h1, ?_⟩
  have h3 := h.2.2 (0 + i, v) h2
  rw [Nat.zero_add] at h3
  exact h3
-- the judgement
abbrev zT : Type := Program × Launch × Env × Room × State × MethodId × Array Value × List Frame × Method × Code × (State → Prop) × (Nat → Prop) × Nat
def zJ (G : zG) : zT → Nat → va_W → List (Option Value) → List Value → Nat → Nat → Prop
  | (p, l, e, R, s, m, args, below, meth, c, Q, A, n), pc, ws, lv, st, cells, slots => ∀ (H : Heap) (locs : List Loc) (ls : Array Slot), va_P G.2.1 vwCl ws H → va_D A ws → va_S A s.heap H locs → zh ls n lv → W p l e R s m args below meth c H locs cells slots Q (F0 m pc ls st)
def zV (G : zG) : zT → Nat → va_W → List (Option Value) → List Value → String → Nat → Nat → Prop
  | (p, l, e, R, s, m, args, below, meth, c, Q, A, n), pc, ws, lv, st, E, cells, slots => ∀ (H : Heap) (locs : List Loc) (ls : Array Slot) (q : Addr) (ce : Cell), va_P G.2.1 vwCl ws H → va_D A ws → va_S A s.heap H locs → zh ls n lv → H[q]? = some ce → ce.vm = .none → s.vm.findClass E = some ce.cls → vx_W p l e R s m args below meth c H locs cells slots Q (F0 m pc ls st) q
def zF (G : zG) : zT → Room → ByteArray → List Cond → String → Prop
  | (p, l, e, R, s, m, args, below, meth, c, Q, A, n), R', cc, Ts, own => G.1 = l ∧ R' = R ∧ G.1.stackTraces = false ∧ CallFix p m c cc n s args Ts own ∧ zE G A s s.heap ∧ ∀ q, s.heap.size ≤ q → A q
def zH : zT → Cond → Prop
  | (p, l, e, R, s, m, args, below, meth, c, Q, A, n), w => w.before args s = true
theorem zF.w {G : zG} {X : zT} {R : Room} {cc : ByteArray} {Ts : List Cond} {own : String} (hF : zF G X R cc Ts own) {w : Cond} (h : w ∈ Ts) : zH X w := by
  obtain ⟨p, l, e, R', s, m, args, below, meth, c, Q, A, n⟩ := X
  exact hF.2.2.2.1.2.2.2.2 w h
theorem zF.nf {G : zG} {X : zT} {R : Room} {cc : ByteArray} {Ts : List Cond} {own : String} (hF : zF G X R cc Ts own) {q : String × Nat × String × String × String} (h : q ∈ zNF) : zH X (.fieldLinkNest q.1 q.2.1 q.2.2.1 q.2.2.2.1 q.2.2.2.2 RX4) := by
  obtain ⟨p, l, e, R', s, m, args, below, meth, c, Q, A, n⟩ := X
  exact va_Nw.use rfl (hF.2.2.2.2.1.2.1.1 q h)
/-- how a method of the class ends: with o, its cells w1 -/
def zR (G : zG) (X : zT) (cc : ByteArray) (w1 : va_W) (o : Option Value) (mc ms : Nat) : Prop :=
  ∀ (pc : Nat) (lv : List (Option Value)) (cells slots : Nat), cells ≤ mc → slots ≤ ms → (match o with | some _ => decode cc pc = .ok (.ireturn, 1) | none => decode cc pc = .ok (.return_, 1)) → zJ G X pc w1 lv o.toList cells slots
theorem zR.i {G : zG} {X : zT} {cc : ByteArray} {w1 ws : va_W} {sp v : Int32} {mc ms pc cells slots : Nat} {lv : List (Option Value)} (h : zR G X cc w1 (some (.int sp)) mc ms) (d : decode cc pc = .ok (.ireturn, 1)) (hc : cells ≤ mc) (hs : slots ≤ ms) (hw : ws = w1) (hv : v = sp) : zJ G X pc ws lv [.int v] cells slots := by
  subst hv; subst hw; exact h pc lv cells slots hc hs d
theorem zR.v {G : zG} {X : zT} {cc : ByteArray} {w1 ws : va_W} {mc ms pc cells slots : Nat} {lv : List (Option Value)} (h : zR G X cc w1 none mc ms) (d : decode cc pc = .ok (.return_, 1)) (hc : cells ≤ mc) (hs : slots ≤ ms) (hw : ws = w1) : zJ G X pc ws lv [] cells slots := by
  subst hw; exact h pc lv cells slots hc hs d
/-- a method without a table that may throw: what it owes at a throw -/
def zZ (G : zG) : zT → va_W → Nat → Nat → Nat → Prop
  | (p, l, e, R, s, m, args, below, meth, c, Q, A, n), wc, code, mc, ms => (∃ Qc : Array Value → State → Outcome → State → Prop, Q = vx_MQ below Qc (zXC G code wc A) args s mc ms A) ∧ (∀ x ∈ c.exceptionTable.toList, False) ∧ meth.locks = false
theorem zZ.x {G : zG} {X : zT} {wc ws : va_W} {code k mc ms pc cells slots : Nat} {lv : List (Option Value)} {rest : List Value} (h : zZ G X wc code mc ms) (hc : cells ≤ mc) (hs : slots ≤ ms) (hk : k ≠ 0 → code = k) (h0 : k ≠ 0) (hw : ws = wc) : zV G X pc ws lv rest (zEx k) cells slots := by
  obtain ⟨p, l, e, R', s, m, args, below, meth, c, Q, A, n⟩ := X
  obtain ⟨⟨Qc, rfl⟩, ht, hlk⟩ := h
  intro H locs ls q ce hP hD hS hl hq hv hcl
  subst hw
  exact vx_out (fun x hx => (ht x hx).elim) hlk hq hv hcl (fun t htH hA => ⟨⟨by rw [hk h0]; exact h0, by rw [hk h0], by rw [htH]; exact hP⟩, hS.F htH⟩) hS.2.2 hc hs
set_option maxHeartbeats 2000000 in
theorem zM.ofI {G : zG} {y : MethodName} {wsy ws' : List Cond} {rm : Room} {cc : ByteArray} {maxL mc ms : Nat} {av : List Value} {wc w1 : va_W} {sp : Int32} {ret : FieldType} {own : String} (ho : y.cls = own) (hy : plainName y.cls = true) (hw : wsy = Cond.code y cc maxL (some ret) :: ws') (hret : narrow ret (.int sp) = .int sp) (hav : ∀ v ∈ av, v.category = 1) (hlen : av.length ≤ maxL)
    (body : ∀ X : zT, zF G X rm cc wsy own → zR G X cc w1 (some (.int sp)) mc ms → zJ G X 0 wc (zlv av maxL) [] 0 0) : zM G y wsy rm av wc w1 (some (.int sp)) mc ms := by
  subst ho
  intro hfl sz
  refine Met.ofW (cc := cc) (maxL := maxL) (ret := some ret) hy hw ?_
  intro p e s m args below meth c s₁ B hml hv
  obtain ⟨rfl, hsz, hP, hD0, hE⟩ := hv
  have hx := B.exec
  have hb := B.bytes
  have hr := B.returns
  have hts := atoms_spec (ws := wsy) B.pre
  have hown := findClass_of_methodNamed B.named
  have hlocks := B.notSynchronized
  subst hsz
  have hD := hD0.self (sz := s.heap.size)
  have key := body (p, G.1, e, (headSpec wsy rm).room, s, m, av.toArray, below, meth, c, MQ below (zQ G (some (.int sp)) w1 (va_A wc s.heap.size)) av.toArray s mc ms (va_A wc s.heap.size), va_A wc s.heap.size, maxL) ⟨rfl, rfl, hfl, ⟨hx, hb, hml, hown, hts⟩, hE, fun q h => Or.inr h⟩ ?_
  · rw [lg_entry_eq]
    exact key s.heap [] _ hP hD va_S.rf (zh_entry hav hlen)
  · intro pc lv cells slots hc hs d H locs ls hP hD hS hl
    refine W.widen hc hs ?_
    exact W.zret hx hb hr hret (fun t ht hW => ⟨⟨rfl, by rw [ht]; exact hP⟩, hS.F ht⟩) hS.2.2 d
set_option maxHeartbeats 2000000 in
theorem zM.ofV {G : zG} {y : MethodName} {wsy ws' : List Cond} {rm : Room} {cc : ByteArray} {maxL mc ms : Nat} {av : List Value} {wc w1 : va_W} {own : String} (ho : y.cls = own) (hy : plainName y.cls = true) (hw : wsy = Cond.code y cc maxL none :: ws') (hav : ∀ v ∈ av, v.category = 1) (hlen : av.length ≤ maxL)
    (body : ∀ X : zT, zF G X rm cc wsy own → zR G X cc w1 none mc ms → zJ G X 0 wc (zlv av maxL) [] 0 0) : zM G y wsy rm av wc w1 none mc ms := by
  subst ho
  intro hfl sz
  refine Met.ofW (cc := cc) (maxL := maxL) (ret := none) hy hw ?_
  intro p e s m args below meth c s₁ B hml hv
  obtain ⟨rfl, hsz, hP, hD0, hE⟩ := hv
  have hx := B.exec
  have hb := B.bytes
  have hr := B.returns
  have hts := atoms_spec (ws := wsy) B.pre
  have hown := findClass_of_methodNamed B.named
  have hlocks := B.notSynchronized
  subst hsz
  have hD := hD0.self (sz := s.heap.size)
  have key := body (p, G.1, e, (headSpec wsy rm).room, s, m, av.toArray, below, meth, c, MQ below (zQ G none w1 (va_A wc s.heap.size)) av.toArray s mc ms (va_A wc s.heap.size), va_A wc s.heap.size, maxL) ⟨rfl, rfl, hfl, ⟨hx, hb, hml, hown, hts⟩, hE, fun q h => Or.inr h⟩ ?_
  · rw [lg_entry_eq]
    exact key s.heap [] _ hP hD va_S.rf (zh_entry hav hlen)
  · intro pc lv cells slots hc hs d H locs ls hP hD hS hl
    refine W.widen hc hs ?_
    exact W.vret hx hb hr (fun t ht hW => ⟨⟨rfl, by rw [ht]; exact hP⟩, hS.F ht⟩) hS.2.2 d
set_option maxHeartbeats 2000000 in
theorem zX.ofI {G : zG} {y : MethodName} {wsy ws' : List Cond} {rm : Room} {cc : ByteArray} {maxL mc ms code : Nat} {av : List Value} {wc w1 : va_W} {sp : Int32} {ret : FieldType} {own : String} (ho : y.cls = own) (hy : plainName y.cls = true) (hw : wsy = Cond.code y cc maxL (some ret) :: ws') (hret : narrow ret (.int sp) = .int sp) (hav : ∀ v ∈ av, v.category = 1) (hlen : av.length ≤ maxL)
    (body : ∀ X : zT, zF G X rm cc wsy own → zZ G X wc code mc ms → (code = 0 → zR G X cc w1 (some (.int sp)) mc ms) → zJ G X 0 wc (zlv av maxL) [] 0 0) : zX G y wsy rm av wc w1 code (some (.int sp)) mc ms := by
  subst ho
  intro hfl sz
  refine vx_ofW (cc := cc) (maxL := maxL) (ret := some ret) hy hw ?_
  intro p e s m args below meth c s₁ B hml htab hv
  obtain ⟨rfl, hsz, hP, hD0, hE⟩ := hv
  have hx := B.exec
  have hb := B.bytes
  have hr := B.returns
  have hts := atoms_spec (ws := wsy) B.pre
  have hown := findClass_of_methodNamed B.named
  have hlocks := B.notSynchronized
  subst hsz
  have hD := hD0.self (sz := s.heap.size)
  have key := body (p, G.1, e, (headSpec wsy rm).room, s, m, av.toArray, below, meth, c, vx_MQ below (zQx G code (some (.int sp)) w1 (va_A wc s.heap.size)) (zXC G code wc (va_A wc s.heap.size)) av.toArray s mc ms (va_A wc s.heap.size), va_A wc s.heap.size, maxL) ⟨rfl, rfl, hfl, ⟨hx, hb, hml, hown, hts⟩, hE, fun q h => Or.inr h⟩ ⟨⟨_, rfl⟩, fun x hx => absurd (htab x hx) id, hlocks⟩ ?_
  · rw [lg_entry_eq]
    exact key s.heap [] _ hP hD va_S.rf (zh_entry hav hlen)
  · intro h0 pc lv cells slots hc hs d H locs ls hP hD hS hl
    refine vx_ret (W.widen hc hs ?_)
    exact W.zret hx hb hr hret (fun t ht hW => ⟨⟨h0, rfl, by rw [ht]; exact hP⟩, hS.F ht⟩) hS.2.2 d
set_option maxHeartbeats 2000000 in
theorem zX.ofV {G : zG} {y : MethodName} {wsy ws' : List Cond} {rm : Room} {cc : ByteArray} {maxL mc ms code : Nat} {av : List Value} {wc w1 : va_W} {own : String} (ho : y.cls = own) (hy : plainName y.cls = true) (hw : wsy = Cond.code y cc maxL none :: ws') (hav : ∀ v ∈ av, v.category = 1) (hlen : av.length ≤ maxL)
    (body : ∀ X : zT, zF G X rm cc wsy own → zZ G X wc code mc ms → (code = 0 → zR G X cc w1 none mc ms) → zJ G X 0 wc (zlv av maxL) [] 0 0) : zX G y wsy rm av wc w1 code none mc ms := by
  subst ho
  intro hfl sz
  refine vx_ofW (cc := cc) (maxL := maxL) (ret := none) hy hw ?_
  intro p e s m args below meth c s₁ B hml htab hv
  obtain ⟨rfl, hsz, hP, hD0, hE⟩ := hv
  have hx := B.exec
  have hb := B.bytes
  have hr := B.returns
  have hts := atoms_spec (ws := wsy) B.pre
  have hown := findClass_of_methodNamed B.named
  have hlocks := B.notSynchronized
  subst hsz
  have hD := hD0.self (sz := s.heap.size)
  have key := body (p, G.1, e, (headSpec wsy rm).room, s, m, av.toArray, below, meth, c, vx_MQ below (zQx G code none w1 (va_A wc s.heap.size)) (zXC G code wc (va_A wc s.heap.size)) av.toArray s mc ms (va_A wc s.heap.size), va_A wc s.heap.size, maxL) ⟨rfl, rfl, hfl, ⟨hx, hb, hml, hown, hts⟩, hE, fun q h => Or.inr h⟩ ⟨⟨_, rfl⟩, fun x hx => absurd (htab x hx) id, hlocks⟩ ?_
  · rw [lg_entry_eq]
    exact key s.heap [] _ hP hD va_S.rf (zh_entry hav hlen)
  · intro h0 pc lv cells slots hc hs d H locs ls hP hD hS hl
    refine vx_ret (W.widen hc hs ?_)
    exact W.vret hx hb hr (fun t ht hW => ⟨⟨h0, rfl, by rw [ht]; exact hP⟩, hS.F ht⟩) hS.2.2 d
