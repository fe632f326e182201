section
/-! ===== BEGIN words of one list among another's, by their places ===== -/
theorem goodIn_r {big : List Cond} (ws : List Cond) (ps : List Nat) (hp : ws = ps.filterMap (fun i => big[i]?)) (h : ws.all goodWord = true) : GoodIn big ws := by
  intro w hw
  have h1 := List.all_eq_true.mp h w hw
  rw [hp] at hw
  obtain ⟨i, -, hi⟩ := List.mem_filterMap.mp hw
  have hm : w ∈ big := by first | exact List.mem_of_getElem? hi | exact List.getElem?_mem hi
  exact ⟨hm, good_of_word h1⟩
theorem goodIn_app {big a b : List Cond} (ha : GoodIn big a) (hb : GoodIn big b) : GoodIn big (a ++ b) := fun w h => (List.mem_append.mp h).elim (ha w) (hb w)
theorem goodIn_ca {big a b : List Cond} {c : Cond} (ha : GoodIn big (c :: a)) (hb : GoodIn big b) : GoodIn big (c :: (a ++ b)) := fun w h => (List.mem_cons.mp h).elim (fun e => ha w (List.mem_cons.mpr (Or.inl e))) (fun h => (List.mem_append.mp h).elim (fun h => ha w (List.mem_cons.mpr (Or.inr h))) (hb w))
theorem goodIn_sub {big ws : List Cond} (hm : ∀ w ∈ ws, w ∈ big) (h : ws.all goodWord = true) : GoodIn big ws := fun w hw => ⟨hm w hw, good_of_word (List.all_eq_true.mp h w hw)⟩
/-! ===== END ===== -/

/-! ===== BEGIN exceptions that leave a method, and their catching by the caller (launches without stack traces) ===== -/
section VXA
/-! The laws vx_back, vx_callV, vx_callS, vx_callSW, vx_throw0, vx_throwS follow proofs of the library, with one case more: JvmDerived/Free/Laws.lean (Back.of_free), Shelf42/LK1.lean (callV, callS), Shelf/KitTraced.lean (throwNew0V, throwNewS). -/
/-- where a method has thrown q: the class by its name, the cell, what was written, the world -/
def vx_T (XC : String → State → State → Prop) (st : State) (q : Addr) (t : State) (mc ms : Nat) (free : Addr → Prop) : Prop :=
  ∃ (E : String) (ce : Cell) (L : List Loc), XC E st t ∧ t.heap[q]? = some ce ∧ ce.vm = .none ∧ st.vm.findClass E = some ce.cls ∧ st.WarmedH t.vm ∧ st.sameButNew ({ t with vm := st.vm } : State) L mc ms ∧ ∀ z ∈ L, free z.base
def vx_Q (Qc : Array Value → State → Outcome → State → Prop) (XC : String → State → State → Prop) (mc ms : Nat) (free : Addr → Prop) : Array Value → State → Outcome → State → Prop := fun a st o t =>
  (Qc a st o t ∧ ∃ L, FrameEnd st o t L mc ms ∧ ∀ q ∈ L, free q.base) ∨ ∃ q, o = .threw q ∧ vx_T XC st q t mc ms free
/-- a callee that returns or throws -/
def vx_Met (l : Launch) (y : MethodName) (ws : List Cond) (rm : Room) (Pc : Array Value → State → Prop) (Qc : Array Value → State → Outcome → State → Prop) (XC : String → State → State → Prop) (mc ms : Nat) (free : Addr → Prop) : Prop :=
  MetFree l y (headSpec ws rm) Pc (fun _ _ _ _ _ => True) (vx_Q Qc XC mc ms free)
def vx_Post (XC : String → State → State → Prop) (mc ms : Nat) (free : Addr → Prop) : Pt → Array Value → Addr → Pt → Prop := fun A a q B =>
  ∃ (g : JFrame) (mk : MethodId) (t : State) (L : List Loc) (E : String) (ce : Cell), B.U.heap = t.heap ∧ B.U.vm = t.vm ∧ XC E (A.U.calling g mk a) t ∧ t.heap[q]? = some ce ∧ ce.vm = .none ∧ A.U.vm.findClass E = some ce.cls ∧ B.locs = A.locs ++ L ∧ (∀ z ∈ L, free z.base) ∧ B.cells = A.cells + mc ∧ B.slots = A.slots + ms
def vx_Back (l : Launch) (R : Room) (p : Program) (e : Env) (below : List Frame) (s : State) (sargs : Array Value) (y : MethodName) (len W9 : Nat)
    (Pre : Pt → Array Value → Prop) (Post : Pt → Array Value → Option Value → Pt → Prop) (PostX : Pt → Array Value → Addr → Pt → Prop) : Prop :=
  ∀ (m : MethodId) (meth : Method) (c : Code) (A : Pt) (g : JFrame) (ig : Instr) (mk : MethodId) (a : Array Value),
    Stand p l e R s m sargs below meth c A.U A.locs A.cells A.slots → g.method = m → g.locals.size = c.maxLocals → decode c.code g.pc = .ok (ig, len) →
    2 * g.monitorRoom + (g.stack.map fun v => v.category).sum ≤ W9 → A.U.methodNamed? y = some mk → Pre A a →
    (∃ (v : Option Value) (B : Pt), Stand p l e R s m sargs below meth c B.U B.locs B.cells B.slots ∧ Post A a v B ∧
      Steps p.tables e below (doInvoke e (A.U.setTop g) [] mk a).1 (B.U.setTop { g with pc := g.pc + len, stack := v.toList ++ g.stack })) ∨
    (∃ (q : Addr) (B : Pt), Stand p l e R s m sargs below meth c B.U B.locs B.cells B.slots ∧ PostX A a q B ∧
      Steps p.tables e below (doInvoke e (A.U.setTop g) [] mk a).1 ((B.U.setTop g).pushFrame (.throwing q)))
section Payer
variable {l : Launch} {R : Room} {p : Program} {e : Env} {below : List Frame} {s : State} {sargs : Array Value} {y : MethodName} {len W9 : Nat}
theorem vx_back {ws : List Cond} {rm : Room} {Pc : Array Value → State → Prop} {Qc : Array Value → State → Outcome → State → Prop} {XC : String → State → State → Prop} {mc ms : Nat} {free : Addr → Prop} {bytes : ByteArray} {maxL : Nat} {ret : Option FieldType}
    (hM : vx_Met l y ws rm Pc Qc XC mc ms free) (hblind : FrameBlind Pc) (hrc : rm.cells = mc) (hrs : rm.slots = ms)
    (hframes : rm.frames + 1 ≤ R.frames) (hlocals : W9 + (maxL + 11) + rm.locals ≤ R.locals)
    (hws : ∀ w ∈ ws, ∀ a' U, s.WarmedH U.vm → w.before a' U = true) (hcode : Cond.code y bytes maxL ret ∈ ws) (hinit : ∀ a' U, s.WarmedH U.vm → (Cond.initialized y.cls).before a' U = true) :
    vx_Back l R p e below s sargs y len W9 (PreOf R mc ms Pc) (PostOf Qc mc ms free) (vx_Post XC mc ms free) := by
  intro m meth c A g ig mk a X hg hsize hdg hW hn hp
  have h1 : (headSpec ws rm).pre.before a A.U = true := atoms_intro fun w hw => hws w hw _ _ X.warmed
  have h2 : (Cond.code y bytes maxL ret).before a A.U = true := hws _ hcode _ _ X.warmed
  have h3 : (Cond.initialized y.cls).before a A.U = true := hinit _ _ X.warmed
  have h4 : A.cells + (headSpec ws rm).room.cells ≤ R.cells := by rw [show (headSpec ws rm).room.cells = mc from hrc]; exact hp.1
  have h5 : A.slots + (headSpec ws rm).room.slots ≤ R.slots := by rw [show (headSpec ws rm).room.slots = ms from hrs]; exact hp.2.1
  have hPc : Pc a (A.U.calling g mk a) := hblind _ _ _ _ hp.2.2
  obtain ⟨U, Ls, c0, s0⟩ := A
  dsimp only [Pt.U, Pt.locs, Pt.cells, Pt.slots] at h1 h2 h3 h4 h5 X hn hPc ⊢
  obtain ⟨methY, cY, hmY, hcY, -, hlY, -, -, -, -⟩ := Cond.code_spec hn h2
  obtain ⟨kY, hkY, -⟩ := className_of_methodNamed hn
  have hinitY : kY.init = .initialized := Cond.initialized_spec (findClass_of_methodNamed hn) hkY h3
  have h : At U g.method c below := by rw [hg]; exact X.here
  have hlocals9 : W9 + (maxL + 11) + (headSpec ws rm).room.locals ≤ R.locals := hlocals
  have happ : (headSpec ws rm).appliesLoose y e.platform (U.calling g mk a) = true :=
    Spec.appliesLoose_calling (g := g) h hdg hn hkY hinitY
      (X.room_calling (g := g) (R' := (headSpec ws rm).room) hsize hmY hcY hframes (by rw [hlY]; omega) h4 h5) h1
  obtain ⟨mid, hmid⟩ := h.above
  have hfr : (U.setTop g).frames = (.java g :: mid) ++ below := by rw [State.frames_setTop' g h.top, hmid]; rfl
  obtain ⟨o, s₂, hsteps, -, hend, hq⟩ := Steps.callFree hM p X.admits X.cas X.clock (acts := []) hfr happ hPc trivial
  have hq' : vx_Q Qc XC mc ms free a (U.calling g mk a) o s₂ := hq
  rw [State.frames_setTop' g h.top] at hend
  obtain ⟨g₀, hg0⟩ := Option.isSome_iff_exists.mp h.top
  obtain ⟨r, hr⟩ := State.topJava?_eq_some.mp hg0
  have hr' : (({ U with heap := s₂.heap, slotsUsed := s₂.slotsUsed } : State).setVm s₂.vm).frames = .java g₀ :: r := hr
  rcases hq' with ⟨hqc, L, hfe, hL⟩ | ⟨q, rfl, E, ce, L, hx, hce, hcv, hcl, hW₂, hsm, hL⟩
  · obtain ⟨⟨v, rfl⟩, hW₂, e2, q2, q3, q4, q5, q6⟩ := id hfe
    have e3 : s₂ = ({ (U.calling g mk a).setFrames s₂.frames with heap := s₂.heap, slotsUsed := s₂.slotsUsed } : State).setVm s₂.vm := by
      have : s₂ = ({ s₂ with vm := (U.calling g mk a).vm } : State).setVm s₂.vm := rfl
      rw [e2] at this
      exact this
    obtain ⟨c₂, i₂, len₂, hc₂, hd₂, hf₂⟩ := hend
    have hW' : U.WarmedH s₂.vm := hW₂
    have hcc : c₂ = c := by
      have h1 : s₂.code? g.method = U.code? g.method := by
        rw [State.code?_eq, State.code?_eq, hW'.alike.method?]
      exact Option.some.inj (hc₂.symm.trans (h1.trans h.code))
    subst hcc
    have hlen : len₂ = len := by rw [hdg] at hd₂; cases hd₂; rfl
    subst hlen
    have hs₂ : s₂ = (({ U with heap := s₂.heap, slotsUsed := s₂.slotsUsed } : State).setVm s₂.vm).setTop { g with pc := g.pc + len₂, stack := v.toList ++ g.stack } := by
      refine e3.trans ?_
      rw [hf₂, State.calling_eq h.top, State.setFrames_setFrames, State.setTop_of_frames _ hr', hr]
      rfl
    have hsame : U.sameButNew ({ U with heap := s₂.heap, slotsUsed := s₂.slotsUsed } : State) L mc ms := by
      refine ⟨?_, q2, q3, q4, q5, q6⟩
      obtain ⟨t, ht, -⟩ := State.frames_cons hr
      show ({ U with heap := s₂.heap, slotsUsed := s₂.slotsUsed } : State) = { U.setFrames U.frames with heap := s₂.heap, slotsUsed := s₂.slotsUsed }
      rw [State.setFrames_self ht]
    subst hg
    refine Or.inl ⟨v, ⟨(({ U with heap := s₂.heap, slotsUsed := s₂.slotsUsed } : State).setVm s₂.vm), Ls ++ L, c0 + mc, s0 + ms⟩,
      ⟨X.admits, X.cas, X.clock, X.frames, X.room, X.hears, X.method, X.code, (X.here.setHeapUsed s₂.heap s₂.slotsUsed).setVm hW'.alike, X.tail, State.WarmedH.trans X.warmed hW', X.limits, X.bytes, X.same.trans (hsame.setVm s.vm)⟩,
      ⟨g, mk, s₂, L, rfl, rfl, hqc, rfl, hL, rfl, rfl⟩, ?_⟩
    show Steps p.tables e below _ ((({ U with heap := s₂.heap, slotsUsed := s₂.slotsUsed } : State).setVm s₂.vm).setTop { g with pc := g.pc + len₂, stack := v.toList ++ g.stack })
    rw [← hs₂]
    exact hsteps
  · obtain ⟨e2, q2, q3, q4, q5, q6⟩ := id hsm
    have e3 : s₂ = ({ (U.calling g mk a).setFrames s₂.frames with heap := s₂.heap, slotsUsed := s₂.slotsUsed } : State).setVm s₂.vm := by
      have : s₂ = ({ s₂ with vm := (U.calling g mk a).vm } : State).setVm s₂.vm := rfl
      rw [e2] at this
      exact this
    have hf₂ : s₂.frames = .throwing q :: .java g :: U.frames.tail := hend
    have hW' : U.WarmedH s₂.vm := hW₂
    have hs₂ : s₂ = ((({ U with heap := s₂.heap, slotsUsed := s₂.slotsUsed } : State).setVm s₂.vm).setTop g).pushFrame (.throwing q) := by
      refine e3.trans ?_
      rw [hf₂, State.calling_eq h.top, State.setFrames_setFrames, State.pushFrame, State.frames_setTop _ hr', State.setTop_of_frames _ hr', State.setFrames_setFrames, hr]
      rfl
    have hsame : U.sameButNew ({ U with heap := s₂.heap, slotsUsed := s₂.slotsUsed } : State) L mc ms := by
      refine ⟨?_, q2, q3, q4, q5, q6⟩
      obtain ⟨t, ht, -⟩ := State.frames_cons hr
      show ({ U with heap := s₂.heap, slotsUsed := s₂.slotsUsed } : State) = { U.setFrames U.frames with heap := s₂.heap, slotsUsed := s₂.slotsUsed }
      rw [State.setFrames_self ht]
    subst hg
    refine Or.inr ⟨q, ⟨(({ U with heap := s₂.heap, slotsUsed := s₂.slotsUsed } : State).setVm s₂.vm), Ls ++ L, c0 + mc, s0 + ms⟩,
      ⟨X.admits, X.cas, X.clock, X.frames, X.room, X.hears, X.method, X.code, (X.here.setHeapUsed s₂.heap s₂.slotsUsed).setVm hW'.alike, X.tail, State.WarmedH.trans X.warmed hW', X.limits, X.bytes, X.same.trans (hsame.setVm s.vm)⟩,
      ⟨g, mk, s₂, L, E, ce, rfl, rfl, hx, hce, hcv, hcl, rfl, hL, rfl, rfl⟩, ?_⟩
    show Steps p.tables e below _ (((({ U with heap := s₂.heap, slotsUsed := s₂.slotsUsed } : State).setVm s₂.vm).setTop g).pushFrame (.throwing q))
    rw [← hs₂]
    exact hsteps
end Payer
section Calls
variable {p : Program} {l : Launch} {e : Env} {R : Room} {s : State} {m : MethodId} {args : Array Value} {below : List Frame} {meth : Method} {c : Code} {T : State} {locs : List Loc} {cells slots : Nat}
theorem vx_callV (X : Stand p l e R s m args below meth c T locs cells slots) (hexec : p.tables.exec = Jvm.exec) {own C : String} {index : Nat} {y : MethodName} {bytes : ByteArray} {maxL : Nat} {ret : Option FieldType}
    (hown : s.vm.findClass own = some m.cls) (hlink : (Cond.methodLink own index y).before args s = true) (hinst : (Cond.instanceMethod y).before args s = true) (hsel : (Cond.selects C y y).before args s = true)
    (hcode : (Cond.code y bytes maxL ret).before args s = true) (hy : y.cls ≠ "java/lang/invoke/MethodHandle" ∧ y.cls ≠ "java/lang/invoke/VarHandle")
    {W9 : Nat} {Pre : Pt → Array Value → Prop} {Post : Pt → Array Value → Option Value → Pt → Prop} {PostX : Pt → Array Value → Addr → Pt → Prop} (hK : vx_Back l R p e below s args y 3 W9 Pre Post PostX)
    {b : Addr} {cellB : Cell} (hcell : T.heap[b]? = some cellB) (hobj : cellB.vm.isStatics = false) (hcls : s.vm.findClass C = some cellB.cls)
    {g : JFrame} (hg : g.method = m) (hsize : g.locals.size = c.maxLocals) {argsL rest : List Value} (hlen : ∀ sig, parseMethodDescriptor y.desc = some sig → argsL.length = sig.parameters.length)
    (hstack : g.stack = argsL.reverse ++ .ref b :: rest) (hW : 2 * g.monitorRoom + (rest.map fun v => v.category).sum ≤ W9) (hdg : decode c.code g.pc = .ok (.invokevirtual index, 3))
    (hpre : ∀ vm₁, s.WarmedH vm₁ → Pre ⟨T.setVm vm₁, locs, cells, slots⟩ (Value.ref b :: argsL).toArray) :
    (∃ (v : Option Value) (vm₁ : Vm) (B : Pt), s.WarmedH vm₁ ∧ Stand p l e R s m args below meth c B.U B.locs B.cells B.slots ∧ Post ⟨T.setVm vm₁, locs, cells, slots⟩ (Value.ref b :: argsL).toArray v B ∧
      ∀ target, Steps p.tables e below (B.U.setTop { g with pc := g.pc + 3, stack := v.toList ++ rest }) target → Steps p.tables e below (T.setTop g) target) ∨
    (∃ (q : Addr) (vm₁ : Vm) (B : Pt), s.WarmedH vm₁ ∧ Stand p l e R s m args below meth c B.U B.locs B.cells B.slots ∧ PostX ⟨T.setVm vm₁, locs, cells, slots⟩ (Value.ref b :: argsL).toArray q B ∧
      Steps p.tables e below (T.setTop g) ((B.U.setTop { g with stack := rest }).pushFrame (.throwing q))) := by
  obtain ⟨mk, methM, hnamed, hmethM, hstM, habM⟩ := Cond.instanceMethod_spec hinst
  obtain ⟨methM', cM, hmethM', -, -, -, -, -, -, hsigM⟩ := Cond.code_spec hnamed hcode
  cases hmethM.symm.trans hmethM'
  obtain ⟨c2, r2, m2, q1, q2, q3, q4, kP, hkP, hkPi⟩ := Cond.selects_spec hsel
  cases hcls.symm.trans q1
  cases (State.methodFound?_of_named hnamed hy).symm.trans q2
  cases hnamed.symm.trans q3
  have hselP : selectMethod e.platform s.vm cellB.cls mk = .method mk := by rw [Launch.admits_selectMethod X.admits]; exact q4
  obtain ⟨vm₁, X₁, hstep₁⟩ := X.invokevirtual hexec hown hlink hnamed hmethM hstM hkP hkPi hy (a := b) (cell := cellB) hcell
    (fun z h => by rw [h] at hobj; cases hobj) hselP hmethM habM hkP hkPi (g := g) hg (argsL := argsL) (rest := rest) (hlen _ hsigM) hstack hdg
  rcases hK m meth c ⟨T.setVm vm₁, locs, cells, slots⟩ { g with stack := rest } (.invokevirtual index) mk (Value.ref b :: argsL).toArray X₁ hg hsize hdg hW (X₁.named hnamed) (hpre vm₁ X₁.warmed) with ⟨v, B, X', hpost, hsteps⟩ | ⟨q, B, X', hpost, hsteps⟩
  · exact Or.inl ⟨v, vm₁, B, X₁.warmed, X', hpost, fun target h => hstep₁ _ fun acts => by rw [doInvoke_state]; exact hsteps.trans h⟩
  · exact Or.inr ⟨q, vm₁, B, X₁.warmed, X', hpost, hstep₁ _ fun acts => by rw [doInvoke_state]; exact hsteps⟩
theorem vx_callS (X : Stand p l e R s m args below meth c T locs cells slots) (hexec : p.tables.exec = Jvm.exec) {own : String} {index : Nat} {y : MethodName} {bytes : ByteArray} {maxL : Nat} {ret : Option FieldType}
    (hown : s.vm.findClass own = some m.cls) (hlink : (Cond.methodLink own index y).before args s = true) (hstat : (Cond.static y).before args s = true) (hinit : (Cond.initialized y.cls).before args s = true)
    (hcode : (Cond.code y bytes maxL ret).before args s = true) (hy : y.cls ≠ "java/lang/invoke/MethodHandle" ∧ y.cls ≠ "java/lang/invoke/VarHandle")
    {W9 : Nat} {Pre : Pt → Array Value → Prop} {Post : Pt → Array Value → Option Value → Pt → Prop} {PostX : Pt → Array Value → Addr → Pt → Prop} (hK : vx_Back l R p e below s args y 3 W9 Pre Post PostX)
    {g : JFrame} (hg : g.method = m) (hsize : g.locals.size = c.maxLocals) {argsL rest : List Value} (hlen : ∀ sig, parseMethodDescriptor y.desc = some sig → argsL.length = sig.parameters.length)
    (hstack : g.stack = argsL.reverse ++ rest) (hW : 2 * g.monitorRoom + (rest.map fun v => v.category).sum ≤ W9) (hdg : decode c.code g.pc = .ok (.invokestatic index, 3))
    (hpre : ∀ vm₁, s.WarmedH vm₁ → Pre ⟨T.setVm vm₁, locs, cells, slots⟩ argsL.toArray) :
    (∃ (v : Option Value) (vm₁ : Vm) (B : Pt), s.WarmedH vm₁ ∧ Stand p l e R s m args below meth c B.U B.locs B.cells B.slots ∧ Post ⟨T.setVm vm₁, locs, cells, slots⟩ argsL.toArray v B ∧
      ∀ target, Steps p.tables e below (B.U.setTop { g with pc := g.pc + 3, stack := v.toList ++ rest }) target → Steps p.tables e below (T.setTop g) target) ∨
    (∃ (q : Addr) (vm₁ : Vm) (B : Pt), s.WarmedH vm₁ ∧ Stand p l e R s m args below meth c B.U B.locs B.cells B.slots ∧ PostX ⟨T.setVm vm₁, locs, cells, slots⟩ argsL.toArray q B ∧
      Steps p.tables e below (T.setTop g) ((B.U.setTop { g with stack := rest }).pushFrame (.throwing q))) := by
  obtain ⟨mk, hnamed⟩ := Cond.code_named hcode
  obtain ⟨methM, cM, hmethM, -, -, -, -, -, -, hsigM⟩ := Cond.code_spec hnamed hcode
  have hstatic : methM.isStatic = true := Cond.static_spec hnamed hmethM hstat
  obtain ⟨kP, hkP, -⟩ := className_of_methodNamed hnamed
  have hinitP : kP.init = .initialized := Cond.initialized_spec (findClass_of_methodNamed hnamed) hkP hinit
  obtain ⟨vm₁, X₁, hstep₁⟩ := X.invokestatic hexec hown hlink hnamed hmethM hstatic hkP hinitP hy (g := g) hg (argsL := argsL) (rest := rest) (hlen _ hsigM) hstack hdg
  rcases hK m meth c ⟨T.setVm vm₁, locs, cells, slots⟩ { g with stack := rest } (.invokestatic index) mk argsL.toArray X₁ hg hsize hdg hW (X₁.named hnamed) (hpre vm₁ X₁.warmed) with ⟨v, B, X', hpost, hsteps⟩ | ⟨q, B, X', hpost, hsteps⟩
  · exact Or.inl ⟨v, vm₁, B, X₁.warmed, X', hpost, fun target h => hstep₁ _ fun acts => by rw [doInvoke_state]; exact hsteps.trans h⟩
  · exact Or.inr ⟨q, vm₁, B, X₁.warmed, X', hpost, hstep₁ _ fun acts => by rw [doInvoke_state]; exact hsteps⟩
end Calls
theorem vx_cls {s : State} {T : State} {vm₁ : Vm} {E : String} {k : ClassId} (hW : s.WarmedH vm₁) (h : (T.setVm vm₁).vm.findClass E = some k) : s.vm.findClass E = some k := by
  have h1 : vm₁.findClass E = some k := h
  rw [hW.alike.findClass] at h1
  exact h1
/-- the method's frame g, with q thrown over it -/
def vx_W (p : Program) (l : Launch) (e : Env) (R : Room) (s : State) (m : MethodId) (args : Array Value) (below : List Frame) (meth : Method) (c : Code) (H : Heap) (locs : List Loc) (cells slots : Nat) (Q : State → Prop) (g : JFrame) (q : Addr) : Prop :=
  ∀ T : State, T.heap = H → Stand p l e R s m args below meth c T locs cells slots → ∃ t, Steps p.tables e below ((T.setTop g).pushFrame (.throwing q)) t ∧ Q t
def vx_Run (p : Program) (l : Launch) (e : Env) (R : Room) (s : State) (m : MethodId) (args : Array Value) (below : List Frame) (meth : Method) (c : Code) (H : Heap) (locs : List Loc) (cells slots mc ms : Nat) (g : JFrame) (rest : List Value) (Qa : State → Outcome → State → Prop) (XC : String → State → State → Prop) (free : Addr → Prop) : Prop :=
  ∀ T : State, T.heap = H → Stand p l e R s m args below meth c T locs cells slots →
    (∃ (v : Option Value) (st₀ t T' : State) (L : List Loc), st₀.heap = H ∧ Stand p l e R s m args below meth c T' (locs ++ L) (cells + mc) (slots + ms) ∧ (∀ q ∈ L, free q.base) ∧ T'.heap = t.heap ∧ T'.vm = t.vm ∧ Qa st₀ (.returned v) t ∧
      Goes p e below T g T' { g with pc := g.pc + 3, stack := v.toList ++ rest }) ∨
    (∃ (q : Addr) (st₀ t T' : State) (L : List Loc) (E : String) (ce : Cell), st₀.heap = H ∧ Stand p l e R s m args below meth c T' (locs ++ L) (cells + mc) (slots + ms) ∧ (∀ z ∈ L, free z.base) ∧ T'.heap = t.heap ∧ T'.vm = t.vm ∧ XC E st₀ t ∧ t.heap[q]? = some ce ∧ ce.vm = .none ∧ s.vm.findClass E = some ce.cls ∧
      Steps p.tables e below (T.setTop g) ((T'.setTop { g with stack := rest }).pushFrame (.throwing q)))
def vx_X {S : Type} (px : S → Prop) (B : String → S → State → Prop) (A : Nat → Prop) : String → State → State → Prop := fun E st t => ∃ u : S, px u ∧ B E u t ∧ va_F A st t
section Runs
variable {p : Program} {l : Launch} {e : Env} {R : Room} {s : State} {m : MethodId} {args : Array Value} {below : List Frame} {meth : Method} {c : Code} {H : Heap} {locs : List Loc} {cells slots : Nat}
variable {y : MethodName} {bytes cc : ByteArray} {maxL nL mc ms n index : Nat} {ret : Option FieldType} {ws : List Cond} {rm : Room} {Pc : Array Value → State → Prop} {Qc : Array Value → State → Outcome → State → Prop} {XC : String → State → State → Prop} {free : Addr → Prop} {Ts : List Cond} {own C : String} {b : Addr} {As rest : List Value} {g : JFrame}
theorem vx_callBack (cb : CallB R s args own index y bytes maxL ret ws rm mc ms n) (hM : vx_Met l y ws rm Pc Qc XC mc ms free) (hbl : FrameBlind Pc) : vx_Back l R p e below s args y 3 8 (PreOf R mc ms Pc) (PostOf Qc mc ms free) (vx_Post XC mc ms free) := by
  obtain ⟨hrc, hrs, hfr, hlo, hws, hcw, -, hini, -⟩ := cb
  exact vx_back (bytes := bytes) (maxL := maxL) (ret := ret) hM hbl hrc hrs hfr hlo hws hcw (fun a' U hW => word_at hW (Or.inl (by first | rfl | simp [Cond.onTables, Cond.keeps, Cond.steady])) hini)
theorem vx_runV (S : CallFix p m c cc nL s args Ts own) (hM : vx_Met l y ws rm Pc Qc XC mc ms free) (cw : CallW R s args own C index y bytes maxL ret ws rm mc ms n) (hp : PreV s H C b Pc As)
    (hg : g.method = m) (hn : As.length = n) (hsize : g.locals.size = nL) (hstack : g.stack = As.reverse ++ .ref b :: rest) (hW : 2 * g.monitorRoom + (rest.map fun v => v.category).sum ≤ 8) (hdg : decode cc g.pc = .ok (.invokevirtual index, 3)) (hf : cells + mc ≤ R.cells ∧ slots + ms ≤ R.slots) :
    vx_Run p l e R s m args below meth c H locs cells slots mc ms g rest (Qc (Value.ref b :: As).toArray) XC free := by
  have hK : vx_Back l R p e below s args y 3 8 (PreOf R mc ms Pc) (PostOf Qc mc ms free) (vx_Post XC mc ms free) := vx_callBack cw.1 hM hp.1
  obtain ⟨⟨-, -, -, -, -, -, hcode, -, hy, hlen, hl⟩, hin, hse⟩ := cw
  obtain ⟨hx, hb, hml, ho, -⟩ := S
  obtain ⟨-, ⟨cellB, hcB, hoB, hclB⟩, hPc⟩ := hp
  intro T hT X
  rcases vx_callV X hx (C := C) (bytes := bytes) (maxL := maxL) (ret := ret) ho hl hin hse hcode hy hK (by rw [hT]; exact hcB) hoB hclB hg (hsize.trans hml.symm) (argsL := As) (rest := rest) (fun sig h => hn.trans (hlen sig h)) hstack hW (by rw [hb]; exact hdg)
    (fun vm₁ hW₁ => ⟨hf.1, hf.2, hPc (T.setVm vm₁) hT hW₁⟩) with ⟨v, vm₁, ⟨U', l2, c2, s2⟩, hW₁, X', ⟨g', mk, t, L, e1, e2, hq, h1, hL, h2, h3⟩, st⟩ | ⟨q, vm₁, ⟨U', l2, c2, s2⟩, hW₁, X', ⟨g', mk, t, L, E, ce, e1, e2, hq, hce, hcv, hcl, h1, hL, h2, h3⟩, st⟩
  · dsimp only [Pt.U, Pt.locs, Pt.cells, Pt.slots] at X' e1 e2 h1 h2 h3 st
    subst h1; subst h2; subst h3
    exact Or.inl ⟨v, (T.setVm vm₁).calling g' mk (Value.ref b :: As).toArray, t, U', L, hT, X', hL, e1, e2, hq, st⟩
  · dsimp only [Pt.U, Pt.locs, Pt.cells, Pt.slots] at X' e1 e2 h1 h2 h3 st hcl
    subst h1; subst h2; subst h3
    exact Or.inr ⟨q, (T.setVm vm₁).calling g' mk (Value.ref b :: As).toArray, t, U', L, E, ce, hT, X', hL, e1, e2, hq, hce, hcv, vx_cls hW₁ hcl, st⟩
theorem vx_runS (S : CallFix p m c cc nL s args Ts own) (hM : vx_Met l y ws rm Pc Qc XC mc ms free) (cw : CallB R s args own index y bytes maxL ret ws rm mc ms n ∧ (Cond.static y).before args s = true) (hp : PreS s H Pc As)
    (hg : g.method = m) (hn : As.length = n) (hsize : g.locals.size = nL) (hstack : g.stack = As.reverse ++ rest) (hW : 2 * g.monitorRoom + (rest.map fun v => v.category).sum ≤ 8) (hdg : decode cc g.pc = .ok (.invokestatic index, 3)) (hf : cells + mc ≤ R.cells ∧ slots + ms ≤ R.slots) :
    vx_Run p l e R s m args below meth c H locs cells slots mc ms g rest (Qc As.toArray) XC free := by
  have hK : vx_Back l R p e below s args y 3 8 (PreOf R mc ms Pc) (PostOf Qc mc ms free) (vx_Post XC mc ms free) := vx_callBack cw.1 hM hp.1
  obtain ⟨⟨-, -, -, -, -, -, hcode, hini, hy, hlen, hl⟩, hstt⟩ := cw
  obtain ⟨hx, hb, hml, ho, -⟩ := S
  intro T hT X
  rcases vx_callS X hx (bytes := bytes) (maxL := maxL) (ret := ret) ho hl hstt hini hcode hy hK hg (hsize.trans hml.symm) (argsL := As) (rest := rest) (fun sig h => hn.trans (hlen sig h)) hstack hW (by rw [hb]; exact hdg)
    (fun vm₁ hW₁ => ⟨hf.1, hf.2, hp.2 (T.setVm vm₁) hT hW₁⟩) with ⟨v, vm₁, ⟨U', l2, c2, s2⟩, hW₁, X', ⟨g', mk, t, L, e1, e2, hq, h1, hL, h2, h3⟩, st⟩ | ⟨q, vm₁, ⟨U', l2, c2, s2⟩, hW₁, X', ⟨g', mk, t, L, E, ce, e1, e2, hq, hce, hcv, hcl, h1, hL, h2, h3⟩, st⟩
  · dsimp only [Pt.U, Pt.locs, Pt.cells, Pt.slots] at X' e1 e2 h1 h2 h3 st
    subst h1; subst h2; subst h3
    exact Or.inl ⟨v, (T.setVm vm₁).calling g' mk As.toArray, t, U', L, hT, X', hL, e1, e2, hq, st⟩
  · dsimp only [Pt.U, Pt.locs, Pt.cells, Pt.slots] at X' e1 e2 h1 h2 h3 st hcl
    subst h1; subst h2; subst h3
    exact Or.inr ⟨q, (T.setVm vm₁).calling g' mk As.toArray, t, U', L, E, ce, hT, X', hL, e1, e2, hq, hce, hcv, vx_cls hW₁ hcl, st⟩
end Runs
section Rows
variable {p : Program} {l : Launch} {e : Env} {R : Room} {s : State} {m : MethodId} {args : Array Value} {below : List Frame} {meth : Method} {c : Code} {H : Heap} {locs : List Loc} {cells slots : Nat} {Q : State → Prop}
variable {mc ms : Nat} {free : Addr → Prop} {A0 A1 : Nat → Prop} {H0 : Heap} {a : Array Value} {pc : Nat} {ls : Array Slot} {st0 rest : List Value}
theorem vx_keep {st₀ t T' : State} {L : List Loc} (h0 : st₀.heap = H) (e1 : T'.heap = t.heap) (hS : va_S A0 H0 H locs) (hA : ∀ q, q < H.size → A1 q → A0 q) (hf : ∀ q, free q → A0 q) (hL : ∀ q ∈ L, free q.base) (hF : va_F A1 st₀ t) :
    H.size ≤ T'.heap.size ∧ (∀ q : Nat, q < H.size → ¬ A1 q → T'.heap[q]? = H[q]?) ∧ va_S A0 H0 T'.heap (locs ++ L) := by
  obtain ⟨hz, hk⟩ := hF
  rw [h0] at hz hk
  exact ⟨by rw [e1]; exact hz, fun q h1 h2 => by rw [e1]; exact hk q h1 h2,
    ⟨Nat.le_trans hS.1 (by rw [e1]; exact hz), fun q h1 h2 => by rw [e1, hk q (Nat.lt_of_lt_of_le h1 hS.1) (fun z => h2 (hA q (Nat.lt_of_lt_of_le h1 hS.1) z))]; exact hS.2.1 q h1 h2, fun q hq => by
      rcases List.mem_append.mp hq with h | h
      · exact hS.2.2 q h
      · exact hf _ (hL q h)⟩⟩
theorem vx_calli {S SX : Type} {post : Int32 → S → Prop} {px : SX → Prop} {B : S → State → Prop} {BX : String → SX → State → Prop} {AX : Nat → Prop} (hr : vx_Run p l e R s m args below meth c H locs cells slots mc ms (F0 m pc ls st0) rest (va_Qi post B A1 a) (vx_X px BX AX) free) (hS : va_S A0 H0 H locs) (hA : ∀ q, q < H.size → A1 q → A0 q) (hf : ∀ q, free q → A0 q) (hAX : ∀ q, q < H.size → AX q → A0 q)
    (kx : ∀ (E : String) (ce : Cell) (q9 : Addr) (u : SX) (t : State) (H1 : Heap) (locs1 : List Loc), t.heap = H1 → s.vm.Alike t.vm → px u → BX E u t → H.size ≤ H1.size → (∀ q : Nat, q < H.size → ¬ AX q → H1[q]? = H[q]?) → va_S A0 H0 H1 locs1 → H1[q9]? = some ce → ce.vm = .none → s.vm.findClass E = some ce.cls → vx_W p l e R s m args below meth c H1 locs1 (cells + mc) (slots + ms) Q (F0 m pc ls rest) q9)
    (kk : ∀ (r : Int32) (u : S) (t : State) (H1 : Heap) (locs1 : List Loc), t.heap = H1 → s.vm.Alike t.vm → post r u → B u t → H.size ≤ H1.size → (∀ q : Nat, q < H.size → ¬ A1 q → H1[q]? = H[q]?) → va_S A0 H0 H1 locs1 → W p l e R s m args below meth c H1 locs1 (cells + mc) (slots + ms) Q (F0 m (pc + 3) ls (.int r :: rest))) : W p l e R s m args below meth c H locs cells slots Q (F0 m pc ls st0) := by
  intro T hT X
  rcases hr T hT X with ⟨v, st₀, t, T', L, h0, X', hL, e1, e2, ⟨⟨r, u, hv, hp, hb⟩, hF⟩, st⟩ | ⟨q, st₀, t, T', L, E, ce, h0, X', hL, e1, e2, ⟨u, hp, hb, hF⟩, hce, hcv, hcl, st⟩
  · cases hv
    obtain ⟨k1, k2, k3⟩ := vx_keep h0 e1 hS hA hf hL hF
    obtain ⟨t2, a1, b1⟩ := kk r u t T'.heap (locs ++ L) e1.symm (by rw [← e2]; exact X'.warmed.alike) hp hb k1 k2 k3 T' rfl X'
    exact ⟨t2, st t2 a1, b1⟩
  · obtain ⟨k1, k2, k3⟩ := vx_keep h0 e1 hS hAX hf hL hF
    obtain ⟨t2, a1, b1⟩ := kx E ce q u t T'.heap (locs ++ L) e1.symm (by rw [← e2]; exact X'.warmed.alike) hp hb k1 k2 k3 (by rw [e1]; exact hce) hcv hcl T' rfl X'
    exact ⟨t2, st.trans a1, b1⟩
theorem vx_calll {S SX : Type} {post : Int64 → S → Prop} {px : SX → Prop} {B : S → State → Prop} {BX : String → SX → State → Prop} {AX : Nat → Prop} (hr : vx_Run p l e R s m args below meth c H locs cells slots mc ms (F0 m pc ls st0) rest (va_Ql post B A1 a) (vx_X px BX AX) free) (hS : va_S A0 H0 H locs) (hA : ∀ q, q < H.size → A1 q → A0 q) (hf : ∀ q, free q → A0 q) (hAX : ∀ q, q < H.size → AX q → A0 q)
    (kx : ∀ (E : String) (ce : Cell) (q9 : Addr) (u : SX) (t : State) (H1 : Heap) (locs1 : List Loc), t.heap = H1 → s.vm.Alike t.vm → px u → BX E u t → H.size ≤ H1.size → (∀ q : Nat, q < H.size → ¬ AX q → H1[q]? = H[q]?) → va_S A0 H0 H1 locs1 → H1[q9]? = some ce → ce.vm = .none → s.vm.findClass E = some ce.cls → vx_W p l e R s m args below meth c H1 locs1 (cells + mc) (slots + ms) Q (F0 m pc ls rest) q9)
    (kk : ∀ (r : Int64) (u : S) (t : State) (H1 : Heap) (locs1 : List Loc), t.heap = H1 → s.vm.Alike t.vm → post r u → B u t → H.size ≤ H1.size → (∀ q : Nat, q < H.size → ¬ A1 q → H1[q]? = H[q]?) → va_S A0 H0 H1 locs1 → W p l e R s m args below meth c H1 locs1 (cells + mc) (slots + ms) Q (F0 m (pc + 3) ls (.long r :: rest))) : W p l e R s m args below meth c H locs cells slots Q (F0 m pc ls st0) := by
  intro T hT X
  rcases hr T hT X with ⟨v, st₀, t, T', L, h0, X', hL, e1, e2, ⟨⟨r, u, hv, hp, hb⟩, hF⟩, st⟩ | ⟨q, st₀, t, T', L, E, ce, h0, X', hL, e1, e2, ⟨u, hp, hb, hF⟩, hce, hcv, hcl, st⟩
  · cases hv
    obtain ⟨k1, k2, k3⟩ := vx_keep h0 e1 hS hA hf hL hF
    obtain ⟨t2, a1, b1⟩ := kk r u t T'.heap (locs ++ L) e1.symm (by rw [← e2]; exact X'.warmed.alike) hp hb k1 k2 k3 T' rfl X'
    exact ⟨t2, st t2 a1, b1⟩
  · obtain ⟨k1, k2, k3⟩ := vx_keep h0 e1 hS hAX hf hL hF
    obtain ⟨t2, a1, b1⟩ := kx E ce q u t T'.heap (locs ++ L) e1.symm (by rw [← e2]; exact X'.warmed.alike) hp hb k1 k2 k3 (by rw [e1]; exact hce) hcv hcl T' rfl X'
    exact ⟨t2, st.trans a1, b1⟩
theorem vx_callf {S SX : Type} {post : UInt32 → S → Prop} {px : SX → Prop} {B : S → State → Prop} {BX : String → SX → State → Prop} {AX : Nat → Prop} (hr : vx_Run p l e R s m args below meth c H locs cells slots mc ms (F0 m pc ls st0) rest (va_Qf post B A1 a) (vx_X px BX AX) free) (hS : va_S A0 H0 H locs) (hA : ∀ q, q < H.size → A1 q → A0 q) (hf : ∀ q, free q → A0 q) (hAX : ∀ q, q < H.size → AX q → A0 q)
    (kx : ∀ (E : String) (ce : Cell) (q9 : Addr) (u : SX) (t : State) (H1 : Heap) (locs1 : List Loc), t.heap = H1 → s.vm.Alike t.vm → px u → BX E u t → H.size ≤ H1.size → (∀ q : Nat, q < H.size → ¬ AX q → H1[q]? = H[q]?) → va_S A0 H0 H1 locs1 → H1[q9]? = some ce → ce.vm = .none → s.vm.findClass E = some ce.cls → vx_W p l e R s m args below meth c H1 locs1 (cells + mc) (slots + ms) Q (F0 m pc ls rest) q9)
    (kk : ∀ (r : UInt32) (u : S) (t : State) (H1 : Heap) (locs1 : List Loc), t.heap = H1 → s.vm.Alike t.vm → post r u → B u t → H.size ≤ H1.size → (∀ q : Nat, q < H.size → ¬ A1 q → H1[q]? = H[q]?) → va_S A0 H0 H1 locs1 → W p l e R s m args below meth c H1 locs1 (cells + mc) (slots + ms) Q (F0 m (pc + 3) ls (.float r :: rest))) : W p l e R s m args below meth c H locs cells slots Q (F0 m pc ls st0) := by
  intro T hT X
  rcases hr T hT X with ⟨v, st₀, t, T', L, h0, X', hL, e1, e2, ⟨⟨r, u, hv, hp, hb⟩, hF⟩, st⟩ | ⟨q, st₀, t, T', L, E, ce, h0, X', hL, e1, e2, ⟨u, hp, hb, hF⟩, hce, hcv, hcl, st⟩
  · cases hv
    obtain ⟨k1, k2, k3⟩ := vx_keep h0 e1 hS hA hf hL hF
    obtain ⟨t2, a1, b1⟩ := kk r u t T'.heap (locs ++ L) e1.symm (by rw [← e2]; exact X'.warmed.alike) hp hb k1 k2 k3 T' rfl X'
    exact ⟨t2, st t2 a1, b1⟩
  · obtain ⟨k1, k2, k3⟩ := vx_keep h0 e1 hS hAX hf hL hF
    obtain ⟨t2, a1, b1⟩ := kx E ce q u t T'.heap (locs ++ L) e1.symm (by rw [← e2]; exact X'.warmed.alike) hp hb k1 k2 k3 (by rw [e1]; exact hce) hcv hcl T' rfl X'
    exact ⟨t2, st.trans a1, b1⟩
theorem vx_calld {S SX : Type} {post : UInt64 → S → Prop} {px : SX → Prop} {B : S → State → Prop} {BX : String → SX → State → Prop} {AX : Nat → Prop} (hr : vx_Run p l e R s m args below meth c H locs cells slots mc ms (F0 m pc ls st0) rest (va_Qd post B A1 a) (vx_X px BX AX) free) (hS : va_S A0 H0 H locs) (hA : ∀ q, q < H.size → A1 q → A0 q) (hf : ∀ q, free q → A0 q) (hAX : ∀ q, q < H.size → AX q → A0 q)
    (kx : ∀ (E : String) (ce : Cell) (q9 : Addr) (u : SX) (t : State) (H1 : Heap) (locs1 : List Loc), t.heap = H1 → s.vm.Alike t.vm → px u → BX E u t → H.size ≤ H1.size → (∀ q : Nat, q < H.size → ¬ AX q → H1[q]? = H[q]?) → va_S A0 H0 H1 locs1 → H1[q9]? = some ce → ce.vm = .none → s.vm.findClass E = some ce.cls → vx_W p l e R s m args below meth c H1 locs1 (cells + mc) (slots + ms) Q (F0 m pc ls rest) q9)
    (kk : ∀ (r : UInt64) (u : S) (t : State) (H1 : Heap) (locs1 : List Loc), t.heap = H1 → s.vm.Alike t.vm → post r u → B u t → H.size ≤ H1.size → (∀ q : Nat, q < H.size → ¬ A1 q → H1[q]? = H[q]?) → va_S A0 H0 H1 locs1 → W p l e R s m args below meth c H1 locs1 (cells + mc) (slots + ms) Q (F0 m (pc + 3) ls (.double r :: rest))) : W p l e R s m args below meth c H locs cells slots Q (F0 m pc ls st0) := by
  intro T hT X
  rcases hr T hT X with ⟨v, st₀, t, T', L, h0, X', hL, e1, e2, ⟨⟨r, u, hv, hp, hb⟩, hF⟩, st⟩ | ⟨q, st₀, t, T', L, E, ce, h0, X', hL, e1, e2, ⟨u, hp, hb, hF⟩, hce, hcv, hcl, st⟩
  · cases hv
    obtain ⟨k1, k2, k3⟩ := vx_keep h0 e1 hS hA hf hL hF
    obtain ⟨t2, a1, b1⟩ := kk r u t T'.heap (locs ++ L) e1.symm (by rw [← e2]; exact X'.warmed.alike) hp hb k1 k2 k3 T' rfl X'
    exact ⟨t2, st t2 a1, b1⟩
  · obtain ⟨k1, k2, k3⟩ := vx_keep h0 e1 hS hAX hf hL hF
    obtain ⟨t2, a1, b1⟩ := kx E ce q u t T'.heap (locs ++ L) e1.symm (by rw [← e2]; exact X'.warmed.alike) hp hb k1 k2 k3 (by rw [e1]; exact hce) hcv hcl T' rfl X'
    exact ⟨t2, st.trans a1, b1⟩
theorem vx_callv {S SX : Type} {post : S → Prop} {px : SX → Prop} {B : S → State → Prop} {BX : String → SX → State → Prop} {AX : Nat → Prop} (hr : vx_Run p l e R s m args below meth c H locs cells slots mc ms (F0 m pc ls st0) rest (va_Qv post B A1 a) (vx_X px BX AX) free) (hS : va_S A0 H0 H locs) (hA : ∀ q, q < H.size → A1 q → A0 q) (hf : ∀ q, free q → A0 q) (hAX : ∀ q, q < H.size → AX q → A0 q)
    (kx : ∀ (E : String) (ce : Cell) (q9 : Addr) (u : SX) (t : State) (H1 : Heap) (locs1 : List Loc), t.heap = H1 → s.vm.Alike t.vm → px u → BX E u t → H.size ≤ H1.size → (∀ q : Nat, q < H.size → ¬ AX q → H1[q]? = H[q]?) → va_S A0 H0 H1 locs1 → H1[q9]? = some ce → ce.vm = .none → s.vm.findClass E = some ce.cls → vx_W p l e R s m args below meth c H1 locs1 (cells + mc) (slots + ms) Q (F0 m pc ls rest) q9)
    (kk : ∀ (u : S) (t : State) (H1 : Heap) (locs1 : List Loc), t.heap = H1 → s.vm.Alike t.vm → post u → B u t → H.size ≤ H1.size → (∀ q : Nat, q < H.size → ¬ A1 q → H1[q]? = H[q]?) → va_S A0 H0 H1 locs1 → W p l e R s m args below meth c H1 locs1 (cells + mc) (slots + ms) Q (F0 m (pc + 3) ls (rest))) : W p l e R s m args below meth c H locs cells slots Q (F0 m pc ls st0) := by
  intro T hT X
  rcases hr T hT X with ⟨v, st₀, t, T', L, h0, X', hL, e1, e2, ⟨⟨u, hv, hp, hb⟩, hF⟩, st⟩ | ⟨q, st₀, t, T', L, E, ce, h0, X', hL, e1, e2, ⟨u, hp, hb, hF⟩, hce, hcv, hcl, st⟩
  · cases hv
    obtain ⟨k1, k2, k3⟩ := vx_keep h0 e1 hS hA hf hL hF
    obtain ⟨t2, a1, b1⟩ := kk u t T'.heap (locs ++ L) e1.symm (by rw [← e2]; exact X'.warmed.alike) hp hb k1 k2 k3 T' rfl X'
    exact ⟨t2, st t2 a1, b1⟩
  · obtain ⟨k1, k2, k3⟩ := vx_keep h0 e1 hS hAX hf hL hF
    obtain ⟨t2, a1, b1⟩ := kx E ce q u t T'.heap (locs ++ L) e1.symm (by rw [← e2]; exact X'.warmed.alike) hp hb k1 k2 k3 (by rw [e1]; exact hce) hcv hcl T' rfl X'
    exact ⟨t2, st.trans a1, b1⟩
/-- caught by the row x of this method's table; the rows ahead don't take it -/
theorem vx_catch {own name : String} {E : String} {ce : Cell} {q : Addr} (hown : s.vm.findClass own = some m.cls) (pre : List ExceptionTableEntry) (x : ExceptionTableEntry) (suf : List ExceptionTableEntry) (hsplit : c.exceptionTable.toList = pre ++ x :: suf)
    (hpass : ∀ z ∈ pre, covers z pc = false ∨ (z.catchType ≠ 0 ∧ ∃ nm : String, (Cond.classLink own z.catchType nm).before args s = true ∧ va_Nc E nm s)) (hx : covers x pc = true) (h0 : x.catchType ≠ 0)
    (hlink : (Cond.classLink own x.catchType name).before args s = true) (hcast : (Cond.castable E name).before args s = true) (hcell : H[q]? = some ce) (hv : ce.vm = .none) (hcl : s.vm.findClass E = some ce.cls)
    (kk : W p l e R s m args below meth c H locs cells slots Q (F0 m x.handlerPc ls [.ref q])) : vx_W p l e R s m args below meth c H locs cells slots Q (F0 m pc ls rest) q := by
  intro T hT X
  have hpl : e.platform.magicAccessors = ({} : Platform).magicAccessors := by rw [X.admits.platform]
  obtain ⟨c3, c4, hc3, hc4, hasg⟩ := Cond.castable_spec hcast
  cases Option.some.inj (hc3.symm.trans hcl)
  obtain ⟨c5, hc5, hcl5⟩ := Cond.classLink_spec hown hlink e.platform hpl
  cases Option.some.inj (hc4.symm.trans hc5)
  obtain ⟨vm', X', st⟩ := X.thenCaughtThrough q (g := F0 m pc ls rest) rfl (Steps.refl _) (by rw [hT]; exact hcell) (by rw [hv]; rfl) (by obtain ⟨k9, h9, -⟩ := Vm.findClass_spec hcl; exact ⟨k9, h9⟩) pre x suf hsplit
    (fun z hz => by
      rcases hpass z hz with h | ⟨hz0, nm, hl1, hn1⟩
      · exact Or.inl h
      · obtain ⟨c6, hc6, hcl6⟩ := Cond.classLink_spec hown hl1 e.platform hpl
        obtain ⟨a8, b8, h1, h2, h3⟩ := hn1
        cases Option.some.inj (h1.symm.trans hcl)
        cases Option.some.inj (h2.symm.trans hc6)
        exact Or.inr ⟨hz0, _, hcl6, h3⟩) hx (Or.inr ⟨h0, c4, hcl5, hasg⟩)
  obtain ⟨t, a1, b1⟩ := kk (T.setVm vm') hT X'
  exact ⟨t, st.trans a1, b1⟩
end Rows
section Ends
variable {p : Program} {l : Launch} {e : Env} {R : Room} {s : State} {m : MethodId} {args : Array Value} {below : List Frame} {meth : Method} {c : Code} {H : Heap} {locs : List Loc} {cells slots : Nat} {Q : State → Prop}
variable {mc ms : Nat} {free : Addr → Prop} {A0 A1 : Nat → Prop} {H0 : Heap} {a : Array Value} {ls : Array Slot} {st0 rest : List Value}
variable {Qc : Array Value → State → Outcome → State → Prop} {XC : String → State → State → Prop}
/-- what a body that may throw owes at its end -/
def vx_MQ (below : List Frame) (Qc : Array Value → State → Outcome → State → Prop) (XC : String → State → State → Prop) (a : Array Value) (s : State) (mc ms : Nat) (free : Addr → Prop) : State → Prop := fun t =>
  ∃ o, t.status = .running ∧ Ended t below o ∧ vx_Q Qc XC mc ms free a s o t
theorem vx_ret {g : JFrame} {mc ms : Nat} (k : W p l e R s m args below meth c H locs cells slots (MQ below Qc args s mc ms free) g) : W p l e R s m args below meth c H locs cells slots (vx_MQ below Qc XC args s mc ms free) g := by
  intro T hT X
  obtain ⟨t, a1, o, b1, b2, b3, b4⟩ := k T hT X
  exact ⟨t, a1, o, b1, b2, Or.inl ⟨b3, b4⟩⟩
/-- not caught here: it goes on to the caller -/
theorem vx_widen {g : JFrame} {q : Addr} {k n : Nat} (h1 : cells ≤ k) (h2 : slots ≤ n) (kk : vx_W p l e R s m args below meth c H locs k n Q g q) : vx_W p l e R s m args below meth c H locs cells slots Q g q := fun T hT X => kk T hT (stand_widen X h1 h2)
theorem vx_out {pc : Nat} {E : String} {ce : Cell} {q : Addr} {mc ms : Nat} (hout : ∀ x ∈ c.exceptionTable.toList, covers x pc = false) (hlocks : meth.locks = false) (hcell : H[q]? = some ce) (hv : ce.vm = .none) (hcl : s.vm.findClass E = some ce.cls)
    (hx : ∀ t : State, t.heap = H → s.vm.Alike t.vm → XC E s t) (hf : ∀ z ∈ locs, free z.base) (hc : cells ≤ mc) (hs : slots ≤ ms) :
    vx_W p l e R s m args below meth c H locs cells slots (vx_MQ below Qc XC args s mc ms free) (F0 m pc ls rest) q := by
  intro T hT X
  obtain ⟨st1, hrun, hend, hW, hsm⟩ := X.leaveThrown q (g := F0 m pc ls rest) rfl rfl rfl hout hlocks
  have hcell9 : (T.setFrames (.throwing q :: below)).heap[q]? = some ce := by
    show T.heap[q]? = some ce
    rw [hT]; exact hcell
  exact ⟨_, st1, .threw q, hrun, hend, Or.inr ⟨q, rfl, E, ce, locs, hx _ hT hW.alike, hcell9, hv, hcl, hW, hsm.mono hc hs, hf⟩⟩
theorem vx_frame {U : State} {k n : Nat} (h : s.sameButNew ({ U with vm := s.vm } : State) locs k n) : s.heap.size ≤ U.heap.size ∧ ∀ q : Nat, q < s.heap.size → (∀ z ∈ locs, z.base ≠ q) → U.heap[q]? = s.heap[q]? := by
  obtain ⟨-, h2, -, -, -, h6⟩ := h
  refine ⟨h2, fun q hq hz => ?_⟩
  obtain ⟨c9, e1, e2, e3, e4⟩ := h6 q _ (Array.getElem?_eq_getElem hq)
  have hs : c9.slots = (s.heap[q]).slots := Array.ext_getElem? fun i => e4 i fun hm => hz _ hm rfl
  have h9 : c9 = s.heap[q] := by
    rw [hs] at e2
    exact e2
  have e5 : U.heap[q]? = some c9 := e1
  rw [e5, h9, Array.getElem?_eq_getElem hq]
/-- the words of a throw but the four that speak of the heap -/
def vx_no (w : Cond) : Bool := decide (w ≠ .isRef (.static Bundle.tN "UNASSIGNED_STACK" Bundle.steD)) && decide (w ≠ .isRef (.static Bundle.tN "SUPPRESSED_SENTINEL" Bundle.listD)) && decide (w ≠ .laysStatic Bundle.tN "UNASSIGNED_STACK" Bundle.steD) && decide (w ≠ .laysStatic Bundle.tN "SUPPRESSED_SENTINEL" Bundle.listD)
def vx_at0 (own : String) (ic : Nat) (X : String) (names : List String) : List Cond := (Bundle.ownAtoms0 own ic X names).filter vx_no
def vx_atS (own : String) (ic : Nat) (X : String) (names : List String) : List Cond := (Bundle.ownAtoms own ic X names).filter vx_no
/-- a word that the tables alone decide, or a good one -/
def vx_ot (w : Cond) : Bool := w.onTables || goodWord w
theorem vx_ot_at {args a' : Array Value} {s U : State} {w : Cond} (hW : s.WarmedH U.vm) (hvm : s.vm = U.vm) (hg : vx_ot w = true) (h : w.before args s = true) : w.before a' U = true := by
  simp only [vx_ot, Bool.or_eq_true] at hg
  rcases hg with hg | hg
  · exact va_tabs hg hvm h
  · exact word_at hW (good_of_word hg) h
/-- a list's words: the good ones out of the method's own list, the others by premises of their own -/
theorem vx_hat {args : Array Value} {s : State} {L B : List Cond} (h1 : ∀ w ∈ L.filter goodWord, w.before args s = true) (h2 : ∀ w ∈ L.filter (fun w => !goodWord w), w ∈ B) (h3 : ∀ w ∈ B, w.before args s = true) : ∀ w ∈ L, w.before args s = true := by
  intro w hw
  by_cases g : goodWord w = true
  · exact h1 w (List.mem_filter.mpr ⟨hw, g⟩)
  · refine h3 w (h2 w (List.mem_filter.mpr ⟨hw, ?_⟩))
    show (!goodWord w) = true
    cases hgw : goodWord w
    · rfl
    · exact absurd hgw g
theorem vx_c {args : Array Value} {s : State} {w : Cond} {B : List Cond} (h : w.before args s = true) (t : ∀ w ∈ B, w.before args s = true) : ∀ w' ∈ w :: B, w'.before args s = true := fun w' h' => (List.mem_cons.mp h').elim (fun e => by rw [e]; exact h) (t w')
theorem vx_n {args : Array Value} {s : State} : ∀ w ∈ ([] : List Cond), w.before args s = true := fun _ h => nomatch h
theorem vx_own {args : Array Value} {s : State} {L : List Cond} (h1 : ∀ w ∈ L.filter vx_no, w.before args s = true)
    (hU : (Cond.isRef (.static Bundle.tN "UNASSIGNED_STACK" Bundle.steD)).before args s = true) (hN : (Cond.isRef (.static Bundle.tN "SUPPRESSED_SENTINEL" Bundle.listD)).before args s = true)
    (lU : (Cond.laysStatic Bundle.tN "UNASSIGNED_STACK" Bundle.steD).before args s = true) (lN : (Cond.laysStatic Bundle.tN "SUPPRESSED_SENTINEL" Bundle.listD).before args s = true) : ∀ w ∈ L, w.before args s = true := by
  intro w hw
  by_cases e1 : w = .isRef (.static Bundle.tN "UNASSIGNED_STACK" Bundle.steD)
  · rw [e1]; exact hU
  · by_cases e2 : w = .isRef (.static Bundle.tN "SUPPRESSED_SENTINEL" Bundle.listD)
    · rw [e2]; exact hN
    · by_cases e3 : w = .laysStatic Bundle.tN "UNASSIGNED_STACK" Bundle.steD
      · rw [e3]; exact lU
      · by_cases e4 : w = .laysStatic Bundle.tN "SUPPRESSED_SENTINEL" Bundle.listD
        · rw [e4]; exact lN
        · exact h1 w (List.mem_filter.mpr ⟨hw, by unfold vx_no; rw [decide_eq_true e1, decide_eq_true e2, decide_eq_true e3, decide_eq_true e4]; rfl⟩)
/-- where a static field lies, its class's statics cell in H -/
def vx_L (C n d : String) (A : Nat → Prop) (U : State) (H : Heap) : Prop := ∃ (c : ClassId) (k : Class) (i : Nat) (f : Field) (a : Nat) (cell : Cell), U.vm.findClass C = some c ∧ U.fieldFound? C n d = some (c, k, i, f) ∧ f.isStatic = true ∧ k.statics = some a ∧ H[a]? = some cell ∧ cell.vm.isStatics = true ∧ cell.cls = c ∧ f.slot < cell.slots.size ∧ k.staticTypes[f.slot]? = some f.type ∧ ¬ A a
theorem vx_L.moved {C n d : String} {A : Nat → Prop} {u U : State} {H : Heap} (hvm : u.vm.Alike U.vm) (h : vx_L C n d A u H) : vx_L C n d A U H := by
  obtain ⟨c, k, i, f, a, cell, h1, h2, h3, h4, h5, h6, h7, h8, h9, h10⟩ := h
  obtain ⟨k', hi', he⟩ := State.fieldFound?_setVm hvm h2
  exact ⟨c, k', i, f, a, cell, by rw [hvm.findClass]; exact h1, hi', h3, by rw [he]; exact h4, h5, h6, h7, h8, by rw [he]; exact h9, h10⟩
theorem vx_L.kept {C n d : String} {A : Nat → Prop} {U : State} {H H1 : Heap} (h : vx_L C n d A U H) (hq : ∀ a : Nat, a < H.size → ¬ A a → H1[a]? = H[a]?) : vx_L C n d A U H1 := by
  obtain ⟨c, k, i, f, a, cell, h1, h2, h3, h4, h5, h6, h7, h8, h9, h10⟩ := h
  exact ⟨c, k, i, f, a, cell, h1, h2, h3, h4, by rw [hq a (Array.getElem?_eq_some_iff.mp h5).1 h10]; exact h5, h6, h7, h8, h9, h10⟩
theorem vx_L.narrow {C n d : String} {A B : Nat → Prop} {U : State} {H : Heap} (h : vx_L C n d A U H) (hAB : ∀ q, B q → A q) : vx_L C n d B U H := by
  obtain ⟨c, k, i, f, a, cell, h1, h2, h3, h4, h5, h6, h7, h8, h9, h10⟩ := h
  exact ⟨c, k, i, f, a, cell, h1, h2, h3, h4, h5, h6, h7, h8, h9, fun z => h10 (hAB _ z)⟩
theorem vx_L.word {C n d : String} {A : Nat → Prop} {s : State} {args : Array Value} (h : vx_L C n d A s s.heap) : (Cond.laysStatic C n d).before args s = true := by
  obtain ⟨c, k, i, f, a, cell, h1, h2, h3, h4, h5, h6, h7, h8, h9, -⟩ := h
  show (Cond.laysStatic C n d).holds args s none s [] = true
  exact Cond.laysStatic_of h1 h2 h3 h4 h5 h6 h7 h8 h9
/-- .. and what it holds: null or some reference -/
def vx_Zq (C n d : String) (A : Nat → Prop) (U : State) (H : Heap) : Prop := va_Zq C n d A U H ∧ vx_L C n d A U H
theorem vx_Zq.moved {C n d : String} {A : Nat → Prop} {u U : State} {H : Heap} (hvm : u.vm.Alike U.vm) (h : vx_Zq C n d A u H) : vx_Zq C n d A U H := ⟨va_Zq.moved hvm h.1, vx_L.moved hvm h.2⟩
theorem vx_Zq.kept {C n d : String} {A : Nat → Prop} {U : State} {H H1 : Heap} (h : vx_Zq C n d A U H) (hq : ∀ a : Nat, a < H.size → ¬ A a → H1[a]? = H[a]?) : vx_Zq C n d A U H1 := ⟨va_Zq.kept h.1 hq, vx_L.kept h.2 hq⟩
theorem vx_Zq.narrow {C n d : String} {A B : Nat → Prop} {U : State} {H : Heap} (h : vx_Zq C n d A U H) (hAB : ∀ q, B q → A q) : vx_Zq C n d B U H := ⟨va_Zq.narrow h.1 hAB, vx_L.narrow h.2 hAB⟩
theorem vx_Zqof {args : Array Value} {s : State} {C n d : String} {A : Nat → Prop} (hl : (Cond.laysStatic C n d).before args s = true) (hini : (Cond.initialized C).before args s = true) (h : (Cond.isRef (.static C n d)).before args s = true) (hA : ∀ a : Nat, a < s.heap.size → ¬ A a) : vx_Zq C n d A s s.heap := by
  refine ⟨va_Zqof hl hini h hA, ?_⟩
  obtain ⟨c, k, i, f, a, cell, h1, h2, h3, h4, h5, h6, h7, h8, h9⟩ := Cond.laysStatic_spec hl
  exact ⟨c, k, i, f, a, cell, h1, h2, h3, h4, h5, h6, h7, h8, h9, hA a (Array.getElem?_eq_some_iff.mp h5).1⟩
theorem vx_isRef {C n d : String} {v : Value} {A : Nat → Prop} {s : State} {args : Array Value} (h : va_Z C n d v A s s.heap) (hv : v.isRef = true) : (Cond.isRef (.static C n d)).before args s = true := by
  obtain ⟨cf, kf, fi, f, a, cell, h1, h2, h3, h4, h5, h6, h7, -⟩ := h
  have he : (Term.static C n d).eval args s none [] s = some v := by
    simp [Term.eval, State.fieldNamed?, h1, h2, h4, h5, h6, h7]
  simp only [Cond.before, Cond.holds, Cond.value, he]
  cases v <;> simp_all [Value.isRef]
theorem vx_isRefq {C n d : String} {A : Nat → Prop} {s : State} {args : Array Value} (h : va_Zq C n d A s s.heap) : (Cond.isRef (.static C n d)).before args s = true := by
  rcases h with h | ⟨t, h⟩
  · exact vx_isRef h rfl
  · exact vx_isRef h rfl
/-- the same frame, seen from here: as if the method were called anew in this heap -/
theorem vx_rebase {T : State} (X : Stand p l e R s m args below meth c T locs cells slots) {R' : Room} (hf : R'.frames ≤ R.frames) (hl : R'.locals ≤ R.locals) (hc : cells + R'.cells ≤ R.cells) (hs : slots + R'.slots ≤ R.slots) :
    Stand p l e R' ((T.setVm s.vm).setFrames (.invoking m args :: below)) m args below meth c T [] 0 0 := by
  have htop : (T.setVm s.vm).topJava?.isSome := X.here.top
  have hF : ((T.setVm s.vm).setFrames (.invoking m args :: below)).frames = .invoking m args :: below := State.frames_setFrames _ (State.cur_lt_of_top htop)
  obtain ⟨g₀, hg0⟩ := Option.isSome_iff_exists.mp htop
  obtain ⟨r, hr⟩ := State.topJava?_eq_some.mp hg0
  have hl9 : e.platform.stackLimits (T.setVm s.vm).me = e.platform.stackLimits s.me := X.limits
  have hb9 : (T.setVm s.vm).me.stackBytes = s.me.stackBytes := X.bytes
  refine ⟨X.admits, X.cas, X.clock, hF, ?_, X.hears, X.method, X.code, X.here, X.tail, X.warmed, ?_, ?_, ?_⟩
  · have h := X.room
    have hU : ((T.setVm s.vm).setFrames (.invoking m args :: below)).localsInUse = s.localsInUse := by
      rw [State.localsInUse_invoking hF (meth := meth) (c := c) X.method X.code, State.localsInUse_invoking X.frames X.method X.code]
    simp only [State.hasRoom, Bool.and_eq_true, decide_eq_true_eq] at h ⊢
    obtain ⟨⟨⟨⟨h1, h2, h3, h4, h5, h6⟩, h7⟩, h8⟩, h9⟩ := h
    rw [X.frames, List.length_cons] at h2 h3
    have q1 := X.heapSize
    have q2 := X.used
    simp only [hF, hU, List.length_cons, State.stackLimits_setFrames, State.stackBytes_setFrames, hl9, hb9]
    refine ⟨⟨⟨⟨by omega, by omega, by omega, by omega, by omega, h6⟩, ?_⟩, ?_⟩, X.book⟩
    · show T.heap.size + R'.cells ≤ e.platform.maxCells
      omega
    · show T.slotsUsed + R'.slots ≤ e.platform.maxSlots
      omega
  · rw [State.stackLimits_setFrames]; rfl
  · rw [State.stackBytes_setFrames]; rfl
  · refine ⟨?_, Nat.le_refl _, Nat.le_refl _, ?_, ?_, fun a c9 h9 => ⟨c9, h9, rfl, rfl, fun _ _ => rfl⟩⟩
    · obtain ⟨t, ht, -⟩ := State.frames_cons hr
      show T.setVm s.vm = { ((T.setVm s.vm).setFrames (.invoking m args :: below)).setFrames (T.setVm s.vm).frames with heap := T.heap, slotsUsed := T.slotsUsed }
      rw [State.setFrames_setFrames, State.setFrames_self ht]
      rfl
    · show T.slotsUsed = T.slotsUsed + ((T.heap.toList.drop T.heap.size).map (·.slots.size)).sum
      rw [List.drop_eq_nil_of_le (Nat.le_of_eq Array.length_toList)]
      rfl
    · show ((T.heap.toList.drop T.heap.size).map (·.slots.size)).sum ≤ 0
      rw [List.drop_eq_nil_of_le (Nat.le_of_eq Array.length_toList)]
      exact Nat.le_refl _
/-- 'throw new E()': new; dup; invokespecial; athrow -/
theorem vx_throw0 {cc : ByteArray} {pc : Nat} (hexec : p.tables.exec = Jvm.exec) (hb : c.code = cc) (hl : l.stackTraces = false) {own cls : String} {names : List String} {ik ic mc ms : Nat} {A : Nat → Prop}
    (hown : s.vm.findClass own = some m.cls) (hcls : Bundle.fit cls = true) (hnames : ∀ n ∈ names, Bundle.fit n = true)
    (hk : (Cond.classLink own ik cls).before args s = true) (hini : (Cond.initialized cls).before args s = true) (hat : ∀ w ∈ vx_at0 own ic cls names, w.before args s = true)
    (hgood : ∀ w ∈ Cond.classLink own ik cls :: Cond.initialized cls :: vx_at0 own ic cls names, vx_ot w = true)
    (hU : vx_Zq Bundle.tN "UNASSIGNED_STACK" Bundle.steD A s s.heap) (hN : vx_Zq Bundle.tN "SUPPRESSED_SENTINEL" Bundle.listD A s s.heap) (hS : va_S A s.heap H locs) (hsize : ls.size = c.maxLocals)
    (d0 : decode cc pc = .ok (.new ik, 3)) (d3 : decode cc (pc + 3) = .ok (.dup, 1)) (d4 : decode cc (pc + 4) = .ok (.invokespecial ic, 3)) (d7 : decode cc (pc + 7) = .ok (.athrow, 1))
    (hout : ∀ x ∈ c.exceptionTable.toList, covers x (pc + 7) = false)
    (hRframes : names.length + 3 < R.frames) (hRlocals : (rest.map fun v => v.category).sum + (13 * (names.length + 1) + 42) ≤ R.locals) (hRcells : cells + 1 ≤ R.cells) (hRslots : slots + 6 ≤ R.slots) (hlocks : meth.locks = false)
    (hx : ∀ t : State, s.vm.Alike t.vm → H.size ≤ t.heap.size → (∀ q : Nat, q < H.size → t.heap[q]? = H[q]?) → XC cls s t)
    (hf : ∀ z ∈ locs, free z.base) (hc : cells + 1 ≤ mc) (hs : slots + 6 ≤ ms) :
    W p l e R s m args below meth c H locs cells slots (vx_MQ below Qc XC args s mc ms free) (F0 m pc ls rest) := by
  intro T hT X
  have htr : e.platform.stackTraces = false := (show e.platform.stackTraces = l.stackTraces by rw [X.admits.platform]).trans hl
  have Y := vx_rebase X (R' := { frames := R.frames, locals := R.locals, cells := 1, slots := 6 }) (Nat.le_refl _) (Nat.le_refl _) hRcells hRslots
  obtain ⟨s', hA⟩ : ∃ z, z = (T.setVm s.vm).setFrames (.invoking m args :: below) := ⟨_, rfl⟩
  rw [← hA] at Y
  have hvm : s'.vm = s.vm := by rw [hA]; rfl
  have hhp : s'.heap = H := by rw [hA]; exact hT
  have hW0 : s.WarmedH s'.vm := by rw [hvm]; exact State.WarmedH.refl s
  have hat' : ∀ w ∈ vx_at0 own ic cls names, w.before args s' = true := fun w hw => vx_ot_at hW0 hvm.symm (hgood w (List.mem_cons_of_mem _ (List.mem_cons_of_mem _ hw))) (hat w hw)
  have hk' : (Cond.classLink own ik cls).before args s' = true := vx_ot_at hW0 hvm.symm (hgood _ List.mem_cons_self) hk
  have hini' : (Cond.initialized cls).before args s' = true := vx_ot_at hW0 hvm.symm (hgood _ (List.mem_cons_of_mem _ List.mem_cons_self)) hini
  have hU' : vx_Zq Bundle.tN "UNASSIGNED_STACK" Bundle.steD A s' s'.heap := by rw [hhp]; exact vx_Zq.moved hW0.alike (hU.kept hS.2.1)
  have hN' : vx_Zq Bundle.tN "SUPPRESSED_SENTINEL" Bundle.listD A s' s'.heap := by rw [hhp]; exact vx_Zq.moved hW0.alike (hN.kept hS.2.1)
  have h : ∀ w ∈ Bundle.ownAtoms0 own ic cls names, w.before args s' = true := vx_own hat' (vx_isRefq hU'.1) (vx_isRefq hN'.1) hU'.2.word hN'.2.word
  have hown' : s'.vm.findClass own = some m.cls := by rw [hvm]; exact hown
  have hins : (Cond.instantiable cls 6).before args s' = true := h _ (by simp [Bundle.ownAtoms0])
  obtain ⟨vm₁, cX, kX, hfX, hkX, -, -, X₁, st1⟩ := Y.newCold hexec (own := own) (C := cls) (index := ik) (n := 6) hown' hk' hins hini'
    (g := F0 m pc ls rest) rfl (by rw [hb]; exact d0) (Nat.le_refl _) (Nat.le_refl _)
  generalize hT1 : (T.setVm vm₁).pushCell { cls := cX, slots := kX.instanceTypes.map defaultValue, vm := .none } = T1 at X₁ st1
  have hcat : (Value.ref T.heap.size).category = 1 := rfl
  have hcellA : T1.heap[T.heap.size]? = some (freshCell cX kX) := by rw [← hT1]; exact State.heap_pushCell_size _ _
  have d3' : decode c.code (pc + 3) = .ok (.dup, 1) := by rw [hb]; exact d3
  obtain ⟨U, hsteps, hrun, hend, hW, hsame, ce, hce, hO⟩ := X₁.ctorThrow0 hexec htr (own := own) (cls := cls) (names := names) (ic := ic) hown' hcls hnames h (fun x hx => nomatch hx) hfX hkX hcellA (by rw [hhp, hT]; exact Nat.le_refl _)
    (g := { method := m, pc := pc + 4, locals := ls, stack := .ref T.heap.size :: .ref T.heap.size :: rest, locked := none }) rfl hsize rfl rfl (rest := rest) rfl
    (by rw [hb]; exact d4) (by rw [hb]; exact d7) hout hRframes (by simp only [List.map_cons, List.sum_cons, hcat]; omega) hlocks
  obtain ⟨f1, f2⟩ := vx_frame hsame
  rw [hhp] at f1 f2
  have hWs : s.WarmedH U.vm := State.WarmedH.trans hW0 hW
  have hcl : s.vm.findClass cls = some ce.cls := by
    have h9 := hO.cls
    rw [hvm] at h9
    exact h9
  have hall : s.sameButNew ({ U with vm := s.vm } : State) locs mc ms := by
    subst hA
    obtain ⟨e1, e2⟩ := hsame
    rw [State.setFrames_setFrames] at e1
    have h2 : (T.setVm s.vm).sameButNew ({ U with vm := s.vm } : State) [] (0 + 1) (0 + 6) := ⟨e1, e2⟩
    have h3 := X.same.trans h2
    rw [List.append_nil] at h3
    exact h3.mono hc hs
  refine ⟨U, ?_, .threw T.heap.size, hrun, hend, Or.inr ⟨T.heap.size, rfl, cls, ce, locs, hx U hWs.alike f1 (fun q hq => f2 q hq (fun z hz => nomatch hz)), hce, hO.vm, hcl, hWs, hall, hf⟩⟩
  refine st1 _ ?_
  show Steps p.tables e below (T1.setTop { method := m, pc := pc + 3, locals := ls, stack := .ref T.heap.size :: rest, locked := none }) _
  jvm_step X₁.here [X₁.here.top, hexec, d3', Value.category]
  exact hsteps
/-- 'throw new E("text")': new; dup; ldc; invokespecial; athrow -/
theorem vx_throwS {cc : ByteArray} {pc : Nat} (hexec : p.tables.exec = Jvm.exec) (hb : c.code = cc) (hl : l.stackTraces = false) {own cls text : String} {names : List String} {ik is ic mc ms sa : Nat} {A : Nat → Prop}
    (hown : s.vm.findClass own = some m.cls) (hcls : Bundle.fit cls = true) (hnames : ∀ n ∈ names, Bundle.fit n = true)
    (hk : (Cond.classLink own ik cls).before args s = true) (hini : (Cond.initialized cls).before args s = true) (hstr : vk_R own is text sa s) (hat : ∀ w ∈ vx_atS own ic cls names, w.before args s = true)
    (hgood : ∀ w ∈ Cond.classLink own ik cls :: Cond.initialized cls :: vx_atS own ic cls names, vx_ot w = true)
    (hU : vx_Zq Bundle.tN "UNASSIGNED_STACK" Bundle.steD A s s.heap) (hN : vx_Zq Bundle.tN "SUPPRESSED_SENTINEL" Bundle.listD A s s.heap) (hS : va_S A s.heap H locs) (hsize : ls.size = c.maxLocals)
    (d0 : decode cc pc = .ok (.new ik, 3)) (d3 : decode cc (pc + 3) = .ok (.dup, 1)) (d4 : decode cc (pc + 4) = .ok (.ldc is, 2)) (d6 : decode cc (pc + 6) = .ok (.invokespecial ic, 3)) (d9 : decode cc (pc + 9) = .ok (.athrow, 1))
    (hout : ∀ x ∈ c.exceptionTable.toList, covers x (pc + 9) = false)
    (hRframes : names.length + 3 < R.frames) (hRlocals : (rest.map fun v => v.category).sum + (13 * (names.length + 1) + 43) ≤ R.locals) (hRcells : cells + 1 ≤ R.cells) (hRslots : slots + 6 ≤ R.slots) (hlocks : meth.locks = false)
    (hx : ∀ t : State, s.vm.Alike t.vm → H.size ≤ t.heap.size → (∀ q : Nat, q < H.size → t.heap[q]? = H[q]?) → XC cls s t)
    (hf : ∀ z ∈ locs, free z.base) (hc : cells + 1 ≤ mc) (hs : slots + 6 ≤ ms) :
    W p l e R s m args below meth c H locs cells slots (vx_MQ below Qc XC args s mc ms free) (F0 m pc ls rest) := by
  intro T hT X
  have htr : e.platform.stackTraces = false := (show e.platform.stackTraces = l.stackTraces by rw [X.admits.platform]).trans hl
  have Y := vx_rebase X (R' := { frames := R.frames, locals := R.locals, cells := 1, slots := 6 }) (Nat.le_refl _) (Nat.le_refl _) hRcells hRslots
  obtain ⟨s', hA⟩ : ∃ z, z = (T.setVm s.vm).setFrames (.invoking m args :: below) := ⟨_, rfl⟩
  rw [← hA] at Y
  have hvm : s'.vm = s.vm := by rw [hA]; rfl
  have hhp : s'.heap = H := by rw [hA]; exact hT
  have hW0 : s.WarmedH s'.vm := by rw [hvm]; exact State.WarmedH.refl s
  have hat' : ∀ w ∈ vx_atS own ic cls names, w.before args s' = true := fun w hw => vx_ot_at hW0 hvm.symm (hgood w (List.mem_cons_of_mem _ (List.mem_cons_of_mem _ hw))) (hat w hw)
  have hk' : (Cond.classLink own ik cls).before args s' = true := vx_ot_at hW0 hvm.symm (hgood _ List.mem_cons_self) hk
  have hini' : (Cond.initialized cls).before args s' = true := vx_ot_at hW0 hvm.symm (hgood _ (List.mem_cons_of_mem _ List.mem_cons_self)) hini
  have hU' : vx_Zq Bundle.tN "UNASSIGNED_STACK" Bundle.steD A s' s'.heap := by rw [hhp]; exact vx_Zq.moved hW0.alike (hU.kept hS.2.1)
  have hN' : vx_Zq Bundle.tN "SUPPRESSED_SENTINEL" Bundle.listD A s' s'.heap := by rw [hhp]; exact vx_Zq.moved hW0.alike (hN.kept hS.2.1)
  have h : ∀ w ∈ Bundle.ownAtoms own ic cls names, w.before args s' = true := vx_own hat' (vx_isRefq hU'.1) (vx_isRefq hN'.1) hU'.2.word hN'.2.word
  have hown' : s'.vm.findClass own = some m.cls := by rw [hvm]; exact hown
  have hins : (Cond.instantiable cls 6).before args s' = true := h _ (by simp [Bundle.ownAtoms])
  obtain ⟨vm₁, cX, kX, hfX, hkX, -, -, X₁, st1⟩ := Y.newCold hexec (own := own) (C := cls) (index := ik) (n := 6) hown' hk' hins hini'
    (g := F0 m pc ls rest) rfl (by rw [hb]; exact d0) (Nat.le_refl _) (Nat.le_refl _)
  generalize hT1 : (T.setVm vm₁).pushCell { cls := cX, slots := kX.instanceTypes.map defaultValue, vm := .none } = T1 at X₁ st1
  have hcat : (Value.ref T.heap.size).category = 1 := rfl
  have hcellA : T1.heap[T.heap.size]? = some (freshCell cX kX) := by rw [← hT1]; exact State.heap_pushCell_size _ _
  have d3' : decode c.code (pc + 3) = .ok (.dup, 1) := by rw [hb]; exact d3
  have d4' : decode c.code (pc + 4) = .ok (.ldc is, 2) := by rw [hb]; exact d4
  have hstr' : vk_R own is text sa s' := vk_R.warm hW0 hstr
  obtain ⟨U, hsteps, hrun, hend, hW, hsame, ce, hce, hO⟩ := X₁.ctorThrowS hexec htr (own := own) (cls := cls) (names := names) (ic := ic) hown' hcls hnames h (fun x hx => nomatch hx) hfX hkX hcellA (by rw [hhp, hT]; exact Nat.le_refl _) (msg := .ref sa) rfl
    (g := { method := m, pc := pc + 6, locals := ls, stack := .ref sa :: .ref T.heap.size :: .ref T.heap.size :: rest, locked := none }) rfl hsize rfl rfl (rest := rest) rfl
    (by rw [hb]; exact d6) (by rw [hb]; exact d9) hout hRframes (by simp only [List.map_cons, List.sum_cons, hcat]; omega) hlocks
  obtain ⟨f1, f2⟩ := vx_frame hsame
  rw [hhp] at f1 f2
  have hWs : s.WarmedH U.vm := State.WarmedH.trans hW0 hW
  have hcl : s.vm.findClass cls = some ce.cls := by
    have h9 := hO.cls
    rw [hvm] at h9
    exact h9
  have hall : s.sameButNew ({ U with vm := s.vm } : State) locs mc ms := by
    subst hA
    obtain ⟨e1, e2⟩ := hsame
    rw [State.setFrames_setFrames] at e1
    have h2 : (T.setVm s.vm).sameButNew ({ U with vm := s.vm } : State) [] (0 + 1) (0 + 6) := ⟨e1, e2⟩
    have h3 := X.same.trans h2
    rw [List.append_nil] at h3
    exact h3.mono hc hs
  refine ⟨U, ?_, .threw T.heap.size, hrun, hend, Or.inr ⟨T.heap.size, rfl, cls, ce, locs, hx U hWs.alike f1 (fun q hq => f2 q hq (fun z hz => nomatch hz)), hce, hO.vm, hcl, hWs, hall, hf⟩⟩
  refine st1 _ ?_
  show Steps p.tables e below (T1.setTop { method := m, pc := pc + 3, locals := ls, stack := .ref T.heap.size :: rest, locked := none }) _
  jvm_step X₁.here [X₁.here.top, hexec, d3', Value.category]
  exact X₁.ldcString hexec (own := own) (text := text) (index := is) (a := sa) hown' hstr'.1 hstr'.2
    (g := { method := m, pc := pc + 4, locals := ls, stack := .ref T.heap.size :: .ref T.heap.size :: rest, locked := none }) rfl d4' _ hsteps
/-- 'throw new E("text")', the text by a wide index -/
theorem vx_throwSW {cc : ByteArray} {pc : Nat} (hexec : p.tables.exec = Jvm.exec) (hb : c.code = cc) (hl : l.stackTraces = false) {own cls text : String} {names : List String} {ik is ic mc ms sa : Nat} {A : Nat → Prop}
    (hown : s.vm.findClass own = some m.cls) (hcls : Bundle.fit cls = true) (hnames : ∀ n ∈ names, Bundle.fit n = true)
    (hk : (Cond.classLink own ik cls).before args s = true) (hini : (Cond.initialized cls).before args s = true) (hstr : vk_R own is text sa s) (hat : ∀ w ∈ vx_atS own ic cls names, w.before args s = true)
    (hgood : ∀ w ∈ Cond.classLink own ik cls :: Cond.initialized cls :: vx_atS own ic cls names, vx_ot w = true)
    (hU : vx_Zq Bundle.tN "UNASSIGNED_STACK" Bundle.steD A s s.heap) (hN : vx_Zq Bundle.tN "SUPPRESSED_SENTINEL" Bundle.listD A s s.heap) (hS : va_S A s.heap H locs) (hsize : ls.size = c.maxLocals)
    (d0 : decode cc pc = .ok (.new ik, 3)) (d3 : decode cc (pc + 3) = .ok (.dup, 1)) (d4 : decode cc (pc + 4) = .ok (.ldc_w is, 3)) (d7 : decode cc (pc + 7) = .ok (.invokespecial ic, 3)) (d10 : decode cc (pc + 10) = .ok (.athrow, 1))
    (hout : ∀ x ∈ c.exceptionTable.toList, covers x (pc + 10) = false)
    (hRframes : names.length + 3 < R.frames) (hRlocals : (rest.map fun v => v.category).sum + (13 * (names.length + 1) + 43) ≤ R.locals) (hRcells : cells + 1 ≤ R.cells) (hRslots : slots + 6 ≤ R.slots) (hlocks : meth.locks = false)
    (hx : ∀ t : State, s.vm.Alike t.vm → H.size ≤ t.heap.size → (∀ q : Nat, q < H.size → t.heap[q]? = H[q]?) → XC cls s t)
    (hf : ∀ z ∈ locs, free z.base) (hc : cells + 1 ≤ mc) (hs : slots + 6 ≤ ms) :
    W p l e R s m args below meth c H locs cells slots (vx_MQ below Qc XC args s mc ms free) (F0 m pc ls rest) := by
  intro T hT X
  have htr : e.platform.stackTraces = false := (show e.platform.stackTraces = l.stackTraces by rw [X.admits.platform]).trans hl
  have Y := vx_rebase X (R' := { frames := R.frames, locals := R.locals, cells := 1, slots := 6 }) (Nat.le_refl _) (Nat.le_refl _) hRcells hRslots
  obtain ⟨s', hA⟩ : ∃ z, z = (T.setVm s.vm).setFrames (.invoking m args :: below) := ⟨_, rfl⟩
  rw [← hA] at Y
  have hvm : s'.vm = s.vm := by rw [hA]; rfl
  have hhp : s'.heap = H := by rw [hA]; exact hT
  have hW0 : s.WarmedH s'.vm := by rw [hvm]; exact State.WarmedH.refl s
  have hat' : ∀ w ∈ vx_atS own ic cls names, w.before args s' = true := fun w hw => vx_ot_at hW0 hvm.symm (hgood w (List.mem_cons_of_mem _ (List.mem_cons_of_mem _ hw))) (hat w hw)
  have hk' : (Cond.classLink own ik cls).before args s' = true := vx_ot_at hW0 hvm.symm (hgood _ List.mem_cons_self) hk
  have hini' : (Cond.initialized cls).before args s' = true := vx_ot_at hW0 hvm.symm (hgood _ (List.mem_cons_of_mem _ List.mem_cons_self)) hini
  have hU' : vx_Zq Bundle.tN "UNASSIGNED_STACK" Bundle.steD A s' s'.heap := by rw [hhp]; exact vx_Zq.moved hW0.alike (hU.kept hS.2.1)
  have hN' : vx_Zq Bundle.tN "SUPPRESSED_SENTINEL" Bundle.listD A s' s'.heap := by rw [hhp]; exact vx_Zq.moved hW0.alike (hN.kept hS.2.1)
  have h : ∀ w ∈ Bundle.ownAtoms own ic cls names, w.before args s' = true := vx_own hat' (vx_isRefq hU'.1) (vx_isRefq hN'.1) hU'.2.word hN'.2.word
  have hown' : s'.vm.findClass own = some m.cls := by rw [hvm]; exact hown
  have hins : (Cond.instantiable cls 6).before args s' = true := h _ (by simp [Bundle.ownAtoms])
  obtain ⟨vm₁, cX, kX, hfX, hkX, -, -, X₁, st1⟩ := Y.newCold hexec (own := own) (C := cls) (index := ik) (n := 6) hown' hk' hins hini'
    (g := F0 m pc ls rest) rfl (by rw [hb]; exact d0) (Nat.le_refl _) (Nat.le_refl _)
  generalize hT1 : (T.setVm vm₁).pushCell { cls := cX, slots := kX.instanceTypes.map defaultValue, vm := .none } = T1 at X₁ st1
  have hcat : (Value.ref T.heap.size).category = 1 := rfl
  have hcellA : T1.heap[T.heap.size]? = some (freshCell cX kX) := by rw [← hT1]; exact State.heap_pushCell_size _ _
  have d3' : decode c.code (pc + 3) = .ok (.dup, 1) := by rw [hb]; exact d3
  have d4' : decode c.code (pc + 4) = .ok (.ldc_w is, 3) := by rw [hb]; exact d4
  have hstr' : vk_R own is text sa s' := vk_R.warm hW0 hstr
  obtain ⟨U, hsteps, hrun, hend, hW, hsame, ce, hce, hO⟩ := X₁.ctorThrowS hexec htr (own := own) (cls := cls) (names := names) (ic := ic) hown' hcls hnames h (fun x hx => nomatch hx) hfX hkX hcellA (by rw [hhp, hT]; exact Nat.le_refl _) (msg := .ref sa) rfl
    (g := { method := m, pc := pc + 7, locals := ls, stack := .ref sa :: .ref T.heap.size :: .ref T.heap.size :: rest, locked := none }) rfl hsize rfl rfl (rest := rest) rfl
    (by rw [hb]; exact d7) (by rw [hb]; exact d10) hout hRframes (by simp only [List.map_cons, List.sum_cons, hcat]; omega) hlocks
  obtain ⟨f1, f2⟩ := vx_frame hsame
  rw [hhp] at f1 f2
  have hWs : s.WarmedH U.vm := State.WarmedH.trans hW0 hW
  have hcl : s.vm.findClass cls = some ce.cls := by
    have h9 := hO.cls
    rw [hvm] at h9
    exact h9
  have hall : s.sameButNew ({ U with vm := s.vm } : State) locs mc ms := by
    subst hA
    obtain ⟨e1, e2⟩ := hsame
    rw [State.setFrames_setFrames] at e1
    have h2 : (T.setVm s.vm).sameButNew ({ U with vm := s.vm } : State) [] (0 + 1) (0 + 6) := ⟨e1, e2⟩
    have h3 := X.same.trans h2
    rw [List.append_nil] at h3
    exact h3.mono hc hs
  refine ⟨U, ?_, .threw T.heap.size, hrun, hend, Or.inr ⟨T.heap.size, rfl, cls, ce, locs, hx U hWs.alike f1 (fun q hq => f2 q hq (fun z hz => nomatch hz)), hce, hO.vm, hcl, hWs, hall, hf⟩⟩
  refine st1 _ ?_
  show Steps p.tables e below (T1.setTop { method := m, pc := pc + 3, locals := ls, stack := .ref T.heap.size :: rest, locked := none }) _
  jvm_step X₁.here [X₁.here.top, hexec, d3', Value.category]
  exact X₁.ldcStringW hexec (own := own) (text := text) (index := is) (a := sa) hown' hstr'.1 hstr'.2
    (g := { method := m, pc := pc + 4, locals := ls, stack := .ref T.heap.size :: .ref T.heap.size :: rest, locked := none }) rfl d4' _ hsteps
end Ends
section Bodies
variable {l : Launch}
theorem vx_ofW {y : MethodName} {ws ws' : List Cond} {rm : Room} {Pc : Array Value → State → Prop} {Qc : Array Value → State → Outcome → State → Prop} {XC : String → State → State → Prop} {mc ms : Nat} {free : Addr → Prop} {cc : ByteArray} {maxL : Nat} {ret : Option FieldType}
    (hy : plainName y.cls = true) (hw : ws = Cond.code y cc maxL ret :: ws')
    (body : ∀ p e s m args below meth c s₁, BodyLoose p l y (headSpec ws rm) cc maxL ret e s m args below meth c s₁ → c.maxLocals = maxL → (∀ x ∈ c.exceptionTable.toList, False) → Pc args s →
      W p l e (headSpec ws rm).room s m args below meth c s.heap [] 0 0 (vx_MQ below Qc XC args s mc ms free) (entryFrame m args maxL)) : vx_Met l y ws rm Pc Qc XC mc ms free := by
  refine MetFree.of_bodyS (code := cc) (maxLocals := maxL) (ret := ret) hy ?_ ?_
  · intro args s m h hn
    obtain ⟨meth, c, h1, h2, h3, h4, h5, h6, -, -⟩ := Cond.code_spec hn (atoms_spec (ws := ws) h _ (by rw [hw]; exact List.mem_cons_self))
    exact ⟨meth, c, h1, h2, h3, h4, h5, h6⟩
  · intro p e s m args below meth c s₁ B hml hP _
    have hh0 : s₁.heap = s.heap := by rw [B.state]; rfl
    have ht : ∀ x ∈ c.exceptionTable.toList, False := by
      obtain ⟨meth9, c9, h1, h2, -, -, -, -, h7, -⟩ := Cond.code_spec B.named (atoms_spec (ws := ws) B.pre _ (by rw [hw]; exact List.mem_cons_self))
      cases Option.some.inj (h1.symm.trans B.method)
      cases Option.some.inj (h2.symm.trans (Stand.of_body B).code)
      intro x hx
      rw [Array.isEmpty_iff.mp h7] at hx
      cases hx
    obtain ⟨t, a1, o, b1, b2, b3⟩ := body p e s m args below meth c s₁ B hml ht hP s₁ hh0 (Stand.of_body B)
    exact ⟨t, o, a1, b1, b2, b3⟩
/-- the table of a body with handlers -/
theorem vx_table {p : Program} {x y : MethodName} {S : Spec} {cc bytes : ByteArray} {maxL maxL' : Nat} {ret ret' : Option FieldType} {e : Env} {s s₁ : State} {m : MethodId} {args : Array Value} {below : List Frame} {meth : Method} {c : Code} {hh : List (Nat × Nat × Nat × Nat)}
    (B : BodyLoose p l y S cc maxL ret e s m args below meth c s₁) (h : (Cond.codeWith y bytes maxL' ret' hh).before args s = true) : c.exceptionTable.toList = tableOf hh := by
  obtain ⟨m9, meth9, c9, hn9, h1, h2, -, -, h6, -⟩ := Cond.codeWith_spec h
  cases Option.some.inj (hn9.symm.trans B.named)
  cases Option.some.inj (h1.symm.trans B.method)
  cases Option.some.inj (h2.symm.trans (Stand.of_body B).code)
  rw [← h6, table_eq]
end Bodies
end VXA
/-! ===== END ===== -/
/-! ===== BEGIN a static call of a method with an exception table ===== -/
section VXS
variable {p : Program} {l : Launch} {e : Env} {R : Room} {s : State} {m : MethodId} {args : Array Value} {below : List Frame} {meth : Method} {c : Code} {T : State} {H : Heap} {locs : List Loc} {cells slots : Nat}
abbrev vx_CSW (R : Room) (s : State) (args : Array Value) (own : String) (index : Nat) (y : MethodName) (bytes : ByteArray) (maxL : Nat) (ret : Option FieldType) (hh : List (Nat × Nat × Nat × Nat)) (ws : List Cond) (rm : Room) (mc ms n : Nat) : Prop :=
  (rm.cells = mc ∧ rm.slots = ms ∧ rm.frames + 1 ≤ R.frames ∧ 8 + (maxL + 11) + rm.locals ≤ R.locals ∧ (∀ w ∈ ws, ∀ (a' : Array Value) (U : State), s.WarmedH U.vm → w.before a' U = true) ∧ Cond.codeWith y bytes maxL ret hh ∈ ws) ∧
  (Cond.codeWith y bytes maxL ret hh).before args s = true ∧ (Cond.initialized y.cls).before args s = true ∧ (y.cls ≠ "java/lang/invoke/MethodHandle" ∧ y.cls ≠ "java/lang/invoke/VarHandle") ∧
  (∀ sig, parseMethodDescriptor y.desc = some sig → n = sig.parameters.length) ∧ (Cond.methodLink own index y).before args s = true ∧ (Cond.static y).before args s = true
theorem vx_cwSW {own : String} {index maxL mc ms : Nat} {y : MethodName} {bytes : ByteArray} {ret : Option FieldType} {hh : List (Nat × Nat × Nat × Nat)} {Ts ws ws' : List Cond} {rm : Room} (n : Nat) (ht : ∀ w ∈ Ts, w.before args s = true) (hT : GoodIn Ts (va_wsS own index y ws)) (hw : ws = Cond.codeWith y bytes maxL ret hh :: ws') (hrc : rm.cells = mc) (hrs : rm.slots = ms)
    (hd : y.cls ≠ "java/lang/invoke/MethodHandle" ∧ y.cls ≠ "java/lang/invoke/VarHandle" ∧ (parseMethodDescriptor y.desc).map (fun d => d.parameters.length) = some n) (hR : rm.frames + 1 ≤ R.frames ∧ 8 + (maxL + 11) + rm.locals ≤ R.locals) :
    vx_CSW R s args own index y bytes maxL ret hh ws rm mc ms n := by
  have ok : ∀ w ∈ va_wsS own index y ws, w.before args s = true := fun w h => ht w (hT w h).1
  have hG : GoodIn Ts ws := fun w h => hT w (by unfold va_wsS; exact List.mem_append_right _ h)
  have hc : Cond.codeWith y bytes maxL ret hh ∈ ws := by rw [hw]; exact List.mem_cons_self
  refine ⟨⟨hrc, hrs, hR.1, hR.2, pay_in ht hG, hc⟩, ht _ (hG _ hc).1, ok _ (by simp [va_wsS]), ⟨hd.1, hd.2.1⟩, fun sig h => ?_, ok _ (by simp [va_wsS]), ok _ (by simp [va_wsS])⟩
  have h2 := hd.2.2
  rw [h] at h2
  exact (Option.some.inj h2).symm
theorem vx_callSW (X : Stand p l e R s m args below meth c T locs cells slots) (hexec : p.tables.exec = Jvm.exec) {own : String} {index : Nat} {y : MethodName} {bytes : ByteArray} {maxL : Nat} {ret : Option FieldType} {hh : List (Nat × Nat × Nat × Nat)}
    (hown : s.vm.findClass own = some m.cls) (hlink : (Cond.methodLink own index y).before args s = true) (hstat : (Cond.static y).before args s = true) (hinit : (Cond.initialized y.cls).before args s = true)
    (hcode : (Cond.codeWith y bytes maxL ret hh).before args s = true) (hy : y.cls ≠ "java/lang/invoke/MethodHandle" ∧ y.cls ≠ "java/lang/invoke/VarHandle")
    {W9 : Nat} {Pre : Pt → Array Value → Prop} {Post : Pt → Array Value → Option Value → Pt → Prop} (hK : Back l R p e below s args y 3 W9 Pre Post)
    {g : JFrame} (hg : g.method = m) (hsize : g.locals.size = c.maxLocals) {argsL rest : List Value} (hlen : ∀ sig, parseMethodDescriptor y.desc = some sig → argsL.length = sig.parameters.length)
    (hstack : g.stack = argsL.reverse ++ rest) (hW : 2 * g.monitorRoom + (rest.map fun v => v.category).sum ≤ W9) (hdg : decode c.code g.pc = .ok (.invokestatic index, 3))
    (hpre : ∀ vm₁, s.WarmedH vm₁ → Pre ⟨T.setVm vm₁, locs, cells, slots⟩ argsL.toArray) :
    ∃ (v : Option Value) (vm₁ : Vm) (B : Pt), s.WarmedH vm₁ ∧ Stand p l e R s m args below meth c B.U B.locs B.cells B.slots ∧ Post ⟨T.setVm vm₁, locs, cells, slots⟩ argsL.toArray v B ∧
      ∀ target, Steps p.tables e below (B.U.setTop { g with pc := g.pc + 3, stack := v.toList ++ rest }) target → Steps p.tables e below (T.setTop g) target := by
  obtain ⟨mk, methM, cM, hnamed, hmethM, -, -, -, -, -, -, hsigM⟩ := Cond.codeWith_spec hcode
  have hstatic : methM.isStatic = true := Cond.static_spec hnamed hmethM hstat
  obtain ⟨kP, hkP, -⟩ := className_of_methodNamed hnamed
  have hinitP : kP.init = .initialized := Cond.initialized_spec (findClass_of_methodNamed hnamed) hkP hinit
  obtain ⟨vm₁, X₁, hstep₁⟩ := X.invokestatic hexec hown hlink hnamed hmethM hstatic hkP hinitP hy (g := g) hg (argsL := argsL) (rest := rest) (hlen _ hsigM) hstack hdg
  obtain ⟨v, B, X', hpost, hsteps⟩ := hK m meth c ⟨T.setVm vm₁, locs, cells, slots⟩ { g with stack := rest } (.invokestatic index) mk argsL.toArray X₁ hg hsize hdg hW (X₁.named hnamed) (hpre vm₁ X₁.warmed)
  exact ⟨v, vm₁, B, X₁.warmed, X', hpost, fun target h => hstep₁ _ fun acts => by rw [doInvoke_state]; exact hsteps.trans h⟩
theorem vx_runSW {y : MethodName} {bytes cc : ByteArray} {maxL nL mc ms n index : Nat} {ret : Option FieldType} {hh : List (Nat × Nat × Nat × Nat)} {ws : List Cond} {rm : Room} {Pc : Array Value → State → Prop} {Qc : Array Value → State → Outcome → State → Prop} {free : Addr → Prop} {Ts : List Cond} {own : String} {As rest : List Value} {g : JFrame}
    (S : CallFix p m c cc nL s args Ts own) (hM : Met l y ws rm Pc Qc mc ms free) (cw : vx_CSW R s args own index y bytes maxL ret hh ws rm mc ms n) (hp : PreS s H Pc As)
    (hg : g.method = m) (hn : As.length = n) (hsize : g.locals.size = nL) (hstack : g.stack = As.reverse ++ rest) (hW : 2 * g.monitorRoom + (rest.map fun v => v.category).sum ≤ 8) (hdg : decode cc g.pc = .ok (.invokestatic index, 3)) (hf : cells + mc ≤ R.cells ∧ slots + ms ≤ R.slots) :
    va_Run p l e R s m args below meth c H locs cells slots mc ms g rest (Qc As.toArray) (free) := by
  obtain ⟨⟨hrc, hrs, hfr, hlo, hws, hcw⟩, hcode, hini, hy, hlen, hl, hstt⟩ := cw
  have hK : Back l R p e below s args y 3 8 (PreOf R mc ms Pc) (PostOf Qc mc ms free) := va_backW (hh := hh) (bytes := bytes) (maxL := maxL) (ret := ret) hM hp.1 hrc hrs hfr hlo hws hcw (fun a' U hW => word_at hW (Or.inl (by first | rfl | simp [Cond.onTables, Cond.keeps, Cond.steady])) hini)
  obtain ⟨hx, hb, hml, ho, -⟩ := S
  intro T hT X
  obtain ⟨v, vm₁, ⟨U', l2, c2, s2⟩, hW₁, X', ⟨g', mk, t, L, e1, e2, hq, h1, hL, h2, h3⟩, st⟩ := vx_callSW X hx (hh := hh) (bytes := bytes) (maxL := maxL) (ret := ret) ho hl hstt hini hcode hy hK hg (hsize.trans hml.symm) (argsL := As) (rest := rest) (fun sig h => hn.trans (hlen sig h)) hstack hW (by rw [hb]; exact hdg)
    (fun vm₁ hW₁ => ⟨hf.1, hf.2, hp.2 (T.setVm vm₁) hT hW₁⟩)
  dsimp only [Pt.U, Pt.locs, Pt.cells, Pt.slots] at X' e1 e2 h1 h2 h3 st
  subst h1; subst h2; subst h3
  exact ⟨v, (T.setVm vm₁).calling g' mk As.toArray, t, U', L, hT, X', hL, e1, e2, hq, st⟩
/-- not caught here, past rows that name other classes: it goes on to the caller -/
theorem vx_outP {p : Program} {l : Launch} {e : Env} {R : Room} {s : State} {m : MethodId} {args : Array Value} {below : List Frame} {meth : Method} {c : Code} {H : Heap} {locs : List Loc} {cells slots : Nat} {free : Addr → Prop} {ls : Array Slot} {rest : List Value} {Qc : Array Value → State → Outcome → State → Prop} {XC : String → State → State → Prop}
    {pc : Nat} {own E : String} {ce : Cell} {q : Addr} {mc ms : Nat} (hown : s.vm.findClass own = some m.cls) (hlocks : meth.locks = false)
    (hpass : ∀ z ∈ c.exceptionTable.toList, covers z pc = false ∨ (z.catchType ≠ 0 ∧ ∃ nm : String, (Cond.classLink own z.catchType nm).before args s = true ∧ va_Nc E nm s)) (hcell : H[q]? = some ce) (hv : ce.vm = .none) (hcl : s.vm.findClass E = some ce.cls)
    (hx : ∀ t : State, t.heap = H → s.vm.Alike t.vm → XC E s t) (hf : ∀ z ∈ locs, free z.base) (hc : cells ≤ mc) (hs : slots ≤ ms) :
    vx_W p l e R s m args below meth c H locs cells slots (vx_MQ below Qc XC args s mc ms free) (F0 m pc ls rest) q := by
  intro T hT X
  have hpl : e.platform.magicAccessors = ({} : Platform).magicAccessors := by rw [X.admits.platform]
  obtain ⟨vm', hW', X', st⟩ := X.outThrough hlocks q (g := F0 m pc ls rest) rfl rfl rfl (cell := ce) (by rw [hT]; exact hcell) (by rw [hv]; rfl)
    (by obtain ⟨k9, h9, -⟩ := Vm.findClass_spec hcl; exact ⟨k9, h9⟩) (fun z hz => by
      rcases hpass z hz with h | ⟨hz0, nm, hl1, hn1⟩
      · exact Or.inl h
      · obtain ⟨c6, hc6, hcl6⟩ := Cond.classLink_spec hown hl1 e.platform hpl
        obtain ⟨a8, b8, h1, h2, h3⟩ := hn1
        cases Option.some.inj (h1.symm.trans hcl)
        cases Option.some.inj (h2.symm.trans hc6)
        exact Or.inr ⟨hz0, _, hcl6, h3⟩)
  obtain ⟨g₀, hfr⟩ := X'.frames_eq
  have hcell9 : ((T.setVm vm').setFrames (.throwing q :: below)).heap[q]? = some ce := by
    show T.heap[q]? = some ce
    rw [hT]; exact hcell
  have hend : Ended ((T.setVm vm').setFrames (.throwing q :: below)) below (.threw q) := State.frames_setFrames _ (State.cur_lt_of_frames hfr)
  refine ⟨(T.setVm vm').setFrames (.throwing q :: below), ?_, .threw q, X'.here.running, hend, Or.inr ⟨q, rfl, E, ce, locs, hx _ hT (X'.ends _).1.alike, hcell9, hv, hcl, (X'.ends _).1, (X'.ends _).2.mono hc hs, hf⟩⟩
  rw [X.pushThrowing_eq]
  exact st
/-- a thing of a world lies in the heap -/
theorem vx_lt {D : va_G} {cl : List vw_C} {ws : va_W} {H1 : Heap} (h : va_P D cl ws H1) {k : Nat} {q : Nat × va_E} (hk : ws[k]? = some q) : q.1 < H1.size := (h k q hk).lt
end VXS
/-! ===== END ===== -/
/-! ===== BEGIN methods with a table of their own: called by a name, returning or throwing ===== -/
section VXH
/-! vx_backW, vx_callVX, vx_callSX, vx_callVW, vx_runVW, vx_runVX, vx_runSX, vx_ofWH follow the same proofs as their sisters above (Free/Laws.lean, Shelf42/LK1.lean); vx_outP calls Shelf42/NT130.lean (outThrough). -/
section
variable {l : Launch} {R : Room} {p : Program} {e : Env} {below : List Frame} {s : State} {sargs : Array Value} {y : MethodName} {len W9 : Nat}
theorem vx_backW {ws : List Cond} {rm : Room} {Pc : Array Value → State → Prop} {Qc : Array Value → State → Outcome → State → Prop} {XC : String → State → State → Prop} {mc ms : Nat} {free : Addr → Prop} {bytes : ByteArray} {maxL : Nat} {ret : Option FieldType} {hh : List (Nat × Nat × Nat × Nat)}
    (hM : vx_Met l y ws rm Pc Qc XC mc ms free) (hblind : FrameBlind Pc) (hrc : rm.cells = mc) (hrs : rm.slots = ms)
    (hframes : rm.frames + 1 ≤ R.frames) (hlocals : W9 + (maxL + 11) + rm.locals ≤ R.locals)
    (hws : ∀ w ∈ ws, ∀ a' U, s.WarmedH U.vm → w.before a' U = true) (hcode : Cond.codeWith y bytes maxL ret hh ∈ ws) (hinit : ∀ a' U, s.WarmedH U.vm → (Cond.initialized y.cls).before a' U = true) :
    vx_Back l R p e below s sargs y len W9 (PreOf R mc ms Pc) (PostOf Qc mc ms free) (vx_Post XC mc ms free) := by
  intro m meth c A g ig mk a X hg hsize hdg hW hn hp
  have h1 : (headSpec ws rm).pre.before a A.U = true := atoms_intro fun w hw => hws w hw _ _ X.warmed
  have h2 : (Cond.codeWith y bytes maxL ret hh).before a A.U = true := hws _ hcode _ _ X.warmed
  have h3 : (Cond.initialized y.cls).before a A.U = true := hinit _ _ X.warmed
  have h4 : A.cells + (headSpec ws rm).room.cells ≤ R.cells := by rw [show (headSpec ws rm).room.cells = mc from hrc]; exact hp.1
  have h5 : A.slots + (headSpec ws rm).room.slots ≤ R.slots := by rw [show (headSpec ws rm).room.slots = ms from hrs]; exact hp.2.1
  have hPc : Pc a (A.U.calling g mk a) := hblind _ _ _ _ hp.2.2
  obtain ⟨U, Ls, c0, s0⟩ := A
  dsimp only [Pt.U, Pt.locs, Pt.cells, Pt.slots] at h1 h2 h3 h4 h5 X hn hPc ⊢
  obtain ⟨m9, methY, cY, hn9, hmY, hcY, -, hlY, -⟩ := Cond.codeWith_spec h2
  cases Option.some.inj (hn9.symm.trans hn)
  obtain ⟨kY, hkY, -⟩ := className_of_methodNamed hn
  have hinitY : kY.init = .initialized := Cond.initialized_spec (findClass_of_methodNamed hn) hkY h3
  have h : At U g.method c below := by rw [hg]; exact X.here
  have hlocals9 : W9 + (maxL + 11) + (headSpec ws rm).room.locals ≤ R.locals := hlocals
  have happ : (headSpec ws rm).appliesLoose y e.platform (U.calling g mk a) = true :=
    Spec.appliesLoose_calling (g := g) h hdg hn hkY hinitY
      (X.room_calling (g := g) (R' := (headSpec ws rm).room) hsize hmY hcY hframes (by rw [hlY]; omega) h4 h5) h1
  obtain ⟨mid, hmid⟩ := h.above
  have hfr : (U.setTop g).frames = (.java g :: mid) ++ below := by rw [State.frames_setTop' g h.top, hmid]; rfl
  obtain ⟨o, s₂, hsteps, -, hend, hq⟩ := Steps.callFree hM p X.admits X.cas X.clock (acts := []) hfr happ hPc trivial
  have hq' : vx_Q Qc XC mc ms free a (U.calling g mk a) o s₂ := hq
  rw [State.frames_setTop' g h.top] at hend
  obtain ⟨g₀, hg0⟩ := Option.isSome_iff_exists.mp h.top
  obtain ⟨r, hr⟩ := State.topJava?_eq_some.mp hg0
  have hr' : (({ U with heap := s₂.heap, slotsUsed := s₂.slotsUsed } : State).setVm s₂.vm).frames = .java g₀ :: r := hr
  rcases hq' with ⟨hqc, L, hfe, hL⟩ | ⟨q, rfl, E, ce, L, hx, hce, hcv, hcl, hW₂, hsm, hL⟩
  · obtain ⟨⟨v, rfl⟩, hW₂, e2, q2, q3, q4, q5, q6⟩ := id hfe
    have e3 : s₂ = ({ (U.calling g mk a).setFrames s₂.frames with heap := s₂.heap, slotsUsed := s₂.slotsUsed } : State).setVm s₂.vm := by
      have : s₂ = ({ s₂ with vm := (U.calling g mk a).vm } : State).setVm s₂.vm := rfl
      rw [e2] at this
      exact this
    obtain ⟨c₂, i₂, len₂, hc₂, hd₂, hf₂⟩ := hend
    have hW' : U.WarmedH s₂.vm := hW₂
    have hcc : c₂ = c := by
      have h1 : s₂.code? g.method = U.code? g.method := by
        rw [State.code?_eq, State.code?_eq, hW'.alike.method?]
      exact Option.some.inj (hc₂.symm.trans (h1.trans h.code))
    subst hcc
    have hlen : len₂ = len := by rw [hdg] at hd₂; cases hd₂; rfl
    subst hlen
    have hs₂ : s₂ = (({ U with heap := s₂.heap, slotsUsed := s₂.slotsUsed } : State).setVm s₂.vm).setTop { g with pc := g.pc + len₂, stack := v.toList ++ g.stack } := by
      refine e3.trans ?_
      rw [hf₂, State.calling_eq h.top, State.setFrames_setFrames, State.setTop_of_frames _ hr', hr]
      rfl
    have hsame : U.sameButNew ({ U with heap := s₂.heap, slotsUsed := s₂.slotsUsed } : State) L mc ms := by
      refine ⟨?_, q2, q3, q4, q5, q6⟩
      obtain ⟨t, ht, -⟩ := State.frames_cons hr
      show ({ U with heap := s₂.heap, slotsUsed := s₂.slotsUsed } : State) = { U.setFrames U.frames with heap := s₂.heap, slotsUsed := s₂.slotsUsed }
      rw [State.setFrames_self ht]
    subst hg
    refine Or.inl ⟨v, ⟨(({ U with heap := s₂.heap, slotsUsed := s₂.slotsUsed } : State).setVm s₂.vm), Ls ++ L, c0 + mc, s0 + ms⟩,
      ⟨X.admits, X.cas, X.clock, X.frames, X.room, X.hears, X.method, X.code, (X.here.setHeapUsed s₂.heap s₂.slotsUsed).setVm hW'.alike, X.tail, State.WarmedH.trans X.warmed hW', X.limits, X.bytes, X.same.trans (hsame.setVm s.vm)⟩,
      ⟨g, mk, s₂, L, rfl, rfl, hqc, rfl, hL, rfl, rfl⟩, ?_⟩
    show Steps p.tables e below _ ((({ U with heap := s₂.heap, slotsUsed := s₂.slotsUsed } : State).setVm s₂.vm).setTop { g with pc := g.pc + len₂, stack := v.toList ++ g.stack })
    rw [← hs₂]
    exact hsteps
  · obtain ⟨e2, q2, q3, q4, q5, q6⟩ := id hsm
    have e3 : s₂ = ({ (U.calling g mk a).setFrames s₂.frames with heap := s₂.heap, slotsUsed := s₂.slotsUsed } : State).setVm s₂.vm := by
      have : s₂ = ({ s₂ with vm := (U.calling g mk a).vm } : State).setVm s₂.vm := rfl
      rw [e2] at this
      exact this
    have hf₂ : s₂.frames = .throwing q :: .java g :: U.frames.tail := hend
    have hW' : U.WarmedH s₂.vm := hW₂
    have hs₂ : s₂ = ((({ U with heap := s₂.heap, slotsUsed := s₂.slotsUsed } : State).setVm s₂.vm).setTop g).pushFrame (.throwing q) := by
      refine e3.trans ?_
      rw [hf₂, State.calling_eq h.top, State.setFrames_setFrames, State.pushFrame, State.frames_setTop _ hr', State.setTop_of_frames _ hr', State.setFrames_setFrames, hr]
      rfl
    have hsame : U.sameButNew ({ U with heap := s₂.heap, slotsUsed := s₂.slotsUsed } : State) L mc ms := by
      refine ⟨?_, q2, q3, q4, q5, q6⟩
      obtain ⟨t, ht, -⟩ := State.frames_cons hr
      show ({ U with heap := s₂.heap, slotsUsed := s₂.slotsUsed } : State) = { U.setFrames U.frames with heap := s₂.heap, slotsUsed := s₂.slotsUsed }
      rw [State.setFrames_self ht]
    subst hg
    refine Or.inr ⟨q, ⟨(({ U with heap := s₂.heap, slotsUsed := s₂.slotsUsed } : State).setVm s₂.vm), Ls ++ L, c0 + mc, s0 + ms⟩,
      ⟨X.admits, X.cas, X.clock, X.frames, X.room, X.hears, X.method, X.code, (X.here.setHeapUsed s₂.heap s₂.slotsUsed).setVm hW'.alike, X.tail, State.WarmedH.trans X.warmed hW', X.limits, X.bytes, X.same.trans (hsame.setVm s.vm)⟩,
      ⟨g, mk, s₂, L, E, ce, rfl, rfl, hx, hce, hcv, hcl, rfl, hL, rfl, rfl⟩, ?_⟩
    show Steps p.tables e below _ (((({ U with heap := s₂.heap, slotsUsed := s₂.slotsUsed } : State).setVm s₂.vm).setTop g).pushFrame (.throwing q))
    rw [← hs₂]
    exact hsteps
end
variable {p : Program} {l : Launch} {e : Env} {R : Room} {s : State} {m : MethodId} {args : Array Value} {below : List Frame} {meth : Method} {c : Code} {T : State} {H : Heap} {locs : List Loc} {cells slots : Nat}
theorem vx_callVX (X : Stand p l e R s m args below meth c T locs cells slots) (hexec : p.tables.exec = Jvm.exec) {own C : String} {index : Nat} {y : MethodName} {bytes : ByteArray} {maxL : Nat} {ret : Option FieldType} {hh : List (Nat × Nat × Nat × Nat)}
    (hown : s.vm.findClass own = some m.cls) (hlink : (Cond.methodLink own index y).before args s = true) (hinst : (Cond.instanceMethod y).before args s = true) (hsel : (Cond.selects C y y).before args s = true)
    (hcode : (Cond.codeWith y bytes maxL ret hh).before args s = true) (hy : y.cls ≠ "java/lang/invoke/MethodHandle" ∧ y.cls ≠ "java/lang/invoke/VarHandle")
    {W9 : Nat} {Pre : Pt → Array Value → Prop} {Post : Pt → Array Value → Option Value → Pt → Prop} {PostX : Pt → Array Value → Addr → Pt → Prop} (hK : vx_Back l R p e below s args y 3 W9 Pre Post PostX)
    {b : Addr} {cellB : Cell} (hcell : T.heap[b]? = some cellB) (hobj : cellB.vm.isStatics = false) (hcls : s.vm.findClass C = some cellB.cls)
    {g : JFrame} (hg : g.method = m) (hsize : g.locals.size = c.maxLocals) {argsL rest : List Value} (hlen : ∀ sig, parseMethodDescriptor y.desc = some sig → argsL.length = sig.parameters.length)
    (hstack : g.stack = argsL.reverse ++ .ref b :: rest) (hW : 2 * g.monitorRoom + (rest.map fun v => v.category).sum ≤ W9) (hdg : decode c.code g.pc = .ok (.invokevirtual index, 3))
    (hpre : ∀ vm₁, s.WarmedH vm₁ → Pre ⟨T.setVm vm₁, locs, cells, slots⟩ (Value.ref b :: argsL).toArray) :
    (∃ (v : Option Value) (vm₁ : Vm) (B : Pt), s.WarmedH vm₁ ∧ Stand p l e R s m args below meth c B.U B.locs B.cells B.slots ∧ Post ⟨T.setVm vm₁, locs, cells, slots⟩ (Value.ref b :: argsL).toArray v B ∧
      ∀ target, Steps p.tables e below (B.U.setTop { g with pc := g.pc + 3, stack := v.toList ++ rest }) target → Steps p.tables e below (T.setTop g) target) ∨
    (∃ (q : Addr) (vm₁ : Vm) (B : Pt), s.WarmedH vm₁ ∧ Stand p l e R s m args below meth c B.U B.locs B.cells B.slots ∧ PostX ⟨T.setVm vm₁, locs, cells, slots⟩ (Value.ref b :: argsL).toArray q B ∧
      Steps p.tables e below (T.setTop g) ((B.U.setTop { g with stack := rest }).pushFrame (.throwing q))) := by
  obtain ⟨mk, methM, hnamed, hmethM, hstM, habM⟩ := Cond.instanceMethod_spec hinst
  obtain ⟨m8, methM', cM, hn8, hmethM', -, -, -, -, -, -, hsigM⟩ := Cond.codeWith_spec hcode
  cases Option.some.inj (hn8.symm.trans hnamed)
  cases hmethM.symm.trans hmethM'
  obtain ⟨c2, r2, m2, q1, q2, q3, q4, kP, hkP, hkPi⟩ := Cond.selects_spec hsel
  cases hcls.symm.trans q1
  cases (State.methodFound?_of_named hnamed hy).symm.trans q2
  cases hnamed.symm.trans q3
  have hselP : selectMethod e.platform s.vm cellB.cls mk = .method mk := by rw [Launch.admits_selectMethod X.admits]; exact q4
  obtain ⟨vm₁, X₁, hstep₁⟩ := X.invokevirtual hexec hown hlink hnamed hmethM hstM hkP hkPi hy (a := b) (cell := cellB) hcell
    (fun z h => by rw [h] at hobj; cases hobj) hselP hmethM habM hkP hkPi (g := g) hg (argsL := argsL) (rest := rest) (hlen _ hsigM) hstack hdg
  rcases hK m meth c ⟨T.setVm vm₁, locs, cells, slots⟩ { g with stack := rest } (.invokevirtual index) mk (Value.ref b :: argsL).toArray X₁ hg hsize hdg hW (X₁.named hnamed) (hpre vm₁ X₁.warmed) with ⟨v, B, X', hpost, hsteps⟩ | ⟨q, B, X', hpost, hsteps⟩
  · exact Or.inl ⟨v, vm₁, B, X₁.warmed, X', hpost, fun target h => hstep₁ _ fun acts => by rw [doInvoke_state]; exact hsteps.trans h⟩
  · exact Or.inr ⟨q, vm₁, B, X₁.warmed, X', hpost, hstep₁ _ fun acts => by rw [doInvoke_state]; exact hsteps⟩
theorem vx_callSX (X : Stand p l e R s m args below meth c T locs cells slots) (hexec : p.tables.exec = Jvm.exec) {own : String} {index : Nat} {y : MethodName} {bytes : ByteArray} {maxL : Nat} {ret : Option FieldType} {hh : List (Nat × Nat × Nat × Nat)}
    (hown : s.vm.findClass own = some m.cls) (hlink : (Cond.methodLink own index y).before args s = true) (hstat : (Cond.static y).before args s = true) (hinit : (Cond.initialized y.cls).before args s = true)
    (hcode : (Cond.codeWith y bytes maxL ret hh).before args s = true) (hy : y.cls ≠ "java/lang/invoke/MethodHandle" ∧ y.cls ≠ "java/lang/invoke/VarHandle")
    {W9 : Nat} {Pre : Pt → Array Value → Prop} {Post : Pt → Array Value → Option Value → Pt → Prop} {PostX : Pt → Array Value → Addr → Pt → Prop} (hK : vx_Back l R p e below s args y 3 W9 Pre Post PostX)
    {g : JFrame} (hg : g.method = m) (hsize : g.locals.size = c.maxLocals) {argsL rest : List Value} (hlen : ∀ sig, parseMethodDescriptor y.desc = some sig → argsL.length = sig.parameters.length)
    (hstack : g.stack = argsL.reverse ++ rest) (hW : 2 * g.monitorRoom + (rest.map fun v => v.category).sum ≤ W9) (hdg : decode c.code g.pc = .ok (.invokestatic index, 3))
    (hpre : ∀ vm₁, s.WarmedH vm₁ → Pre ⟨T.setVm vm₁, locs, cells, slots⟩ argsL.toArray) :
    (∃ (v : Option Value) (vm₁ : Vm) (B : Pt), s.WarmedH vm₁ ∧ Stand p l e R s m args below meth c B.U B.locs B.cells B.slots ∧ Post ⟨T.setVm vm₁, locs, cells, slots⟩ argsL.toArray v B ∧
      ∀ target, Steps p.tables e below (B.U.setTop { g with pc := g.pc + 3, stack := v.toList ++ rest }) target → Steps p.tables e below (T.setTop g) target) ∨
    (∃ (q : Addr) (vm₁ : Vm) (B : Pt), s.WarmedH vm₁ ∧ Stand p l e R s m args below meth c B.U B.locs B.cells B.slots ∧ PostX ⟨T.setVm vm₁, locs, cells, slots⟩ argsL.toArray q B ∧
      Steps p.tables e below (T.setTop g) ((B.U.setTop { g with stack := rest }).pushFrame (.throwing q))) := by
  obtain ⟨mk, methM, cM, hnamed, hmethM, -, -, -, -, -, -, hsigM⟩ := Cond.codeWith_spec hcode
  have hstatic : methM.isStatic = true := Cond.static_spec hnamed hmethM hstat
  obtain ⟨kP, hkP, -⟩ := className_of_methodNamed hnamed
  have hinitP : kP.init = .initialized := Cond.initialized_spec (findClass_of_methodNamed hnamed) hkP hinit
  obtain ⟨vm₁, X₁, hstep₁⟩ := X.invokestatic hexec hown hlink hnamed hmethM hstatic hkP hinitP hy (g := g) hg (argsL := argsL) (rest := rest) (hlen _ hsigM) hstack hdg
  rcases hK m meth c ⟨T.setVm vm₁, locs, cells, slots⟩ { g with stack := rest } (.invokestatic index) mk argsL.toArray X₁ hg hsize hdg hW (X₁.named hnamed) (hpre vm₁ X₁.warmed) with ⟨v, B, X', hpost, hsteps⟩ | ⟨q, B, X', hpost, hsteps⟩
  · exact Or.inl ⟨v, vm₁, B, X₁.warmed, X', hpost, fun target h => hstep₁ _ fun acts => by rw [doInvoke_state]; exact hsteps.trans h⟩
  · exact Or.inr ⟨q, vm₁, B, X₁.warmed, X', hpost, hstep₁ _ fun acts => by rw [doInvoke_state]; exact hsteps⟩
theorem vx_callVW (X : Stand p l e R s m args below meth c T locs cells slots) (hexec : p.tables.exec = Jvm.exec) {own C : String} {index : Nat} {y : MethodName} {bytes : ByteArray} {maxL : Nat} {ret : Option FieldType} {hh : List (Nat × Nat × Nat × Nat)}
    (hown : s.vm.findClass own = some m.cls) (hlink : (Cond.methodLink own index y).before args s = true) (hinst : (Cond.instanceMethod y).before args s = true) (hsel : (Cond.selects C y y).before args s = true)
    (hcode : (Cond.codeWith y bytes maxL ret hh).before args s = true) (hy : y.cls ≠ "java/lang/invoke/MethodHandle" ∧ y.cls ≠ "java/lang/invoke/VarHandle")
    {W9 : Nat} {Pre : Pt → Array Value → Prop} {Post : Pt → Array Value → Option Value → Pt → Prop} (hK : Back l R p e below s args y 3 W9 Pre Post)
    {b : Addr} {cellB : Cell} (hcell : T.heap[b]? = some cellB) (hobj : cellB.vm.isStatics = false) (hcls : s.vm.findClass C = some cellB.cls)
    {g : JFrame} (hg : g.method = m) (hsize : g.locals.size = c.maxLocals) {argsL rest : List Value} (hlen : ∀ sig, parseMethodDescriptor y.desc = some sig → argsL.length = sig.parameters.length)
    (hstack : g.stack = argsL.reverse ++ .ref b :: rest) (hW : 2 * g.monitorRoom + (rest.map fun v => v.category).sum ≤ W9) (hdg : decode c.code g.pc = .ok (.invokevirtual index, 3))
    (hpre : ∀ vm₁, s.WarmedH vm₁ → Pre ⟨T.setVm vm₁, locs, cells, slots⟩ (Value.ref b :: argsL).toArray) :
    ∃ (v : Option Value) (vm₁ : Vm) (B : Pt), s.WarmedH vm₁ ∧ Stand p l e R s m args below meth c B.U B.locs B.cells B.slots ∧ Post ⟨T.setVm vm₁, locs, cells, slots⟩ (Value.ref b :: argsL).toArray v B ∧
      ∀ target, Steps p.tables e below (B.U.setTop { g with pc := g.pc + 3, stack := v.toList ++ rest }) target → Steps p.tables e below (T.setTop g) target := by
  obtain ⟨mk, methM, hnamed, hmethM, hstM, habM⟩ := Cond.instanceMethod_spec hinst
  obtain ⟨m8, methM', cM, hn8, hmethM', -, -, -, -, -, -, hsigM⟩ := Cond.codeWith_spec hcode
  cases Option.some.inj (hn8.symm.trans hnamed)
  cases hmethM.symm.trans hmethM'
  obtain ⟨c2, r2, m2, q1, q2, q3, q4, kP, hkP, hkPi⟩ := Cond.selects_spec hsel
  cases hcls.symm.trans q1
  cases (State.methodFound?_of_named hnamed hy).symm.trans q2
  cases hnamed.symm.trans q3
  have hselP : selectMethod e.platform s.vm cellB.cls mk = .method mk := by rw [Launch.admits_selectMethod X.admits]; exact q4
  obtain ⟨vm₁, X₁, hstep₁⟩ := X.invokevirtual hexec hown hlink hnamed hmethM hstM hkP hkPi hy (a := b) (cell := cellB) hcell
    (fun z h => by rw [h] at hobj; cases hobj) hselP hmethM habM hkP hkPi (g := g) hg (argsL := argsL) (rest := rest) (hlen _ hsigM) hstack hdg
  obtain ⟨v, B, X', hpost, hsteps⟩ := hK m meth c ⟨T.setVm vm₁, locs, cells, slots⟩ { g with stack := rest } (.invokevirtual index) mk (Value.ref b :: argsL).toArray X₁ hg hsize hdg hW (X₁.named hnamed) (hpre vm₁ X₁.warmed)
  exact ⟨v, vm₁, B, X₁.warmed, X', hpost, fun target h => hstep₁ _ fun acts => by rw [doInvoke_state]; exact hsteps.trans h⟩
abbrev vx_CVW (R : Room) (s : State) (args : Array Value) (own C : String) (index : Nat) (y : MethodName) (bytes : ByteArray) (maxL : Nat) (ret : Option FieldType) (hh : List (Nat × Nat × Nat × Nat)) (ws : List Cond) (rm : Room) (mc ms n : Nat) : Prop :=
  (rm.cells = mc ∧ rm.slots = ms ∧ rm.frames + 1 ≤ R.frames ∧ 8 + (maxL + 11) + rm.locals ≤ R.locals ∧ (∀ w ∈ ws, ∀ (a' : Array Value) (U : State), s.WarmedH U.vm → w.before a' U = true) ∧ Cond.codeWith y bytes maxL ret hh ∈ ws) ∧
  (Cond.codeWith y bytes maxL ret hh).before args s = true ∧ (Cond.initialized y.cls).before args s = true ∧ (y.cls ≠ "java/lang/invoke/MethodHandle" ∧ y.cls ≠ "java/lang/invoke/VarHandle") ∧
  (∀ sig, parseMethodDescriptor y.desc = some sig → n = sig.parameters.length) ∧ (Cond.methodLink own index y).before args s = true ∧ (Cond.instanceMethod y).before args s = true ∧ (Cond.selects C y y).before args s = true
theorem vx_cwVW {own C : String} {index maxL mc ms : Nat} {y : MethodName} {bytes : ByteArray} {ret : Option FieldType} {hh : List (Nat × Nat × Nat × Nat)} {Ts ws ws' : List Cond} {rm : Room} (n : Nat) (ht : ∀ w ∈ Ts, w.before args s = true) (hT : GoodIn Ts (wsV own index C y ws)) (hw : ws = Cond.codeWith y bytes maxL ret hh :: ws') (hrc : rm.cells = mc) (hrs : rm.slots = ms)
    (hd : y.cls = C ∧ y.cls ≠ "java/lang/invoke/MethodHandle" ∧ y.cls ≠ "java/lang/invoke/VarHandle" ∧ (parseMethodDescriptor y.desc).map (fun d => d.parameters.length) = some n) (hR : rm.frames + 1 ≤ R.frames ∧ 8 + (maxL + 11) + rm.locals ≤ R.locals) :
    vx_CVW R s args own C index y bytes maxL ret hh ws rm mc ms n := by
  obtain ⟨hC, hd⟩ := hd
  subst hC
  have ok : ∀ w ∈ wsV own index y.cls y ws, w.before args s = true := fun w h => ht w (hT w h).1
  have hG : GoodIn Ts ws := fun w h => hT w (by unfold wsV; exact List.mem_append_right _ h)
  have hc : Cond.codeWith y bytes maxL ret hh ∈ ws := by rw [hw]; exact List.mem_cons_self
  refine ⟨⟨hrc, hrs, hR.1, hR.2, pay_in ht hG, hc⟩, ht _ (hG _ hc).1, ok _ (by simp [wsV]), ⟨hd.1, hd.2.1⟩, fun sig h => ?_, ok _ (by simp [wsV]), ok _ (by simp [wsV]), ok _ (by simp [wsV])⟩
  have h2 := hd.2.2
  rw [h] at h2
  exact (Option.some.inj h2).symm
theorem vx_runVW {y : MethodName} {bytes cc : ByteArray} {maxL nL mc ms n index : Nat} {ret : Option FieldType} {hh : List (Nat × Nat × Nat × Nat)} {ws : List Cond} {rm : Room} {Pc : Array Value → State → Prop} {Qc : Array Value → State → Outcome → State → Prop} {free : Addr → Prop} {Ts : List Cond} {own C : String} {b : Addr} {As rest : List Value} {g : JFrame}
    (S : CallFix p m c cc nL s args Ts own) (hM : Met l y ws rm Pc Qc mc ms free) (cw : vx_CVW R s args own C index y bytes maxL ret hh ws rm mc ms n) (hp : PreV s H C b Pc As)
    (hg : g.method = m) (hn : As.length = n) (hsize : g.locals.size = nL) (hstack : g.stack = As.reverse ++ .ref b :: rest) (hW : 2 * g.monitorRoom + (rest.map fun v => v.category).sum ≤ 8) (hdg : decode cc g.pc = .ok (.invokevirtual index, 3)) (hf : cells + mc ≤ R.cells ∧ slots + ms ≤ R.slots) :
    va_Run p l e R s m args below meth c H locs cells slots mc ms g rest (Qc (Value.ref b :: As).toArray) free := by
  obtain ⟨⟨hrc, hrs, hfr, hlo, hws, hcw⟩, hcode, hini, hy, hlen, hl, hin, hse⟩ := cw
  have hK : Back l R p e below s args y 3 8 (PreOf R mc ms Pc) (PostOf Qc mc ms free) := va_backW (hh := hh) (bytes := bytes) (maxL := maxL) (ret := ret) hM hp.1 hrc hrs hfr hlo hws hcw (fun a' U hW => word_at hW (Or.inl (by first | rfl | simp [Cond.onTables, Cond.keeps, Cond.steady])) hini)
  obtain ⟨hx, hb, hml, ho, -⟩ := S
  obtain ⟨-, ⟨cellB, hcB, hoB, hclB⟩, hPc⟩ := hp
  intro T hT X
  obtain ⟨v, vm₁, ⟨U', l2, c2, s2⟩, hW₁, X', ⟨g', mk, t, L, e1, e2, hq, h1, hL, h2, h3⟩, st⟩ := vx_callVW X hx (C := C) (hh := hh) (bytes := bytes) (maxL := maxL) (ret := ret) ho hl hin hse hcode hy hK (by rw [hT]; exact hcB) hoB hclB hg (hsize.trans hml.symm) (argsL := As) (rest := rest) (fun sig h => hn.trans (hlen sig h)) hstack hW (by rw [hb]; exact hdg)
    (fun vm₁ hW₁ => ⟨hf.1, hf.2, hPc (T.setVm vm₁) hT hW₁⟩)
  dsimp only [Pt.U, Pt.locs, Pt.cells, Pt.slots] at X' e1 e2 h1 h2 h3 st
  subst h1; subst h2; subst h3
  exact ⟨v, (T.setVm vm₁).calling g' mk (Value.ref b :: As).toArray, t, U', L, hT, X', hL, e1, e2, hq, st⟩
section
variable {y : MethodName} {bytes cc : ByteArray} {maxL nL mc ms n index : Nat} {ret : Option FieldType} {ws : List Cond} {rm : Room} {Pc : Array Value → State → Prop} {Qc : Array Value → State → Outcome → State → Prop} {XC : String → State → State → Prop} {free : Addr → Prop} {Ts : List Cond} {own C : String} {b : Addr} {As rest : List Value} {g : JFrame}
theorem vx_runVX {hh : List (Nat × Nat × Nat × Nat)} (S : CallFix p m c cc nL s args Ts own) (hM : vx_Met l y ws rm Pc Qc XC mc ms free) (cw : vx_CVW R s args own C index y bytes maxL ret hh ws rm mc ms n) (hp : PreV s H C b Pc As)
    (hg : g.method = m) (hn : As.length = n) (hsize : g.locals.size = nL) (hstack : g.stack = As.reverse ++ .ref b :: rest) (hW : 2 * g.monitorRoom + (rest.map fun v => v.category).sum ≤ 8) (hdg : decode cc g.pc = .ok (.invokevirtual index, 3)) (hf : cells + mc ≤ R.cells ∧ slots + ms ≤ R.slots) :
    vx_Run p l e R s m args below meth c H locs cells slots mc ms g rest (Qc (Value.ref b :: As).toArray) XC free := by
  obtain ⟨⟨hrc, hrs, hfr, hlo, hws, hcw⟩, hcode, hini, hy, hlen, hl, hin, hse⟩ := cw
  have hK : vx_Back l R p e below s args y 3 8 (PreOf R mc ms Pc) (PostOf Qc mc ms free) (vx_Post XC mc ms free) := vx_backW (hh := hh) (bytes := bytes) (maxL := maxL) (ret := ret) hM hp.1 hrc hrs hfr hlo hws hcw (fun a' U hW => word_at hW (Or.inl (by first | rfl | simp [Cond.onTables, Cond.keeps, Cond.steady])) hini)
  obtain ⟨hx, hb, hml, ho, -⟩ := S
  obtain ⟨-, ⟨cellB, hcB, hoB, hclB⟩, hPc⟩ := hp
  intro T hT X
  rcases vx_callVX X hx (C := C) (hh := hh) (bytes := bytes) (maxL := maxL) (ret := ret) ho hl hin hse hcode hy hK (by rw [hT]; exact hcB) hoB hclB hg (hsize.trans hml.symm) (argsL := As) (rest := rest) (fun sig h => hn.trans (hlen sig h)) hstack hW (by rw [hb]; exact hdg)
    (fun vm₁ hW₁ => ⟨hf.1, hf.2, hPc (T.setVm vm₁) hT hW₁⟩) with ⟨v, vm₁, ⟨U', l2, c2, s2⟩, hW₁, X', ⟨g', mk, t, L, e1, e2, hq, h1, hL, h2, h3⟩, st⟩ | ⟨q, vm₁, ⟨U', l2, c2, s2⟩, hW₁, X', ⟨g', mk, t, L, E, ce, e1, e2, hq, hce, hcv, hcl, h1, hL, h2, h3⟩, st⟩
  · dsimp only [Pt.U, Pt.locs, Pt.cells, Pt.slots] at X' e1 e2 h1 h2 h3 st
    subst h1; subst h2; subst h3
    exact Or.inl ⟨v, (T.setVm vm₁).calling g' mk (Value.ref b :: As).toArray, t, U', L, hT, X', hL, e1, e2, hq, st⟩
  · dsimp only [Pt.U, Pt.locs, Pt.cells, Pt.slots] at X' e1 e2 h1 h2 h3 st hcl
    subst h1; subst h2; subst h3
    exact Or.inr ⟨q, (T.setVm vm₁).calling g' mk (Value.ref b :: As).toArray, t, U', L, E, ce, hT, X', hL, e1, e2, hq, hce, hcv, vx_cls hW₁ hcl, st⟩
theorem vx_runSX {hh : List (Nat × Nat × Nat × Nat)} (S : CallFix p m c cc nL s args Ts own) (hM : vx_Met l y ws rm Pc Qc XC mc ms free) (cw : vx_CSW R s args own index y bytes maxL ret hh ws rm mc ms n) (hp : PreS s H Pc As)
    (hg : g.method = m) (hn : As.length = n) (hsize : g.locals.size = nL) (hstack : g.stack = As.reverse ++ rest) (hW : 2 * g.monitorRoom + (rest.map fun v => v.category).sum ≤ 8) (hdg : decode cc g.pc = .ok (.invokestatic index, 3)) (hf : cells + mc ≤ R.cells ∧ slots + ms ≤ R.slots) :
    vx_Run p l e R s m args below meth c H locs cells slots mc ms g rest (Qc As.toArray) XC free := by
  obtain ⟨⟨hrc, hrs, hfr, hlo, hws, hcw⟩, hcode, hini, hy, hlen, hl, hstt⟩ := cw
  have hK : vx_Back l R p e below s args y 3 8 (PreOf R mc ms Pc) (PostOf Qc mc ms free) (vx_Post XC mc ms free) := vx_backW (hh := hh) (bytes := bytes) (maxL := maxL) (ret := ret) hM hp.1 hrc hrs hfr hlo hws hcw (fun a' U hW => word_at hW (Or.inl (by first | rfl | simp [Cond.onTables, Cond.keeps, Cond.steady])) hini)
  obtain ⟨hx, hb, hml, ho, -⟩ := S
  intro T hT X
  rcases vx_callSX X hx (hh := hh) (bytes := bytes) (maxL := maxL) (ret := ret) ho hl hstt hini hcode hy hK hg (hsize.trans hml.symm) (argsL := As) (rest := rest) (fun sig h => hn.trans (hlen sig h)) hstack hW (by rw [hb]; exact hdg)
    (fun vm₁ hW₁ => ⟨hf.1, hf.2, hp.2 (T.setVm vm₁) hT hW₁⟩) with ⟨v, vm₁, ⟨U', l2, c2, s2⟩, hW₁, X', ⟨g', mk, t, L, e1, e2, hq, h1, hL, h2, h3⟩, st⟩ | ⟨q, vm₁, ⟨U', l2, c2, s2⟩, hW₁, X', ⟨g', mk, t, L, E, ce, e1, e2, hq, hce, hcv, hcl, h1, hL, h2, h3⟩, st⟩
  · dsimp only [Pt.U, Pt.locs, Pt.cells, Pt.slots] at X' e1 e2 h1 h2 h3 st
    subst h1; subst h2; subst h3
    exact Or.inl ⟨v, (T.setVm vm₁).calling g' mk As.toArray, t, U', L, hT, X', hL, e1, e2, hq, st⟩
  · dsimp only [Pt.U, Pt.locs, Pt.cells, Pt.slots] at X' e1 e2 h1 h2 h3 st hcl
    subst h1; subst h2; subst h3
    exact Or.inr ⟨q, (T.setVm vm₁).calling g' mk As.toArray, t, U', L, E, ce, hT, X', hL, e1, e2, hq, hce, hcv, vx_cls hW₁ hcl, st⟩
end
end VXH
theorem vx_ofWH {l : Launch} {y : MethodName} {ws ws' : List Cond} {rm : Room} {Pc : Array Value → State → Prop} {Qc : Array Value → State → Outcome → State → Prop} {XC : String → State → State → Prop} {mc ms : Nat} {free : Addr → Prop} {cc : ByteArray} {maxL : Nat} {ret : Option FieldType} {hh : List (Nat × Nat × Nat × Nat)}
    (hy : plainName y.cls = true) (hw : ws = Cond.codeWith y cc maxL ret hh :: ws')
    (body : ∀ p e s m args below meth c s₁, BodyLoose p l y (headSpec ws rm) cc maxL ret e s m args below meth c s₁ → c.maxLocals = maxL → Pc args s →
      W p l e (headSpec ws rm).room s m args below meth c s.heap [] 0 0 (vx_MQ below Qc XC args s mc ms free) (entryFrame m args maxL)) : vx_Met l y ws rm Pc Qc XC mc ms free := by
  refine MetFree.of_bodyS (code := cc) (maxLocals := maxL) (ret := ret) hy ?_ ?_
  · intro args s m h hn
    obtain ⟨m9, meth, c, hn9, h1, h2, h3, h4, -, h5, h6, -⟩ := Cond.codeWith_spec (atoms_spec (ws := ws) h _ (by rw [hw]; exact List.mem_cons_self))
    cases hn.symm.trans hn9
    exact ⟨meth, c, h1, h2, h3, h4, h5, h6⟩
  · intro p e s m args below meth c s₁ B hml hP _
    have hh0 : s₁.heap = s.heap := by rw [B.state]; rfl
    obtain ⟨t, a1, o, b1, b2, b3⟩ := body p e s m args below meth c s₁ B hml hP s₁ hh0 (Stand.of_body B)
    exact ⟨t, o, a1, b1, b2, b3⟩
/-! ===== END ===== -/

/-! ===== BEGIN what the machine throws by itself, no traces kept ===== -/
section VXM
set_option maxHeartbeats 1000000 in
/-- the machine throws cls with the message text, no traces kept: from its note over the frame g to 'throwing' over the same frame (follows the proofs of Stand.vmThrowsMessage, Shelf/KitTracedVmS.lean, and Stand.throwsMessageColdBareV, StandMessageColdV.lean, without the step out of the frame) -/
theorem vx_vmAt {p : Program} {l : Launch} {e : Env} {R : Room} {s : State} {m₀ : MethodId} {args : Array Value} {below : List Frame} {meth : Method} {c : Code} {W : State} {locs : List Loc} {cells slots : Nat}
    (X : Stand p l e R s m₀ args below meth c W locs cells slots) (hexec : p.tables.exec = Jvm.exec) (htr : e.platform.stackTraces = false) {cls : String} {names : List String} {text : String}
    (hcls : Bundle.fit cls = true) (hnames : ∀ n ∈ names, Bundle.fit n = true) (hsoe : (cls == "java/lang/StackOverflowError") = false) (hoom : (cls == "java/lang/OutOfMemoryError") = false)
    (h : ∀ a ∈ Bundle.messageArmAtoms cls names, a.before args s = true)
    (hlocs : ∀ x ∈ locs, ∀ cell, s.heap[x.base]? = some cell → cell.vm.isStatics = false)
    (htext : (text == notModelled) = false) (hlimit : ¬ (stringBytes (stringToUtf16 text)).size > e.platform.arrayLengthLimit) (hheap : ¬ (stringBytes (stringToUtf16 text)).size * componentBytes .byte > e.platform.maxHeapBytes)
    {g : JFrame} (hg : g.method = m₀) (hsize : g.locals.size = c.maxLocals)
    (hRframes : names.length + 4 < R.frames) (hRlocals : 2 * g.monitorRoom + (g.stack.map fun v => v.category).sum + 10240 ≤ R.locals) (hshort : 13 * names.length + 55 ≤ 10240)
    (hRcells : cells + 3 ≤ R.cells) (hRslots : slots + ((stringBytes (stringToUtf16 text)).size + 4 + 6) ≤ R.slots) (hlocks : meth.locks = false) :
    ∃ (S : State) (q : Addr) (ce : Cell), (∀ target, Steps p.tables e below ((S.setTop g).pushFrame (.throwing q)) target → Steps p.tables e below ((W.setTop g).pushFrame (.throwNew cls (some text) none)) target) ∧
      Stand p l e R s m₀ args below meth c S locs (cells + 3) (slots + ((stringBytes (stringToUtf16 text)).size + 4 + 6)) ∧ S.heap[q]? = some ce ∧ s.vm.findClass cls = some ce.cls ∧ ce.vm = .none := by
  have howns : e.platform.frameOwnsMonitors = true := by rw [X.admits.platform]
  have hfin : e.platform.finalization = false := by rw [X.admits.platform]
  have hpl : e.platform.magicAccessors = ({} : Platform).magicAccessors := by rw [X.admits.platform]
  have a : ∀ x, x ∈ Bundle.messageArmAtoms cls names → x.holds args s none s [] = true := fun x hx => h x hx
  obtain ⟨T, Z0, L, -, Y⟩ := ThrowableC.of_atoms (args := args) howns hfin hpl (fun x hx => h x (by simp [Bundle.messageArmAtoms, hx]))
  obtain ⟨Z, M, LZ, LM, hnZ⟩ := Init0T.ofS_atoms (args := args) hpl L Y (fun x hx => h x (by simp [Bundle.messageArmAtoms, hx]))
  obtain ⟨P1, Ps, hlen, L1, hL, hP1m, hlink1, hlink⟩ := Bundle.chainS (args := args) hpl hnZ names cls hcls hnames (fun x hx => h x (by simp [Bundle.messageArmAtoms, hx]))
  obtain ⟨Zs, LZs, hn4, hfitv, hfitc⟩ := StringT.of_atoms (args := args) (fun x hx => h x (by simp [Bundle.messageArmAtoms, hx]))
  have hfound : s.vm.findClass cls = some P1.m.cls := findClass_of_methodNamed hP1m
  obtain ⟨c1, kX, hc1, hk, hord, -, -, hn6⟩ := Cond.instantiable_spec (a (.instantiable cls 6) (by simp [Bundle.messageArmAtoms]))
  cases Option.some.inj (hc1.symm.trans hfound)
  have hinit := Cond.initialized_spec hfound hk (a (.initialized cls) (by simp [Bundle.messageArmAtoms]))
  have hctor : kX.findMethod "<init>" "(Ljava/lang/String;)V" = some P1.m.idx := findMethod_of_methodNamed hP1m hk
  have hsel0 : selectMethod e.platform s.vm P1.m.cls T.fill0 = .method T.fill0 := by
    obtain ⟨c2, r2, m2, q1, q2, q3, q4, -⟩ := Cond.selects_spec (a (.selects cls Bundle.tFill0 Bundle.tFill0) (by simp [Bundle.messageArmAtoms]))
    cases Option.some.inj (q1.symm.trans hfound)
    cases Option.some.inj (q2.symm.trans (State.methodFound?_of_named Y.fill0 (by decide)))
    cases Option.some.inj (q3.symm.trans Y.fill0)
    rw [Launch.admits_selectMethod X.admits]; exact q4
  have hselF : selectMethod e.platform s.vm P1.m.cls T.fill = .method T.fill := by
    obtain ⟨c2, r2, m2, q1, q2, q3, q4, -⟩ := Cond.selects_spec (a (.selects cls Bundle.tFill Bundle.tFill) (by simp [Bundle.messageArmAtoms]))
    cases Option.some.inj (q1.symm.trans hfound)
    cases Option.some.inj (q2.symm.trans (State.methodFound?_of_named Y.fill (by decide)))
    cases Option.some.inj (q3.symm.trans Y.fill)
    rw [Launch.admits_selectMethod X.admits]; exact q4
  obtain ⟨cellS0, hcS0, hiss⟩ := Y.statics
  obtain ⟨u0, hu0⟩ := Cond.staticRefV Y.unassigned L.unassignedStatic L.statics hcS0 hiss (a (.isRef (.static Bundle.tN "UNASSIGNED_STACK" Bundle.steD)) (by simp [Bundle.messageArmAtoms]))
  obtain ⟨sen, hsen⟩ := Cond.staticRefV Y.sentinel L.sentinelStatic L.statics hcS0 hiss (a (.isRef (.static Bundle.tN "SUPPRESSED_SENTINEL" Bundle.listD)) (by simp [Bundle.messageArmAtoms]))
  obtain ⟨ci198, i198, fB, hk198, hg198, ha198, hsB, -, hnB, htB, hffB⟩ := Cond.ownField (t := .object "java/lang/Object") Y.found L.cls (by decide +kernel) (a (.fieldLink Bundle.tN 198 Bundle.tN "backtrace" "Ljava/lang/Object;") (by simp [Bundle.messageArmAtoms])) (a (.lays Bundle.tN Bundle.tN "backtrace" "Ljava/lang/Object;") (by simp [Bundle.messageArmAtoms])) e.platform hpl
  obtain ⟨cellS, hcS', heS, -, hkeep⟩ := X.same.2.2.2.2.2 T.aS cellS0 hcS0
  have hcellS : W.heap[T.aS]? = some cellS := hcS'
  have hout' : ∀ i, (⟨T.aS, i⟩ : Loc) ∉ locs := fun i hmem => by
    have := hlocs _ hmem cellS0 hcS0
    rw [hiss] at this; cases this
  have hknownS : cellS.vm ≠ .unknown := by
    rw [heS]; intro hu
    rw [show cellS0.vm = .unknown from hu] at hiss
    cases hiss
  have hvU : cellS.slots[T.fUnassigned.slot]? = some u0.v := by rw [hkeep _ (hout' _)]; exact hu0
  have hvSen : cellS.slots[T.fSentinel.slot]? = some sen.v := by rw [hkeep _ (hout' _)]; exact hsen
  obtain ⟨iM, hffM⟩ := Y.msg
  obtain ⟨tyC, dC, hdC, hdnC⟩ := Cond.laysAt hfound hk Y.cause (a (.lays cls Bundle.tN "cause" "Ljava/lang/Throwable;") (by simp [Bundle.messageArmAtoms]))
  obtain ⟨tyS, dS, hdS, hdnS⟩ := Cond.laysAt hfound hk Y.stack (a (.lays cls Bundle.tN "stackTrace" Bundle.steD) (by simp [Bundle.messageArmAtoms]))
  obtain ⟨tyP, dP, hdP, hdnP⟩ := Cond.laysAt hfound hk Y.supp (a (.lays cls Bundle.tN "suppressedExceptions" Bundle.listD) (by simp [Bundle.messageArmAtoms]))
  obtain ⟨tyM, dM, hdM, hdnM⟩ := Cond.laysAt hfound hk hffM (a (.lays cls Bundle.tN "detailMessage" "Ljava/lang/String;") (by simp [Bundle.messageArmAtoms]))
  obtain ⟨tyB, dB, hdB, hdnB⟩ := Cond.laysAt hfound hk hffB (a (.lays cls Bundle.tN "backtrace" "Ljava/lang/Object;") (by simp [Bundle.messageArmAtoms]))
  have bC := Cond.laysApart hdB hdC hdnB hdnC (by rw [hnB, Y.causeName]; decide)
  have bS := Cond.laysApart hdB hdS hdnB hdnS (by rw [hnB, Y.stackName]; decide)
  have bP := Cond.laysApart hdB hdP hdnB hdnP (by rw [hnB, Y.suppName]; decide)
  have hbk : ((preparedCellV T.toThrowableT (freshCell P1.m.cls kX) (W.heap.size + 2) u0 sen).withEntry W.cur).slots[fB.slot]? = some .null := by
    have := fresh_default (c := P1.m.cls) tyB
    rw [htB] at this
    simpa [preparedCellV, Cell.setSlot, Cell.withEntry, Array.getElem?_setIfInBounds, bC, bS, bP, bC.symm, bS.symm, bP.symm, defaultValue] using this
  have tkC := Takes.of_laid (v := .ref (W.heap.size + 2)) hk hord tyC (by rw [Y.causeType]; rfl)
  have tkS := Takes.of_laid (v := u0.v) hk hord tyS (by rw [Y.stackType]; exact fits_refV_array _ u0)
  have tkP := Takes.of_laid (v := sen.v) hk hord tyP (by rw [Y.suppType]; exact fits_refV_object _ sen)
  have tkM := Takes.of_laid (v := .ref (W.heap.size + 1)) hk hord tyM (by rw [Y.msgType]; rfl)
  have hskip : SkipFacts T e.platform s (fun u => u) u0 ((preparedCellV T.toThrowableT (freshCell P1.m.cls kX) (W.heap.size + 2) u0 sen).withEntry W.cur) := ⟨{ ci198 := ci198, i198 := i198, fBack := fB }, ⟨hk198, hg198, ha198, hsB⟩, hbk, fun _ _ => rfl⟩
  have h0 : At W g.method c below := by rw [hg]; exact X.here
  obtain ⟨hbeyond, hfreeW⟩ := X.vmMayThrow hsize (.throwNew cls (some text) none) (fun f hf => by cases hf) rfl hRlocals
  have hfr' : W.frames.length + Ps.length + 4 < (e.platform.stackLimits W.me).1 := by have := X.framesAbove hRframes; omega
  have hwd' : (stackUse (.java g :: W.frames.tail)).2 + 13 * Ps.length + 55 ≤ (e.platform.stackLimits W.me).2 := by have := X.stackAbove hsize (K := 13 * Ps.length + 55) (by omega); omega
  have hslots : W.slotsUsed + (stringBytes (stringToUtf16 text)).size + Zs.kS.instanceTypes.size + kX.instanceTypes.size ≤ e.platform.maxSlots := by
    have := X.slotsAbove hRslots
    rw [hn4, hn6]
    omega
  obtain ⟨vm', hW', st⟩ := Steps.vmThrowsMessageColdByV p (s₀ := s) (S := W) (g := g) h0 hexec T L Z LZ M LM X.warmed (t := W.cur) rfl Zs LZs P1 L1 Ps hL hlink1 hlink hsoe hoom hfound hk hinit hord hctor
    (Launch.admits_hotImplicitExceptions X.admits) hbeyond hfreeW htext hlimit hheap (X.cellsAbove hRcells) hslots (hfitv _) (hfitc _)
    (Nn := fun u => u) heapOnly_id (fun _ _ => rfl) (fun _ => rfl) (fun u x y => setCell_twice _ _ _ _) (fun _ => Nat.le_refl _) (cN := ((preparedCellV T.toThrowableT (freshCell P1.m.cls kX) (W.heap.size + 2) u0 sen).withEntry W.cur))
    hsel0 hcellS hknownS hvU tkS (fun _ hu => hu) (fun _ hu => hu) rfl rfl rfl (by simp [preparedCellV, Cell.setSlot, Cell.withEntry]) hskip (fun _ _ hA hW _ hroom _ hrest => L.nativeOff p htr hA hW hroom hrest) hselF hvSen tkC tkP tkM Y.objLocals rfl hfr' hwd'
  rw [plainBareV_eq T.toThrowableT (W.heap.size + 2) u0 sen (.ref (W.heap.size + 1)) W.cur rfl rfl] at st
  obtain ⟨-, -, w3, w4, -, -, -⟩ := withThrown_facts e.platform W Zs text P1.m.cls kX
  have X3 := ((X.pushed (bytesOf Zs.cB (stringToUtf16 text))).pushed (stringAt Zs.cS Zs.kS Zs.fv Zs.fc (stringToUtf16 text) W.heap.size)).pushed (freshCell P1.m.cls kX)
  rw [← withString_eq] at X3
  have X4 := X3.noted hW'
  have ha : (W.heap.size + 2) < ((withThrown W Zs text P1.m.cls kX).setVm vm').heap.size := by show _ < (withThrown W Zs text P1.m.cls kX).heap.size; rw [w3]; omega
  have hcell : ((withThrown W Zs text P1.m.cls kX).setVm vm').heap[(W.heap.size + 2)]? = some (freshCell P1.m.cls kX) := w4
  have X5 := ((((X4.stored hcell T.fCause.slot (.ref (W.heap.size + 2))).storedAgain ha T.fStack.slot u0.v).storedAgain ha T.fSupp.slot sen.v).storedAgain ha T.fStack.slot u0.v).storedAgain ha T.fMsg.slot (.ref (W.heap.size + 1))
  obtain ⟨g₁, hfrM⟩ := X5.frames_eq
  have hU : ((((withThrown W Zs text P1.m.cls kX).setVm vm').setCell (W.heap.size + 2) (plainBareV T.toThrowableT (freshCell P1.m.cls kX) (W.heap.size + 2) u0 sen (.ref (W.heap.size + 1)))).setTop g).pushFrame (.throwing (W.heap.size + 2)) = (((withThrown W Zs text P1.m.cls kX).setVm vm').setCell (W.heap.size + 2) (plainBareV T.toThrowableT (freshCell P1.m.cls kX) (W.heap.size + 2) u0 sen (.ref (W.heap.size + 1)))).setFrames (.throwing (W.heap.size + 2) :: .java g :: below) := by
    rw [State.pushFrame, State.frames_setTop _ hfrM, State.setTop_of_frames _ hfrM, State.setFrames_setFrames]
  have b1 : (bytesOf Zs.cB (stringToUtf16 text)).slots.size = (stringBytes (stringToUtf16 text)).size := by
    rw [(Cell.writeAll_facts _ _).2.2]; simp [bytes0]
  have b2 : (stringAt Zs.cS Zs.kS Zs.fv Zs.fc (stringToUtf16 text) W.heap.size).slots.size = 4 := by simp [string0, Cell.setSlot, hn4]
  have b3 : (freshCell P1.m.cls kX).slots.size = 6 := by simp [hn6]
  rw [b1, b2, b3] at X5
  have e9 : slots + (stringBytes (stringToUtf16 text)).size + 4 + 6 = slots + ((stringBytes (stringToUtf16 text)).size + 4 + 6) := by omega
  rw [e9] at X5
  simp only [List.append_assoc, List.cons_append, List.nil_append] at X5
  refine ⟨((withThrown W Zs text P1.m.cls kX).setVm vm').setCell (W.heap.size + 2) (plainBareV T.toThrowableT (freshCell P1.m.cls kX) (W.heap.size + 2) u0 sen (.ref (W.heap.size + 1))), W.heap.size + 2, _, fun target ht => st _ (by rw [X.tail, ← hU]; exact ht),
    X5.forget (fun y hy => ?_), heapAt_setCell_self _ ha, hfound, rfl⟩
  simp only [List.mem_cons, List.not_mem_nil, or_false] at hy
  have hge : s.heap.size ≤ W.heap.size := X.same.2.1
  rcases hy with rfl | rfl | rfl | rfl | rfl <;> exact Nat.le_trans hge (Nat.le_add_right _ 2)
set_option maxHeartbeats 1000000 in
/-- the machine throws NullPointerException, no traces kept: from its note over the frame g to 'throwing' over the same frame (follows the proof of Stand.vmThrowsNpe, Shelf42/KT2.lean; throwsNpeColdBareVAt, Shelf42/NT91.lean, called) -/
theorem vx_npeAt {p : Program} {l : Launch} {e : Env} {R : Room} {s : State} {m₀ : MethodId} {args : Array Value} {below : List Frame} {meth : Method} {c : Code} {W : State} {locs : List Loc} {cells slots : Nat}
    (X : Stand p l e R s m₀ args below meth c W locs cells slots) (hexec : p.tables.exec = Jvm.exec) (htr : e.platform.stackTraces = false) {n : Nat}
    (h : ∀ a ∈ Bundle.npeArmAtoms n, a.before args s = true)
    (hlocs : ∀ x ∈ locs, ∀ cell, s.heap[x.base]? = some cell → cell.vm.isStatics = false)
    {g : JFrame} (hg : g.method = m₀) (hsize : g.locals.size = c.maxLocals)
    (hRframes : 7 < R.frames) (hRlocals : 2 * g.monitorRoom + (g.stack.map fun v => v.category).sum + 10240 ≤ R.locals)
    (hRcells : cells + 1 ≤ R.cells) (hRslots : slots + n ≤ R.slots) (hlocks : meth.locks = false) :
    ∃ (S : State) (q : Addr) (ce : Cell), (∀ target, Steps p.tables e below ((S.setTop g).pushFrame (.throwing q)) target → Steps p.tables e below ((W.setTop g).pushFrame (.throwNew "java/lang/NullPointerException" none none)) target) ∧
      Stand p l e R s m₀ args below meth c S locs (cells + 1) (slots + n) ∧ S.heap[q]? = some ce ∧ s.vm.findClass "java/lang/NullPointerException" = some ce.cls ∧ ce.vm = .none := by
  have howns : e.platform.frameOwnsMonitors = true := by rw [X.admits.platform]
  have hfin : e.platform.finalization = false := by rw [X.admits.platform]
  have hpl : e.platform.magicAccessors = ({} : Platform).magicAccessors := by rw [X.admits.platform]
  have hpl2 : e.platform.arrayCloneIsPublic = true := by rw [X.admits.platform]
  have a' : ∀ x, x ∈ Bundle.npeArmAtoms n → x.holds args s none s [] = true := fun x hx => h x hx
  obtain ⟨T, Z, L, LZ, Y⟩ := ThrowableC.of_atoms (args := args) howns hfin hpl (fun x hx => h x (by simp [Bundle.npeArmAtoms, hx]))
  obtain ⟨N, LN, hcN, hnNF, hordN, hffS⟩ := NpeC.of_atoms (args := args) hpl hpl2 L Y (fun x hx => h x (by simp [Bundle.npeArmAtoms, hx]))
  obtain ⟨P1, L1, hP1m, hP1s⟩ := PassC.of_atoms (args := args) (s := s) hpl (X := Bundle.nN) (Y := Bundle.rN) (by decide) (by decide) LibCode.NullPointerException.Init0.at_0 LibCode.NullPointerException.Init0.at_1 LibCode.NullPointerException.Init0.at_4 (fun x hx => h x (by simp [Bundle.npeArmAtoms, hx]))
  obtain ⟨PR, LR, hPRm, hPRs⟩ := PassC.of_atoms (args := args) (s := s) hpl (X := Bundle.rN) (Y := Bundle.eN) (by decide) (by decide) LibCode.RuntimeException.Init0.at_0 LibCode.RuntimeException.Init0.at_1 LibCode.RuntimeException.Init0.at_4 (fun x hx => h x (by simp [Bundle.npeArmAtoms, hx]))
  obtain ⟨PE, LEx, hPEm, hPEs⟩ := PassC.of_atoms (args := args) (s := s) hpl (X := Bundle.eN) (Y := Bundle.tN) (by decide) (by decide) LibCode.Exception.Init0.at_0 LibCode.Exception.Init0.at_1 LibCode.Exception.Init0.at_4 (fun x hx => h x (by simp [Bundle.npeArmAtoms, hx]))
  have hfound : s.vm.findClass Bundle.nN = some P1.m.cls := findClass_of_methodNamed hP1m
  have ecls : N.cN = P1.m.cls := Option.some.inj (hcN.symm.trans hfound)
  have hk : s.vm.classes[P1.m.cls]? = some N.kN := by rw [← ecls]; exact LN.cls
  have hinit := Cond.initialized_spec hfound hk (a' (.initialized Bundle.nN) (by simp [Bundle.npeArmAtoms]))
  have hctor : N.kN.findMethod "<init>" "()V" = some P1.m.idx := findMethod_of_methodNamed hP1m hk
  obtain ⟨c1, k1, hc1, hk1, -, -, -, hn⟩ := Cond.instantiable_spec (a' (.instantiable Bundle.nN n) (by simp [Bundle.npeArmAtoms]))
  cases Option.some.inj (hc1.symm.trans hfound)
  cases Option.some.inj (hk1.symm.trans hk)
  have hfsz : (freshCell P1.m.cls N.kN).slots.size = n := by simp [hn]
  have hlink1 : P1.sup = PR.m := Option.some.inj (hP1s.symm.trans hPRm)
  have hlinkR : PR.sup = PE.m := Option.some.inj (hPRs.symm.trans hPEm)
  have hlinkE : PE.sup = Z.m T.toThrowableT := Option.some.inj (hPEs.symm.trans Y.init0)
  have hLs : ∀ P, P ∈ [PR, PE] → P.Links0 e.platform s := fun P hP => by
    simp only [List.mem_cons, List.not_mem_nil, or_false] at hP
    rcases hP with rfl | rfl
    · exact LR
    · exact LEx
  have hsel0 : selectMethod e.platform s.vm P1.m.cls T.fill0 = .method T.fill0 := by
    obtain ⟨c2, r2, m2, q1, q2, q3, q4, -⟩ := Cond.selects_spec (a' (.selects Bundle.nN Bundle.tFill0 Bundle.tFill0) (by simp [Bundle.npeArmAtoms]))
    cases Option.some.inj (q1.symm.trans hfound)
    cases Option.some.inj (q2.symm.trans (State.methodFound?_of_named Y.fill0 (by decide)))
    cases Option.some.inj (q3.symm.trans Y.fill0)
    rw [Launch.admits_selectMethod X.admits]; exact q4
  have hselF : selectMethod e.platform s.vm P1.m.cls T.fill = .method N.fill := by
    obtain ⟨c2, r2, m2, q1, q2, q3, q4, -⟩ := Cond.selects_spec (a' (.selects Bundle.nN Bundle.tFill Bundle.nFill) (by simp [Bundle.npeArmAtoms]))
    cases Option.some.inj (q1.symm.trans hfound)
    cases Option.some.inj (q2.symm.trans (State.methodFound?_of_named Y.fill (by decide)))
    cases Option.some.inj (q3.symm.trans hnNF)
    rw [Launch.admits_selectMethod X.admits]; exact q4
  obtain ⟨cellS0, hcS0, hiss⟩ := Y.statics
  obtain ⟨u0, hu0⟩ := Cond.staticRefV Y.unassigned L.unassignedStatic L.statics hcS0 hiss (a' (.isRef (.static Bundle.tN "UNASSIGNED_STACK" Bundle.steD)) (by simp [Bundle.npeArmAtoms]))
  obtain ⟨sen, hsen⟩ := Cond.staticRefV Y.sentinel L.sentinelStatic L.statics hcS0 hiss (a' (.isRef (.static Bundle.tN "SUPPRESSED_SENTINEL" Bundle.listD)) (by simp [Bundle.npeArmAtoms]))
  obtain ⟨ci198, i198, fB, hk198, hg198, ha198, hsB, -, hnB, htB, hffB⟩ := Cond.ownField (t := .object "java/lang/Object") Y.found L.cls (by decide +kernel) (a' (.fieldLink Bundle.tN 198 Bundle.tN "backtrace" Bundle.objD) (by simp [Bundle.npeArmAtoms])) (a' (.lays Bundle.tN Bundle.tN "backtrace" Bundle.objD) (by simp [Bundle.npeArmAtoms])) e.platform hpl
  obtain ⟨cellS, hcS', heS, -, hkeep⟩ := X.same.2.2.2.2.2 T.aS cellS0 hcS0
  have hcellS : W.heap[T.aS]? = some cellS := hcS'
  have hout' : ∀ i, (⟨T.aS, i⟩ : Loc) ∉ locs := fun i hmem => by
    have := hlocs _ hmem cellS0 hcS0
    rw [hiss] at this; cases this
  have hknownS : cellS.vm ≠ .unknown := by
    rw [heS]; intro hu
    rw [show cellS0.vm = .unknown from hu] at hiss
    cases hiss
  have hvU : cellS.slots[T.fUnassigned.slot]? = some u0.v := by rw [hkeep _ (hout' _)]; exact hu0
  have hvSen : cellS.slots[T.fSentinel.slot]? = some sen.v := by rw [hkeep _ (hout' _)]; exact hsen
  obtain ⟨tyC, dC, hdC, hdnC⟩ := Cond.laysAt hfound hk Y.cause (a' (.lays Bundle.nN Bundle.tN "cause" "Ljava/lang/Throwable;") (by simp [Bundle.npeArmAtoms]))
  obtain ⟨tyS, dS, hdS, hdnS⟩ := Cond.laysAt hfound hk Y.stack (a' (.lays Bundle.nN Bundle.tN "stackTrace" Bundle.steD) (by simp [Bundle.npeArmAtoms]))
  obtain ⟨tyP, dP, hdP, hdnP⟩ := Cond.laysAt hfound hk Y.supp (a' (.lays Bundle.nN Bundle.tN "suppressedExceptions" Bundle.listD) (by simp [Bundle.npeArmAtoms]))
  obtain ⟨tyX, dX, hdX, hdnX⟩ := Cond.laysAt hfound hk hffS (a' (.lays Bundle.nN Bundle.nN "extendedMessageState" "I") (by simp [Bundle.npeArmAtoms, Bundle.npeAtoms]))
  obtain ⟨hnX, htX⟩ := State.fieldFound?_type hffS (t := .int) (by decide +kernel)
  have xC := Cond.laysApart hdC hdX hdnC hdnX (by rw [hnX, Y.causeName]; decide)
  have xS := Cond.laysApart hdS hdX hdnS hdnX (by rw [hnX, Y.stackName]; decide)
  have xP := Cond.laysApart hdP hdX hdnP hdnX (by rw [hnX, Y.suppName]; decide)
  have hv0 : (freshCell P1.m.cls N.kN).slots[N.fState.slot]? = some (.int 0) := by
    have := fresh_default (c := P1.m.cls) tyX
    rw [htX] at this; exact this
  obtain ⟨tyB, dB, hdB, hdnB⟩ := Cond.laysAt hfound hk hffB (a' (.lays Bundle.nN Bundle.tN "backtrace" Bundle.objD) (by simp [Bundle.npeArmAtoms]))
  have bC := Cond.laysApart hdB hdC hdnB hdnC (by rw [hnB, Y.causeName]; decide)
  have bS := Cond.laysApart hdB hdS hdnB hdnS (by rw [hnB, Y.stackName]; decide)
  have bP := Cond.laysApart hdB hdP hdnB hdnP (by rw [hnB, Y.suppName]; decide)
  have bX := Cond.laysApart hdB hdX hdnB hdnX (by rw [hnB, hnX]; decide)
  have hbk : ((npeCell N.toNpeT (preparedCellV T.toThrowableT (freshCell P1.m.cls N.kN) W.heap.size u0 sen) W.cur).withEntry W.cur).slots[fB.slot]? = some .null := by
    have := fresh_default (c := P1.m.cls) tyB
    rw [htB] at this
    simpa [npeCell, preparedCellV, Cell.setSlot, Cell.withEntry, Array.getElem?_setIfInBounds, bC, bS, bP, bX, bC.symm, bS.symm, bP.symm, bX.symm, defaultValue] using this
  have tkC := Takes.of_laid (v := .ref W.heap.size) hk hordN tyC (by rw [Y.causeType]; rfl)
  have tkS := Takes.of_laid (v := u0.v) hk hordN tyS (by rw [Y.stackType]; exact fits_refV_array _ u0)
  have tkP := Takes.of_laid (v := sen.v) hk hordN tyP (by rw [Y.suppType]; exact fits_refV_object _ sen)
  have tkX := Takes.of_laid (v := .int 1) hk hordN tyX (by rw [htX]; rfl)
  have hskip : SkipFacts T e.platform s (fun u => u) u0 ((npeCell N.toNpeT (preparedCellV T.toThrowableT (freshCell P1.m.cls N.kN) W.heap.size u0 sen) W.cur).withEntry W.cur) := ⟨{ ci198 := ci198, i198 := i198, fBack := fB }, ⟨hk198, hg198, ha198, hsB⟩, hbk, fun _ _ => rfl⟩
  obtain ⟨vm', X3, st, -⟩ := X.throwsNpeColdBareVAt hexec hg hsize T L Z LZ N LN P1 L1 [PR, PE] hLs hlink1 ⟨hlinkR, hlinkE, trivial⟩ hfound hk hinit hordN hctor hsel0 hselF hcellS hknownS hvU hvSen
    hv0 xC xS xP tkC tkS tkP tkX Y.objLocals hskip (fun _ _ hA hW _ hroom _ hrest => L.nativeOff p htr hA hW hroom hrest) (by simpa using hRframes) hRlocals (by simp) hRcells (by rw [hn]; exact hRslots)
  have hlt : W.heap.size < ((W.pushCell (freshCell P1.m.cls N.kN)).setVm vm').heap.size := by
    show W.heap.size < (W.pushCell (freshCell P1.m.cls N.kN)).heap.size
    rw [State.heap_size_pushCell]; omega
  rw [hfsz] at X3
  obtain ⟨g₁, hfrM⟩ := X3.frames_eq
  have hU : ((((W.pushCell (freshCell P1.m.cls N.kN)).setVm vm').setCell W.heap.size (npeBareV T.toThrowableT N.toNpeT (freshCell P1.m.cls N.kN) W.heap.size u0 sen)).setTop g).pushFrame (.throwing W.heap.size) = (((W.pushCell (freshCell P1.m.cls N.kN)).setVm vm').setCell W.heap.size (npeBareV T.toThrowableT N.toNpeT (freshCell P1.m.cls N.kN) W.heap.size u0 sen)).setFrames (.throwing W.heap.size :: .java g :: below) := by
    rw [State.pushFrame, State.frames_setTop _ hfrM, State.setTop_of_frames _ hfrM, State.setFrames_setFrames]
  refine ⟨_, W.heap.size, _, fun target ht => st.trans (by rw [← hU]; exact ht), X3.forget (fun y hy => ?_), heapAt_setCell_self _ hlt, hfound, rfl⟩
  simp only [List.mem_cons, List.not_mem_nil, or_false] at hy
  have hge : s.heap.size ≤ W.heap.size := X.same.2.1
  rcases hy with rfl | rfl | rfl | rfl | rfl <;> exact hge
/-- the words of a machine's NullPointerException, but the four that speak of the heap -/
def vx_atN (n : Nat) : List Cond := (Bundle.npeArmAtoms n).filter vx_no
/-- the words of a machine's throw with a message, but the four that speak of the heap -/
def vx_atM (X : String) (names : List String) : List Cond := (Bundle.messageArmAtoms X names).filter vx_no
section
variable {p : Program} {l : Launch} {e : Env} {R : Room} {s : State} {m : MethodId} {args : Array Value} {below : List Frame} {meth : Method} {c : Code} {H : Heap} {locs : List Loc} {cells slots : Nat}
/-- a frame seen from a rebased start, seen from the first start again -/
theorem vx_back9 {T S : State} {R' : Room} {k n : Nat} (X : Stand p l e R s m args below meth c T locs cells slots) (Y : Stand p l e R' ((T.setVm s.vm).setFrames (.invoking m args :: below)) m args below meth c T [] 0 0) (Z : Stand p l e R' ((T.setVm s.vm).setFrames (.invoking m args :: below)) m args below meth c S [] k n) :
    Stand p l e R s m args below meth c S locs (cells + k) (slots + n) := by
  have hW0 : s.WarmedH ((T.setVm s.vm).setFrames (.invoking m args :: below)).vm := State.WarmedH.refl s
  refine { admits := X.admits, cas := X.cas, clock := X.clock, frames := X.frames, room := X.room, hears := X.hears, method := X.method, code := X.code, here := Z.here, tail := Z.tail, warmed := State.WarmedH.trans hW0 Z.warmed, limits := Z.limits.trans (Y.limits.symm.trans X.limits), bytes := Z.bytes.trans (Y.bytes.symm.trans X.bytes), same := ?_ }
  obtain ⟨e1, e2⟩ := Z.same
  rw [State.setFrames_setFrames] at e1
  have h2 : (T.setVm s.vm).sameButNew (S.setVm s.vm) [] k n := ⟨e1, e2⟩
  have h3 := X.same.trans h2
  rw [List.append_nil] at h3
  exact h3
/-- from the machine's note that E is thrown here with this text -/
def vx_Note (p : Program) (l : Launch) (e : Env) (R : Room) (s : State) (m : MethodId) (args : Array Value) (below : List Frame) (meth : Method) (c : Code) (H : Heap) (locs : List Loc) (cells slots : Nat) (Q : State → Prop) (g : JFrame) (E text : String) : Prop :=
  ∀ T : State, T.heap = H → Stand p l e R s m args below meth c T locs cells slots → ∃ t, Steps p.tables e below ((T.setTop g).pushFrame (.throwNew E (some text) none)) t ∧ Q t
theorem vx_vm {pc : Nat} {ls : Array Slot} {rest : List Value} {Q : State → Prop} (hexec : p.tables.exec = Jvm.exec) (hl : l.stackTraces = false) {cls text : String} {names : List String} {nb : Nat} {A : Nat → Prop}
    (hcls : Bundle.fit cls = true) (hnames : ∀ n ∈ names, Bundle.fit n = true) (hsoe : (cls == "java/lang/StackOverflowError") = false) (hoom : (cls == "java/lang/OutOfMemoryError") = false)
    (hat : ∀ w ∈ vx_atM cls names, w.before args s = true) (hgood : ∀ w ∈ vx_atM cls names, vx_ot w = true)
    (hU : vx_Zq Bundle.tN "UNASSIGNED_STACK" Bundle.steD A s s.heap) (hN : vx_Zq Bundle.tN "SUPPRESSED_SENTINEL" Bundle.listD A s s.heap) (hS : va_S A s.heap H locs) (hsize : ls.size = c.maxLocals)
    (htext : (text == notModelled) = false) (hnb : (stringBytes (stringToUtf16 text)).size ≤ nb) (hnb1 : nb ≤ 1000)
    (hRframes : names.length + 4 < R.frames) (hRlocals : (rest.map fun v => v.category).sum + 10240 ≤ R.locals) (hshort : 13 * names.length + 55 ≤ 10240) (hRcells : cells + 3 ≤ R.cells) (hRslots : slots + (nb + 10) ≤ R.slots) (hlocks : meth.locks = false)
    (k : ∀ (H1 : Heap) (q9 : Addr) (ce : Cell), H.size ≤ H1.size → (∀ q : Nat, q < H.size → H1[q]? = H[q]?) → va_S A s.heap H1 locs → H1[q9]? = some ce → ce.vm = .none → s.vm.findClass cls = some ce.cls → vx_W p l e R s m args below meth c H1 locs (cells + 3) (slots + (nb + 10)) Q (F0 m pc ls rest) q9) :
    vx_Note p l e R s m args below meth c H locs cells slots Q (F0 m pc ls rest) cls text := by
  intro T hT X
  have htr : e.platform.stackTraces = false := (show e.platform.stackTraces = l.stackTraces by rw [X.admits.platform]).trans hl
  have Y := vx_rebase X (R' := { frames := R.frames, locals := R.locals, cells := 3, slots := nb + 10 }) (Nat.le_refl _) (Nat.le_refl _) hRcells hRslots
  have hhp : ((T.setVm s.vm).setFrames (.invoking m args :: below)).heap = H := hT
  have hW0 : s.WarmedH ((T.setVm s.vm).setFrames (.invoking m args :: below)).vm := State.WarmedH.refl s
  have hat' : ∀ w ∈ vx_atM cls names, w.before args ((T.setVm s.vm).setFrames (.invoking m args :: below)) = true := fun w hw => vx_ot_at hW0 rfl (hgood w hw) (hat w hw)
  have hU' : vx_Zq Bundle.tN "UNASSIGNED_STACK" Bundle.steD A ((T.setVm s.vm).setFrames (.invoking m args :: below)) ((T.setVm s.vm).setFrames (.invoking m args :: below)).heap := by rw [hhp]; exact vx_Zq.moved hW0.alike (hU.kept hS.2.1)
  have hN' : vx_Zq Bundle.tN "SUPPRESSED_SENTINEL" Bundle.listD A ((T.setVm s.vm).setFrames (.invoking m args :: below)) ((T.setVm s.vm).setFrames (.invoking m args :: below)).heap := by rw [hhp]; exact vx_Zq.moved hW0.alike (hN.kept hS.2.1)
  obtain ⟨S, q, ce, st, Z, hce, hcl', hv⟩ := vx_vmAt Y hexec htr (cls := cls) (names := names) (text := text) hcls hnames hsoe hoom (vx_own hat' (vx_isRefq hU'.1) (vx_isRefq hN'.1) hU'.2.word hN'.2.word) (fun x hx => nomatch hx) htext
    (by rw [Launch.admits_arrayLengthLimit X.admits]; omega) (by rw [Launch.admits_maxHeapBytes X.admits]; simp only [componentBytes]; omega)
    (g := F0 m pc ls rest) rfl hsize hRframes (by show 2 * 0 + (rest.map fun v => v.category).sum + 10240 ≤ R.locals; omega) hshort (by show 0 + 3 ≤ 3; omega) (by show 0 + (_ + 4 + 6) ≤ nb + 10; omega) hlocks
  obtain ⟨f1, f2⟩ := vx_frame Z.same
  have f1' : H.size ≤ S.heap.size := by rw [← hT]; exact f1
  have f2' : ∀ q : Nat, q < H.size → S.heap[q]? = H[q]? := fun q hq => by
    rw [← hT]
    exact f2 q (by rw [← hT] at hq; exact hq) (fun z hz => nomatch hz)
  have X5 := vx_back9 X Y Z
  have X6 : Stand p l e R s m args below meth c S locs (cells + 3) (slots + (nb + 10)) := { X5 with same := X5.same.mono (by omega) (by omega) }
  obtain ⟨t, a1, b1⟩ := k S.heap q ce f1' f2' ⟨Nat.le_trans hS.1 f1', fun q h1 h2 => (f2' q (Nat.lt_of_lt_of_le h1 hS.1)).trans (hS.2.1 q h1 h2), hS.2.2⟩ hce hv hcl' S rfl X6
  exact ⟨t, st t a1, b1⟩
/-- from the machine's note that NullPointerException is thrown here -/
def vx_NoteN (p : Program) (l : Launch) (e : Env) (R : Room) (s : State) (m : MethodId) (args : Array Value) (below : List Frame) (meth : Method) (c : Code) (H : Heap) (locs : List Loc) (cells slots : Nat) (Q : State → Prop) (g : JFrame) : Prop :=
  ∀ T : State, T.heap = H → Stand p l e R s m args below meth c T locs cells slots → ∃ t, Steps p.tables e below ((T.setTop g).pushFrame (.throwNew "java/lang/NullPointerException" none none)) t ∧ Q t
theorem vx_npe {pc : Nat} {ls : Array Slot} {rest : List Value} {Q : State → Prop} (hexec : p.tables.exec = Jvm.exec) (hl : l.stackTraces = false) {nb : Nat} {A : Nat → Prop}
    (hat : ∀ w ∈ vx_atN nb, w.before args s = true) (hgood : ∀ w ∈ vx_atN nb, vx_ot w = true)
    (hU : vx_Zq Bundle.tN "UNASSIGNED_STACK" Bundle.steD A s s.heap) (hN : vx_Zq Bundle.tN "SUPPRESSED_SENTINEL" Bundle.listD A s s.heap) (hS : va_S A s.heap H locs) (hsize : ls.size = c.maxLocals)
    (hRframes : 7 < R.frames) (hRlocals : (rest.map fun v => v.category).sum + 10240 ≤ R.locals) (hRcells : cells + 1 ≤ R.cells) (hRslots : slots + nb ≤ R.slots) (hlocks : meth.locks = false)
    (k : ∀ (H1 : Heap) (q9 : Addr) (ce : Cell), H.size ≤ H1.size → (∀ q : Nat, q < H.size → H1[q]? = H[q]?) → va_S A s.heap H1 locs → H1[q9]? = some ce → ce.vm = .none → s.vm.findClass "java/lang/NullPointerException" = some ce.cls → vx_W p l e R s m args below meth c H1 locs (cells + 1) (slots + nb) Q (F0 m pc ls rest) q9) :
    vx_NoteN p l e R s m args below meth c H locs cells slots Q (F0 m pc ls rest) := by
  intro T hT X
  have htr : e.platform.stackTraces = false := (show e.platform.stackTraces = l.stackTraces by rw [X.admits.platform]).trans hl
  have Y := vx_rebase X (R' := { frames := R.frames, locals := R.locals, cells := 1, slots := nb }) (Nat.le_refl _) (Nat.le_refl _) hRcells hRslots
  have hhp : ((T.setVm s.vm).setFrames (.invoking m args :: below)).heap = H := hT
  have hW0 : s.WarmedH ((T.setVm s.vm).setFrames (.invoking m args :: below)).vm := State.WarmedH.refl s
  have hat' : ∀ w ∈ vx_atN nb, w.before args ((T.setVm s.vm).setFrames (.invoking m args :: below)) = true := fun w hw => vx_ot_at hW0 rfl (hgood w hw) (hat w hw)
  have hU' : vx_Zq Bundle.tN "UNASSIGNED_STACK" Bundle.steD A ((T.setVm s.vm).setFrames (.invoking m args :: below)) ((T.setVm s.vm).setFrames (.invoking m args :: below)).heap := by rw [hhp]; exact vx_Zq.moved hW0.alike (hU.kept hS.2.1)
  have hN' : vx_Zq Bundle.tN "SUPPRESSED_SENTINEL" Bundle.listD A ((T.setVm s.vm).setFrames (.invoking m args :: below)) ((T.setVm s.vm).setFrames (.invoking m args :: below)).heap := by rw [hhp]; exact vx_Zq.moved hW0.alike (hN.kept hS.2.1)
  obtain ⟨S, q, ce, st, Z, hce, hcl', hv⟩ := vx_npeAt Y hexec htr (n := nb) (vx_own hat' (vx_isRefq hU'.1) (vx_isRefq hN'.1) hU'.2.word hN'.2.word) (fun x hx => nomatch hx)
    (g := F0 m pc ls rest) rfl hsize hRframes (by show 2 * 0 + (rest.map fun v => v.category).sum + 10240 ≤ R.locals; omega) (by show 0 + 1 ≤ 1; omega) (by show 0 + nb ≤ nb; omega) hlocks
  obtain ⟨f1, f2⟩ := vx_frame Z.same
  have f1' : H.size ≤ S.heap.size := by rw [← hT]; exact f1
  have f2' : ∀ q : Nat, q < H.size → S.heap[q]? = H[q]? := fun q hq => by
    rw [← hT]
    exact f2 q (by rw [← hT] at hq; exact hq) (fun z hz => nomatch hz)
  have X5 := vx_back9 X Y Z
  have X6 : Stand p l e R s m args below meth c S locs (cells + 1) (slots + nb) := { X5 with same := X5.same.mono (by omega) (by omega) }
  obtain ⟨t, a1, b1⟩ := k S.heap q ce f1' f2' ⟨Nat.le_trans hS.1 f1', fun q h1 h2 => (f2' q (Nat.lt_of_lt_of_le h1 hS.1)).trans (hS.2.1 q h1 h2), hS.2.2⟩ hce hv hcl' S rfl X6
  exact ⟨t, st t a1, b1⟩
variable {Q : State → Prop} {cc : ByteArray} {pc : Nat} {ls : Array Slot} {rest : List Value}
theorem vx_idivZ (hexec : p.tables.exec = Jvm.exec) (hb : c.code = cc) {a b : Int32} (h0 : b = 0) (d : decode cc pc = .ok (.idiv, 1)) (k : vx_Note p l e R s m args below meth c H locs cells slots Q (F0 m pc ls rest) "java/lang/ArithmeticException" "/ by zero") :
    W p l e R s m args below meth c H locs cells slots Q (F0 m pc ls (.int b :: .int a :: rest)) := by
  intro T hT X
  obtain ⟨t, st, q⟩ := k T hT X
  exact ⟨t, X.idivZero hexec (g := F0 m pc ls (.int b :: .int a :: rest)) rfl (a := a) (rest := rest) (by rw [h0]) (by rw [hb]; exact d) t st, q⟩
theorem vx_iremZ (hexec : p.tables.exec = Jvm.exec) (hb : c.code = cc) {a b : Int32} (h0 : b = 0) (d : decode cc pc = .ok (.irem, 1)) (k : vx_Note p l e R s m args below meth c H locs cells slots Q (F0 m pc ls rest) "java/lang/ArithmeticException" "/ by zero") :
    W p l e R s m args below meth c H locs cells slots Q (F0 m pc ls (.int b :: .int a :: rest)) := by
  intro T hT X
  obtain ⟨t, st, q⟩ := k T hT X
  exact ⟨t, X.iremZero hexec (g := F0 m pc ls (.int b :: .int a :: rest)) rfl (a := a) (rest := rest) (by rw [h0]) (by rw [hb]; exact d) t st, q⟩
theorem vx_ldivZ (hexec : p.tables.exec = Jvm.exec) (hb : c.code = cc) {a b : Int64} (h0 : b = 0) (d : decode cc pc = .ok (.ldiv, 1)) (k : vx_Note p l e R s m args below meth c H locs cells slots Q (F0 m pc ls rest) "java/lang/ArithmeticException" "/ by zero") :
    W p l e R s m args below meth c H locs cells slots Q (F0 m pc ls (.long b :: .long a :: rest)) := by
  intro T hT X
  obtain ⟨t, st, q⟩ := k T hT X
  exact ⟨t, X.ldivZero hexec (g := F0 m pc ls (.long b :: .long a :: rest)) rfl (a := a) (rest := rest) (by rw [h0]) (by rw [hb]; exact d) t st, q⟩
theorem vx_lremZ (hexec : p.tables.exec = Jvm.exec) (hb : c.code = cc) {a b : Int64} (h0 : b = 0) (d : decode cc pc = .ok (.lrem, 1)) (k : vx_Note p l e R s m args below meth c H locs cells slots Q (F0 m pc ls rest) "java/lang/ArithmeticException" "/ by zero") :
    W p l e R s m args below meth c H locs cells slots Q (F0 m pc ls (.long b :: .long a :: rest)) := by
  intro T hT X
  obtain ⟨t, st, q⟩ := k T hT X
  exact ⟨t, X.lremZero hexec (g := F0 m pc ls (.long b :: .long a :: rest)) rfl (a := a) (rest := rest) (by rw [h0]) (by rw [hb]; exact d) t st, q⟩
theorem vx_ialdZ {D : va_G} {cl : List vw_C} {ws : va_W} {tys : List (ClassId × FieldType)} {a : Nat} (hexec : p.tables.exec = Jvm.exec) (hb : c.code = cc) (hK : va_K D cl tys s) (hP : va_P D cl ws H) (q0 t0 : Nat) {cA : ClassId} {n : Nat} {f : Nat → Int32} (ha : ws[q0]? = some (a, .inl (cA, n, .inl f))) (ht : tys[t0]? = some (cA, .int)) {i : Int32} (hout : ¬ vp_in i n) (hdg : decode cc pc = .ok (.iaload, 1))
    (k : ∀ tx : String, tx = (toString "Index " ++ toString i ++ toString " out of bounds for length " ++ toString n : String) → vx_Note p l e R s m args below meth c H locs cells slots Q (F0 m pc ls rest) "java/lang/ArrayIndexOutOfBoundsException" tx) : W p l e R s m args below meth c H locs cells slots Q (F0 m pc ls (.int i :: .ref a :: rest)) := by
  intro T hT X
  obtain ⟨t, st, q⟩ := k _ rfl T hT X
  refine ⟨t, ?_, q⟩
  have h1 := X.ialoadOut hexec (by rw [hT]; exact hP q0 _ ha) ((hK.2 t0 _ ht).1 n (fun j => .int (f j))) (j := i) (by show (i < 0 ∨ (arrV _ _ _).slots.size ≤ _); rw [arrV_size]; exact Classical.byContradiction hout) (g := F0 m pc ls (.int i :: .ref a :: rest)) rfl (rest := rest) rfl (by rw [hb]; exact hdg) t
  simp only [arrV_size] at h1
  exact h1 st
theorem vx_iastZ {D : va_G} {cl : List vw_C} {ws : va_W} {tys : List (ClassId × FieldType)} {a : Nat} (hexec : p.tables.exec = Jvm.exec) (hb : c.code = cc) (hK : va_K D cl tys s) (hP : va_P D cl ws H) (q0 t0 : Nat) {cA : ClassId} {n : Nat} {f : Nat → Int32} (ha : ws[q0]? = some (a, .inl (cA, n, .inl f))) (ht : tys[t0]? = some (cA, .int)) {i : Int32} {x : Int32} (hout : ¬ vp_in i n) (hdg : decode cc pc = .ok (.iastore, 1))
    (k : ∀ tx : String, tx = (toString "Index " ++ toString i ++ toString " out of bounds for length " ++ toString n : String) → vx_Note p l e R s m args below meth c H locs cells slots Q (F0 m pc ls rest) "java/lang/ArrayIndexOutOfBoundsException" tx) : W p l e R s m args below meth c H locs cells slots Q (F0 m pc ls (.int x :: .int i :: .ref a :: rest)) := by
  intro T hT X
  obtain ⟨t, st, q⟩ := k _ rfl T hT X
  refine ⟨t, ?_, q⟩
  have h1 := X.iastoreOut hexec (by rw [hT]; exact hP q0 _ ha) ((hK.2 t0 _ ht).1 n (fun j => .int (f j))) (j := i) (by show (i < 0 ∨ (arrV _ _ _).slots.size ≤ _); rw [arrV_size]; exact Classical.byContradiction hout) (g := F0 m pc ls (.int x :: .int i :: .ref a :: rest)) rfl (rest := rest) rfl (by rw [hb]; exact hdg) t
  simp only [arrV_size] at h1
  exact h1 st
theorem vx_baldZ {D : va_G} {cl : List vw_C} {ws : va_W} {tys : List (ClassId × FieldType)} {a : Nat} (hexec : p.tables.exec = Jvm.exec) (hb : c.code = cc) (hK : va_K D cl tys s) (hP : va_P D cl ws H) (q0 t0 : Nat) {cA : ClassId} {n : Nat} {f : Nat → Int32} (ha : ws[q0]? = some (a, .inl (cA, n, .inl f))) (ht : tys[t0]? = some (cA, .byte)) {i : Int32} (hout : ¬ vp_in i n) (hdg : decode cc pc = .ok (.baload, 1))
    (k : ∀ tx : String, tx = (toString "Index " ++ toString i ++ toString " out of bounds for length " ++ toString n : String) → vx_Note p l e R s m args below meth c H locs cells slots Q (F0 m pc ls rest) "java/lang/ArrayIndexOutOfBoundsException" tx) : W p l e R s m args below meth c H locs cells slots Q (F0 m pc ls (.int i :: .ref a :: rest)) := by
  intro T hT X
  obtain ⟨t, st, q⟩ := k _ rfl T hT X
  refine ⟨t, ?_, q⟩
  have h1 := X.baloadOut hexec (by rw [hT]; exact hP q0 _ ha) ((hK.2 t0 _ ht).1 n (fun j => .int (f j))) (j := i) (by show (i < 0 ∨ (arrV _ _ _).slots.size ≤ _); rw [arrV_size]; exact Classical.byContradiction hout) (g := F0 m pc ls (.int i :: .ref a :: rest)) rfl (rest := rest) rfl (by rw [hb]; exact hdg) t
  simp only [arrV_size] at h1
  exact h1 st
theorem vx_bastZ {D : va_G} {cl : List vw_C} {ws : va_W} {tys : List (ClassId × FieldType)} {a : Nat} (hexec : p.tables.exec = Jvm.exec) (hb : c.code = cc) (hK : va_K D cl tys s) (hP : va_P D cl ws H) (q0 t0 : Nat) {cA : ClassId} {n : Nat} {f : Nat → Int32} (ha : ws[q0]? = some (a, .inl (cA, n, .inl f))) (ht : tys[t0]? = some (cA, .byte)) {i : Int32} {x : Int32} (hout : ¬ vp_in i n) (hdg : decode cc pc = .ok (.bastore, 1))
    (k : ∀ tx : String, tx = (toString "Index " ++ toString i ++ toString " out of bounds for length " ++ toString n : String) → vx_Note p l e R s m args below meth c H locs cells slots Q (F0 m pc ls rest) "java/lang/ArrayIndexOutOfBoundsException" tx) : W p l e R s m args below meth c H locs cells slots Q (F0 m pc ls (.int x :: .int i :: .ref a :: rest)) := by
  intro T hT X
  obtain ⟨t, st, q⟩ := k _ rfl T hT X
  refine ⟨t, ?_, q⟩
  have h1 := X.bastoreOut hexec (by rw [hT]; exact hP q0 _ ha) ((hK.2 t0 _ ht).1 n (fun j => .int (f j))) (j := i) (by show (i < 0 ∨ (arrV _ _ _).slots.size ≤ _); rw [arrV_size]; exact Classical.byContradiction hout) (g := F0 m pc ls (.int x :: .int i :: .ref a :: rest)) rfl (rest := rest) rfl (by rw [hb]; exact hdg) t
  simp only [arrV_size] at h1
  exact h1 st
theorem vx_zaldZ {D : va_G} {cl : List vw_C} {ws : va_W} {tys : List (ClassId × FieldType)} {a : Nat} (hexec : p.tables.exec = Jvm.exec) (hb : c.code = cc) (hK : va_K D cl tys s) (hP : va_P D cl ws H) (q0 t0 : Nat) {cA : ClassId} {n : Nat} {f : Nat → Int32} (ha : ws[q0]? = some (a, .inl (cA, n, .inl f))) (ht : tys[t0]? = some (cA, .boolean)) {i : Int32} (hout : ¬ vp_in i n) (hdg : decode cc pc = .ok (.baload, 1))
    (k : ∀ tx : String, tx = (toString "Index " ++ toString i ++ toString " out of bounds for length " ++ toString n : String) → vx_Note p l e R s m args below meth c H locs cells slots Q (F0 m pc ls rest) "java/lang/ArrayIndexOutOfBoundsException" tx) : W p l e R s m args below meth c H locs cells slots Q (F0 m pc ls (.int i :: .ref a :: rest)) := by
  intro T hT X
  obtain ⟨t, st, q⟩ := k _ rfl T hT X
  refine ⟨t, ?_, q⟩
  have h1 := X.baloadOut hexec (by rw [hT]; exact hP q0 _ ha) ((hK.2 t0 _ ht).1 n (fun j => .int (f j))) (j := i) (by show (i < 0 ∨ (arrV _ _ _).slots.size ≤ _); rw [arrV_size]; exact Classical.byContradiction hout) (g := F0 m pc ls (.int i :: .ref a :: rest)) rfl (rest := rest) rfl (by rw [hb]; exact hdg) t
  simp only [arrV_size] at h1
  exact h1 st
theorem vx_zastZ {D : va_G} {cl : List vw_C} {ws : va_W} {tys : List (ClassId × FieldType)} {a : Nat} (hexec : p.tables.exec = Jvm.exec) (hb : c.code = cc) (hK : va_K D cl tys s) (hP : va_P D cl ws H) (q0 t0 : Nat) {cA : ClassId} {n : Nat} {f : Nat → Int32} (ha : ws[q0]? = some (a, .inl (cA, n, .inl f))) (ht : tys[t0]? = some (cA, .boolean)) {i : Int32} {x : Int32} (hout : ¬ vp_in i n) (hdg : decode cc pc = .ok (.bastore, 1))
    (k : ∀ tx : String, tx = (toString "Index " ++ toString i ++ toString " out of bounds for length " ++ toString n : String) → vx_Note p l e R s m args below meth c H locs cells slots Q (F0 m pc ls rest) "java/lang/ArrayIndexOutOfBoundsException" tx) : W p l e R s m args below meth c H locs cells slots Q (F0 m pc ls (.int x :: .int i :: .ref a :: rest)) := by
  intro T hT X
  obtain ⟨t, st, q⟩ := k _ rfl T hT X
  refine ⟨t, ?_, q⟩
  have h1 := X.bastoreOut hexec (by rw [hT]; exact hP q0 _ ha) ((hK.2 t0 _ ht).1 n (fun j => .int (f j))) (j := i) (by show (i < 0 ∨ (arrV _ _ _).slots.size ≤ _); rw [arrV_size]; exact Classical.byContradiction hout) (g := F0 m pc ls (.int x :: .int i :: .ref a :: rest)) rfl (rest := rest) rfl (by rw [hb]; exact hdg) t
  simp only [arrV_size] at h1
  exact h1 st
theorem vx_caldZ {D : va_G} {cl : List vw_C} {ws : va_W} {tys : List (ClassId × FieldType)} {a : Nat} (hexec : p.tables.exec = Jvm.exec) (hb : c.code = cc) (hK : va_K D cl tys s) (hP : va_P D cl ws H) (q0 t0 : Nat) {cA : ClassId} {n : Nat} {f : Nat → Int32} (ha : ws[q0]? = some (a, .inl (cA, n, .inl f))) (ht : tys[t0]? = some (cA, .char)) {i : Int32} (hout : ¬ vp_in i n) (hdg : decode cc pc = .ok (.caload, 1))
    (k : ∀ tx : String, tx = (toString "Index " ++ toString i ++ toString " out of bounds for length " ++ toString n : String) → vx_Note p l e R s m args below meth c H locs cells slots Q (F0 m pc ls rest) "java/lang/ArrayIndexOutOfBoundsException" tx) : W p l e R s m args below meth c H locs cells slots Q (F0 m pc ls (.int i :: .ref a :: rest)) := by
  intro T hT X
  obtain ⟨t, st, q⟩ := k _ rfl T hT X
  refine ⟨t, ?_, q⟩
  have h1 := X.caloadOut hexec (by rw [hT]; exact hP q0 _ ha) ((hK.2 t0 _ ht).1 n (fun j => .int (f j))) (j := i) (by show (i < 0 ∨ (arrV _ _ _).slots.size ≤ _); rw [arrV_size]; exact Classical.byContradiction hout) (g := F0 m pc ls (.int i :: .ref a :: rest)) rfl (rest := rest) rfl (by rw [hb]; exact hdg) t
  simp only [arrV_size] at h1
  exact h1 st
theorem vx_castZ {D : va_G} {cl : List vw_C} {ws : va_W} {tys : List (ClassId × FieldType)} {a : Nat} (hexec : p.tables.exec = Jvm.exec) (hb : c.code = cc) (hK : va_K D cl tys s) (hP : va_P D cl ws H) (q0 t0 : Nat) {cA : ClassId} {n : Nat} {f : Nat → Int32} (ha : ws[q0]? = some (a, .inl (cA, n, .inl f))) (ht : tys[t0]? = some (cA, .char)) {i : Int32} {x : Int32} (hout : ¬ vp_in i n) (hdg : decode cc pc = .ok (.castore, 1))
    (k : ∀ tx : String, tx = (toString "Index " ++ toString i ++ toString " out of bounds for length " ++ toString n : String) → vx_Note p l e R s m args below meth c H locs cells slots Q (F0 m pc ls rest) "java/lang/ArrayIndexOutOfBoundsException" tx) : W p l e R s m args below meth c H locs cells slots Q (F0 m pc ls (.int x :: .int i :: .ref a :: rest)) := by
  intro T hT X
  obtain ⟨t, st, q⟩ := k _ rfl T hT X
  refine ⟨t, ?_, q⟩
  have h1 := X.castoreOut hexec (by rw [hT]; exact hP q0 _ ha) ((hK.2 t0 _ ht).1 n (fun j => .int (f j))) (j := i) (by show (i < 0 ∨ (arrV _ _ _).slots.size ≤ _); rw [arrV_size]; exact Classical.byContradiction hout) (g := F0 m pc ls (.int x :: .int i :: .ref a :: rest)) rfl (rest := rest) rfl (by rw [hb]; exact hdg) t
  simp only [arrV_size] at h1
  exact h1 st
theorem vx_saldZ {D : va_G} {cl : List vw_C} {ws : va_W} {tys : List (ClassId × FieldType)} {a : Nat} (hexec : p.tables.exec = Jvm.exec) (hb : c.code = cc) (hK : va_K D cl tys s) (hP : va_P D cl ws H) (q0 t0 : Nat) {cA : ClassId} {n : Nat} {f : Nat → Int32} (ha : ws[q0]? = some (a, .inl (cA, n, .inl f))) (ht : tys[t0]? = some (cA, .short)) {i : Int32} (hout : ¬ vp_in i n) (hdg : decode cc pc = .ok (.saload, 1))
    (k : ∀ tx : String, tx = (toString "Index " ++ toString i ++ toString " out of bounds for length " ++ toString n : String) → vx_Note p l e R s m args below meth c H locs cells slots Q (F0 m pc ls rest) "java/lang/ArrayIndexOutOfBoundsException" tx) : W p l e R s m args below meth c H locs cells slots Q (F0 m pc ls (.int i :: .ref a :: rest)) := by
  intro T hT X
  obtain ⟨t, st, q⟩ := k _ rfl T hT X
  refine ⟨t, ?_, q⟩
  have h1 := X.saloadOut hexec (by rw [hT]; exact hP q0 _ ha) ((hK.2 t0 _ ht).1 n (fun j => .int (f j))) (j := i) (by show (i < 0 ∨ (arrV _ _ _).slots.size ≤ _); rw [arrV_size]; exact Classical.byContradiction hout) (g := F0 m pc ls (.int i :: .ref a :: rest)) rfl (rest := rest) rfl (by rw [hb]; exact hdg) t
  simp only [arrV_size] at h1
  exact h1 st
theorem vx_sastZ {D : va_G} {cl : List vw_C} {ws : va_W} {tys : List (ClassId × FieldType)} {a : Nat} (hexec : p.tables.exec = Jvm.exec) (hb : c.code = cc) (hK : va_K D cl tys s) (hP : va_P D cl ws H) (q0 t0 : Nat) {cA : ClassId} {n : Nat} {f : Nat → Int32} (ha : ws[q0]? = some (a, .inl (cA, n, .inl f))) (ht : tys[t0]? = some (cA, .short)) {i : Int32} {x : Int32} (hout : ¬ vp_in i n) (hdg : decode cc pc = .ok (.sastore, 1))
    (k : ∀ tx : String, tx = (toString "Index " ++ toString i ++ toString " out of bounds for length " ++ toString n : String) → vx_Note p l e R s m args below meth c H locs cells slots Q (F0 m pc ls rest) "java/lang/ArrayIndexOutOfBoundsException" tx) : W p l e R s m args below meth c H locs cells slots Q (F0 m pc ls (.int x :: .int i :: .ref a :: rest)) := by
  intro T hT X
  obtain ⟨t, st, q⟩ := k _ rfl T hT X
  refine ⟨t, ?_, q⟩
  have h1 := X.sastoreOut hexec (by rw [hT]; exact hP q0 _ ha) ((hK.2 t0 _ ht).1 n (fun j => .int (f j))) (j := i) (by show (i < 0 ∨ (arrV _ _ _).slots.size ≤ _); rw [arrV_size]; exact Classical.byContradiction hout) (g := F0 m pc ls (.int x :: .int i :: .ref a :: rest)) rfl (rest := rest) rfl (by rw [hb]; exact hdg) t
  simp only [arrV_size] at h1
  exact h1 st
theorem vx_laldZ {D : va_G} {cl : List vw_C} {ws : va_W} {tys : List (ClassId × FieldType)} {a : Nat} (hexec : p.tables.exec = Jvm.exec) (hb : c.code = cc) (hK : va_K D cl tys s) (hP : va_P D cl ws H) (q0 t0 : Nat) {cA : ClassId} {n : Nat} {f : Nat → Int64} (ha : ws[q0]? = some (a, .inl (cA, n, .inr (.inl f)))) (ht : tys[t0]? = some (cA, .long)) {i : Int32} (hout : ¬ vp_in i n) (hdg : decode cc pc = .ok (.laload, 1))
    (k : ∀ tx : String, tx = (toString "Index " ++ toString i ++ toString " out of bounds for length " ++ toString n : String) → vx_Note p l e R s m args below meth c H locs cells slots Q (F0 m pc ls rest) "java/lang/ArrayIndexOutOfBoundsException" tx) : W p l e R s m args below meth c H locs cells slots Q (F0 m pc ls (.int i :: .ref a :: rest)) := by
  intro T hT X
  obtain ⟨t, st, q⟩ := k _ rfl T hT X
  refine ⟨t, ?_, q⟩
  have h1 := X.laloadOut hexec (by rw [hT]; exact hP q0 _ ha) ((hK.2 t0 _ ht).1 n (fun j => .long (f j))) (j := i) (by show (i < 0 ∨ (arrV _ _ _).slots.size ≤ _); rw [arrV_size]; exact Classical.byContradiction hout) (g := F0 m pc ls (.int i :: .ref a :: rest)) rfl (rest := rest) rfl (by rw [hb]; exact hdg) t
  simp only [arrV_size] at h1
  exact h1 st
theorem vx_lastZ {D : va_G} {cl : List vw_C} {ws : va_W} {tys : List (ClassId × FieldType)} {a : Nat} (hexec : p.tables.exec = Jvm.exec) (hb : c.code = cc) (hK : va_K D cl tys s) (hP : va_P D cl ws H) (q0 t0 : Nat) {cA : ClassId} {n : Nat} {f : Nat → Int64} (ha : ws[q0]? = some (a, .inl (cA, n, .inr (.inl f)))) (ht : tys[t0]? = some (cA, .long)) {i : Int32} {x : Int64} (hout : ¬ vp_in i n) (hdg : decode cc pc = .ok (.lastore, 1))
    (k : ∀ tx : String, tx = (toString "Index " ++ toString i ++ toString " out of bounds for length " ++ toString n : String) → vx_Note p l e R s m args below meth c H locs cells slots Q (F0 m pc ls rest) "java/lang/ArrayIndexOutOfBoundsException" tx) : W p l e R s m args below meth c H locs cells slots Q (F0 m pc ls (.long x :: .int i :: .ref a :: rest)) := by
  intro T hT X
  obtain ⟨t, st, q⟩ := k _ rfl T hT X
  refine ⟨t, ?_, q⟩
  have h1 := X.lastoreOut hexec (by rw [hT]; exact hP q0 _ ha) ((hK.2 t0 _ ht).1 n (fun j => .long (f j))) (j := i) (by show (i < 0 ∨ (arrV _ _ _).slots.size ≤ _); rw [arrV_size]; exact Classical.byContradiction hout) (g := F0 m pc ls (.long x :: .int i :: .ref a :: rest)) rfl (rest := rest) rfl (by rw [hb]; exact hdg) t
  simp only [arrV_size] at h1
  exact h1 st
theorem vx_faldZ {D : va_G} {cl : List vw_C} {ws : va_W} {tys : List (ClassId × FieldType)} {a : Nat} (hexec : p.tables.exec = Jvm.exec) (hb : c.code = cc) (hK : va_K D cl tys s) (hP : va_P D cl ws H) (q0 t0 : Nat) {cA : ClassId} {n : Nat} {f : Nat → UInt32} (ha : ws[q0]? = some (a, .inl (cA, n, .inr (.inr (.inl f))))) (ht : tys[t0]? = some (cA, .float)) {i : Int32} (hout : ¬ vp_in i n) (hdg : decode cc pc = .ok (.faload, 1))
    (k : ∀ tx : String, tx = (toString "Index " ++ toString i ++ toString " out of bounds for length " ++ toString n : String) → vx_Note p l e R s m args below meth c H locs cells slots Q (F0 m pc ls rest) "java/lang/ArrayIndexOutOfBoundsException" tx) : W p l e R s m args below meth c H locs cells slots Q (F0 m pc ls (.int i :: .ref a :: rest)) := by
  intro T hT X
  obtain ⟨t, st, q⟩ := k _ rfl T hT X
  refine ⟨t, ?_, q⟩
  have h1 := X.faloadOut hexec (by rw [hT]; exact hP q0 _ ha) ((hK.2 t0 _ ht).1 n (fun j => .float (f j))) (j := i) (by show (i < 0 ∨ (arrV _ _ _).slots.size ≤ _); rw [arrV_size]; exact Classical.byContradiction hout) (g := F0 m pc ls (.int i :: .ref a :: rest)) rfl (rest := rest) rfl (by rw [hb]; exact hdg) t
  simp only [arrV_size] at h1
  exact h1 st
theorem vx_fastZ {D : va_G} {cl : List vw_C} {ws : va_W} {tys : List (ClassId × FieldType)} {a : Nat} (hexec : p.tables.exec = Jvm.exec) (hb : c.code = cc) (hK : va_K D cl tys s) (hP : va_P D cl ws H) (q0 t0 : Nat) {cA : ClassId} {n : Nat} {f : Nat → UInt32} (ha : ws[q0]? = some (a, .inl (cA, n, .inr (.inr (.inl f))))) (ht : tys[t0]? = some (cA, .float)) {i : Int32} {x : UInt32} (hout : ¬ vp_in i n) (hdg : decode cc pc = .ok (.fastore, 1))
    (k : ∀ tx : String, tx = (toString "Index " ++ toString i ++ toString " out of bounds for length " ++ toString n : String) → vx_Note p l e R s m args below meth c H locs cells slots Q (F0 m pc ls rest) "java/lang/ArrayIndexOutOfBoundsException" tx) : W p l e R s m args below meth c H locs cells slots Q (F0 m pc ls (.float x :: .int i :: .ref a :: rest)) := by
  intro T hT X
  obtain ⟨t, st, q⟩ := k _ rfl T hT X
  refine ⟨t, ?_, q⟩
  have h1 := X.fastoreOut hexec (by rw [hT]; exact hP q0 _ ha) ((hK.2 t0 _ ht).1 n (fun j => .float (f j))) (j := i) (by show (i < 0 ∨ (arrV _ _ _).slots.size ≤ _); rw [arrV_size]; exact Classical.byContradiction hout) (g := F0 m pc ls (.float x :: .int i :: .ref a :: rest)) rfl (rest := rest) rfl (by rw [hb]; exact hdg) t
  simp only [arrV_size] at h1
  exact h1 st
theorem vx_daldZ {D : va_G} {cl : List vw_C} {ws : va_W} {tys : List (ClassId × FieldType)} {a : Nat} (hexec : p.tables.exec = Jvm.exec) (hb : c.code = cc) (hK : va_K D cl tys s) (hP : va_P D cl ws H) (q0 t0 : Nat) {cA : ClassId} {n : Nat} {f : Nat → UInt64} (ha : ws[q0]? = some (a, .inl (cA, n, .inr (.inr (.inr (.inl f)))))) (ht : tys[t0]? = some (cA, .double)) {i : Int32} (hout : ¬ vp_in i n) (hdg : decode cc pc = .ok (.daload, 1))
    (k : ∀ tx : String, tx = (toString "Index " ++ toString i ++ toString " out of bounds for length " ++ toString n : String) → vx_Note p l e R s m args below meth c H locs cells slots Q (F0 m pc ls rest) "java/lang/ArrayIndexOutOfBoundsException" tx) : W p l e R s m args below meth c H locs cells slots Q (F0 m pc ls (.int i :: .ref a :: rest)) := by
  intro T hT X
  obtain ⟨t, st, q⟩ := k _ rfl T hT X
  refine ⟨t, ?_, q⟩
  have h1 := X.daloadOut hexec (by rw [hT]; exact hP q0 _ ha) ((hK.2 t0 _ ht).1 n (fun j => .double (f j))) (j := i) (by show (i < 0 ∨ (arrV _ _ _).slots.size ≤ _); rw [arrV_size]; exact Classical.byContradiction hout) (g := F0 m pc ls (.int i :: .ref a :: rest)) rfl (rest := rest) rfl (by rw [hb]; exact hdg) t
  simp only [arrV_size] at h1
  exact h1 st
theorem vx_dastZ {D : va_G} {cl : List vw_C} {ws : va_W} {tys : List (ClassId × FieldType)} {a : Nat} (hexec : p.tables.exec = Jvm.exec) (hb : c.code = cc) (hK : va_K D cl tys s) (hP : va_P D cl ws H) (q0 t0 : Nat) {cA : ClassId} {n : Nat} {f : Nat → UInt64} (ha : ws[q0]? = some (a, .inl (cA, n, .inr (.inr (.inr (.inl f)))))) (ht : tys[t0]? = some (cA, .double)) {i : Int32} {x : UInt64} (hout : ¬ vp_in i n) (hdg : decode cc pc = .ok (.dastore, 1))
    (k : ∀ tx : String, tx = (toString "Index " ++ toString i ++ toString " out of bounds for length " ++ toString n : String) → vx_Note p l e R s m args below meth c H locs cells slots Q (F0 m pc ls rest) "java/lang/ArrayIndexOutOfBoundsException" tx) : W p l e R s m args below meth c H locs cells slots Q (F0 m pc ls (.double x :: .int i :: .ref a :: rest)) := by
  intro T hT X
  obtain ⟨t, st, q⟩ := k _ rfl T hT X
  refine ⟨t, ?_, q⟩
  have h1 := X.dastoreOut hexec (by rw [hT]; exact hP q0 _ ha) ((hK.2 t0 _ ht).1 n (fun j => .double (f j))) (j := i) (by show (i < 0 ∨ (arrV _ _ _).slots.size ≤ _); rw [arrV_size]; exact Classical.byContradiction hout) (g := F0 m pc ls (.double x :: .int i :: .ref a :: rest)) rfl (rest := rest) rfl (by rw [hb]; exact hdg) t
  simp only [arrV_size] at h1
  exact h1 st
theorem vx_arraylengthN (hexec : p.tables.exec = Jvm.exec) (hb : c.code = cc) (hdg : decode cc pc = .ok (.arraylength, 1)) (k : vx_NoteN p l e R s m args below meth c H locs cells slots Q (F0 m pc ls rest)) : W p l e R s m args below meth c H locs cells slots Q (F0 m pc ls (.null :: rest)) := by
  intro T hT X
  obtain ⟨t, st, q⟩ := k T hT X
  exact ⟨t, X.arraylengthNull hexec (g := F0 m pc ls (.null :: rest)) rfl (rest := rest) rfl (by rw [hb]; exact hdg) t st, q⟩
theorem vx_ialoadN (hexec : p.tables.exec = Jvm.exec) (hb : c.code = cc) {i : Int32} (hdg : decode cc pc = .ok (.iaload, 1)) (k : vx_NoteN p l e R s m args below meth c H locs cells slots Q (F0 m pc ls rest)) : W p l e R s m args below meth c H locs cells slots Q (F0 m pc ls (.int i :: .null :: rest)) := by
  intro T hT X
  obtain ⟨t, st, q⟩ := k T hT X
  exact ⟨t, X.ialoadNull hexec (g := F0 m pc ls (.int i :: .null :: rest)) rfl (rest := rest) rfl (by rw [hb]; exact hdg) t st, q⟩
theorem vx_laloadN (hexec : p.tables.exec = Jvm.exec) (hb : c.code = cc) {i : Int32} (hdg : decode cc pc = .ok (.laload, 1)) (k : vx_NoteN p l e R s m args below meth c H locs cells slots Q (F0 m pc ls rest)) : W p l e R s m args below meth c H locs cells slots Q (F0 m pc ls (.int i :: .null :: rest)) := by
  intro T hT X
  obtain ⟨t, st, q⟩ := k T hT X
  exact ⟨t, X.laloadNull hexec (g := F0 m pc ls (.int i :: .null :: rest)) rfl (rest := rest) rfl (by rw [hb]; exact hdg) t st, q⟩
theorem vx_faloadN (hexec : p.tables.exec = Jvm.exec) (hb : c.code = cc) {i : Int32} (hdg : decode cc pc = .ok (.faload, 1)) (k : vx_NoteN p l e R s m args below meth c H locs cells slots Q (F0 m pc ls rest)) : W p l e R s m args below meth c H locs cells slots Q (F0 m pc ls (.int i :: .null :: rest)) := by
  intro T hT X
  obtain ⟨t, st, q⟩ := k T hT X
  exact ⟨t, X.faloadNull hexec (g := F0 m pc ls (.int i :: .null :: rest)) rfl (rest := rest) rfl (by rw [hb]; exact hdg) t st, q⟩
theorem vx_daloadN (hexec : p.tables.exec = Jvm.exec) (hb : c.code = cc) {i : Int32} (hdg : decode cc pc = .ok (.daload, 1)) (k : vx_NoteN p l e R s m args below meth c H locs cells slots Q (F0 m pc ls rest)) : W p l e R s m args below meth c H locs cells slots Q (F0 m pc ls (.int i :: .null :: rest)) := by
  intro T hT X
  obtain ⟨t, st, q⟩ := k T hT X
  exact ⟨t, X.daloadNull hexec (g := F0 m pc ls (.int i :: .null :: rest)) rfl (rest := rest) rfl (by rw [hb]; exact hdg) t st, q⟩
theorem vx_aaloadN (hexec : p.tables.exec = Jvm.exec) (hb : c.code = cc) {i : Int32} (hdg : decode cc pc = .ok (.aaload, 1)) (k : vx_NoteN p l e R s m args below meth c H locs cells slots Q (F0 m pc ls rest)) : W p l e R s m args below meth c H locs cells slots Q (F0 m pc ls (.int i :: .null :: rest)) := by
  intro T hT X
  obtain ⟨t, st, q⟩ := k T hT X
  exact ⟨t, X.aaloadNull hexec (g := F0 m pc ls (.int i :: .null :: rest)) rfl (rest := rest) rfl (by rw [hb]; exact hdg) t st, q⟩
theorem vx_baloadN (hexec : p.tables.exec = Jvm.exec) (hb : c.code = cc) {i : Int32} (hdg : decode cc pc = .ok (.baload, 1)) (k : vx_NoteN p l e R s m args below meth c H locs cells slots Q (F0 m pc ls rest)) : W p l e R s m args below meth c H locs cells slots Q (F0 m pc ls (.int i :: .null :: rest)) := by
  intro T hT X
  obtain ⟨t, st, q⟩ := k T hT X
  exact ⟨t, X.baloadNull hexec (g := F0 m pc ls (.int i :: .null :: rest)) rfl (rest := rest) rfl (by rw [hb]; exact hdg) t st, q⟩
theorem vx_caloadN (hexec : p.tables.exec = Jvm.exec) (hb : c.code = cc) {i : Int32} (hdg : decode cc pc = .ok (.caload, 1)) (k : vx_NoteN p l e R s m args below meth c H locs cells slots Q (F0 m pc ls rest)) : W p l e R s m args below meth c H locs cells slots Q (F0 m pc ls (.int i :: .null :: rest)) := by
  intro T hT X
  obtain ⟨t, st, q⟩ := k T hT X
  exact ⟨t, X.caloadNull hexec (g := F0 m pc ls (.int i :: .null :: rest)) rfl (rest := rest) rfl (by rw [hb]; exact hdg) t st, q⟩
theorem vx_saloadN (hexec : p.tables.exec = Jvm.exec) (hb : c.code = cc) {i : Int32} (hdg : decode cc pc = .ok (.saload, 1)) (k : vx_NoteN p l e R s m args below meth c H locs cells slots Q (F0 m pc ls rest)) : W p l e R s m args below meth c H locs cells slots Q (F0 m pc ls (.int i :: .null :: rest)) := by
  intro T hT X
  obtain ⟨t, st, q⟩ := k T hT X
  exact ⟨t, X.saloadNull hexec (g := F0 m pc ls (.int i :: .null :: rest)) rfl (rest := rest) rfl (by rw [hb]; exact hdg) t st, q⟩
theorem vx_iastoreN (hexec : p.tables.exec = Jvm.exec) (hb : c.code = cc) {x : Int32} {i : Int32} (hdg : decode cc pc = .ok (.iastore, 1)) (k : vx_NoteN p l e R s m args below meth c H locs cells slots Q (F0 m pc ls rest)) : W p l e R s m args below meth c H locs cells slots Q (F0 m pc ls (.int x :: .int i :: .null :: rest)) := by
  intro T hT X
  obtain ⟨t, st, q⟩ := k T hT X
  exact ⟨t, X.iastoreNull hexec (g := F0 m pc ls (.int x :: .int i :: .null :: rest)) rfl (rest := rest) rfl (by rw [hb]; exact hdg) t st, q⟩
theorem vx_lastoreN (hexec : p.tables.exec = Jvm.exec) (hb : c.code = cc) {x : Int64} {i : Int32} (hdg : decode cc pc = .ok (.lastore, 1)) (k : vx_NoteN p l e R s m args below meth c H locs cells slots Q (F0 m pc ls rest)) : W p l e R s m args below meth c H locs cells slots Q (F0 m pc ls (.long x :: .int i :: .null :: rest)) := by
  intro T hT X
  obtain ⟨t, st, q⟩ := k T hT X
  exact ⟨t, X.lastoreNull hexec (g := F0 m pc ls (.long x :: .int i :: .null :: rest)) rfl (rest := rest) rfl (by rw [hb]; exact hdg) t st, q⟩
theorem vx_fastoreN (hexec : p.tables.exec = Jvm.exec) (hb : c.code = cc) {x : UInt32} {i : Int32} (hdg : decode cc pc = .ok (.fastore, 1)) (k : vx_NoteN p l e R s m args below meth c H locs cells slots Q (F0 m pc ls rest)) : W p l e R s m args below meth c H locs cells slots Q (F0 m pc ls (.float x :: .int i :: .null :: rest)) := by
  intro T hT X
  obtain ⟨t, st, q⟩ := k T hT X
  exact ⟨t, X.fastoreNull hexec (g := F0 m pc ls (.float x :: .int i :: .null :: rest)) rfl (rest := rest) rfl (by rw [hb]; exact hdg) t st, q⟩
theorem vx_dastoreN (hexec : p.tables.exec = Jvm.exec) (hb : c.code = cc) {x : UInt64} {i : Int32} (hdg : decode cc pc = .ok (.dastore, 1)) (k : vx_NoteN p l e R s m args below meth c H locs cells slots Q (F0 m pc ls rest)) : W p l e R s m args below meth c H locs cells slots Q (F0 m pc ls (.double x :: .int i :: .null :: rest)) := by
  intro T hT X
  obtain ⟨t, st, q⟩ := k T hT X
  exact ⟨t, X.dastoreNull hexec (g := F0 m pc ls (.double x :: .int i :: .null :: rest)) rfl (rest := rest) rfl (by rw [hb]; exact hdg) t st, q⟩
theorem vx_bastoreN (hexec : p.tables.exec = Jvm.exec) (hb : c.code = cc) {x : Int32} {i : Int32} (hdg : decode cc pc = .ok (.bastore, 1)) (k : vx_NoteN p l e R s m args below meth c H locs cells slots Q (F0 m pc ls rest)) : W p l e R s m args below meth c H locs cells slots Q (F0 m pc ls (.int x :: .int i :: .null :: rest)) := by
  intro T hT X
  obtain ⟨t, st, q⟩ := k T hT X
  exact ⟨t, X.bastoreNull hexec (g := F0 m pc ls (.int x :: .int i :: .null :: rest)) rfl (rest := rest) rfl (by rw [hb]; exact hdg) t st, q⟩
theorem vx_castoreN (hexec : p.tables.exec = Jvm.exec) (hb : c.code = cc) {x : Int32} {i : Int32} (hdg : decode cc pc = .ok (.castore, 1)) (k : vx_NoteN p l e R s m args below meth c H locs cells slots Q (F0 m pc ls rest)) : W p l e R s m args below meth c H locs cells slots Q (F0 m pc ls (.int x :: .int i :: .null :: rest)) := by
  intro T hT X
  obtain ⟨t, st, q⟩ := k T hT X
  exact ⟨t, X.castoreNull hexec (g := F0 m pc ls (.int x :: .int i :: .null :: rest)) rfl (rest := rest) rfl (by rw [hb]; exact hdg) t st, q⟩
theorem vx_sastoreN (hexec : p.tables.exec = Jvm.exec) (hb : c.code = cc) {x : Int32} {i : Int32} (hdg : decode cc pc = .ok (.sastore, 1)) (k : vx_NoteN p l e R s m args below meth c H locs cells slots Q (F0 m pc ls rest)) : W p l e R s m args below meth c H locs cells slots Q (F0 m pc ls (.int x :: .int i :: .null :: rest)) := by
  intro T hT X
  obtain ⟨t, st, q⟩ := k T hT X
  exact ⟨t, X.sastoreNull hexec (g := F0 m pc ls (.int x :: .int i :: .null :: rest)) rfl (rest := rest) rfl (by rw [hb]; exact hdg) t st, q⟩
theorem vx_invokeN {own C : String} {index maxL : Nat} {y : MethodName} {bytes : ByteArray} {ret : Option FieldType} (hexec : p.tables.exec = Jvm.exec) (hb : c.code = cc) (hown : s.vm.findClass own = some m.cls) (hlink : (Cond.methodLink own index y).before args s = true) (hinst : (Cond.instanceMethod y).before args s = true) (hcode : (Cond.code y bytes maxL ret).before args s = true) (hsel : (Cond.selects C y y).before args s = true)
    (hx : y.cls ≠ "java/lang/invoke/MethodHandle" ∧ y.cls ≠ "java/lang/invoke/VarHandle") {As : List Value} (hlen : (parseMethodDescriptor y.desc).map (fun d => d.parameters.length) = some As.length) (hdg : decode cc pc = .ok (.invokevirtual index, 3))
    (k : vx_NoteN p l e R s m args below meth c H locs cells slots Q (F0 m pc ls rest)) {st0 : List Value} (hst : st0 = As.reverse ++ .null :: rest) : W p l e R s m args below meth c H locs cells slots Q (F0 m pc ls st0) := by
  intro T hT X
  obtain ⟨r0, r, hn, hrm, hstR, hsigR⟩ := va_Decl.of hinst hcode
  obtain ⟨c2, r2, m2, q1, q2, q3, q4, kP, hkP, hkPi⟩ := Cond.selects_spec hsel
  cases hn.symm.trans q3
  have hl9 : As.length = r.sig.parameters.length := by
    rw [hsigR] at hlen
    exact (Option.some.inj hlen).symm
  obtain ⟨vm', X1, st1⟩ := X.invokevirtualNull hexec hown hlink hn hrm hstR hkP hkPi hx (g := F0 m pc ls st0) rfl (argsL := As) (rest := rest) hl9 hst (by rw [hb]; exact hdg)
  obtain ⟨t, st, q⟩ := k (T.setVm vm') hT X1
  exact ⟨t, st1 t st, q⟩
theorem vx_newarrayZ {atype : ArrayType} (hexec : p.tables.exec = Jvm.exec) (hb : c.code = cc) {n : Int32} (h0 : n < 0) (hdg : decode cc pc = .ok (.newarray atype, 2)) (k : ∀ tx : String, tx = toString n → vx_Note p l e R s m args below meth c H locs cells slots Q (F0 m pc ls rest) "java/lang/NegativeArraySizeException" tx) : W p l e R s m args below meth c H locs cells slots Q (F0 m pc ls (.int n :: rest)) := by
  intro T hT X
  obtain ⟨t, st, q⟩ := k _ rfl T hT X
  exact ⟨t, X.newarrayNegative hexec (g := F0 m pc ls (.int n :: rest)) rfl h0 (rest := rest) rfl (by rw [hb]; exact hdg) t st, q⟩
end
end VXM
/-! ===== END ===== -/
end
section
def RX0 : String := "MarginDesk$History"
def TX0 : u_T := fun k => match k with
  | _ => ("MarginDesk$History", "ranges", "[I", true)
def tyX0 : Nat → FieldType := fun k => match k with
  | _ => .array .int
abbrev wsX00 : List Cond := u_ws RX0 TX0 1
theorem nmX0 : ∀ a, a < 1 → ∀ b, b < 1 → a ≠ b → (TX0 a).2.1 ≠ (TX0 b).2.1 := by decide +kernel
theorem tyX0_ok : ∀ k, k < 1 → parseFieldDescriptor (TX0 k).2.2.1 = some (tyX0 k) := by decide +kernel
abbrev cX0_init : ByteArray := prog_2_method_1_code
def yX0_init : MethodName := ⟨RX0, "<init>", "()V"⟩
abbrev cX0_write : ByteArray := prog_2_method_2_code
def yX0_write : MethodName := ⟨RX0, "write", "(ILMarginDesk$Ranges;)V"⟩
abbrev cX0_rangeAt : ByteArray := prog_2_method_3_code
def yX0_rangeAt : MethodName := ⟨RX0, "rangeAt", "(II)I"⟩
def RX1 : String := "MarginDesk$Quotes"
def TX1 : u_T := fun k => match k with
  | 0 => ("MarginDesk$Quotes", "letters", "[I", true)
  | 1 => ("MarginDesk$Quotes", "sizes", "[I", true)
  | 2 => ("MarginDesk$Quotes", "aheads", "[I", true)
  | _ => ("MarginDesk$Quotes", "behinds", "[I", true)
def tyX1 : Nat → FieldType := fun k => match k with
  | 0 => .array .int
  | 1 => .array .int
  | 2 => .array .int
  | _ => .array .int
abbrev wsX10 : List Cond := u_ws RX1 TX1 4
theorem nmX1 : ∀ a, a < 4 → ∀ b, b < 4 → a ≠ b → (TX1 a).2.1 ≠ (TX1 b).2.1 := by decide +kernel
theorem tyX1_ok : ∀ k, k < 4 → parseFieldDescriptor (TX1 k).2.2.1 = some (tyX1 k) := by decide +kernel
abbrev cX1_init : ByteArray := prog_3_method_1_code
def yX1_init : MethodName := ⟨RX1, "<init>", "()V"⟩
abbrev cX1_keep : ByteArray := prog_3_method_2_code
def yX1_keep : MethodName := ⟨RX1, "keep", "(ILMarginDesk$Text;II)V"⟩
abbrev cX1_sizeOf : ByteArray := prog_3_method_3_code
def yX1_sizeOf : MethodName := ⟨RX1, "sizeOf", "(I)I"⟩
abbrev cX1_bestPlace : ByteArray := prog_3_method_4_code
def yX1_bestPlace : MethodName := ⟨RX1, "bestPlace", "(ILMarginDesk$Text;)I"⟩
abbrev cX1_standsAt : ByteArray := prog_3_method_5_code
def yX1_standsAt : MethodName := ⟨RX1, "standsAt", "(ILMarginDesk$Text;I)Z"⟩
abbrev cX1_fitAt : ByteArray := prog_3_method_6_code
def yX1_fitAt : MethodName := ⟨RX1, "fitAt", "(ILMarginDesk$Text;I)I"⟩
def RX2 : String := "MarginDesk$Ranges"
def TX2 : u_T := fun k => match k with
  | 0 => ("MarginDesk$Ranges", "begins", "[I", true)
  | 1 => ("MarginDesk$Ranges", "ends", "[I", true)
  | 2 => ("MarginDesk$Ranges", "stickiness", "[I", true)
  | _ => ("MarginDesk$Ranges", "count", "I", false)
def tyX2 : Nat → FieldType := fun k => match k with
  | 0 => .array .int
  | 1 => .array .int
  | 2 => .array .int
  | _ => .int
abbrev wsX20 : List Cond := u_ws RX2 TX2 4
theorem nmX2 : ∀ a, a < 4 → ∀ b, b < 4 → a ≠ b → (TX2 a).2.1 ≠ (TX2 b).2.1 := by decide +kernel
theorem tyX2_ok : ∀ k, k < 4 → parseFieldDescriptor (TX2 k).2.2.1 = some (tyX2 k) := by decide +kernel
abbrev cX2_init : ByteArray := prog_4_method_1_code
def yX2_init : MethodName := ⟨RX2, "<init>", "()V"⟩
abbrev cX2_add : ByteArray := prog_4_method_2_code
def yX2_add : MethodName := ⟨RX2, "add", "(III)I"⟩
abbrev cX2_bringBack : ByteArray := prog_4_method_3_code
def yX2_bringBack : MethodName := ⟨RX2, "bringBack", "(III)V"⟩
abbrev cX2_isGone : ByteArray := prog_4_method_4_code
def yX2_isGone : MethodName := ⟨RX2, "isGone", "(I)Z"⟩
abbrev cX2_asNumber : ByteArray := prog_4_method_5_code
def yX2_asNumber : MethodName := ⟨RX2, "asNumber", "(I)I"⟩
abbrev cX2_covering : ByteArray := prog_4_method_6_code
def yX2_covering : MethodName := ⟨RX2, "covering", "(I)I"⟩
abbrev cX2_share : ByteArray := prog_4_method_7_code
def yX2_share : MethodName := ⟨RX2, "share", "(II)Z"⟩
abbrev cX2_moveByInsertion : ByteArray := prog_4_method_8_code
def yX2_moveByInsertion : MethodName := ⟨RX2, "moveByInsertion", "(II)V"⟩
abbrev cX2_behindInsertion : ByteArray := prog_4_method_9_code
def yX2_behindInsertion : MethodName := ⟨RX2, "behindInsertion", "(IIIZ)I"⟩
abbrev cX2_moveByRemoval : ByteArray := prog_4_method_10_code
def yX2_moveByRemoval : MethodName := ⟨RX2, "moveByRemoval", "(II)I"⟩
abbrev cX2_behindRemoval : ByteArray := prog_4_method_11_code
def yX2_behindRemoval : MethodName := ⟨RX2, "behindRemoval", "(III)I"⟩
def RX3 : String := "MarginDesk$Text"
def TX3 : u_T := fun k => match k with
  | 0 => ("MarginDesk$Text", "letters", "[I", true)
  | 1 => ("MarginDesk$Text", "marks", "[I", true)
  | _ => ("MarginDesk$Text", "size", "I", false)
def tyX3 : Nat → FieldType := fun k => match k with
  | 0 => .array .int
  | 1 => .array .int
  | _ => .int
abbrev wsX30 : List Cond := u_ws RX3 TX3 3
theorem nmX3 : ∀ a, a < 3 → ∀ b, b < 3 → a ≠ b → (TX3 a).2.1 ≠ (TX3 b).2.1 := by decide +kernel
theorem tyX3_ok : ∀ k, k < 3 → parseFieldDescriptor (TX3 k).2.2.1 = some (tyX3 k) := by decide +kernel
abbrev cX3_init : ByteArray := prog_5_method_1_code
def yX3_init : MethodName := ⟨RX3, "<init>", "()V"⟩
abbrev cX3_hasLetterBehind : ByteArray := prog_5_method_2_code
def yX3_hasLetterBehind : MethodName := ⟨RX3, "hasLetterBehind", "(I)Z"⟩
abbrev cX3_letterBehind : ByteArray := prog_5_method_3_code
def yX3_letterBehind : MethodName := ⟨RX3, "letterBehind", "(I)I"⟩
abbrev cX3_marksBehind : ByteArray := prog_5_method_4_code
def yX3_marksBehind : MethodName := ⟨RX3, "marksBehind", "(I)I"⟩
abbrev cX3_putIn : ByteArray := prog_5_method_5_code
def yX3_putIn : MethodName := ⟨RX3, "putIn", "(III)V"⟩
abbrev cX3_takeOut : ByteArray := prog_5_method_6_code
def yX3_takeOut : MethodName := ⟨RX3, "takeOut", "(II)V"⟩
abbrev cX3_moveTail : ByteArray := prog_5_method_7_code
def yX3_moveTail : MethodName := ⟨RX3, "moveTail", "(II)V"⟩
abbrev cX3_mark : ByteArray := prog_5_method_8_code
def yX3_mark : MethodName := ⟨RX3, "mark", "(III)V"⟩
def RX4 : String := "MarginDesk"
def TX4 : u_T := fun k => match k with
  | 0 => ("MarginDesk", "text", "LMarginDesk$Text;", true)
  | 1 => ("MarginDesk", "commentRanges", "LMarginDesk$Ranges;", true)
  | 2 => ("MarginDesk", "quotes", "LMarginDesk$Quotes;", true)
  | 3 => ("MarginDesk", "history", "LMarginDesk$History;", true)
  | 4 => ("MarginDesk", "answerCounts", "[I", true)
  | 5 => ("MarginDesk", "openSet", "I", false)
  | 6 => ("MarginDesk", "edits", "I", false)
  | 7 => ("MarginDesk", "suggestionRanges", "LMarginDesk$Ranges;", true)
  | 8 => ("MarginDesk", "suggestedLetters", "[I", true)
  | 9 => ("MarginDesk", "suggestedCounts", "[I", true)
  | _ => ("MarginDesk", "states", "[I", true)
def tyX4 : Nat → FieldType := fun k => match k with
  | 0 => .object "MarginDesk$Text"
  | 1 => .object "MarginDesk$Ranges"
  | 2 => .object "MarginDesk$Quotes"
  | 3 => .object "MarginDesk$History"
  | 4 => .array .int
  | 5 => .int
  | 6 => .int
  | 7 => .object "MarginDesk$Ranges"
  | 8 => .array .int
  | 9 => .array .int
  | _ => .array .int
abbrev wsX40 : List Cond := u_ws RX4 TX4 11
theorem nmX4 : ∀ a, a < 11 → ∀ b, b < 11 → a ≠ b → (TX4 a).2.1 ≠ (TX4 b).2.1 := by decide +kernel
theorem tyX4_ok : ∀ k, k < 11 → parseFieldDescriptor (TX4 k).2.2.1 = some (tyX4 k) := by decide +kernel
abbrev cX4_init : ByteArray := prog_1_method_1_code
def yX4_init : MethodName := ⟨RX4, "<init>", "()V"⟩
abbrev cX4_insert : ByteArray := prog_1_method_2_code
def yX4_insert : MethodName := ⟨RX4, "insert", "(III)I"⟩
abbrev cX4_remove : ByteArray := prog_1_method_3_code
def yX4_remove : MethodName := ⟨RX4, "remove", "(II)I"⟩
abbrev cX4_length : ByteArray := prog_1_method_4_code
def yX4_length : MethodName := ⟨RX4, "length", "()I"⟩
abbrev cX4_letterAt : ByteArray := prog_1_method_5_code
def yX4_letterAt : MethodName := ⟨RX4, "letterAt", "(I)I"⟩
abbrev cX4_version : ByteArray := prog_1_method_6_code
def yX4_version : MethodName := ⟨RX4, "version", "()I"⟩
abbrev cX4_comment : ByteArray := prog_1_method_7_code
def yX4_comment : MethodName := ⟨RX4, "comment", "(III)I"⟩
abbrev cX4_answer : ByteArray := prog_1_method_8_code
def yX4_answer : MethodName := ⟨RX4, "answer", "(I)I"⟩
abbrev cX4_resolve : ByteArray := prog_1_method_9_code
def yX4_resolve : MethodName := ⟨RX4, "resolve", "(I)Z"⟩
abbrev cX4_find : ByteArray := prog_1_method_10_code
def yX4_find : MethodName := ⟨RX4, "find", "(I)I"⟩
abbrev cX4_comments : ByteArray := prog_1_method_11_code
def yX4_comments : MethodName := ⟨RX4, "comments", "()I"⟩
abbrev cX4_rangeOf : ByteArray := prog_1_method_12_code
def yX4_rangeOf : MethodName := ⟨RX4, "rangeOf", "(I)I"⟩
abbrev cX4_rangeThen : ByteArray := prog_1_method_13_code
def yX4_rangeThen : MethodName := ⟨RX4, "rangeThen", "(II)I"⟩
abbrev cX4_open : ByteArray := prog_1_method_14_code
def yX4_open : MethodName := ⟨RX4, "open", "()I"⟩
abbrev cX4_orphans : ByteArray := prog_1_method_15_code
def yX4_orphans : MethodName := ⟨RX4, "orphans", "()I"⟩
abbrev cX4_cover : ByteArray := prog_1_method_16_code
def yX4_cover : MethodName := ⟨RX4, "cover", "(I)I"⟩
abbrev cX4_coverByLetters : ByteArray := prog_1_method_17_code
def yX4_coverByLetters : MethodName := ⟨RX4, "coverByLetters", "(I)I"⟩
abbrev cX4_pieces : ByteArray := prog_1_method_18_code
def yX4_pieces : MethodName := ⟨RX4, "pieces", "()I"⟩
abbrev cX4_pieceAt : ByteArray := prog_1_method_19_code
def yX4_pieceAt : MethodName := ⟨RX4, "pieceAt", "(I)I"⟩
abbrev cX4_suggest : ByteArray := prog_1_method_20_code
def yX4_suggest : MethodName := ⟨RX4, "suggest", "(IIII)I"⟩
abbrev cX4_accept : ByteArray := prog_1_method_21_code
def yX4_accept : MethodName := ⟨RX4, "accept", "(I)I"⟩
abbrev cX4_reject : ByteArray := prog_1_method_22_code
def yX4_reject : MethodName := ⟨RX4, "reject", "(I)I"⟩
abbrev cX4_stateOf : ByteArray := prog_1_method_23_code
def yX4_stateOf : MethodName := ⟨RX4, "stateOf", "(I)I"⟩
abbrev cX4_overlaps : ByteArray := prog_1_method_24_code
def yX4_overlaps : MethodName := ⟨RX4, "overlaps", "(I)I"⟩
abbrev cX4_checkPlace : ByteArray := prog_1_method_25_code
def yX4_checkPlace : MethodName := ⟨RX4, "checkPlace", "(I)V"⟩
abbrev cX4_checkRange : ByteArray := prog_1_method_26_code
def yX4_checkRange : MethodName := ⟨RX4, "checkRange", "(II)V"⟩
abbrev cX4_checkLetter : ByteArray := prog_1_method_27_code
def yX4_checkLetter : MethodName := ⟨RX4, "checkLetter", "(I)V"⟩
abbrev cX4_checkAmong : ByteArray := prog_1_method_28_code
def yX4_checkAmong : MethodName := ⟨RX4, "checkAmong", "(III)V"⟩
abbrev cX4_checkComment : ByteArray := prog_1_method_29_code
def yX4_checkComment : MethodName := ⟨RX4, "checkComment", "(I)V"⟩
abbrev cX4_checkSuggestion : ByteArray := prog_1_method_30_code
def yX4_checkSuggestion : MethodName := ⟨RX4, "checkSuggestion", "(I)V"⟩
abbrev cX4_checkWaiting : ByteArray := prog_1_method_31_code
def yX4_checkWaiting : MethodName := ⟨RX4, "checkWaiting", "(I)V"⟩
abbrev cX4_checkRoom : ByteArray := prog_1_method_32_code
def yX4_checkRoom : MethodName := ⟨RX4, "checkRoom", "(II)V"⟩
abbrev cX4_putLettersIn : ByteArray := prog_1_method_33_code
def yX4_putLettersIn : MethodName := ⟨RX4, "putLettersIn", "(III)V"⟩
abbrev cX4_takeLettersOut : ByteArray := prog_1_method_34_code
def yX4_takeLettersOut : MethodName := ⟨RX4, "takeLettersOut", "(II)I"⟩
abbrev cX4_leaveVersion : ByteArray := prog_1_method_35_code
def yX4_leaveVersion : MethodName := ⟨RX4, "leaveVersion", "()V"⟩
abbrev cX4_letGo : ByteArray := prog_1_method_36_code
def yX4_letGo : MethodName := ⟨RX4, "letGo", "(I)V"⟩
abbrev cX4_bit : ByteArray := prog_1_method_37_code
def yX4_bit : MethodName := ⟨RX4, "bit", "(I)I"⟩
abbrev cX4_beginsPiece : ByteArray := prog_1_method_38_code
def yX4_beginsPiece : MethodName := ⟨RX4, "beginsPiece", "(I)Z"⟩
abbrev cX4_overlapping : ByteArray := prog_1_method_39_code
def yX4_overlapping : MethodName := ⟨RX4, "overlapping", "(I)I"⟩
abbrev cX4_countWaiting : ByteArray := prog_1_method_40_code
def yX4_countWaiting : MethodName := ⟨RX4, "countWaiting", "()I"⟩
def RX5 : String := "MarginDeskModel"
def TX5 : u_T := fun k => match k with
  | 0 => ("MarginDeskModel", "thrown", "I", false)
  | 1 => ("MarginDeskModel", "length", "I", false)
  | 2 => ("MarginDeskModel", "letters", "[I", true)
  | 3 => ("MarginDeskModel", "edits", "I", false)
  | 4 => ("MarginDeskModel", "comments", "I", false)
  | 5 => ("MarginDeskModel", "from", "[I", true)
  | 6 => ("MarginDeskModel", "to", "[I", true)
  | 7 => ("MarginDeskModel", "sticky", "[I", true)
  | 8 => ("MarginDeskModel", "open", "[Z", true)
  | 9 => ("MarginDeskModel", "answers", "[I", true)
  | 10 => ("MarginDeskModel", "kept", "[I", true)
  | 11 => ("MarginDeskModel", "many", "[I", true)
  | 12 => ("MarginDeskModel", "ahead", "[I", true)
  | 13 => ("MarginDeskModel", "behind", "[I", true)
  | 14 => ("MarginDeskModel", "then", "[I", true)
  | 15 => ("MarginDeskModel", "suggestions", "I", false)
  | 16 => ("MarginDeskModel", "first", "[I", true)
  | 17 => ("MarginDeskModel", "last", "[I", true)
  | 18 => ("MarginDeskModel", "letter", "[I", true)
  | 19 => ("MarginDeskModel", "count", "[I", true)
  | _ => ("MarginDeskModel", "state", "[I", true)
def tyX5 : Nat → FieldType := fun k => match k with
  | 0 => .int
  | 1 => .int
  | 2 => .array .int
  | 3 => .int
  | 4 => .int
  | 5 => .array .int
  | 6 => .array .int
  | 7 => .array .int
  | 8 => .array .boolean
  | 9 => .array .int
  | 10 => .array .int
  | 11 => .array .int
  | 12 => .array .int
  | 13 => .array .int
  | 14 => .array .int
  | 15 => .int
  | 16 => .array .int
  | 17 => .array .int
  | 18 => .array .int
  | 19 => .array .int
  | _ => .array .int
abbrev wsX50 : List Cond := u_ws RX5 TX5 21
theorem nmX5 : ∀ a, a < 21 → ∀ b, b < 21 → a ≠ b → (TX5 a).2.1 ≠ (TX5 b).2.1 := by decide +kernel
theorem tyX5_ok : ∀ k, k < 21 → parseFieldDescriptor (TX5 k).2.2.1 = some (tyX5 k) := by decide +kernel
abbrev cX5_init : ByteArray := prog_7_method_1_code
def yX5_init : MethodName := ⟨RX5, "<init>", "()V"⟩
abbrev cX5_thrown : ByteArray := prog_7_method_2_code
def yX5_thrown : MethodName := ⟨RX5, "thrown", "()I"⟩
abbrev cX5_fails : ByteArray := prog_7_method_3_code
def yX5_fails : MethodName := ⟨RX5, "fails", "(I)I"⟩
abbrev cX5_in : ByteArray := prog_7_method_4_code
def yX5_in : MethodName := ⟨RX5, "in", "(III)Z"⟩
abbrev cX5_isPlace : ByteArray := prog_7_method_5_code
def yX5_isPlace : MethodName := ⟨RX5, "isPlace", "(I)Z"⟩
abbrev cX5_isComment : ByteArray := prog_7_method_6_code
def yX5_isComment : MethodName := ⟨RX5, "isComment", "(I)Z"⟩
abbrev cX5_isSuggestion : ByteArray := prog_7_method_7_code
def yX5_isSuggestion : MethodName := ⟨RX5, "isSuggestion", "(I)Z"⟩
abbrev cX5_told : ByteArray := prog_7_method_8_code
def yX5_told : MethodName := ⟨RX5, "told", "(I)I"⟩
abbrev cX5_keeps : ByteArray := prog_7_method_9_code
def yX5_keeps : MethodName := ⟨RX5, "keeps", "()V"⟩
abbrev cX5_letterOf : ByteArray := prog_7_method_10_code
def yX5_letterOf : MethodName := ⟨RX5, "letterOf", "(I)I"⟩
abbrev cX5_inserts : ByteArray := prog_7_method_11_code
def yX5_inserts : MethodName := ⟨RX5, "inserts", "(III)V"⟩
abbrev cX5_less : ByteArray := prog_7_method_12_code
def yX5_less : MethodName := ⟨RX5, "less", "(III)I"⟩
abbrev cX5_removes : ByteArray := prog_7_method_13_code
def yX5_removes : MethodName := ⟨RX5, "removes", "(III)I"⟩
abbrev cX5_insert : ByteArray := prog_7_method_14_code
def yX5_insert : MethodName := ⟨RX5, "insert", "(III)I"⟩
abbrev cX5_remove : ByteArray := prog_7_method_15_code
def yX5_remove : MethodName := ⟨RX5, "remove", "(II)I"⟩
abbrev cX5_length : ByteArray := prog_7_method_16_code
def yX5_length : MethodName := ⟨RX5, "length", "()I"⟩
abbrev cX5_letterAt : ByteArray := prog_7_method_17_code
def yX5_letterAt : MethodName := ⟨RX5, "letterAt", "(I)I"⟩
abbrev cX5_version : ByteArray := prog_7_method_18_code
def yX5_version : MethodName := ⟨RX5, "version", "()I"⟩
abbrev cX5_comment : ByteArray := prog_7_method_19_code
def yX5_comment : MethodName := ⟨RX5, "comment", "(III)I"⟩
abbrev cX5_answer : ByteArray := prog_7_method_20_code
def yX5_answer : MethodName := ⟨RX5, "answer", "(I)I"⟩
abbrev cX5_resolve : ByteArray := prog_7_method_21_code
def yX5_resolve : MethodName := ⟨RX5, "resolve", "(I)Z"⟩
abbrev cX5_fit : ByteArray := prog_7_method_22_code
def yX5_fit : MethodName := ⟨RX5, "fit", "(II)I"⟩
abbrev cX5_find : ByteArray := prog_7_method_23_code
def yX5_find : MethodName := ⟨RX5, "find", "(I)I"⟩
abbrev cX5_comments : ByteArray := prog_7_method_24_code
def yX5_comments : MethodName := ⟨RX5, "comments", "()I"⟩
abbrev cX5_rangeOf : ByteArray := prog_7_method_25_code
def yX5_rangeOf : MethodName := ⟨RX5, "rangeOf", "(I)I"⟩
abbrev cX5_rangeThen : ByteArray := prog_7_method_26_code
def yX5_rangeThen : MethodName := ⟨RX5, "rangeThen", "(II)I"⟩
abbrev cX5_open : ByteArray := prog_7_method_27_code
def yX5_open : MethodName := ⟨RX5, "open", "()I"⟩
abbrev cX5_orphans : ByteArray := prog_7_method_28_code
def yX5_orphans : MethodName := ⟨RX5, "orphans", "()I"⟩
abbrev cX5_coverOf : ByteArray := prog_7_method_29_code
def yX5_coverOf : MethodName := ⟨RX5, "coverOf", "(I)I"⟩
abbrev cX5_cover : ByteArray := prog_7_method_30_code
def yX5_cover : MethodName := ⟨RX5, "cover", "(I)I"⟩
abbrev cX5_coverByLetters : ByteArray := prog_7_method_31_code
def yX5_coverByLetters : MethodName := ⟨RX5, "coverByLetters", "(I)I"⟩
abbrev cX5_pieceOf : ByteArray := prog_7_method_32_code
def yX5_pieceOf : MethodName := ⟨RX5, "pieceOf", "(I)I"⟩
abbrev cX5_pieces : ByteArray := prog_7_method_33_code
def yX5_pieces : MethodName := ⟨RX5, "pieces", "()I"⟩
abbrev cX5_pieceAt : ByteArray := prog_7_method_34_code
def yX5_pieceAt : MethodName := ⟨RX5, "pieceAt", "(I)I"⟩
abbrev cX5_suggest : ByteArray := prog_7_method_35_code
def yX5_suggest : MethodName := ⟨RX5, "suggest", "(IIII)I"⟩
abbrev cX5_overlapsOf : ByteArray := prog_7_method_36_code
def yX5_overlapsOf : MethodName := ⟨RX5, "overlapsOf", "(I)I"⟩
abbrev cX5_accept : ByteArray := prog_7_method_37_code
def yX5_accept : MethodName := ⟨RX5, "accept", "(I)I"⟩
abbrev cX5_reject : ByteArray := prog_7_method_38_code
def yX5_reject : MethodName := ⟨RX5, "reject", "(I)I"⟩
abbrev cX5_stateOf : ByteArray := prog_7_method_39_code
def yX5_stateOf : MethodName := ⟨RX5, "stateOf", "(I)I"⟩
abbrev cX5_overlaps : ByteArray := prog_7_method_40_code
def yX5_overlaps : MethodName := ⟨RX5, "overlaps", "(I)I"⟩
def RJx145de : String := "java/io/Serializable"
def TJx145de : u_T := fun k => match k with
  | _ => ("", "", "", false)
def tyJx145de : Nat → FieldType := fun k => match k with
  | _ => .int
abbrev wsJx145de0 : List Cond := u_ws RJx145de TJx145de 0
theorem nmJx145de : ∀ a, a < 0 → ∀ b, b < 0 → a ≠ b → (TJx145de a).2.1 ≠ (TJx145de b).2.1 := by decide +kernel
theorem tyJx145de_ok : ∀ k, k < 0 → parseFieldDescriptor (TJx145de k).2.2.1 = some (tyJx145de k) := by decide +kernel
def RJ5 : String := "java/lang/AbstractStringBuilder"
def TJ5 : u_T := fun k => match k with
  | _ => ("", "", "", false)
def tyJ5 : Nat → FieldType := fun k => match k with
  | _ => .int
abbrev wsJ50 : List Cond := u_ws RJ5 TJ5 0
theorem nmJ5 : ∀ a, a < 0 → ∀ b, b < 0 → a ≠ b → (TJ5 a).2.1 ≠ (TJ5 b).2.1 := by decide +kernel
theorem tyJ5_ok : ∀ k, k < 0 → parseFieldDescriptor (TJ5 k).2.2.1 = some (tyJ5 k) := by decide +kernel
abbrev cJ5_init_d00df : ByteArray := prog_8_method_2_code
def yJ5_init_d00df : MethodName := ⟨RJ5, "<init>", "(I)V"⟩
abbrev cJ5_length_8abf5 : ByteArray := prog_8_method_6_code
def yJ5_length_8abf5 : MethodName := ⟨RJ5, "length", "()I"⟩
abbrev cJ5_ensureCapacityInternal_d00df : ByteArray := prog_8_method_9_code
def yJ5_ensureCapacityInternal_d00df : MethodName := ⟨RJ5, "ensureCapacityInternal", "(I)V"⟩
abbrev cJ5_newCapacity_0f7a4 : ByteArray := prog_8_method_10_code
def yJ5_newCapacity_0f7a4 : MethodName := ⟨RJ5, "newCapacity", "(I)I"⟩
abbrev cJ5_inflate_da8c8 : ByteArray := prog_8_method_11_code
def yJ5_inflate_da8c8 : MethodName := ⟨RJ5, "inflate", "()V"⟩
abbrev cJ5_append_cf1ce : ByteArray := prog_8_method_22_code
def yJ5_append_cf1ce : MethodName := ⟨RJ5, "append", "(Ljava/lang/String;)Ljava/lang/AbstractStringBuilder;"⟩
abbrev cJ5_appendNull_278bc : ByteArray := prog_8_method_26_code
def yJ5_appendNull_278bc : MethodName := ⟨RJ5, "appendNull", "()Ljava/lang/AbstractStringBuilder;"⟩
abbrev cJ5_append_c97b9 : ByteArray := prog_8_method_32_code
def yJ5_append_c97b9 : MethodName := ⟨RJ5, "append", "(I)Ljava/lang/AbstractStringBuilder;"⟩
abbrev cJ5_getValue_6d5f1 : ByteArray := prog_8_method_64_code
def yJ5_getValue_6d5f1 : MethodName := ⟨RJ5, "getValue", "()[B"⟩
abbrev cJ5_isLatin1_aae02 : ByteArray := prog_8_method_68_code
def yJ5_isLatin1_aae02 : MethodName := ⟨RJ5, "isLatin1", "()Z"⟩
abbrev cJ5_inflateIfNeededFor_a7421 : ByteArray := prog_8_method_71_code
def yJ5_inflateIfNeededFor_a7421 : MethodName := ⟨RJ5, "inflateIfNeededFor", "(Ljava/lang/String;)V"⟩
abbrev cJ5_putStringAt_47b60 : ByteArray := prog_8_method_73_code
def yJ5_putStringAt_47b60 : MethodName := ⟨RJ5, "putStringAt", "(ILjava/lang/String;)V"⟩
def RJx2cfe8 : String := "java/lang/Appendable"
def TJx2cfe8 : u_T := fun k => match k with
  | _ => ("", "", "", false)
def tyJx2cfe8 : Nat → FieldType := fun k => match k with
  | _ => .int
abbrev wsJx2cfe80 : List Cond := u_ws RJx2cfe8 TJx2cfe8 0
theorem nmJx2cfe8 : ∀ a, a < 0 → ∀ b, b < 0 → a ≠ b → (TJx2cfe8 a).2.1 ≠ (TJx2cfe8 b).2.1 := by decide +kernel
theorem tyJx2cfe8_ok : ∀ k, k < 0 → parseFieldDescriptor (TJx2cfe8 k).2.2.1 = some (tyJx2cfe8 k) := by decide +kernel
def RJx00060 : String := "java/lang/ArrayIndexOutOfBoundsException"
def TJx00060 : u_T := fun k => match k with
  | 0 => ("java/lang/Throwable", "cause", "Ljava/lang/Throwable;", false)
  | 1 => ("java/lang/Throwable", "stackTrace", "[Ljava/lang/StackTraceElement;", false)
  | 2 => ("java/lang/Throwable", "suppressedExceptions", "Ljava/util/List;", false)
  | 3 => ("java/lang/Throwable", "detailMessage", "Ljava/lang/String;", false)
  | 4 => ("java/lang/Throwable", "backtrace", "Ljava/lang/Object;", false)
  | _ => ("java/lang/Throwable", "depth", "I", false)
def tyJx00060 : Nat → FieldType := fun k => match k with
  | 0 => .object "java/lang/Throwable"
  | 1 => .array (.object "java/lang/StackTraceElement")
  | 2 => .object "java/util/List"
  | 3 => .object "java/lang/String"
  | 4 => .object "java/lang/Object"
  | _ => .int
abbrev wsJx000600 : List Cond := u_ws RJx00060 TJx00060 6
theorem nmJx00060 : ∀ a, a < 6 → ∀ b, b < 6 → a ≠ b → (TJx00060 a).2.1 ≠ (TJx00060 b).2.1 := by decide +kernel
theorem tyJx00060_ok : ∀ k, k < 6 → parseFieldDescriptor (TJx00060 k).2.2.1 = some (tyJx00060 k) := by decide +kernel
abbrev cJx00060_init_d00df : ByteArray := prog_9_method_3_code
def yJx00060_init_d00df : MethodName := ⟨RJx00060, "<init>", "(I)V"⟩
def RJx9f9b0 : String := "java/lang/CharSequence"
def TJx9f9b0 : u_T := fun k => match k with
  | _ => ("", "", "", false)
def tyJx9f9b0 : Nat → FieldType := fun k => match k with
  | _ => .int
abbrev wsJx9f9b00 : List Cond := u_ws RJx9f9b0 TJx9f9b0 0
theorem nmJx9f9b0 : ∀ a, a < 0 → ∀ b, b < 0 → a ≠ b → (TJx9f9b0 a).2.1 ≠ (TJx9f9b0 b).2.1 := by decide +kernel
theorem tyJx9f9b0_ok : ∀ k, k < 0 → parseFieldDescriptor (TJx9f9b0 k).2.2.1 = some (tyJx9f9b0 k) := by decide +kernel
def RJx8e188 : String := "java/lang/Cloneable"
def TJx8e188 : u_T := fun k => match k with
  | _ => ("", "", "", false)
def tyJx8e188 : Nat → FieldType := fun k => match k with
  | _ => .int
abbrev wsJx8e1880 : List Cond := u_ws RJx8e188 TJx8e188 0
theorem nmJx8e188 : ∀ a, a < 0 → ∀ b, b < 0 → a ≠ b → (TJx8e188 a).2.1 ≠ (TJx8e188 b).2.1 := by decide +kernel
theorem tyJx8e188_ok : ∀ k, k < 0 → parseFieldDescriptor (TJx8e188 k).2.2.1 = some (tyJx8e188 k) := by decide +kernel
def RJxb160c : String := "java/lang/Comparable"
def TJxb160c : u_T := fun k => match k with
  | _ => ("", "", "", false)
def tyJxb160c : Nat → FieldType := fun k => match k with
  | _ => .int
abbrev wsJxb160c0 : List Cond := u_ws RJxb160c TJxb160c 0
theorem nmJxb160c : ∀ a, a < 0 → ∀ b, b < 0 → a ≠ b → (TJxb160c a).2.1 ≠ (TJxb160c b).2.1 := by decide +kernel
theorem tyJxb160c_ok : ∀ k, k < 0 → parseFieldDescriptor (TJxb160c k).2.2.1 = some (tyJxb160c k) := by decide +kernel
def RJ6 : String := "java/lang/Integer"
def TJ6 : u_T := fun k => match k with
  | _ => ("", "", "", false)
def tyJ6 : Nat → FieldType := fun k => match k with
  | _ => .int
abbrev wsJ60 : List Cond := u_ws RJ6 TJ6 0
theorem nmJ6 : ∀ a, a < 0 → ∀ b, b < 0 → a ≠ b → (TJ6 a).2.1 ≠ (TJ6 b).2.1 := by decide +kernel
theorem tyJ6_ok : ∀ k, k < 0 → parseFieldDescriptor (TJ6 k).2.2.1 = some (tyJ6 k) := by decide +kernel
abbrev cJ6_getChars_ba4f3 : ByteArray := prog_15_method_12_code
def yJ6_getChars_ba4f3 : MethodName := ⟨RJ6, "getChars", "(II[B)I"⟩
abbrev cJ6_stringSize_0f7a4 : ByteArray := prog_15_method_13_code
def yJ6_stringSize_0f7a4 : MethodName := ⟨RJ6, "stringSize", "(I)I"⟩
abbrev cJ6_bitCount_0f7a4 : ByteArray := prog_15_method_49_code
def yJ6_bitCount_0f7a4 : MethodName := ⟨RJ6, "bitCount", "(I)I"⟩
def RJ9 : String := "java/lang/Math"
def TJ9 : u_T := fun k => match k with
  | _ => ("", "", "", false)
def tyJ9 : Nat → FieldType := fun k => match k with
  | _ => .int
abbrev wsJ90 : List Cond := u_ws RJ9 TJ9 0
theorem nmJ9 : ∀ a, a < 0 → ∀ b, b < 0 → a ≠ b → (TJ9 a).2.1 ≠ (TJ9 b).2.1 := by decide +kernel
theorem tyJ9_ok : ∀ k, k < 0 → parseFieldDescriptor (TJ9 k).2.2.1 = some (tyJ9 k) := by decide +kernel
abbrev cJ9_max_7cf53 : ByteArray := prog_16_method_65_code
def yJ9_max_7cf53 : MethodName := ⟨RJ9, "max", "(II)I"⟩
abbrev cJ9_min_7cf53 : ByteArray := prog_16_method_69_code
def yJ9_min_7cf53 : MethodName := ⟨RJ9, "min", "(II)I"⟩
def RJxd2413 : String := "java/lang/Number"
def TJxd2413 : u_T := fun k => match k with
  | _ => ("", "", "", false)
def tyJxd2413 : Nat → FieldType := fun k => match k with
  | _ => .int
abbrev wsJxd24130 : List Cond := u_ws RJxd2413 TJxd2413 0
theorem nmJxd2413 : ∀ a, a < 0 → ∀ b, b < 0 → a ≠ b → (TJxd2413 a).2.1 ≠ (TJxd2413 b).2.1 := by decide +kernel
theorem tyJxd2413_ok : ∀ k, k < 0 → parseFieldDescriptor (TJxd2413 k).2.2.1 = some (tyJxd2413 k) := by decide +kernel
def RJ0 : String := "java/lang/String"
def TJ0 : u_T := fun k => match k with
  | 0 => ("java/lang/String", "value", "[B", true)
  | 1 => ("java/lang/String", "coder", "B", true)
  | 2 => ("java/lang/String", "hash", "I", false)
  | _ => ("java/lang/String", "hashIsZero", "Z", false)
def tyJ0 : Nat → FieldType := fun k => match k with
  | 0 => .array .byte
  | 1 => .byte
  | 2 => .int
  | _ => .boolean
abbrev wsJ00 : List Cond := u_ws RJ0 TJ0 4
theorem nmJ0 : ∀ a, a < 4 → ∀ b, b < 4 → a ≠ b → (TJ0 a).2.1 ≠ (TJ0 b).2.1 := by decide +kernel
theorem tyJ0_ok : ∀ k, k < 4 → parseFieldDescriptor (TJ0 k).2.2.1 = some (tyJ0 k) := by decide +kernel
abbrev cJ0_init_81219 : ByteArray := prog_19_method_53_code
def yJ0_init_81219 : MethodName := ⟨RJ0, "<init>", "(Ljava/lang/StringBuilder;)V"⟩
abbrev cJ0_length_8abf5 : ByteArray := prog_19_method_54_code
def yJ0_length_8abf5 : MethodName := ⟨RJ0, "length", "()I"⟩
abbrev cJ0_getBytes_840e7 : ByteArray := prog_19_method_147_code
def yJ0_getBytes_840e7 : MethodName := ⟨RJ0, "getBytes", "([BIB)V"⟩
abbrev cJ0_init_db425 : ByteArray := prog_19_method_150_code
def yJ0_init_db425 : MethodName := ⟨RJ0, "<init>", "(Ljava/lang/AbstractStringBuilder;Ljava/lang/Void;)V"⟩
abbrev cJ0_coder_7d493 : ByteArray := prog_19_method_152_code
def yJ0_coder_7d493 : MethodName := ⟨RJ0, "coder", "()B"⟩
abbrev cJ0_checkBoundsOffCount_cabcc : ByteArray := prog_19_method_157_code
def yJ0_checkBoundsOffCount_cabcc : MethodName := ⟨RJ0, "checkBoundsOffCount", "(III)I"⟩
abbrev cJ0_checkBoundsBeginEnd_23922 : ByteArray := prog_19_method_158_code
def yJ0_checkBoundsBeginEnd_23922 : MethodName := ⟨RJ0, "checkBoundsBeginEnd", "(III)V"⟩
def RJ4 : String := "java/lang/StringBuilder"
def TJ4 : u_T := fun k => match k with
  | 0 => ("java/lang/AbstractStringBuilder", "value", "[B", false)
  | 1 => ("java/lang/AbstractStringBuilder", "coder", "B", false)
  | 2 => ("java/lang/AbstractStringBuilder", "maybeLatin1", "Z", false)
  | _ => ("java/lang/AbstractStringBuilder", "count", "I", false)
def tyJ4 : Nat → FieldType := fun k => match k with
  | 0 => .array .byte
  | 1 => .byte
  | 2 => .boolean
  | _ => .int
abbrev wsJ40 : List Cond := u_ws RJ4 TJ4 4
theorem nmJ4 : ∀ a, a < 4 → ∀ b, b < 4 → a ≠ b → (TJ4 a).2.1 ≠ (TJ4 b).2.1 := by decide +kernel
theorem tyJ4_ok : ∀ k, k < 4 → parseFieldDescriptor (TJ4 k).2.2.1 = some (tyJ4 k) := by decide +kernel
abbrev cJ4_init_da8c8 : ByteArray := prog_20_method_1_code
def yJ4_init_da8c8 : MethodName := ⟨RJ4, "<init>", "()V"⟩
abbrev cJ4_append_15ec4 : ByteArray := prog_20_method_7_code
def yJ4_append_15ec4 : MethodName := ⟨RJ4, "append", "(Ljava/lang/String;)Ljava/lang/StringBuilder;"⟩
abbrev cJ4_append_bf812 : ByteArray := prog_20_method_15_code
def yJ4_append_bf812 : MethodName := ⟨RJ4, "append", "(I)Ljava/lang/StringBuilder;"⟩
abbrev cJ4_toString_0e30d : ByteArray := prog_20_method_42_code
def yJ4_toString_0e30d : MethodName := ⟨RJ4, "toString", "()Ljava/lang/String;"⟩
abbrev cJ4_length_8abf5 : ByteArray := prog_20_method_93_code
def yJ4_length_8abf5 : MethodName := ⟨RJ4, "length", "()I"⟩
def RJ1 : String := "java/lang/StringLatin1"
def TJ1 : u_T := fun k => match k with
  | _ => ("", "", "", false)
def tyJ1 : Nat → FieldType := fun k => match k with
  | _ => .int
abbrev wsJ10 : List Cond := u_ws RJ1 TJ1 0
theorem nmJ1 : ∀ a, a < 0 → ∀ b, b < 0 → a ≠ b → (TJ1 a).2.1 ≠ (TJ1 b).2.1 := by decide +kernel
theorem tyJ1_ok : ∀ k, k < 0 → parseFieldDescriptor (TJ1 k).2.2.1 = some (tyJ1 k) := by decide +kernel
abbrev cJ1_inflate_0e8fd : ByteArray := prog_21_method_50_code
def yJ1_inflate_0e8fd : MethodName := ⟨RJ1, "inflate", "([BI[BII)V"⟩
def RJ2 : String := "java/lang/StringUTF16"
def TJ2 : u_T := fun k => match k with
  | _ => ("", "", "", false)
def tyJ2 : Nat → FieldType := fun k => match k with
  | _ => .int
abbrev wsJ20 : List Cond := u_ws RJ2 TJ2 0
theorem nmJ2 : ∀ a, a < 0 → ∀ b, b < 0 → a ≠ b → (TJ2 a).2.1 ≠ (TJ2 b).2.1 := by decide +kernel
theorem tyJ2_ok : ∀ k, k < 0 → parseFieldDescriptor (TJ2 k).2.2.1 = some (tyJ2 k) := by decide +kernel
abbrev cJ2_newBytesFor_77867 : ByteArray := prog_22_method_2_code
def yJ2_newBytesFor_77867 : MethodName := ⟨RJ2, "newBytesFor", "(I)[B"⟩
abbrev cJ2_newBytesLength_0f7a4 : ByteArray := prog_22_method_3_code
def yJ2_newBytesLength_0f7a4 : MethodName := ⟨RJ2, "newBytesLength", "(I)I"⟩
abbrev cJ2_putChar_b72d1 : ByteArray := prog_22_method_4_code
def yJ2_putChar_b72d1 : MethodName := ⟨RJ2, "putChar", "([BII)V"⟩
abbrev cJ2_getChar_3b067 : ByteArray := prog_22_method_5_code
def yJ2_getChar_3b067 : MethodName := ⟨RJ2, "getChar", "([BI)C"⟩
abbrev cJ2_length_9d52b : ByteArray := prog_22_method_6_code
def yJ2_length_9d52b : MethodName := ⟨RJ2, "length", "([B)I"⟩
abbrev cJ2_coderFromArrayLen_85cad : ByteArray := prog_22_method_15_code
def yJ2_coderFromArrayLen_85cad : MethodName := ⟨RJ2, "coderFromArrayLen", "([BI)B"⟩
abbrev cJ2_compress_39247 : ByteArray := prog_22_method_17_code
def yJ2_compress_39247 : MethodName := ⟨RJ2, "compress", "([BII)[B"⟩
abbrev cJ2_compress_5af95 : ByteArray := prog_22_method_22_code
def yJ2_compress_5af95 : MethodName := ⟨RJ2, "compress", "([BI[BII)I"⟩
abbrev cJ2_getChars_46870 : ByteArray := prog_22_method_77_code
def yJ2_getChars_46870 : MethodName := ⟨RJ2, "getChars", "(III[B)I"⟩
abbrev cJ2_putCharsAt_cd4e5 : ByteArray := prog_22_method_81_code
def yJ2_putCharsAt_cd4e5 : MethodName := ⟨RJ2, "putCharsAt", "([BICCCC)I"⟩
abbrev cJ2_inflate_0e8fd : ByteArray := prog_22_method_86_code
def yJ2_inflate_0e8fd : MethodName := ⟨RJ2, "inflate", "([BI[BII)V"⟩
abbrev cJ2_getChars_ba4f3 : ByteArray := prog_22_method_89_code
def yJ2_getChars_ba4f3 : MethodName := ⟨RJ2, "getChars", "(II[B)I"⟩
abbrev cJ2_checkBoundsBeginEnd_d044e : ByteArray := prog_22_method_93_code
def yJ2_checkBoundsBeginEnd_d044e : MethodName := ⟨RJ2, "checkBoundsBeginEnd", "(II[B)V"⟩
abbrev cJ2_checkBoundsOffCount_d044e : ByteArray := prog_22_method_94_code
def yJ2_checkBoundsOffCount_d044e : MethodName := ⟨RJ2, "checkBoundsOffCount", "(II[B)V"⟩
def RJ10 : String := "java/lang/System"
def TJ10 : u_T := fun k => match k with
  | _ => ("", "", "", false)
def tyJ10 : Nat → FieldType := fun k => match k with
  | _ => .int
abbrev wsJ100 : List Cond := u_ws RJ10 TJ10 0
theorem nmJ10 : ∀ a, a < 0 → ∀ b, b < 0 → a ≠ b → (TJ10 a).2.1 ≠ (TJ10 b).2.1 := by decide +kernel
theorem tyJ10_ok : ∀ k, k < 0 → parseFieldDescriptor (TJ10 k).2.2.1 = some (tyJ10 k) := by decide +kernel
def RJxfd54e : String := "java/lang/constant/Constable"
def TJxfd54e : u_T := fun k => match k with
  | _ => ("", "", "", false)
def tyJxfd54e : Nat → FieldType := fun k => match k with
  | _ => .int
abbrev wsJxfd54e0 : List Cond := u_ws RJxfd54e TJxfd54e 0
theorem nmJxfd54e : ∀ a, a < 0 → ∀ b, b < 0 → a ≠ b → (TJxfd54e a).2.1 ≠ (TJxfd54e b).2.1 := by decide +kernel
theorem tyJxfd54e_ok : ∀ k, k < 0 → parseFieldDescriptor (TJxfd54e k).2.2.1 = some (tyJxfd54e k) := by decide +kernel
def RJx3cf43 : String := "java/lang/constant/ConstantDesc"
def TJx3cf43 : u_T := fun k => match k with
  | _ => ("", "", "", false)
def tyJx3cf43 : Nat → FieldType := fun k => match k with
  | _ => .int
abbrev wsJx3cf430 : List Cond := u_ws RJx3cf43 TJx3cf43 0
theorem nmJx3cf43 : ∀ a, a < 0 → ∀ b, b < 0 → a ≠ b → (TJx3cf43 a).2.1 ≠ (TJx3cf43 b).2.1 := by decide +kernel
theorem tyJx3cf43_ok : ∀ k, k < 0 → parseFieldDescriptor (TJx3cf43 k).2.2.1 = some (tyJx3cf43 k) := by decide +kernel
def RJ7 : String := "java/util/Arrays"
def TJ7 : u_T := fun k => match k with
  | _ => ("", "", "", false)
def tyJ7 : Nat → FieldType := fun k => match k with
  | _ => .int
abbrev wsJ70 : List Cond := u_ws RJ7 TJ7 0
theorem nmJ7 : ∀ a, a < 0 → ∀ b, b < 0 → a ≠ b → (TJ7 a).2.1 ≠ (TJ7 b).2.1 := by decide +kernel
theorem tyJ7_ok : ∀ k, k < 0 → parseFieldDescriptor (TJ7 k).2.2.1 = some (tyJ7 k) := by decide +kernel
abbrev cJ7_rangeCheck_23922 : ByteArray := prog_25_method_30_code
def yJ7_rangeCheck_23922 : MethodName := ⟨RJ7, "rangeCheck", "(III)V"⟩
abbrev cJ7_fill_fda19 : ByteArray := prog_25_method_104_code
def yJ7_fill_fda19 : MethodName := ⟨RJ7, "fill", "([IIII)V"⟩
abbrev cJ7_copyOf_9075b : ByteArray := prog_25_method_121_code
def yJ7_copyOf_9075b : MethodName := ⟨RJ7, "copyOf", "([BI)[B"⟩
abbrev cJ7_checkLength_df160 : ByteArray := prog_25_method_131_code
def yJ7_checkLength_df160 : MethodName := ⟨RJ7, "checkLength", "(II)V"⟩
abbrev cJ7_copyOfRange_39247 : ByteArray := prog_25_method_132_code
def yJ7_copyOfRange_39247 : MethodName := ⟨RJ7, "copyOfRange", "([BII)[B"⟩
abbrev cJ7_copyOfRangeByte_39247 : ByteArray := prog_25_method_133_code
def yJ7_copyOfRangeByte_39247 : MethodName := ⟨RJ7, "copyOfRangeByte", "([BII)[B"⟩
def RJ8 : String := "jdk/internal/util/ArraysSupport"
def TJ8 : u_T := fun k => match k with
  | _ => ("", "", "", false)
def tyJ8 : Nat → FieldType := fun k => match k with
  | _ => .int
abbrev wsJ80 : List Cond := u_ws RJ8 TJ8 0
theorem nmJ8 : ∀ a, a < 0 → ∀ b, b < 0 → a ≠ b → (TJ8 a).2.1 ≠ (TJ8 b).2.1 := by decide +kernel
theorem tyJ8_ok : ∀ k, k < 0 → parseFieldDescriptor (TJ8 k).2.2.1 = some (tyJ8 k) := by decide +kernel
abbrev cJ8_newLength_cabcc : ByteArray := prog_26_method_27_code
def yJ8_newLength_cabcc : MethodName := ⟨RJ8, "newLength", "(III)I"⟩
abbrev cJ8_hugeLength_7cf53 : ByteArray := prog_26_method_28_code
def yJ8_hugeLength_7cf53 : MethodName := ⟨RJ8, "hugeLength", "(II)I"⟩
def RJ3 : String := "jdk/internal/util/Preconditions"
def TJ3 : u_T := fun k => match k with
  | _ => ("", "", "", false)
def tyJ3 : Nat → FieldType := fun k => match k with
  | _ => .int
abbrev wsJ30 : List Cond := u_ws RJ3 TJ3 0
theorem nmJ3 : ∀ a, a < 0 → ∀ b, b < 0 → a ≠ b → (TJ3 a).2.1 ≠ (TJ3 b).2.1 := by decide +kernel
theorem tyJ3_ok : ∀ k, k < 0 → parseFieldDescriptor (TJ3 k).2.2.1 = some (tyJ3 k) := by decide +kernel
abbrev cJ3_checkFromToIndex_8c36e : ByteArray := prog_27_method_12_code
def yJ3_checkFromToIndex_8c36e : MethodName := ⟨RJ3, "checkFromToIndex", "(IIILjava/util/function/BiFunction;)I"⟩
abbrev cJ3_checkFromIndexSize_8c36e : ByteArray := prog_27_method_13_code
def yJ3_checkFromIndexSize_8c36e : MethodName := ⟨RJ3, "checkFromIndexSize", "(IIILjava/util/function/BiFunction;)I"⟩
def RL : String := "MarginDeskLaw"
abbrev cL_insert : ByteArray := method_3_code
def yL_insert : MethodName := ⟨RL, "insert", "(LMarginDesk;III[J)I"⟩
abbrev cL_remove : ByteArray := method_4_code
def yL_remove : MethodName := ⟨RL, "remove", "(LMarginDesk;II[J)I"⟩
abbrev cL_letterAt : ByteArray := method_5_code
def yL_letterAt : MethodName := ⟨RL, "letterAt", "(LMarginDesk;I[J)I"⟩
abbrev cL_comment : ByteArray := method_6_code
def yL_comment : MethodName := ⟨RL, "comment", "(LMarginDesk;III[J)I"⟩
abbrev cL_answer : ByteArray := method_7_code
def yL_answer : MethodName := ⟨RL, "answer", "(LMarginDesk;I[J)I"⟩
abbrev cL_resolve : ByteArray := method_8_code
def yL_resolve : MethodName := ⟨RL, "resolve", "(LMarginDesk;I[J)I"⟩
abbrev cL_find : ByteArray := method_9_code
def yL_find : MethodName := ⟨RL, "find", "(LMarginDesk;I[J)I"⟩
abbrev cL_rangeOf : ByteArray := method_10_code
def yL_rangeOf : MethodName := ⟨RL, "rangeOf", "(LMarginDesk;I[J)I"⟩
abbrev cL_rangeThen : ByteArray := method_11_code
def yL_rangeThen : MethodName := ⟨RL, "rangeThen", "(LMarginDesk;II[J)I"⟩
abbrev cL_cover : ByteArray := method_12_code
def yL_cover : MethodName := ⟨RL, "cover", "(LMarginDesk;I[J)I"⟩
abbrev cL_coverByLetters : ByteArray := method_13_code
def yL_coverByLetters : MethodName := ⟨RL, "coverByLetters", "(LMarginDesk;I[J)I"⟩
abbrev cL_pieceAt : ByteArray := method_14_code
def yL_pieceAt : MethodName := ⟨RL, "pieceAt", "(LMarginDesk;I[J)I"⟩
abbrev cL_suggest : ByteArray := method_15_code
def yL_suggest : MethodName := ⟨RL, "suggest", "(LMarginDesk;IIII[J)I"⟩
abbrev cL_accept : ByteArray := method_16_code
def yL_accept : MethodName := ⟨RL, "accept", "(LMarginDesk;I[J)I"⟩
abbrev cL_reject : ByteArray := method_17_code
def yL_reject : MethodName := ⟨RL, "reject", "(LMarginDesk;I[J)I"⟩
abbrev cL_stateOf : ByteArray := method_18_code
def yL_stateOf : MethodName := ⟨RL, "stateOf", "(LMarginDesk;I[J)I"⟩
abbrev cL_overlaps : ByteArray := method_19_code
def yL_overlaps : MethodName := ⟨RL, "overlaps", "(LMarginDesk;I[J)I"⟩
abbrev cL_law : ByteArray := code
def yL_law : MethodName := ⟨RL, "law", "([I)Z"⟩
def wsX0_init : List Cond := .code yX0_init cX0_init 1 none :: ([.methodLink RX0 3 objectInit, .instanceMethod objectInit, .code objectInit ⟨#[0xb1]⟩ 1 none, .arrayClass .int, .fieldLink RX0 9 "MarginDesk$History" "ranges" "[I"] ++ wsX00)
def wsX2_isGone : List Cond := .code yX2_isGone cX2_isGone 2 (some .boolean) :: ([.fieldLink RX2 9 "MarginDesk$Ranges" "begins" "[I"] ++ wsX20 ++ (vx_atM "java/lang/ArrayIndexOutOfBoundsException" ["java/lang/IndexOutOfBoundsException", "java/lang/RuntimeException", "java/lang/Exception"]).filter goodWord)
def wsX2_asNumber : List Cond := .code yX2_asNumber cX2_asNumber 2 (some .int) :: ([.fieldLink RX2 9 "MarginDesk$Ranges" "begins" "[I", .fieldLink RX2 15 "MarginDesk$Ranges" "ends" "[I", .methodLink RX2 25 yX2_isGone, .instanceMethod yX2_isGone, .selects RX2 yX2_isGone yX2_isGone, .initialized RX2, .code yX2_isGone cX2_isGone 2 (some .boolean)] ++ wsX20 ++ (vx_atM "java/lang/ArrayIndexOutOfBoundsException" ["java/lang/IndexOutOfBoundsException", "java/lang/RuntimeException", "java/lang/Exception"]).filter goodWord)
def wsX0_write : List Cond := .code yX0_write cX0_write 5 none :: ([.fieldLink RX0 9 "MarginDesk$History" "ranges" "[I", .instanceMethod yX2_asNumber, .initialized RX2, .selects RX2 yX2_asNumber yX2_asNumber, .code yX2_asNumber cX2_asNumber 2 (some .int), .fieldLink RX2 9 "MarginDesk$Ranges" "begins" "[I", .fieldLink RX2 15 "MarginDesk$Ranges" "ends" "[I", .methodLink RX2 25 yX2_isGone, .instanceMethod yX2_isGone, .selects RX2 yX2_isGone yX2_isGone, .code yX2_isGone cX2_isGone 2 (some .boolean)] ++ wsX20 ++ wsX00 ++ (vx_atM "java/lang/ArrayIndexOutOfBoundsException" ["java/lang/IndexOutOfBoundsException", "java/lang/RuntimeException", "java/lang/Exception"]).filter goodWord)
def wsX0_rangeAt : List Cond := .code yX0_rangeAt cX0_rangeAt 3 (some .int) :: ([.fieldLink RX0 9 "MarginDesk$History" "ranges" "[I"] ++ wsX00 ++ (vx_atM "java/lang/ArrayIndexOutOfBoundsException" ["java/lang/IndexOutOfBoundsException", "java/lang/RuntimeException", "java/lang/Exception"]).filter goodWord)
def wsX1_init : List Cond := .code yX1_init cX1_init 1 none :: ([.methodLink RX1 3 objectInit, .instanceMethod objectInit, .code objectInit ⟨#[0xb1]⟩ 1 none, .arrayClass .int, .fieldLink RX1 9 "MarginDesk$Quotes" "letters" "[I", .fieldLink RX1 15 "MarginDesk$Quotes" "sizes" "[I", .fieldLink RX1 18 "MarginDesk$Quotes" "aheads" "[I", .fieldLink RX1 21 "MarginDesk$Quotes" "behinds" "[I"] ++ wsX10)
def wsX3_hasLetterBehind : List Cond := .code yX3_hasLetterBehind cX3_hasLetterBehind 2 (some .boolean) :: ([.fieldLink RX3 18 "MarginDesk$Text" "size" "I"] ++ wsX30)
def wsX3_letterBehind : List Cond := .code yX3_letterBehind cX3_letterBehind 2 (some .int) :: ([.fieldLink RX3 9 "MarginDesk$Text" "letters" "[I", .methodLink RX3 22 yX3_hasLetterBehind, .instanceMethod yX3_hasLetterBehind, .selects RX3 yX3_hasLetterBehind yX3_hasLetterBehind, .initialized RX3, .code yX3_hasLetterBehind cX3_hasLetterBehind 2 (some .boolean), .fieldLink RX3 18 "MarginDesk$Text" "size" "I"] ++ wsX30 ++ (vx_atM "java/lang/ArrayIndexOutOfBoundsException" ["java/lang/IndexOutOfBoundsException", "java/lang/RuntimeException", "java/lang/Exception"]).filter goodWord)
def wsX1_keep : List Cond := .code yX1_keep cX1_keep 5 none :: ([.fieldLink RX1 15 "MarginDesk$Quotes" "sizes" "[I", .fieldLink RX1 9 "MarginDesk$Quotes" "letters" "[I", .methodLink RX1 27 arraycopyName, .native arraycopyName, .static arraycopyName, .initialized "java/lang/System", .fieldLink RX1 18 "MarginDesk$Quotes" "aheads" "[I", .fieldLink RX1 21 "MarginDesk$Quotes" "behinds" "[I", .instanceMethod yX3_letterBehind, .initialized RX3, .selects RX3 yX3_letterBehind yX3_letterBehind, .code yX3_letterBehind cX3_letterBehind 2 (some .int), .fieldLink RX3 9 "MarginDesk$Text" "letters" "[I", .methodLink RX3 22 yX3_hasLetterBehind, .instanceMethod yX3_hasLetterBehind, .selects RX3 yX3_hasLetterBehind yX3_hasLetterBehind, .code yX3_hasLetterBehind cX3_hasLetterBehind 2 (some .boolean), .fieldLink RX3 18 "MarginDesk$Text" "size" "I"] ++ wsX10 ++ wsX30 ++ (vx_atM "java/lang/ArrayIndexOutOfBoundsException" ["java/lang/IndexOutOfBoundsException", "java/lang/RuntimeException", "java/lang/Exception"]).filter goodWord)
def wsX1_sizeOf : List Cond := .code yX1_sizeOf cX1_sizeOf 2 (some .int) :: ([.fieldLink RX1 15 "MarginDesk$Quotes" "sizes" "[I"] ++ wsX10 ++ (vx_atM "java/lang/ArrayIndexOutOfBoundsException" ["java/lang/IndexOutOfBoundsException", "java/lang/RuntimeException", "java/lang/Exception"]).filter goodWord)
def wsX1_standsAt : List Cond := .code yX1_standsAt cX1_standsAt 5 (some .boolean) :: ([.fieldLink RX1 15 "MarginDesk$Quotes" "sizes" "[I", .fieldLink RX1 9 "MarginDesk$Quotes" "letters" "[I"] ++ wsX10 ++ wsX30 ++ (vx_atM "java/lang/ArrayIndexOutOfBoundsException" ["java/lang/IndexOutOfBoundsException", "java/lang/RuntimeException", "java/lang/Exception"]).filter goodWord)
def wsX1_fitAt : List Cond := .code yX1_fitAt cX1_fitAt 6 (some .int) :: ([.fieldLink RX1 15 "MarginDesk$Quotes" "sizes" "[I", .fieldLink RX1 18 "MarginDesk$Quotes" "aheads" "[I", .fieldLink RX1 21 "MarginDesk$Quotes" "behinds" "[I", .instanceMethod yX3_letterBehind, .initialized RX3, .selects RX3 yX3_letterBehind yX3_letterBehind, .code yX3_letterBehind cX3_letterBehind 2 (some .int), .fieldLink RX3 9 "MarginDesk$Text" "letters" "[I", .methodLink RX3 22 yX3_hasLetterBehind, .instanceMethod yX3_hasLetterBehind, .selects RX3 yX3_hasLetterBehind yX3_hasLetterBehind, .code yX3_hasLetterBehind cX3_hasLetterBehind 2 (some .boolean), .fieldLink RX3 18 "MarginDesk$Text" "size" "I"] ++ wsX10 ++ wsX30 ++ (vx_atM "java/lang/ArrayIndexOutOfBoundsException" ["java/lang/IndexOutOfBoundsException", "java/lang/RuntimeException", "java/lang/Exception"]).filter goodWord)
def wsX1_bestPlace : List Cond := .code yX1_bestPlace cX1_bestPlace 7 (some .int) :: ([.fieldLink RX1 15 "MarginDesk$Quotes" "sizes" "[I", .methodLink RX1 41 yX1_standsAt, .instanceMethod yX1_standsAt, .selects RX1 yX1_standsAt yX1_standsAt, .initialized RX1, .code yX1_standsAt cX1_standsAt 5 (some .boolean), .fieldLink RX1 9 "MarginDesk$Quotes" "letters" "[I", .methodLink RX1 45 yX1_fitAt, .instanceMethod yX1_fitAt, .selects RX1 yX1_fitAt yX1_fitAt, .code yX1_fitAt cX1_fitAt 6 (some .int), .fieldLink RX1 18 "MarginDesk$Quotes" "aheads" "[I", .fieldLink RX1 21 "MarginDesk$Quotes" "behinds" "[I", .instanceMethod yX3_letterBehind, .initialized RX3, .selects RX3 yX3_letterBehind yX3_letterBehind, .code yX3_letterBehind cX3_letterBehind 2 (some .int), .fieldLink RX3 9 "MarginDesk$Text" "letters" "[I", .methodLink RX3 22 yX3_hasLetterBehind, .instanceMethod yX3_hasLetterBehind, .selects RX3 yX3_hasLetterBehind yX3_hasLetterBehind, .code yX3_hasLetterBehind cX3_hasLetterBehind 2 (some .boolean), .fieldLink RX3 18 "MarginDesk$Text" "size" "I"] ++ wsX30 ++ wsX10 ++ (vx_atM "java/lang/ArrayIndexOutOfBoundsException" ["java/lang/IndexOutOfBoundsException", "java/lang/RuntimeException", "java/lang/Exception"]).filter goodWord)
def wsX2_init : List Cond := .code yX2_init cX2_init 1 none :: ([.methodLink RX2 3 objectInit, .instanceMethod objectInit, .code objectInit ⟨#[0xb1]⟩ 1 none, .arrayClass .int, .fieldLink RX2 9 "MarginDesk$Ranges" "begins" "[I", .fieldLink RX2 15 "MarginDesk$Ranges" "ends" "[I", .fieldLink RX2 18 "MarginDesk$Ranges" "stickiness" "[I", .fieldLink RX2 21 "MarginDesk$Ranges" "count" "I"] ++ wsX20)
def wsX2_add : List Cond := .code yX2_add cX2_add 5 (some .int) :: ([.fieldLink RX2 21 "MarginDesk$Ranges" "count" "I", .fieldLink RX2 9 "MarginDesk$Ranges" "begins" "[I", .fieldLink RX2 15 "MarginDesk$Ranges" "ends" "[I", .fieldLink RX2 18 "MarginDesk$Ranges" "stickiness" "[I"] ++ wsX20 ++ (vx_atM "java/lang/ArrayIndexOutOfBoundsException" ["java/lang/IndexOutOfBoundsException", "java/lang/RuntimeException", "java/lang/Exception"]).filter goodWord)
def wsX2_bringBack : List Cond := .code yX2_bringBack cX2_bringBack 4 none :: ([.fieldLink RX2 9 "MarginDesk$Ranges" "begins" "[I", .fieldLink RX2 15 "MarginDesk$Ranges" "ends" "[I"] ++ wsX20 ++ (vx_atM "java/lang/ArrayIndexOutOfBoundsException" ["java/lang/IndexOutOfBoundsException", "java/lang/RuntimeException", "java/lang/Exception"]).filter goodWord)
def wsX4_bit : List Cond := .code yX4_bit cX4_bit 1 (some .int) :: ([])
def wsX2_covering : List Cond := .code yX2_covering cX2_covering 4 (some .int) :: ([.fieldLink RX2 21 "MarginDesk$Ranges" "count" "I", .fieldLink RX2 9 "MarginDesk$Ranges" "begins" "[I", .fieldLink RX2 15 "MarginDesk$Ranges" "ends" "[I", .static yX4_bit, .initialized RX4, .code yX4_bit cX4_bit 1 (some .int)] ++ wsX20 ++ (vx_atM "java/lang/ArrayIndexOutOfBoundsException" ["java/lang/IndexOutOfBoundsException", "java/lang/RuntimeException", "java/lang/Exception"]).filter goodWord)
def wsX2_share : List Cond := .code yX2_share cX2_share 3 (some .boolean) :: ([.fieldLink RX2 9 "MarginDesk$Ranges" "begins" "[I", .methodLink RX2 33 Lib.Math.max.name, .static Lib.Math.max.name, .initialized "java/lang/Math", .code Lib.Math.max.name Lib.Math.max.code 2 (some .int), .fieldLink RX2 15 "MarginDesk$Ranges" "ends" "[I", .methodLink RX2 39 Lib.Math.min.name, .static Lib.Math.min.name, .code Lib.Math.min.name Lib.Math.min.code 2 (some .int)] ++ wsX20 ++ (vx_atM "java/lang/ArrayIndexOutOfBoundsException" ["java/lang/IndexOutOfBoundsException", "java/lang/RuntimeException", "java/lang/Exception"]).filter goodWord)
def wsX2_behindInsertion : List Cond := .code yX2_behindInsertion cX2_behindInsertion 5 (some .int) :: ([])
def wsX2_moveByInsertion : List Cond := .code yX2_moveByInsertion cX2_moveByInsertion 6 none :: ([.fieldLink RX2 21 "MarginDesk$Ranges" "count" "I", .fieldLink RX2 18 "MarginDesk$Ranges" "stickiness" "[I", .fieldLink RX2 9 "MarginDesk$Ranges" "begins" "[I", .fieldLink RX2 15 "MarginDesk$Ranges" "ends" "[I", .methodLink RX2 25 yX2_isGone, .instanceMethod yX2_isGone, .selects RX2 yX2_isGone yX2_isGone, .initialized RX2, .code yX2_isGone cX2_isGone 2 (some .boolean), .methodLink RX2 42 yX2_behindInsertion, .static yX2_behindInsertion, .code yX2_behindInsertion cX2_behindInsertion 5 (some .int)] ++ wsX20 ++ (vx_atM "java/lang/ArrayIndexOutOfBoundsException" ["java/lang/IndexOutOfBoundsException", "java/lang/RuntimeException", "java/lang/Exception"]).filter goodWord)
def wsX2_behindRemoval : List Cond := .code yX2_behindRemoval cX2_behindRemoval 3 (some .int) :: ([.methodLink RX2 33 Lib.Math.max.name, .static Lib.Math.max.name, .initialized "java/lang/Math", .code Lib.Math.max.name Lib.Math.max.code 2 (some .int)])
def wsX2_moveByRemoval : List Cond := .code yX2_moveByRemoval cX2_moveByRemoval 5 (some .int) :: ([.fieldLink RX2 21 "MarginDesk$Ranges" "count" "I", .fieldLink RX2 9 "MarginDesk$Ranges" "begins" "[I", .fieldLink RX2 15 "MarginDesk$Ranges" "ends" "[I", .methodLink RX2 25 yX2_isGone, .instanceMethod yX2_isGone, .selects RX2 yX2_isGone yX2_isGone, .initialized RX2, .code yX2_isGone cX2_isGone 2 (some .boolean), .methodLink RX2 46 yX2_behindRemoval, .static yX2_behindRemoval, .code yX2_behindRemoval cX2_behindRemoval 3 (some .int), .methodLink RX2 33 Lib.Math.max.name, .static Lib.Math.max.name, .initialized "java/lang/Math", .code Lib.Math.max.name Lib.Math.max.code 2 (some .int), .static yX4_bit, .initialized RX4, .code yX4_bit cX4_bit 1 (some .int)] ++ wsX20 ++ (vx_atM "java/lang/ArrayIndexOutOfBoundsException" ["java/lang/IndexOutOfBoundsException", "java/lang/RuntimeException", "java/lang/Exception"]).filter goodWord)
def wsX3_init : List Cond := .code yX3_init cX3_init 1 none :: ([.methodLink RX3 3 objectInit, .instanceMethod objectInit, .code objectInit ⟨#[0xb1]⟩ 1 none, .arrayClass .int, .fieldLink RX3 9 "MarginDesk$Text" "letters" "[I", .fieldLink RX3 15 "MarginDesk$Text" "marks" "[I", .fieldLink RX3 18 "MarginDesk$Text" "size" "I"] ++ wsX30)
def wsX3_marksBehind : List Cond := .code yX3_marksBehind cX3_marksBehind 2 (some .int) :: ([.fieldLink RX3 15 "MarginDesk$Text" "marks" "[I", .methodLink RX3 22 yX3_hasLetterBehind, .instanceMethod yX3_hasLetterBehind, .selects RX3 yX3_hasLetterBehind yX3_hasLetterBehind, .initialized RX3, .code yX3_hasLetterBehind cX3_hasLetterBehind 2 (some .boolean), .fieldLink RX3 18 "MarginDesk$Text" "size" "I"] ++ wsX30 ++ (vx_atM "java/lang/ArrayIndexOutOfBoundsException" ["java/lang/IndexOutOfBoundsException", "java/lang/RuntimeException", "java/lang/Exception"]).filter goodWord)
def wsX3_moveTail : List Cond := .code yX3_moveTail cX3_moveTail 4 none :: ([.fieldLink RX3 18 "MarginDesk$Text" "size" "I", .fieldLink RX3 9 "MarginDesk$Text" "letters" "[I", .methodLink RX3 36 arraycopyName, .native arraycopyName, .static arraycopyName, .initialized "java/lang/System", .fieldLink RX3 15 "MarginDesk$Text" "marks" "[I"] ++ wsX30)
def wsJ7_rangeCheck_23922 : List Cond := .code yJ7_rangeCheck_23922 cJ7_rangeCheck_23922 3 none :: ([.classLink RJ7 45 RJ4, .instantiable RJ4 4, .initialized RJ4, .classLink RJ7 68 RJx00060, .instantiable RJx00060 6, .initialized RJx00060] ++ wsJ40 ++ wsJx000600)
def wsJ7_fill_fda19 : List Cond := .code yJ7_fill_fda19 cJ7_fill_fda19 5 none :: ([.methodLink RJ7 13 yJ7_rangeCheck_23922, .static yJ7_rangeCheck_23922, .initialized RJ7, .code yJ7_rangeCheck_23922 cJ7_rangeCheck_23922 3 none, .classLink RJ7 45 RJ4, .instantiable RJ4 4, .initialized RJ4, .classLink RJ7 68 RJx00060, .instantiable RJx00060 6, .initialized RJx00060] ++ wsJ40 ++ wsJx000600)
def wsX3_putIn_r1 : List Cond := [Cond.fieldLink RX3 9 "MarginDesk$Text" "letters" "[I", Cond.fieldLink RX3 15 "MarginDesk$Text" "marks" "[I", Cond.methodLink RX3 26 yX3_moveTail, Cond.instanceMethod yX3_moveTail, Cond.selects RX3 yX3_moveTail yX3_moveTail, Cond.initialized RX3, Cond.code yX3_moveTail cX3_moveTail 4 none, Cond.fieldLink RX3 18 "MarginDesk$Text" "size" "I", Cond.methodLink RX3 36 arraycopyName, Cond.native arraycopyName, Cond.static arraycopyName, Cond.initialized "java/lang/System", Cond.methodLink RX3 30 yJ7_fill_fda19, Cond.static yJ7_fill_fda19, Cond.initialized RJ7, Cond.code yJ7_fill_fda19 cJ7_fill_fda19 5 none, Cond.methodLink RJ7 13 yJ7_rangeCheck_23922, Cond.static yJ7_rangeCheck_23922, Cond.code yJ7_rangeCheck_23922 cJ7_rangeCheck_23922 3 none, Cond.classLink RJ7 45 RJ4, Cond.instantiable RJ4 4, Cond.initialized RJ4, Cond.classLink RJ7 68 RJx00060, Cond.instantiable RJx00060 6]
def wsX3_putIn_r2 : List Cond := [Cond.initialized RJx00060]
def wsX3_putIn : List Cond := .code yX3_putIn cX3_putIn 4 none :: ((wsX3_putIn_r1 ++ wsX3_putIn_r2) ++ wsX30 ++ wsJ40 ++ wsJx000600)
def wsX3_takeOut : List Cond := .code yX3_takeOut cX3_takeOut 3 none :: ([.methodLink RX3 26 yX3_moveTail, .instanceMethod yX3_moveTail, .selects RX3 yX3_moveTail yX3_moveTail, .initialized RX3, .code yX3_moveTail cX3_moveTail 4 none, .fieldLink RX3 18 "MarginDesk$Text" "size" "I", .fieldLink RX3 9 "MarginDesk$Text" "letters" "[I", .methodLink RX3 36 arraycopyName, .native arraycopyName, .static arraycopyName, .initialized "java/lang/System", .fieldLink RX3 15 "MarginDesk$Text" "marks" "[I"] ++ wsX30)
def wsX3_mark : List Cond := .code yX3_mark cX3_mark 5 none :: ([.fieldLink RX3 15 "MarginDesk$Text" "marks" "[I"] ++ wsX30 ++ (vx_atM "java/lang/ArrayIndexOutOfBoundsException" ["java/lang/IndexOutOfBoundsException", "java/lang/RuntimeException", "java/lang/Exception"]).filter goodWord)
def wsX4_init_r1 : List Cond := [Cond.methodLink RX4 1 objectInit, Cond.instanceMethod objectInit, Cond.code objectInit ⟨#[0xb1]⟩ 1 none, Cond.classLink RX4 7 RX3, Cond.instantiable RX3 3, Cond.initialized RX3, Cond.fieldLink RX4 10 "MarginDesk" "text" "LMarginDesk$Text;", Cond.classLink RX4 16 RX2, Cond.instantiable RX2 4, Cond.initialized RX2, Cond.fieldLink RX4 19 "MarginDesk" "commentRanges" "LMarginDesk$Ranges;", Cond.classLink RX4 23 RX1, Cond.instantiable RX1 4, Cond.initialized RX1, Cond.fieldLink RX4 26 "MarginDesk" "quotes" "LMarginDesk$Quotes;", Cond.classLink RX4 30 RX0, Cond.instantiable RX0 1, Cond.initialized RX0, Cond.fieldLink RX4 33 "MarginDesk" "history" "LMarginDesk$History;", Cond.arrayClass .int, Cond.fieldLink RX4 37 "MarginDesk" "answerCounts" "[I", Cond.fieldLink RX4 41 "MarginDesk" "openSet" "I", Cond.fieldLink RX4 45 "MarginDesk" "edits" "I", Cond.fieldLink RX4 48 "MarginDesk" "suggestionRanges" "LMarginDesk$Ranges;"]
def wsX4_init_r2 : List Cond := [Cond.fieldLink RX4 51 "MarginDesk" "suggestedLetters" "[I", Cond.fieldLink RX4 54 "MarginDesk" "suggestedCounts" "[I", Cond.fieldLink RX4 57 "MarginDesk" "states" "[I", Cond.instanceMethod yX3_init, Cond.code yX3_init cX3_init 1 none, Cond.methodLink RX3 3 objectInit, Cond.fieldLink RX3 9 "MarginDesk$Text" "letters" "[I", Cond.fieldLink RX3 15 "MarginDesk$Text" "marks" "[I", Cond.fieldLink RX3 18 "MarginDesk$Text" "size" "I", Cond.instanceMethod yX2_init, Cond.code yX2_init cX2_init 1 none, Cond.methodLink RX2 3 objectInit, Cond.fieldLink RX2 9 "MarginDesk$Ranges" "begins" "[I", Cond.fieldLink RX2 15 "MarginDesk$Ranges" "ends" "[I", Cond.fieldLink RX2 18 "MarginDesk$Ranges" "stickiness" "[I", Cond.fieldLink RX2 21 "MarginDesk$Ranges" "count" "I", Cond.instanceMethod yX1_init, Cond.code yX1_init cX1_init 1 none, Cond.methodLink RX1 3 objectInit, Cond.fieldLink RX1 9 "MarginDesk$Quotes" "letters" "[I", Cond.fieldLink RX1 15 "MarginDesk$Quotes" "sizes" "[I", Cond.fieldLink RX1 18 "MarginDesk$Quotes" "aheads" "[I", Cond.fieldLink RX1 21 "MarginDesk$Quotes" "behinds" "[I", Cond.instanceMethod yX0_init]
def wsX4_init_r3 : List Cond := [Cond.code yX0_init cX0_init 1 none, Cond.methodLink RX0 3 objectInit, Cond.fieldLink RX0 9 "MarginDesk$History" "ranges" "[I"]
def wsX4_init : List Cond := .code yX4_init cX4_init 1 none :: ((wsX4_init_r1 ++ (wsX4_init_r2 ++ wsX4_init_r3)) ++ wsX30 ++ wsX40 ++ wsX20 ++ wsX10 ++ wsX00)
def wsX4_checkPlace : List Cond := .code yX4_checkPlace cX4_checkPlace 2 none :: ([.classLink RX4 138 "java/lang/IndexOutOfBoundsException", .initialized "java/lang/IndexOutOfBoundsException", .fieldLink RX4 10 "MarginDesk" "text" "LMarginDesk$Text;"] ++ wsX40 ++ wsX30 ++ (vx_atS RX4 142 "java/lang/IndexOutOfBoundsException" ["java/lang/RuntimeException", "java/lang/Exception"]).filter goodWord)
def wsX4_checkAmong : List Cond := .code yX4_checkAmong cX4_checkAmong 4 none :: ([.classLink RX4 182 "java/lang/IllegalArgumentException", .initialized "java/lang/IllegalArgumentException"] ++ (vx_atS RX4 186 "java/lang/IllegalArgumentException" ["java/lang/RuntimeException", "java/lang/Exception"]).filter goodWord)
def wsX4_checkLetter : List Cond := .code yX4_checkLetter cX4_checkLetter 2 none :: ([.methodLink RX4 67 yX4_checkAmong, .instanceMethod yX4_checkAmong, .selects RX4 yX4_checkAmong yX4_checkAmong, .initialized RX4, .code yX4_checkAmong cX4_checkAmong 4 none, .classLink RX4 182 "java/lang/IllegalArgumentException", .initialized "java/lang/IllegalArgumentException"] ++ (vx_atS RX4 186 "java/lang/IllegalArgumentException" ["java/lang/RuntimeException", "java/lang/Exception"]).filter goodWord)
def wsX4_checkRoom : List Cond := .code yX4_checkRoom cX4_checkRoom 3 none :: ([.classLink RX4 95 "java/lang/IllegalStateException", .initialized "java/lang/IllegalStateException", .fieldLink RX4 10 "MarginDesk" "text" "LMarginDesk$Text;", .fieldLink RX4 45 "MarginDesk" "edits" "I"] ++ wsX40 ++ wsX30 ++ (vx_atS RX4 99 "java/lang/IllegalStateException" ["java/lang/RuntimeException", "java/lang/Exception"]).filter goodWord)
def wsX4_leaveVersion : List Cond := .code yX4_leaveVersion cX4_leaveVersion 1 none :: ([.fieldLink RX4 33 "MarginDesk" "history" "LMarginDesk$History;", .fieldLink RX4 45 "MarginDesk" "edits" "I", .fieldLink RX4 19 "MarginDesk" "commentRanges" "LMarginDesk$Ranges;", .instanceMethod yX0_write, .initialized RX0, .selects RX0 yX0_write yX0_write, .code yX0_write cX0_write 5 none, .fieldLink RX0 9 "MarginDesk$History" "ranges" "[I", .instanceMethod yX2_asNumber, .initialized RX2, .selects RX2 yX2_asNumber yX2_asNumber, .code yX2_asNumber cX2_asNumber 2 (some .int), .fieldLink RX2 9 "MarginDesk$Ranges" "begins" "[I", .fieldLink RX2 15 "MarginDesk$Ranges" "ends" "[I", .methodLink RX2 25 yX2_isGone, .instanceMethod yX2_isGone, .selects RX2 yX2_isGone yX2_isGone, .code yX2_isGone cX2_isGone 2 (some .boolean)] ++ wsX40 ++ wsX20 ++ wsX00 ++ (vx_atM "java/lang/ArrayIndexOutOfBoundsException" ["java/lang/IndexOutOfBoundsException", "java/lang/RuntimeException", "java/lang/Exception"]).filter goodWord)
def wsX4_putLettersIn_r1 : List Cond := [Cond.fieldLink RX4 19 "MarginDesk" "commentRanges" "LMarginDesk$Ranges;", Cond.fieldLink RX4 48 "MarginDesk" "suggestionRanges" "LMarginDesk$Ranges;", Cond.fieldLink RX4 10 "MarginDesk" "text" "LMarginDesk$Text;", Cond.methodLink RX4 199 yX4_leaveVersion, Cond.instanceMethod yX4_leaveVersion, Cond.selects RX4 yX4_leaveVersion yX4_leaveVersion, Cond.initialized RX4, Cond.code yX4_leaveVersion cX4_leaveVersion 1 none, Cond.fieldLink RX4 33 "MarginDesk" "history" "LMarginDesk$History;", Cond.fieldLink RX4 45 "MarginDesk" "edits" "I", Cond.instanceMethod yX0_write, Cond.initialized RX0, Cond.selects RX0 yX0_write yX0_write, Cond.code yX0_write cX0_write 5 none, Cond.fieldLink RX0 9 "MarginDesk$History" "ranges" "[I", Cond.instanceMethod yX2_asNumber, Cond.initialized RX2, Cond.selects RX2 yX2_asNumber yX2_asNumber, Cond.code yX2_asNumber cX2_asNumber 2 (some .int), Cond.fieldLink RX2 9 "MarginDesk$Ranges" "begins" "[I", Cond.fieldLink RX2 15 "MarginDesk$Ranges" "ends" "[I", Cond.methodLink RX2 25 yX2_isGone, Cond.instanceMethod yX2_isGone, Cond.selects RX2 yX2_isGone yX2_isGone]
def wsX4_putLettersIn_r2 : List Cond := [Cond.code yX2_isGone cX2_isGone 2 (some .boolean), Cond.instanceMethod yX2_moveByInsertion, Cond.selects RX2 yX2_moveByInsertion yX2_moveByInsertion, Cond.code yX2_moveByInsertion cX2_moveByInsertion 6 none, Cond.fieldLink RX2 21 "MarginDesk$Ranges" "count" "I", Cond.fieldLink RX2 18 "MarginDesk$Ranges" "stickiness" "[I", Cond.methodLink RX2 42 yX2_behindInsertion, Cond.static yX2_behindInsertion, Cond.code yX2_behindInsertion cX2_behindInsertion 5 (some .int), Cond.instanceMethod yX3_putIn, Cond.initialized RX3, Cond.selects RX3 yX3_putIn yX3_putIn, Cond.code yX3_putIn cX3_putIn 4 none, Cond.fieldLink RX3 9 "MarginDesk$Text" "letters" "[I", Cond.fieldLink RX3 15 "MarginDesk$Text" "marks" "[I", Cond.methodLink RX3 26 yX3_moveTail, Cond.instanceMethod yX3_moveTail, Cond.selects RX3 yX3_moveTail yX3_moveTail, Cond.code yX3_moveTail cX3_moveTail 4 none, Cond.fieldLink RX3 18 "MarginDesk$Text" "size" "I", Cond.methodLink RX3 36 arraycopyName, Cond.native arraycopyName, Cond.static arraycopyName, Cond.initialized "java/lang/System"]
def wsX4_putLettersIn_r3 : List Cond := [Cond.methodLink RX3 30 yJ7_fill_fda19, Cond.static yJ7_fill_fda19, Cond.initialized RJ7, Cond.code yJ7_fill_fda19 cJ7_fill_fda19 5 none, Cond.methodLink RJ7 13 yJ7_rangeCheck_23922, Cond.static yJ7_rangeCheck_23922, Cond.code yJ7_rangeCheck_23922 cJ7_rangeCheck_23922 3 none, Cond.classLink RJ7 45 RJ4, Cond.instantiable RJ4 4, Cond.initialized RJ4, Cond.classLink RJ7 68 RJx00060, Cond.instantiable RJx00060 6, Cond.initialized RJx00060, Cond.instanceMethod yX2_covering, Cond.selects RX2 yX2_covering yX2_covering, Cond.code yX2_covering cX2_covering 4 (some .int), Cond.static yX4_bit, Cond.code yX4_bit cX4_bit 1 (some .int), Cond.instanceMethod yX3_mark, Cond.selects RX3 yX3_mark yX3_mark, Cond.code yX3_mark cX3_mark 5 none]
def wsX4_putLettersIn : List Cond := .code yX4_putLettersIn cX4_putLettersIn 4 none :: ((wsX4_putLettersIn_r1 ++ (wsX4_putLettersIn_r2 ++ wsX4_putLettersIn_r3)) ++ wsX40 ++ wsX20 ++ wsX00 ++ wsX30 ++ wsJ40 ++ wsJx000600 ++ (vx_atM "java/lang/ArrayIndexOutOfBoundsException" ["java/lang/IndexOutOfBoundsException", "java/lang/RuntimeException", "java/lang/Exception"]).filter goodWord)
def wsX4_insert_r1 : List Cond := [Cond.fieldLink RX4 10 "MarginDesk" "text" "LMarginDesk$Text;", Cond.methodLink RX4 60 yX4_checkPlace, Cond.instanceMethod yX4_checkPlace, Cond.selects RX4 yX4_checkPlace yX4_checkPlace, Cond.initialized RX4, Cond.code yX4_checkPlace cX4_checkPlace 2 none, Cond.classLink RX4 138 "java/lang/IndexOutOfBoundsException", Cond.initialized "java/lang/IndexOutOfBoundsException", Cond.methodLink RX4 64 yX4_checkLetter, Cond.instanceMethod yX4_checkLetter, Cond.selects RX4 yX4_checkLetter yX4_checkLetter, Cond.code yX4_checkLetter cX4_checkLetter 2 none, Cond.methodLink RX4 67 yX4_checkAmong, Cond.instanceMethod yX4_checkAmong, Cond.selects RX4 yX4_checkAmong yX4_checkAmong, Cond.code yX4_checkAmong cX4_checkAmong 4 none, Cond.classLink RX4 182 "java/lang/IllegalArgumentException", Cond.initialized "java/lang/IllegalArgumentException", Cond.methodLink RX4 71 yX4_checkRoom, Cond.instanceMethod yX4_checkRoom, Cond.selects RX4 yX4_checkRoom yX4_checkRoom, Cond.code yX4_checkRoom cX4_checkRoom 3 none, Cond.classLink RX4 95 "java/lang/IllegalStateException", Cond.initialized "java/lang/IllegalStateException"]
def wsX4_insert_r2 : List Cond := [Cond.fieldLink RX4 45 "MarginDesk" "edits" "I", Cond.methodLink RX4 75 yX4_putLettersIn, Cond.instanceMethod yX4_putLettersIn, Cond.selects RX4 yX4_putLettersIn yX4_putLettersIn, Cond.code yX4_putLettersIn cX4_putLettersIn 4 none, Cond.fieldLink RX4 19 "MarginDesk" "commentRanges" "LMarginDesk$Ranges;", Cond.fieldLink RX4 48 "MarginDesk" "suggestionRanges" "LMarginDesk$Ranges;", Cond.methodLink RX4 199 yX4_leaveVersion, Cond.instanceMethod yX4_leaveVersion, Cond.selects RX4 yX4_leaveVersion yX4_leaveVersion, Cond.code yX4_leaveVersion cX4_leaveVersion 1 none, Cond.fieldLink RX4 33 "MarginDesk" "history" "LMarginDesk$History;", Cond.instanceMethod yX0_write, Cond.initialized RX0, Cond.selects RX0 yX0_write yX0_write, Cond.code yX0_write cX0_write 5 none, Cond.fieldLink RX0 9 "MarginDesk$History" "ranges" "[I", Cond.instanceMethod yX2_asNumber, Cond.initialized RX2, Cond.selects RX2 yX2_asNumber yX2_asNumber, Cond.code yX2_asNumber cX2_asNumber 2 (some .int), Cond.fieldLink RX2 9 "MarginDesk$Ranges" "begins" "[I", Cond.fieldLink RX2 15 "MarginDesk$Ranges" "ends" "[I", Cond.methodLink RX2 25 yX2_isGone]
def wsX4_insert_r3 : List Cond := [Cond.instanceMethod yX2_isGone, Cond.selects RX2 yX2_isGone yX2_isGone, Cond.code yX2_isGone cX2_isGone 2 (some .boolean), Cond.instanceMethod yX2_moveByInsertion, Cond.selects RX2 yX2_moveByInsertion yX2_moveByInsertion, Cond.code yX2_moveByInsertion cX2_moveByInsertion 6 none, Cond.fieldLink RX2 21 "MarginDesk$Ranges" "count" "I", Cond.fieldLink RX2 18 "MarginDesk$Ranges" "stickiness" "[I", Cond.methodLink RX2 42 yX2_behindInsertion, Cond.static yX2_behindInsertion, Cond.code yX2_behindInsertion cX2_behindInsertion 5 (some .int), Cond.instanceMethod yX3_putIn, Cond.initialized RX3, Cond.selects RX3 yX3_putIn yX3_putIn, Cond.code yX3_putIn cX3_putIn 4 none, Cond.fieldLink RX3 9 "MarginDesk$Text" "letters" "[I", Cond.fieldLink RX3 15 "MarginDesk$Text" "marks" "[I", Cond.methodLink RX3 26 yX3_moveTail, Cond.instanceMethod yX3_moveTail, Cond.selects RX3 yX3_moveTail yX3_moveTail, Cond.code yX3_moveTail cX3_moveTail 4 none, Cond.fieldLink RX3 18 "MarginDesk$Text" "size" "I", Cond.methodLink RX3 36 arraycopyName, Cond.native arraycopyName]
def wsX4_insert_r4 : List Cond := [Cond.static arraycopyName, Cond.initialized "java/lang/System", Cond.methodLink RX3 30 yJ7_fill_fda19, Cond.static yJ7_fill_fda19, Cond.initialized RJ7, Cond.code yJ7_fill_fda19 cJ7_fill_fda19 5 none, Cond.methodLink RJ7 13 yJ7_rangeCheck_23922, Cond.static yJ7_rangeCheck_23922, Cond.code yJ7_rangeCheck_23922 cJ7_rangeCheck_23922 3 none, Cond.classLink RJ7 45 RJ4, Cond.instantiable RJ4 4, Cond.initialized RJ4, Cond.classLink RJ7 68 RJx00060, Cond.instantiable RJx00060 6, Cond.initialized RJx00060, Cond.instanceMethod yX2_covering, Cond.selects RX2 yX2_covering yX2_covering, Cond.code yX2_covering cX2_covering 4 (some .int), Cond.static yX4_bit, Cond.code yX4_bit cX4_bit 1 (some .int), Cond.instanceMethod yX3_mark, Cond.selects RX3 yX3_mark yX3_mark, Cond.code yX3_mark cX3_mark 5 none]
def wsX4_insert : List Cond := .code yX4_insert cX4_insert 4 (some .int) :: ((wsX4_insert_r1 ++ (wsX4_insert_r2 ++ (wsX4_insert_r3 ++ wsX4_insert_r4))) ++ wsX40 ++ wsX30 ++ wsX20 ++ wsX00 ++ wsJ40 ++ wsJx000600 ++ (vx_atS RX4 142 "java/lang/IndexOutOfBoundsException" ["java/lang/RuntimeException", "java/lang/Exception"]).filter goodWord ++ (vx_atS RX4 186 "java/lang/IllegalArgumentException" ["java/lang/RuntimeException", "java/lang/Exception"]).filter goodWord ++ (vx_atS RX4 99 "java/lang/IllegalStateException" ["java/lang/RuntimeException", "java/lang/Exception"]).filter goodWord ++ (vx_atM "java/lang/ArrayIndexOutOfBoundsException" ["java/lang/IndexOutOfBoundsException", "java/lang/RuntimeException", "java/lang/Exception"]).filter goodWord)
def wsX4_letGo : List Cond := .code yX4_letGo cX4_letGo 3 none :: ([.fieldLink RX4 48 "MarginDesk" "suggestionRanges" "LMarginDesk$Ranges;", .fieldLink RX4 57 "MarginDesk" "states" "[I", .methodLink RX4 110 yX4_bit, .static yX4_bit, .initialized RX4, .code yX4_bit cX4_bit 1 (some .int)] ++ wsX40 ++ wsX20 ++ (vx_atM "java/lang/ArrayIndexOutOfBoundsException" ["java/lang/IndexOutOfBoundsException", "java/lang/RuntimeException", "java/lang/Exception"]).filter goodWord)
def wsJ6_bitCount_0f7a4 : List Cond := .code yJ6_bitCount_0f7a4 cJ6_bitCount_0f7a4 1 (some .int) :: ([.constant RJ6 265 (1431655765), .constant RJ6 266 (858993459), .constant RJ6 267 (252645135)])
def wsX4_takeLettersOut_r1 : List Cond := [Cond.fieldLink RX4 19 "MarginDesk" "commentRanges" "LMarginDesk$Ranges;", Cond.fieldLink RX4 48 "MarginDesk" "suggestionRanges" "LMarginDesk$Ranges;", Cond.fieldLink RX4 10 "MarginDesk" "text" "LMarginDesk$Text;", Cond.methodLink RX4 199 yX4_leaveVersion, Cond.instanceMethod yX4_leaveVersion, Cond.selects RX4 yX4_leaveVersion yX4_leaveVersion, Cond.initialized RX4, Cond.code yX4_leaveVersion cX4_leaveVersion 1 none, Cond.fieldLink RX4 33 "MarginDesk" "history" "LMarginDesk$History;", Cond.fieldLink RX4 45 "MarginDesk" "edits" "I", Cond.instanceMethod yX0_write, Cond.initialized RX0, Cond.selects RX0 yX0_write yX0_write, Cond.code yX0_write cX0_write 5 none, Cond.fieldLink RX0 9 "MarginDesk$History" "ranges" "[I", Cond.instanceMethod yX2_asNumber, Cond.initialized RX2, Cond.selects RX2 yX2_asNumber yX2_asNumber, Cond.code yX2_asNumber cX2_asNumber 2 (some .int), Cond.fieldLink RX2 9 "MarginDesk$Ranges" "begins" "[I", Cond.fieldLink RX2 15 "MarginDesk$Ranges" "ends" "[I", Cond.methodLink RX2 25 yX2_isGone, Cond.instanceMethod yX2_isGone, Cond.selects RX2 yX2_isGone yX2_isGone]
def wsX4_takeLettersOut_r2 : List Cond := [Cond.code yX2_isGone cX2_isGone 2 (some .boolean), Cond.instanceMethod yX2_moveByRemoval, Cond.selects RX2 yX2_moveByRemoval yX2_moveByRemoval, Cond.code yX2_moveByRemoval cX2_moveByRemoval 5 (some .int), Cond.fieldLink RX2 21 "MarginDesk$Ranges" "count" "I", Cond.methodLink RX2 46 yX2_behindRemoval, Cond.static yX2_behindRemoval, Cond.code yX2_behindRemoval cX2_behindRemoval 3 (some .int), Cond.methodLink RX2 33 Lib.Math.max.name, Cond.static Lib.Math.max.name, Cond.initialized "java/lang/Math", Cond.code Lib.Math.max.name Lib.Math.max.code 2 (some .int), Cond.static yX4_bit, Cond.code yX4_bit cX4_bit 1 (some .int), Cond.methodLink RX4 211 yX4_letGo, Cond.instanceMethod yX4_letGo, Cond.selects RX4 yX4_letGo yX4_letGo, Cond.code yX4_letGo cX4_letGo 3 none, Cond.fieldLink RX4 57 "MarginDesk" "states" "[I", Cond.methodLink RX4 110 yX4_bit, Cond.instanceMethod yX3_takeOut, Cond.initialized RX3, Cond.selects RX3 yX3_takeOut yX3_takeOut, Cond.code yX3_takeOut cX3_takeOut 3 none]
def wsX4_takeLettersOut_r3 : List Cond := [Cond.methodLink RX3 26 yX3_moveTail, Cond.instanceMethod yX3_moveTail, Cond.selects RX3 yX3_moveTail yX3_moveTail, Cond.code yX3_moveTail cX3_moveTail 4 none, Cond.fieldLink RX3 18 "MarginDesk$Text" "size" "I", Cond.fieldLink RX3 9 "MarginDesk$Text" "letters" "[I", Cond.methodLink RX3 36 arraycopyName, Cond.native arraycopyName, Cond.static arraycopyName, Cond.initialized "java/lang/System", Cond.fieldLink RX3 15 "MarginDesk$Text" "marks" "[I", Cond.methodLink RX4 217 yJ6_bitCount_0f7a4, Cond.static yJ6_bitCount_0f7a4, Cond.initialized RJ6, Cond.code yJ6_bitCount_0f7a4 cJ6_bitCount_0f7a4 1 (some .int), Cond.constant RJ6 265 (1431655765), Cond.constant RJ6 266 (858993459), Cond.constant RJ6 267 (252645135)]
def wsX4_takeLettersOut : List Cond := .code yX4_takeLettersOut cX4_takeLettersOut 4 (some .int) :: ((wsX4_takeLettersOut_r1 ++ (wsX4_takeLettersOut_r2 ++ wsX4_takeLettersOut_r3)) ++ wsX40 ++ wsX20 ++ wsX00 ++ wsX30 ++ (vx_atM "java/lang/ArrayIndexOutOfBoundsException" ["java/lang/IndexOutOfBoundsException", "java/lang/RuntimeException", "java/lang/Exception"]).filter goodWord)
def wsX4_remove_r1 : List Cond := [Cond.fieldLink RX4 10 "MarginDesk" "text" "LMarginDesk$Text;", Cond.methodLink RX4 60 yX4_checkPlace, Cond.instanceMethod yX4_checkPlace, Cond.selects RX4 yX4_checkPlace yX4_checkPlace, Cond.initialized RX4, Cond.code yX4_checkPlace cX4_checkPlace 2 none, Cond.classLink RX4 138 "java/lang/IndexOutOfBoundsException", Cond.initialized "java/lang/IndexOutOfBoundsException", Cond.methodLink RX4 67 yX4_checkAmong, Cond.instanceMethod yX4_checkAmong, Cond.selects RX4 yX4_checkAmong yX4_checkAmong, Cond.code yX4_checkAmong cX4_checkAmong 4 none, Cond.classLink RX4 182 "java/lang/IllegalArgumentException", Cond.initialized "java/lang/IllegalArgumentException", Cond.methodLink RX4 71 yX4_checkRoom, Cond.instanceMethod yX4_checkRoom, Cond.selects RX4 yX4_checkRoom yX4_checkRoom, Cond.code yX4_checkRoom cX4_checkRoom 3 none, Cond.classLink RX4 95 "java/lang/IllegalStateException", Cond.initialized "java/lang/IllegalStateException", Cond.fieldLink RX4 45 "MarginDesk" "edits" "I", Cond.methodLink RX4 81 yX4_takeLettersOut, Cond.instanceMethod yX4_takeLettersOut, Cond.selects RX4 yX4_takeLettersOut yX4_takeLettersOut]
def wsX4_remove_r2 : List Cond := [Cond.code yX4_takeLettersOut cX4_takeLettersOut 4 (some .int), Cond.fieldLink RX4 19 "MarginDesk" "commentRanges" "LMarginDesk$Ranges;", Cond.fieldLink RX4 48 "MarginDesk" "suggestionRanges" "LMarginDesk$Ranges;", Cond.methodLink RX4 199 yX4_leaveVersion, Cond.instanceMethod yX4_leaveVersion, Cond.selects RX4 yX4_leaveVersion yX4_leaveVersion, Cond.code yX4_leaveVersion cX4_leaveVersion 1 none, Cond.fieldLink RX4 33 "MarginDesk" "history" "LMarginDesk$History;", Cond.instanceMethod yX0_write, Cond.initialized RX0, Cond.selects RX0 yX0_write yX0_write, Cond.code yX0_write cX0_write 5 none, Cond.fieldLink RX0 9 "MarginDesk$History" "ranges" "[I", Cond.instanceMethod yX2_asNumber, Cond.initialized RX2, Cond.selects RX2 yX2_asNumber yX2_asNumber, Cond.code yX2_asNumber cX2_asNumber 2 (some .int), Cond.fieldLink RX2 9 "MarginDesk$Ranges" "begins" "[I", Cond.fieldLink RX2 15 "MarginDesk$Ranges" "ends" "[I", Cond.methodLink RX2 25 yX2_isGone, Cond.instanceMethod yX2_isGone, Cond.selects RX2 yX2_isGone yX2_isGone, Cond.code yX2_isGone cX2_isGone 2 (some .boolean), Cond.instanceMethod yX2_moveByRemoval]
def wsX4_remove_r3 : List Cond := [Cond.selects RX2 yX2_moveByRemoval yX2_moveByRemoval, Cond.code yX2_moveByRemoval cX2_moveByRemoval 5 (some .int), Cond.fieldLink RX2 21 "MarginDesk$Ranges" "count" "I", Cond.methodLink RX2 46 yX2_behindRemoval, Cond.static yX2_behindRemoval, Cond.code yX2_behindRemoval cX2_behindRemoval 3 (some .int), Cond.methodLink RX2 33 Lib.Math.max.name, Cond.static Lib.Math.max.name, Cond.initialized "java/lang/Math", Cond.code Lib.Math.max.name Lib.Math.max.code 2 (some .int), Cond.static yX4_bit, Cond.code yX4_bit cX4_bit 1 (some .int), Cond.methodLink RX4 211 yX4_letGo, Cond.instanceMethod yX4_letGo, Cond.selects RX4 yX4_letGo yX4_letGo, Cond.code yX4_letGo cX4_letGo 3 none, Cond.fieldLink RX4 57 "MarginDesk" "states" "[I", Cond.methodLink RX4 110 yX4_bit, Cond.instanceMethod yX3_takeOut, Cond.initialized RX3, Cond.selects RX3 yX3_takeOut yX3_takeOut, Cond.code yX3_takeOut cX3_takeOut 3 none, Cond.methodLink RX3 26 yX3_moveTail, Cond.instanceMethod yX3_moveTail]
def wsX4_remove_r4 : List Cond := [Cond.selects RX3 yX3_moveTail yX3_moveTail, Cond.code yX3_moveTail cX3_moveTail 4 none, Cond.fieldLink RX3 18 "MarginDesk$Text" "size" "I", Cond.fieldLink RX3 9 "MarginDesk$Text" "letters" "[I", Cond.methodLink RX3 36 arraycopyName, Cond.native arraycopyName, Cond.static arraycopyName, Cond.initialized "java/lang/System", Cond.fieldLink RX3 15 "MarginDesk$Text" "marks" "[I", Cond.methodLink RX4 217 yJ6_bitCount_0f7a4, Cond.static yJ6_bitCount_0f7a4, Cond.initialized RJ6, Cond.code yJ6_bitCount_0f7a4 cJ6_bitCount_0f7a4 1 (some .int), Cond.constant RJ6 265 (1431655765), Cond.constant RJ6 266 (858993459), Cond.constant RJ6 267 (252645135)]
def wsX4_remove : List Cond := .code yX4_remove cX4_remove 3 (some .int) :: ((wsX4_remove_r1 ++ (wsX4_remove_r2 ++ (wsX4_remove_r3 ++ wsX4_remove_r4))) ++ wsX40 ++ wsX30 ++ wsX20 ++ wsX00 ++ (vx_atS RX4 142 "java/lang/IndexOutOfBoundsException" ["java/lang/RuntimeException", "java/lang/Exception"]).filter goodWord ++ (vx_atS RX4 186 "java/lang/IllegalArgumentException" ["java/lang/RuntimeException", "java/lang/Exception"]).filter goodWord ++ (vx_atS RX4 99 "java/lang/IllegalStateException" ["java/lang/RuntimeException", "java/lang/Exception"]).filter goodWord ++ (vx_atM "java/lang/ArrayIndexOutOfBoundsException" ["java/lang/IndexOutOfBoundsException", "java/lang/RuntimeException", "java/lang/Exception"]).filter goodWord)
def wsX4_length : List Cond := .code yX4_length cX4_length 1 (some .int) :: ([.fieldLink RX4 10 "MarginDesk" "text" "LMarginDesk$Text;"] ++ wsX40 ++ wsX30)
def wsX4_letterAt : List Cond := .code yX4_letterAt cX4_letterAt 2 (some .int) :: ([.fieldLink RX4 10 "MarginDesk" "text" "LMarginDesk$Text;", .methodLink RX4 60 yX4_checkPlace, .instanceMethod yX4_checkPlace, .selects RX4 yX4_checkPlace yX4_checkPlace, .initialized RX4, .code yX4_checkPlace cX4_checkPlace 2 none, .classLink RX4 138 "java/lang/IndexOutOfBoundsException", .initialized "java/lang/IndexOutOfBoundsException", .instanceMethod yX3_letterBehind, .initialized RX3, .selects RX3 yX3_letterBehind yX3_letterBehind, .code yX3_letterBehind cX3_letterBehind 2 (some .int), .fieldLink RX3 9 "MarginDesk$Text" "letters" "[I", .methodLink RX3 22 yX3_hasLetterBehind, .instanceMethod yX3_hasLetterBehind, .selects RX3 yX3_hasLetterBehind yX3_hasLetterBehind, .code yX3_hasLetterBehind cX3_hasLetterBehind 2 (some .boolean), .fieldLink RX3 18 "MarginDesk$Text" "size" "I"] ++ wsX40 ++ wsX30 ++ (vx_atS RX4 142 "java/lang/IndexOutOfBoundsException" ["java/lang/RuntimeException", "java/lang/Exception"]).filter goodWord ++ (vx_atM "java/lang/ArrayIndexOutOfBoundsException" ["java/lang/IndexOutOfBoundsException", "java/lang/RuntimeException", "java/lang/Exception"]).filter goodWord)
def wsX4_version : List Cond := .code yX4_version cX4_version 1 (some .int) :: ([.fieldLink RX4 45 "MarginDesk" "edits" "I"] ++ wsX40)
def wsX4_checkRange : List Cond := .code yX4_checkRange cX4_checkRange 3 none :: ([.classLink RX4 182 "java/lang/IllegalArgumentException", .initialized "java/lang/IllegalArgumentException", .methodLink RX4 60 yX4_checkPlace, .instanceMethod yX4_checkPlace, .selects RX4 yX4_checkPlace yX4_checkPlace, .initialized RX4, .code yX4_checkPlace cX4_checkPlace 2 none, .classLink RX4 138 "java/lang/IndexOutOfBoundsException", .initialized "java/lang/IndexOutOfBoundsException", .fieldLink RX4 10 "MarginDesk" "text" "LMarginDesk$Text;"] ++ wsX40 ++ wsX30 ++ (vx_atS RX4 186 "java/lang/IllegalArgumentException" ["java/lang/RuntimeException", "java/lang/Exception"]).filter goodWord ++ (vx_atS RX4 142 "java/lang/IndexOutOfBoundsException" ["java/lang/RuntimeException", "java/lang/Exception"]).filter goodWord)
def wsX4_comment_r1 : List Cond := [Cond.classLink RX4 95 "java/lang/IllegalStateException", Cond.initialized "java/lang/IllegalStateException", Cond.fieldLink RX4 19 "MarginDesk" "commentRanges" "LMarginDesk$Ranges;", Cond.fieldLink RX4 26 "MarginDesk" "quotes" "LMarginDesk$Quotes;", Cond.fieldLink RX4 10 "MarginDesk" "text" "LMarginDesk$Text;", Cond.fieldLink RX4 41 "MarginDesk" "openSet" "I", Cond.methodLink RX4 89 yX4_checkRange, Cond.instanceMethod yX4_checkRange, Cond.selects RX4 yX4_checkRange yX4_checkRange, Cond.initialized RX4, Cond.code yX4_checkRange cX4_checkRange 3 none, Cond.classLink RX4 182 "java/lang/IllegalArgumentException", Cond.initialized "java/lang/IllegalArgumentException", Cond.methodLink RX4 60 yX4_checkPlace, Cond.instanceMethod yX4_checkPlace, Cond.selects RX4 yX4_checkPlace yX4_checkPlace, Cond.code yX4_checkPlace cX4_checkPlace 2 none, Cond.classLink RX4 138 "java/lang/IndexOutOfBoundsException", Cond.initialized "java/lang/IndexOutOfBoundsException", Cond.methodLink RX4 67 yX4_checkAmong, Cond.instanceMethod yX4_checkAmong, Cond.selects RX4 yX4_checkAmong yX4_checkAmong, Cond.code yX4_checkAmong cX4_checkAmong 4 none, Cond.instanceMethod yX2_add]
def wsX4_comment_r2 : List Cond := [Cond.initialized RX2, Cond.selects RX2 yX2_add yX2_add, Cond.code yX2_add cX2_add 5 (some .int), Cond.fieldLink RX2 21 "MarginDesk$Ranges" "count" "I", Cond.fieldLink RX2 9 "MarginDesk$Ranges" "begins" "[I", Cond.fieldLink RX2 15 "MarginDesk$Ranges" "ends" "[I", Cond.fieldLink RX2 18 "MarginDesk$Ranges" "stickiness" "[I", Cond.instanceMethod yX1_keep, Cond.initialized RX1, Cond.selects RX1 yX1_keep yX1_keep, Cond.code yX1_keep cX1_keep 5 none, Cond.fieldLink RX1 15 "MarginDesk$Quotes" "sizes" "[I", Cond.fieldLink RX1 9 "MarginDesk$Quotes" "letters" "[I", Cond.methodLink RX1 27 arraycopyName, Cond.native arraycopyName, Cond.static arraycopyName, Cond.initialized "java/lang/System", Cond.fieldLink RX1 18 "MarginDesk$Quotes" "aheads" "[I", Cond.fieldLink RX1 21 "MarginDesk$Quotes" "behinds" "[I", Cond.instanceMethod yX3_letterBehind, Cond.initialized RX3, Cond.selects RX3 yX3_letterBehind yX3_letterBehind, Cond.code yX3_letterBehind cX3_letterBehind 2 (some .int), Cond.fieldLink RX3 9 "MarginDesk$Text" "letters" "[I"]
def wsX4_comment_r3 : List Cond := [Cond.methodLink RX3 22 yX3_hasLetterBehind, Cond.instanceMethod yX3_hasLetterBehind, Cond.selects RX3 yX3_hasLetterBehind yX3_hasLetterBehind, Cond.code yX3_hasLetterBehind cX3_hasLetterBehind 2 (some .boolean), Cond.fieldLink RX3 18 "MarginDesk$Text" "size" "I", Cond.methodLink RX4 110 yX4_bit, Cond.static yX4_bit, Cond.code yX4_bit cX4_bit 1 (some .int), Cond.instanceMethod yX3_mark, Cond.selects RX3 yX3_mark yX3_mark, Cond.code yX3_mark cX3_mark 5 none, Cond.fieldLink RX3 15 "MarginDesk$Text" "marks" "[I"]
def wsX4_comment : List Cond := .code yX4_comment cX4_comment 5 (some .int) :: ((wsX4_comment_r1 ++ (wsX4_comment_r2 ++ wsX4_comment_r3)) ++ wsX40 ++ wsX20 ++ wsX30 ++ wsX10 ++ (vx_atS RX4 99 "java/lang/IllegalStateException" ["java/lang/RuntimeException", "java/lang/Exception"]).filter goodWord ++ (vx_atS RX4 186 "java/lang/IllegalArgumentException" ["java/lang/RuntimeException", "java/lang/Exception"]).filter goodWord ++ (vx_atS RX4 142 "java/lang/IndexOutOfBoundsException" ["java/lang/RuntimeException", "java/lang/Exception"]).filter goodWord ++ (vx_atM "java/lang/ArrayIndexOutOfBoundsException" ["java/lang/IndexOutOfBoundsException", "java/lang/RuntimeException", "java/lang/Exception"]).filter goodWord)
def wsX4_checkComment : List Cond := .code yX4_checkComment cX4_checkComment 2 none :: ([.classLink RX4 138 "java/lang/IndexOutOfBoundsException", .initialized "java/lang/IndexOutOfBoundsException", .fieldLink RX4 19 "MarginDesk" "commentRanges" "LMarginDesk$Ranges;"] ++ wsX40 ++ wsX20 ++ (vx_atS RX4 142 "java/lang/IndexOutOfBoundsException" ["java/lang/RuntimeException", "java/lang/Exception"]).filter goodWord)
def wsX4_answer : List Cond := .code yX4_answer cX4_answer 2 (some .int) :: ([.fieldLink RX4 41 "MarginDesk" "openSet" "I", .fieldLink RX4 37 "MarginDesk" "answerCounts" "[I", .methodLink RX4 116 yX4_checkComment, .instanceMethod yX4_checkComment, .selects RX4 yX4_checkComment yX4_checkComment, .initialized RX4, .code yX4_checkComment cX4_checkComment 2 none, .classLink RX4 138 "java/lang/IndexOutOfBoundsException", .initialized "java/lang/IndexOutOfBoundsException", .fieldLink RX4 19 "MarginDesk" "commentRanges" "LMarginDesk$Ranges;", .methodLink RX4 110 yX4_bit, .static yX4_bit, .code yX4_bit cX4_bit 1 (some .int)] ++ wsX40 ++ wsX20 ++ (vx_atM "java/lang/ArrayIndexOutOfBoundsException" ["java/lang/IndexOutOfBoundsException", "java/lang/RuntimeException", "java/lang/Exception"]).filter goodWord ++ (vx_atS RX4 142 "java/lang/IndexOutOfBoundsException" ["java/lang/RuntimeException", "java/lang/Exception"]).filter goodWord)
def wsX4_resolve : List Cond := .code yX4_resolve cX4_resolve 3 (some .boolean) :: ([.fieldLink RX4 41 "MarginDesk" "openSet" "I", .methodLink RX4 116 yX4_checkComment, .instanceMethod yX4_checkComment, .selects RX4 yX4_checkComment yX4_checkComment, .initialized RX4, .code yX4_checkComment cX4_checkComment 2 none, .classLink RX4 138 "java/lang/IndexOutOfBoundsException", .initialized "java/lang/IndexOutOfBoundsException", .fieldLink RX4 19 "MarginDesk" "commentRanges" "LMarginDesk$Ranges;", .methodLink RX4 110 yX4_bit, .static yX4_bit, .code yX4_bit cX4_bit 1 (some .int)] ++ wsX40 ++ wsX20 ++ (vx_atS RX4 142 "java/lang/IndexOutOfBoundsException" ["java/lang/RuntimeException", "java/lang/Exception"]).filter goodWord)
def wsX4_find_r1 : List Cond := [Cond.classLink RX4 95 "java/lang/IllegalStateException", Cond.initialized "java/lang/IllegalStateException", Cond.fieldLink RX4 19 "MarginDesk" "commentRanges" "LMarginDesk$Ranges;", Cond.fieldLink RX4 26 "MarginDesk" "quotes" "LMarginDesk$Quotes;", Cond.fieldLink RX4 10 "MarginDesk" "text" "LMarginDesk$Text;", Cond.methodLink RX4 116 yX4_checkComment, Cond.instanceMethod yX4_checkComment, Cond.selects RX4 yX4_checkComment yX4_checkComment, Cond.initialized RX4, Cond.code yX4_checkComment cX4_checkComment 2 none, Cond.classLink RX4 138 "java/lang/IndexOutOfBoundsException", Cond.initialized "java/lang/IndexOutOfBoundsException", Cond.instanceMethod yX2_isGone, Cond.initialized RX2, Cond.selects RX2 yX2_isGone yX2_isGone, Cond.code yX2_isGone cX2_isGone 2 (some .boolean), Cond.fieldLink RX2 9 "MarginDesk$Ranges" "begins" "[I", Cond.instanceMethod yX1_bestPlace, Cond.initialized RX1, Cond.selects RX1 yX1_bestPlace yX1_bestPlace, Cond.code yX1_bestPlace cX1_bestPlace 7 (some .int), Cond.fieldLink RX1 15 "MarginDesk$Quotes" "sizes" "[I", Cond.methodLink RX1 41 yX1_standsAt, Cond.instanceMethod yX1_standsAt]
def wsX4_find_r2 : List Cond := [Cond.selects RX1 yX1_standsAt yX1_standsAt, Cond.code yX1_standsAt cX1_standsAt 5 (some .boolean), Cond.fieldLink RX1 9 "MarginDesk$Quotes" "letters" "[I", Cond.methodLink RX1 45 yX1_fitAt, Cond.instanceMethod yX1_fitAt, Cond.selects RX1 yX1_fitAt yX1_fitAt, Cond.code yX1_fitAt cX1_fitAt 6 (some .int), Cond.fieldLink RX1 18 "MarginDesk$Quotes" "aheads" "[I", Cond.fieldLink RX1 21 "MarginDesk$Quotes" "behinds" "[I", Cond.instanceMethod yX3_letterBehind, Cond.initialized RX3, Cond.selects RX3 yX3_letterBehind yX3_letterBehind, Cond.code yX3_letterBehind cX3_letterBehind 2 (some .int), Cond.fieldLink RX3 9 "MarginDesk$Text" "letters" "[I", Cond.methodLink RX3 22 yX3_hasLetterBehind, Cond.instanceMethod yX3_hasLetterBehind, Cond.selects RX3 yX3_hasLetterBehind yX3_hasLetterBehind, Cond.code yX3_hasLetterBehind cX3_hasLetterBehind 2 (some .boolean), Cond.fieldLink RX3 18 "MarginDesk$Text" "size" "I", Cond.instanceMethod yX1_sizeOf, Cond.selects RX1 yX1_sizeOf yX1_sizeOf, Cond.code yX1_sizeOf cX1_sizeOf 2 (some .int), Cond.instanceMethod yX2_bringBack, Cond.selects RX2 yX2_bringBack yX2_bringBack]
def wsX4_find_r3 : List Cond := [Cond.code yX2_bringBack cX2_bringBack 4 none, Cond.fieldLink RX2 15 "MarginDesk$Ranges" "ends" "[I", Cond.methodLink RX4 110 yX4_bit, Cond.static yX4_bit, Cond.code yX4_bit cX4_bit 1 (some .int), Cond.instanceMethod yX3_mark, Cond.selects RX3 yX3_mark yX3_mark, Cond.code yX3_mark cX3_mark 5 none, Cond.fieldLink RX3 15 "MarginDesk$Text" "marks" "[I"]
def wsX4_find : List Cond := .code yX4_find cX4_find 4 (some .int) :: ((wsX4_find_r1 ++ (wsX4_find_r2 ++ wsX4_find_r3)) ++ wsX40 ++ wsX20 ++ wsX30 ++ wsX10 ++ (vx_atS RX4 99 "java/lang/IllegalStateException" ["java/lang/RuntimeException", "java/lang/Exception"]).filter goodWord ++ (vx_atS RX4 142 "java/lang/IndexOutOfBoundsException" ["java/lang/RuntimeException", "java/lang/Exception"]).filter goodWord ++ (vx_atM "java/lang/ArrayIndexOutOfBoundsException" ["java/lang/IndexOutOfBoundsException", "java/lang/RuntimeException", "java/lang/Exception"]).filter goodWord)
def wsX4_comments : List Cond := .code yX4_comments cX4_comments 1 (some .int) :: ([.fieldLink RX4 19 "MarginDesk" "commentRanges" "LMarginDesk$Ranges;"] ++ wsX40 ++ wsX20)
def wsX4_rangeOf : List Cond := .code yX4_rangeOf cX4_rangeOf 2 (some .int) :: ([.fieldLink RX4 19 "MarginDesk" "commentRanges" "LMarginDesk$Ranges;", .methodLink RX4 116 yX4_checkComment, .instanceMethod yX4_checkComment, .selects RX4 yX4_checkComment yX4_checkComment, .initialized RX4, .code yX4_checkComment cX4_checkComment 2 none, .classLink RX4 138 "java/lang/IndexOutOfBoundsException", .initialized "java/lang/IndexOutOfBoundsException", .instanceMethod yX2_asNumber, .initialized RX2, .selects RX2 yX2_asNumber yX2_asNumber, .code yX2_asNumber cX2_asNumber 2 (some .int), .fieldLink RX2 9 "MarginDesk$Ranges" "begins" "[I", .fieldLink RX2 15 "MarginDesk$Ranges" "ends" "[I", .methodLink RX2 25 yX2_isGone, .instanceMethod yX2_isGone, .selects RX2 yX2_isGone yX2_isGone, .code yX2_isGone cX2_isGone 2 (some .boolean)] ++ wsX40 ++ wsX20 ++ (vx_atS RX4 142 "java/lang/IndexOutOfBoundsException" ["java/lang/RuntimeException", "java/lang/Exception"]).filter goodWord ++ (vx_atM "java/lang/ArrayIndexOutOfBoundsException" ["java/lang/IndexOutOfBoundsException", "java/lang/RuntimeException", "java/lang/Exception"]).filter goodWord)
def wsX4_rangeThen_r1 : List Cond := [Cond.classLink RX4 138 "java/lang/IndexOutOfBoundsException", Cond.initialized "java/lang/IndexOutOfBoundsException", Cond.fieldLink RX4 45 "MarginDesk" "edits" "I", Cond.fieldLink RX4 19 "MarginDesk" "commentRanges" "LMarginDesk$Ranges;", Cond.fieldLink RX4 33 "MarginDesk" "history" "LMarginDesk$History;", Cond.methodLink RX4 116 yX4_checkComment, Cond.instanceMethod yX4_checkComment, Cond.selects RX4 yX4_checkComment yX4_checkComment, Cond.initialized RX4, Cond.code yX4_checkComment cX4_checkComment 2 none, Cond.instanceMethod yX2_asNumber, Cond.initialized RX2, Cond.selects RX2 yX2_asNumber yX2_asNumber, Cond.code yX2_asNumber cX2_asNumber 2 (some .int), Cond.fieldLink RX2 9 "MarginDesk$Ranges" "begins" "[I", Cond.fieldLink RX2 15 "MarginDesk$Ranges" "ends" "[I", Cond.methodLink RX2 25 yX2_isGone, Cond.instanceMethod yX2_isGone, Cond.selects RX2 yX2_isGone yX2_isGone, Cond.code yX2_isGone cX2_isGone 2 (some .boolean), Cond.instanceMethod yX0_rangeAt, Cond.initialized RX0, Cond.selects RX0 yX0_rangeAt yX0_rangeAt, Cond.code yX0_rangeAt cX0_rangeAt 3 (some .int)]
def wsX4_rangeThen_r2 : List Cond := [Cond.fieldLink RX0 9 "MarginDesk$History" "ranges" "[I"]
def wsX4_rangeThen : List Cond := .code yX4_rangeThen cX4_rangeThen 3 (some .int) :: ((wsX4_rangeThen_r1 ++ wsX4_rangeThen_r2) ++ wsX40 ++ wsX20 ++ wsX00 ++ (vx_atS RX4 142 "java/lang/IndexOutOfBoundsException" ["java/lang/RuntimeException", "java/lang/Exception"]).filter goodWord ++ (vx_atM "java/lang/ArrayIndexOutOfBoundsException" ["java/lang/IndexOutOfBoundsException", "java/lang/RuntimeException", "java/lang/Exception"]).filter goodWord)
def wsX4_open : List Cond := .code yX4_open cX4_open 1 (some .int) :: ([.fieldLink RX4 41 "MarginDesk" "openSet" "I"] ++ wsX40)
def wsX4_orphans : List Cond := .code yX4_orphans cX4_orphans 3 (some .int) :: ([.fieldLink RX4 19 "MarginDesk" "commentRanges" "LMarginDesk$Ranges;", .instanceMethod yX2_isGone, .initialized RX2, .selects RX2 yX2_isGone yX2_isGone, .code yX2_isGone cX2_isGone 2 (some .boolean), .fieldLink RX2 9 "MarginDesk$Ranges" "begins" "[I", .methodLink RX4 110 yX4_bit, .static yX4_bit, .initialized RX4, .code yX4_bit cX4_bit 1 (some .int)] ++ wsX40 ++ wsX20 ++ (vx_atM "java/lang/ArrayIndexOutOfBoundsException" ["java/lang/IndexOutOfBoundsException", "java/lang/RuntimeException", "java/lang/Exception"]).filter goodWord)
def wsX4_cover : List Cond := .code yX4_cover cX4_cover 2 (some .int) :: ([.fieldLink RX4 19 "MarginDesk" "commentRanges" "LMarginDesk$Ranges;", .methodLink RX4 60 yX4_checkPlace, .instanceMethod yX4_checkPlace, .selects RX4 yX4_checkPlace yX4_checkPlace, .initialized RX4, .code yX4_checkPlace cX4_checkPlace 2 none, .classLink RX4 138 "java/lang/IndexOutOfBoundsException", .initialized "java/lang/IndexOutOfBoundsException", .fieldLink RX4 10 "MarginDesk" "text" "LMarginDesk$Text;", .instanceMethod yX2_covering, .initialized RX2, .selects RX2 yX2_covering yX2_covering, .code yX2_covering cX2_covering 4 (some .int), .fieldLink RX2 21 "MarginDesk$Ranges" "count" "I", .fieldLink RX2 9 "MarginDesk$Ranges" "begins" "[I", .fieldLink RX2 15 "MarginDesk$Ranges" "ends" "[I", .static yX4_bit, .code yX4_bit cX4_bit 1 (some .int)] ++ wsX40 ++ wsX30 ++ wsX20 ++ (vx_atS RX4 142 "java/lang/IndexOutOfBoundsException" ["java/lang/RuntimeException", "java/lang/Exception"]).filter goodWord ++ (vx_atM "java/lang/ArrayIndexOutOfBoundsException" ["java/lang/IndexOutOfBoundsException", "java/lang/RuntimeException", "java/lang/Exception"]).filter goodWord)
def wsX4_coverByLetters : List Cond := .code yX4_coverByLetters cX4_coverByLetters 2 (some .int) :: ([.fieldLink RX4 10 "MarginDesk" "text" "LMarginDesk$Text;", .methodLink RX4 60 yX4_checkPlace, .instanceMethod yX4_checkPlace, .selects RX4 yX4_checkPlace yX4_checkPlace, .initialized RX4, .code yX4_checkPlace cX4_checkPlace 2 none, .classLink RX4 138 "java/lang/IndexOutOfBoundsException", .initialized "java/lang/IndexOutOfBoundsException", .instanceMethod yX3_marksBehind, .initialized RX3, .selects RX3 yX3_marksBehind yX3_marksBehind, .code yX3_marksBehind cX3_marksBehind 2 (some .int), .fieldLink RX3 15 "MarginDesk$Text" "marks" "[I", .methodLink RX3 22 yX3_hasLetterBehind, .instanceMethod yX3_hasLetterBehind, .selects RX3 yX3_hasLetterBehind yX3_hasLetterBehind, .code yX3_hasLetterBehind cX3_hasLetterBehind 2 (some .boolean), .fieldLink RX3 18 "MarginDesk$Text" "size" "I"] ++ wsX40 ++ wsX30 ++ (vx_atS RX4 142 "java/lang/IndexOutOfBoundsException" ["java/lang/RuntimeException", "java/lang/Exception"]).filter goodWord ++ (vx_atM "java/lang/ArrayIndexOutOfBoundsException" ["java/lang/IndexOutOfBoundsException", "java/lang/RuntimeException", "java/lang/Exception"]).filter goodWord)
def wsX4_beginsPiece : List Cond := .code yX4_beginsPiece cX4_beginsPiece 2 (some .boolean) :: ([.fieldLink RX4 19 "MarginDesk" "commentRanges" "LMarginDesk$Ranges;", .instanceMethod yX2_covering, .initialized RX2, .selects RX2 yX2_covering yX2_covering, .code yX2_covering cX2_covering 4 (some .int), .fieldLink RX2 21 "MarginDesk$Ranges" "count" "I", .fieldLink RX2 9 "MarginDesk$Ranges" "begins" "[I", .fieldLink RX2 15 "MarginDesk$Ranges" "ends" "[I", .static yX4_bit, .initialized RX4, .code yX4_bit cX4_bit 1 (some .int)] ++ wsX40 ++ wsX20 ++ (vx_atM "java/lang/ArrayIndexOutOfBoundsException" ["java/lang/IndexOutOfBoundsException", "java/lang/RuntimeException", "java/lang/Exception"]).filter goodWord)
def wsX4_pieces : List Cond := .code yX4_pieces cX4_pieces 3 (some .int) :: ([.fieldLink RX4 10 "MarginDesk" "text" "LMarginDesk$Text;", .methodLink RX4 152 yX4_beginsPiece, .instanceMethod yX4_beginsPiece, .selects RX4 yX4_beginsPiece yX4_beginsPiece, .initialized RX4, .code yX4_beginsPiece cX4_beginsPiece 2 (some .boolean), .fieldLink RX4 19 "MarginDesk" "commentRanges" "LMarginDesk$Ranges;", .instanceMethod yX2_covering, .initialized RX2, .selects RX2 yX2_covering yX2_covering, .code yX2_covering cX2_covering 4 (some .int), .fieldLink RX2 21 "MarginDesk$Ranges" "count" "I", .fieldLink RX2 9 "MarginDesk$Ranges" "begins" "[I", .fieldLink RX2 15 "MarginDesk$Ranges" "ends" "[I", .static yX4_bit, .code yX4_bit cX4_bit 1 (some .int)] ++ wsX40 ++ wsX30 ++ wsX20 ++ (vx_atM "java/lang/ArrayIndexOutOfBoundsException" ["java/lang/IndexOutOfBoundsException", "java/lang/RuntimeException", "java/lang/Exception"]).filter goodWord)
def wsX4_pieceAt : List Cond := .code yX4_pieceAt cX4_pieceAt 4 (some .int) :: ([.classLink RX4 138 "java/lang/IndexOutOfBoundsException", .initialized "java/lang/IndexOutOfBoundsException", .fieldLink RX4 10 "MarginDesk" "text" "LMarginDesk$Text;", .methodLink RX4 152 yX4_beginsPiece, .instanceMethod yX4_beginsPiece, .selects RX4 yX4_beginsPiece yX4_beginsPiece, .initialized RX4, .code yX4_beginsPiece cX4_beginsPiece 2 (some .boolean), .fieldLink RX4 19 "MarginDesk" "commentRanges" "LMarginDesk$Ranges;", .instanceMethod yX2_covering, .initialized RX2, .selects RX2 yX2_covering yX2_covering, .code yX2_covering cX2_covering 4 (some .int), .fieldLink RX2 21 "MarginDesk$Ranges" "count" "I", .fieldLink RX2 9 "MarginDesk$Ranges" "begins" "[I", .fieldLink RX2 15 "MarginDesk$Ranges" "ends" "[I", .static yX4_bit, .code yX4_bit cX4_bit 1 (some .int)] ++ wsX40 ++ wsX30 ++ wsX20 ++ (vx_atS RX4 142 "java/lang/IndexOutOfBoundsException" ["java/lang/RuntimeException", "java/lang/Exception"]).filter goodWord ++ (vx_atM "java/lang/ArrayIndexOutOfBoundsException" ["java/lang/IndexOutOfBoundsException", "java/lang/RuntimeException", "java/lang/Exception"]).filter goodWord)
def wsX4_suggest_r1 : List Cond := [Cond.classLink RX4 95 "java/lang/IllegalStateException", Cond.initialized "java/lang/IllegalStateException", Cond.fieldLink RX4 48 "MarginDesk" "suggestionRanges" "LMarginDesk$Ranges;", Cond.fieldLink RX4 51 "MarginDesk" "suggestedLetters" "[I", Cond.fieldLink RX4 54 "MarginDesk" "suggestedCounts" "[I", Cond.fieldLink RX4 57 "MarginDesk" "states" "[I", Cond.methodLink RX4 89 yX4_checkRange, Cond.instanceMethod yX4_checkRange, Cond.selects RX4 yX4_checkRange yX4_checkRange, Cond.initialized RX4, Cond.code yX4_checkRange cX4_checkRange 3 none, Cond.classLink RX4 182 "java/lang/IllegalArgumentException", Cond.initialized "java/lang/IllegalArgumentException", Cond.methodLink RX4 60 yX4_checkPlace, Cond.instanceMethod yX4_checkPlace, Cond.selects RX4 yX4_checkPlace yX4_checkPlace, Cond.code yX4_checkPlace cX4_checkPlace 2 none, Cond.classLink RX4 138 "java/lang/IndexOutOfBoundsException", Cond.initialized "java/lang/IndexOutOfBoundsException", Cond.fieldLink RX4 10 "MarginDesk" "text" "LMarginDesk$Text;", Cond.methodLink RX4 64 yX4_checkLetter, Cond.instanceMethod yX4_checkLetter, Cond.selects RX4 yX4_checkLetter yX4_checkLetter, Cond.code yX4_checkLetter cX4_checkLetter 2 none]
def wsX4_suggest_r2 : List Cond := [Cond.methodLink RX4 67 yX4_checkAmong, Cond.instanceMethod yX4_checkAmong, Cond.selects RX4 yX4_checkAmong yX4_checkAmong, Cond.code yX4_checkAmong cX4_checkAmong 4 none, Cond.instanceMethod yX2_add, Cond.initialized RX2, Cond.selects RX2 yX2_add yX2_add, Cond.code yX2_add cX2_add 5 (some .int), Cond.fieldLink RX2 21 "MarginDesk$Ranges" "count" "I", Cond.fieldLink RX2 9 "MarginDesk$Ranges" "begins" "[I", Cond.fieldLink RX2 15 "MarginDesk$Ranges" "ends" "[I", Cond.fieldLink RX2 18 "MarginDesk$Ranges" "stickiness" "[I"]
def wsX4_suggest : List Cond := .code yX4_suggest cX4_suggest 6 (some .int) :: ((wsX4_suggest_r1 ++ wsX4_suggest_r2) ++ wsX40 ++ wsX20 ++ wsX30 ++ (vx_atS RX4 99 "java/lang/IllegalStateException" ["java/lang/RuntimeException", "java/lang/Exception"]).filter goodWord ++ (vx_atM "java/lang/ArrayIndexOutOfBoundsException" ["java/lang/IndexOutOfBoundsException", "java/lang/RuntimeException", "java/lang/Exception"]).filter goodWord ++ (vx_atS RX4 186 "java/lang/IllegalArgumentException" ["java/lang/RuntimeException", "java/lang/Exception"]).filter goodWord ++ (vx_atS RX4 142 "java/lang/IndexOutOfBoundsException" ["java/lang/RuntimeException", "java/lang/Exception"]).filter goodWord)
def wsX4_checkSuggestion : List Cond := .code yX4_checkSuggestion cX4_checkSuggestion 2 none :: ([.classLink RX4 138 "java/lang/IndexOutOfBoundsException", .initialized "java/lang/IndexOutOfBoundsException", .fieldLink RX4 48 "MarginDesk" "suggestionRanges" "LMarginDesk$Ranges;"] ++ wsX40 ++ wsX20 ++ (vx_atS RX4 142 "java/lang/IndexOutOfBoundsException" ["java/lang/RuntimeException", "java/lang/Exception"]).filter goodWord)
def wsX4_checkWaiting : List Cond := .code yX4_checkWaiting cX4_checkWaiting 2 none :: ([.classLink RX4 95 "java/lang/IllegalStateException", .initialized "java/lang/IllegalStateException", .fieldLink RX4 57 "MarginDesk" "states" "[I"] ++ wsX40 ++ (vx_atM "java/lang/ArrayIndexOutOfBoundsException" ["java/lang/IndexOutOfBoundsException", "java/lang/RuntimeException", "java/lang/Exception"]).filter goodWord ++ (vx_atS RX4 99 "java/lang/IllegalStateException" ["java/lang/RuntimeException", "java/lang/Exception"]).filter goodWord)
def wsX4_overlapping : List Cond := .code yX4_overlapping cX4_overlapping 4 (some .int) :: ([.fieldLink RX4 57 "MarginDesk" "states" "[I", .fieldLink RX4 48 "MarginDesk" "suggestionRanges" "LMarginDesk$Ranges;", .instanceMethod yX2_share, .initialized RX2, .selects RX2 yX2_share yX2_share, .code yX2_share cX2_share 3 (some .boolean), .fieldLink RX2 9 "MarginDesk$Ranges" "begins" "[I", .methodLink RX2 33 Lib.Math.max.name, .static Lib.Math.max.name, .initialized "java/lang/Math", .code Lib.Math.max.name Lib.Math.max.code 2 (some .int), .fieldLink RX2 15 "MarginDesk$Ranges" "ends" "[I", .methodLink RX2 39 Lib.Math.min.name, .static Lib.Math.min.name, .code Lib.Math.min.name Lib.Math.min.code 2 (some .int), .methodLink RX4 110 yX4_bit, .static yX4_bit, .initialized RX4, .code yX4_bit cX4_bit 1 (some .int)] ++ wsX40 ++ wsX20 ++ (vx_atM "java/lang/ArrayIndexOutOfBoundsException" ["java/lang/IndexOutOfBoundsException", "java/lang/RuntimeException", "java/lang/Exception"]).filter goodWord)
def wsX4_accept_r1 : List Cond := [Cond.classLink RX4 95 "java/lang/IllegalStateException", Cond.initialized "java/lang/IllegalStateException", Cond.fieldLink RX4 48 "MarginDesk" "suggestionRanges" "LMarginDesk$Ranges;", Cond.fieldLink RX4 54 "MarginDesk" "suggestedCounts" "[I", Cond.fieldLink RX4 57 "MarginDesk" "states" "[I", Cond.fieldLink RX4 51 "MarginDesk" "suggestedLetters" "[I", Cond.fieldLink RX4 10 "MarginDesk" "text" "LMarginDesk$Text;", Cond.methodLink RX4 159 yX4_checkSuggestion, Cond.instanceMethod yX4_checkSuggestion, Cond.selects RX4 yX4_checkSuggestion yX4_checkSuggestion, Cond.initialized RX4, Cond.code yX4_checkSuggestion cX4_checkSuggestion 2 none, Cond.classLink RX4 138 "java/lang/IndexOutOfBoundsException", Cond.initialized "java/lang/IndexOutOfBoundsException", Cond.methodLink RX4 162 yX4_checkWaiting, Cond.instanceMethod yX4_checkWaiting, Cond.selects RX4 yX4_checkWaiting yX4_checkWaiting, Cond.code yX4_checkWaiting cX4_checkWaiting 2 none, Cond.methodLink RX4 165 yX4_overlapping, Cond.instanceMethod yX4_overlapping, Cond.selects RX4 yX4_overlapping yX4_overlapping, Cond.code yX4_overlapping cX4_overlapping 4 (some .int), Cond.instanceMethod yX2_share, Cond.initialized RX2]
def wsX4_accept_r2 : List Cond := [Cond.selects RX2 yX2_share yX2_share, Cond.code yX2_share cX2_share 3 (some .boolean), Cond.fieldLink RX2 9 "MarginDesk$Ranges" "begins" "[I", Cond.methodLink RX2 33 Lib.Math.max.name, Cond.static Lib.Math.max.name, Cond.initialized "java/lang/Math", Cond.code Lib.Math.max.name Lib.Math.max.code 2 (some .int), Cond.fieldLink RX2 15 "MarginDesk$Ranges" "ends" "[I", Cond.methodLink RX2 39 Lib.Math.min.name, Cond.static Lib.Math.min.name, Cond.code Lib.Math.min.name Lib.Math.min.code 2 (some .int), Cond.methodLink RX4 110 yX4_bit, Cond.static yX4_bit, Cond.code yX4_bit cX4_bit 1 (some .int), Cond.methodLink RX4 71 yX4_checkRoom, Cond.instanceMethod yX4_checkRoom, Cond.selects RX4 yX4_checkRoom yX4_checkRoom, Cond.code yX4_checkRoom cX4_checkRoom 3 none, Cond.fieldLink RX4 45 "MarginDesk" "edits" "I", Cond.methodLink RX4 81 yX4_takeLettersOut, Cond.instanceMethod yX4_takeLettersOut, Cond.selects RX4 yX4_takeLettersOut yX4_takeLettersOut, Cond.code yX4_takeLettersOut cX4_takeLettersOut 4 (some .int), Cond.fieldLink RX4 19 "MarginDesk" "commentRanges" "LMarginDesk$Ranges;"]
def wsX4_accept_r3 : List Cond := [Cond.methodLink RX4 199 yX4_leaveVersion, Cond.instanceMethod yX4_leaveVersion, Cond.selects RX4 yX4_leaveVersion yX4_leaveVersion, Cond.code yX4_leaveVersion cX4_leaveVersion 1 none, Cond.fieldLink RX4 33 "MarginDesk" "history" "LMarginDesk$History;", Cond.instanceMethod yX0_write, Cond.initialized RX0, Cond.selects RX0 yX0_write yX0_write, Cond.code yX0_write cX0_write 5 none, Cond.fieldLink RX0 9 "MarginDesk$History" "ranges" "[I", Cond.instanceMethod yX2_asNumber, Cond.selects RX2 yX2_asNumber yX2_asNumber, Cond.code yX2_asNumber cX2_asNumber 2 (some .int), Cond.methodLink RX2 25 yX2_isGone, Cond.instanceMethod yX2_isGone, Cond.selects RX2 yX2_isGone yX2_isGone, Cond.code yX2_isGone cX2_isGone 2 (some .boolean), Cond.instanceMethod yX2_moveByRemoval, Cond.selects RX2 yX2_moveByRemoval yX2_moveByRemoval, Cond.code yX2_moveByRemoval cX2_moveByRemoval 5 (some .int), Cond.fieldLink RX2 21 "MarginDesk$Ranges" "count" "I", Cond.methodLink RX2 46 yX2_behindRemoval, Cond.static yX2_behindRemoval, Cond.code yX2_behindRemoval cX2_behindRemoval 3 (some .int)]
def wsX4_accept_r4 : List Cond := [Cond.methodLink RX4 211 yX4_letGo, Cond.instanceMethod yX4_letGo, Cond.selects RX4 yX4_letGo yX4_letGo, Cond.code yX4_letGo cX4_letGo 3 none, Cond.instanceMethod yX3_takeOut, Cond.initialized RX3, Cond.selects RX3 yX3_takeOut yX3_takeOut, Cond.code yX3_takeOut cX3_takeOut 3 none, Cond.methodLink RX3 26 yX3_moveTail, Cond.instanceMethod yX3_moveTail, Cond.selects RX3 yX3_moveTail yX3_moveTail, Cond.code yX3_moveTail cX3_moveTail 4 none, Cond.fieldLink RX3 18 "MarginDesk$Text" "size" "I", Cond.fieldLink RX3 9 "MarginDesk$Text" "letters" "[I", Cond.methodLink RX3 36 arraycopyName, Cond.native arraycopyName, Cond.static arraycopyName, Cond.initialized "java/lang/System", Cond.fieldLink RX3 15 "MarginDesk$Text" "marks" "[I", Cond.methodLink RX4 217 yJ6_bitCount_0f7a4, Cond.static yJ6_bitCount_0f7a4, Cond.initialized RJ6, Cond.code yJ6_bitCount_0f7a4 cJ6_bitCount_0f7a4 1 (some .int), Cond.constant RJ6 265 (1431655765)]
def wsX4_accept_r5 : List Cond := [Cond.constant RJ6 266 (858993459), Cond.constant RJ6 267 (252645135), Cond.methodLink RX4 75 yX4_putLettersIn, Cond.instanceMethod yX4_putLettersIn, Cond.selects RX4 yX4_putLettersIn yX4_putLettersIn, Cond.code yX4_putLettersIn cX4_putLettersIn 4 none, Cond.instanceMethod yX2_moveByInsertion, Cond.selects RX2 yX2_moveByInsertion yX2_moveByInsertion, Cond.code yX2_moveByInsertion cX2_moveByInsertion 6 none, Cond.fieldLink RX2 18 "MarginDesk$Ranges" "stickiness" "[I", Cond.methodLink RX2 42 yX2_behindInsertion, Cond.static yX2_behindInsertion, Cond.code yX2_behindInsertion cX2_behindInsertion 5 (some .int), Cond.instanceMethod yX3_putIn, Cond.selects RX3 yX3_putIn yX3_putIn, Cond.code yX3_putIn cX3_putIn 4 none, Cond.methodLink RX3 30 yJ7_fill_fda19, Cond.static yJ7_fill_fda19, Cond.initialized RJ7, Cond.code yJ7_fill_fda19 cJ7_fill_fda19 5 none, Cond.methodLink RJ7 13 yJ7_rangeCheck_23922, Cond.static yJ7_rangeCheck_23922, Cond.code yJ7_rangeCheck_23922 cJ7_rangeCheck_23922 3 none, Cond.classLink RJ7 45 RJ4]
def wsX4_accept_r6 : List Cond := [Cond.instantiable RJ4 4, Cond.initialized RJ4, Cond.classLink RJ7 68 RJx00060, Cond.instantiable RJx00060 6, Cond.initialized RJx00060, Cond.instanceMethod yX2_covering, Cond.selects RX2 yX2_covering yX2_covering, Cond.code yX2_covering cX2_covering 4 (some .int), Cond.instanceMethod yX3_mark, Cond.selects RX3 yX3_mark yX3_mark, Cond.code yX3_mark cX3_mark 5 none]
def wsX4_accept : List Cond := .code yX4_accept cX4_accept 5 (some .int) :: ((wsX4_accept_r1 ++ (wsX4_accept_r2 ++ (wsX4_accept_r3 ++ (wsX4_accept_r4 ++ (wsX4_accept_r5 ++ wsX4_accept_r6))))) ++ wsX40 ++ wsX20 ++ wsX30 ++ wsX00 ++ wsJ40 ++ wsJx000600 ++ (vx_atS RX4 99 "java/lang/IllegalStateException" ["java/lang/RuntimeException", "java/lang/Exception"]).filter goodWord ++ (vx_atM "java/lang/ArrayIndexOutOfBoundsException" ["java/lang/IndexOutOfBoundsException", "java/lang/RuntimeException", "java/lang/Exception"]).filter goodWord ++ (vx_atS RX4 142 "java/lang/IndexOutOfBoundsException" ["java/lang/RuntimeException", "java/lang/Exception"]).filter goodWord)
def wsX4_countWaiting : List Cond := .code yX4_countWaiting cX4_countWaiting 3 (some .int) :: ([.fieldLink RX4 48 "MarginDesk" "suggestionRanges" "LMarginDesk$Ranges;", .fieldLink RX4 57 "MarginDesk" "states" "[I"] ++ wsX40 ++ wsX20 ++ (vx_atM "java/lang/ArrayIndexOutOfBoundsException" ["java/lang/IndexOutOfBoundsException", "java/lang/RuntimeException", "java/lang/Exception"]).filter goodWord)
def wsX4_reject : List Cond := .code yX4_reject cX4_reject 2 (some .int) :: ([.fieldLink RX4 57 "MarginDesk" "states" "[I", .methodLink RX4 159 yX4_checkSuggestion, .instanceMethod yX4_checkSuggestion, .selects RX4 yX4_checkSuggestion yX4_checkSuggestion, .initialized RX4, .code yX4_checkSuggestion cX4_checkSuggestion 2 none, .classLink RX4 138 "java/lang/IndexOutOfBoundsException", .initialized "java/lang/IndexOutOfBoundsException", .fieldLink RX4 48 "MarginDesk" "suggestionRanges" "LMarginDesk$Ranges;", .methodLink RX4 162 yX4_checkWaiting, .instanceMethod yX4_checkWaiting, .selects RX4 yX4_checkWaiting yX4_checkWaiting, .code yX4_checkWaiting cX4_checkWaiting 2 none, .classLink RX4 95 "java/lang/IllegalStateException", .initialized "java/lang/IllegalStateException", .methodLink RX4 176 yX4_countWaiting, .instanceMethod yX4_countWaiting, .selects RX4 yX4_countWaiting yX4_countWaiting, .code yX4_countWaiting cX4_countWaiting 3 (some .int)] ++ wsX40 ++ wsX20 ++ (vx_atM "java/lang/ArrayIndexOutOfBoundsException" ["java/lang/IndexOutOfBoundsException", "java/lang/RuntimeException", "java/lang/Exception"]).filter goodWord ++ (vx_atS RX4 142 "java/lang/IndexOutOfBoundsException" ["java/lang/RuntimeException", "java/lang/Exception"]).filter goodWord ++ (vx_atS RX4 99 "java/lang/IllegalStateException" ["java/lang/RuntimeException", "java/lang/Exception"]).filter goodWord)
def wsX4_stateOf : List Cond := .code yX4_stateOf cX4_stateOf 2 (some .int) :: ([.fieldLink RX4 57 "MarginDesk" "states" "[I", .methodLink RX4 159 yX4_checkSuggestion, .instanceMethod yX4_checkSuggestion, .selects RX4 yX4_checkSuggestion yX4_checkSuggestion, .initialized RX4, .code yX4_checkSuggestion cX4_checkSuggestion 2 none, .classLink RX4 138 "java/lang/IndexOutOfBoundsException", .initialized "java/lang/IndexOutOfBoundsException", .fieldLink RX4 48 "MarginDesk" "suggestionRanges" "LMarginDesk$Ranges;"] ++ wsX40 ++ wsX20 ++ (vx_atM "java/lang/ArrayIndexOutOfBoundsException" ["java/lang/IndexOutOfBoundsException", "java/lang/RuntimeException", "java/lang/Exception"]).filter goodWord ++ (vx_atS RX4 142 "java/lang/IndexOutOfBoundsException" ["java/lang/RuntimeException", "java/lang/Exception"]).filter goodWord)
def wsX4_overlaps_r1 : List Cond := [Cond.methodLink RX4 159 yX4_checkSuggestion, Cond.instanceMethod yX4_checkSuggestion, Cond.selects RX4 yX4_checkSuggestion yX4_checkSuggestion, Cond.initialized RX4, Cond.code yX4_checkSuggestion cX4_checkSuggestion 2 none, Cond.classLink RX4 138 "java/lang/IndexOutOfBoundsException", Cond.initialized "java/lang/IndexOutOfBoundsException", Cond.fieldLink RX4 48 "MarginDesk" "suggestionRanges" "LMarginDesk$Ranges;", Cond.methodLink RX4 165 yX4_overlapping, Cond.instanceMethod yX4_overlapping, Cond.selects RX4 yX4_overlapping yX4_overlapping, Cond.code yX4_overlapping cX4_overlapping 4 (some .int), Cond.fieldLink RX4 57 "MarginDesk" "states" "[I", Cond.instanceMethod yX2_share, Cond.initialized RX2, Cond.selects RX2 yX2_share yX2_share, Cond.code yX2_share cX2_share 3 (some .boolean), Cond.fieldLink RX2 9 "MarginDesk$Ranges" "begins" "[I", Cond.methodLink RX2 33 Lib.Math.max.name, Cond.static Lib.Math.max.name, Cond.initialized "java/lang/Math", Cond.code Lib.Math.max.name Lib.Math.max.code 2 (some .int), Cond.fieldLink RX2 15 "MarginDesk$Ranges" "ends" "[I", Cond.methodLink RX2 39 Lib.Math.min.name]
def wsX4_overlaps_r2 : List Cond := [Cond.static Lib.Math.min.name, Cond.code Lib.Math.min.name Lib.Math.min.code 2 (some .int), Cond.methodLink RX4 110 yX4_bit, Cond.static yX4_bit, Cond.code yX4_bit cX4_bit 1 (some .int)]
def wsX4_overlaps : List Cond := .code yX4_overlaps cX4_overlaps 2 (some .int) :: ((wsX4_overlaps_r1 ++ wsX4_overlaps_r2) ++ wsX40 ++ wsX20 ++ (vx_atS RX4 142 "java/lang/IndexOutOfBoundsException" ["java/lang/RuntimeException", "java/lang/Exception"]).filter goodWord ++ (vx_atM "java/lang/ArrayIndexOutOfBoundsException" ["java/lang/IndexOutOfBoundsException", "java/lang/RuntimeException", "java/lang/Exception"]).filter goodWord)
def wsX5_told : List Cond := .code yX5_told cX5_told 2 (some .int) :: ([.fieldLink RX5 73 "MarginDeskModel" "comments" "I", .fieldLink RX5 13 "MarginDeskModel" "from" "[I", .fieldLink RX5 16 "MarginDeskModel" "to" "[I"] ++ wsX50 ++ (vx_atM "java/lang/ArrayIndexOutOfBoundsException" ["java/lang/IndexOutOfBoundsException", "java/lang/RuntimeException", "java/lang/Exception"]).filter goodWord)
def wsX5_keeps : List Cond := .code yX5_keeps cX5_keeps 2 none :: ([.fieldLink RX5 41 "MarginDeskModel" "then" "[I", .fieldLink RX5 79 "MarginDeskModel" "edits" "I", .methodLink RX5 82 yX5_told, .instanceMethod yX5_told, .selects RX5 yX5_told yX5_told, .initialized RX5, .code yX5_told cX5_told 2 (some .int), .fieldLink RX5 73 "MarginDeskModel" "comments" "I", .fieldLink RX5 13 "MarginDeskModel" "from" "[I", .fieldLink RX5 16 "MarginDeskModel" "to" "[I"] ++ wsX50 ++ (vx_atM "java/lang/ArrayIndexOutOfBoundsException" ["java/lang/IndexOutOfBoundsException", "java/lang/RuntimeException", "java/lang/Exception"]).filter goodWord)
def wsX5_init_r1 : List Cond := [Cond.methodLink RX5 1 objectInit, Cond.instanceMethod objectInit, Cond.code objectInit ⟨#[0xb1]⟩ 1 none, Cond.arrayClass .int, Cond.fieldLink RX5 7 "MarginDeskModel" "letters" "[I", Cond.fieldLink RX5 13 "MarginDeskModel" "from" "[I", Cond.fieldLink RX5 16 "MarginDeskModel" "to" "[I", Cond.fieldLink RX5 19 "MarginDeskModel" "sticky" "[I", Cond.arrayClass .boolean, Cond.fieldLink RX5 22 "MarginDeskModel" "open" "[Z", Cond.fieldLink RX5 26 "MarginDeskModel" "answers" "[I", Cond.fieldLink RX5 29 "MarginDeskModel" "kept" "[I", Cond.fieldLink RX5 32 "MarginDeskModel" "many" "[I", Cond.fieldLink RX5 35 "MarginDeskModel" "ahead" "[I", Cond.fieldLink RX5 38 "MarginDeskModel" "behind" "[I", Cond.fieldLink RX5 41 "MarginDeskModel" "then" "[I", Cond.fieldLink RX5 44 "MarginDeskModel" "first" "[I", Cond.fieldLink RX5 47 "MarginDeskModel" "last" "[I", Cond.fieldLink RX5 50 "MarginDeskModel" "letter" "[I", Cond.fieldLink RX5 53 "MarginDeskModel" "count" "[I", Cond.fieldLink RX5 56 "MarginDeskModel" "state" "[I", Cond.methodLink RX5 59 yX5_keeps, Cond.instanceMethod yX5_keeps, Cond.selects RX5 yX5_keeps yX5_keeps]
def wsX5_init_r2 : List Cond := [Cond.initialized RX5, Cond.code yX5_keeps cX5_keeps 2 none, Cond.fieldLink RX5 79 "MarginDeskModel" "edits" "I", Cond.methodLink RX5 82 yX5_told, Cond.instanceMethod yX5_told, Cond.selects RX5 yX5_told yX5_told, Cond.code yX5_told cX5_told 2 (some .int), Cond.fieldLink RX5 73 "MarginDeskModel" "comments" "I"]
def wsX5_init : List Cond := .code yX5_init cX5_init 1 none :: ((wsX5_init_r1 ++ wsX5_init_r2) ++ wsX50 ++ (vx_atM "java/lang/ArrayIndexOutOfBoundsException" ["java/lang/IndexOutOfBoundsException", "java/lang/RuntimeException", "java/lang/Exception"]).filter goodWord)
def wsX5_thrown : List Cond := .code yX5_thrown cX5_thrown 1 (some .int) :: ([.fieldLink RX5 62 "MarginDeskModel" "thrown" "I"] ++ wsX50)
def wsX5_fails : List Cond := .code yX5_fails cX5_fails 2 (some .int) :: ([.fieldLink RX5 62 "MarginDeskModel" "thrown" "I"] ++ wsX50)
def wsX5_in : List Cond := .code yX5_in cX5_in 3 (some .boolean) :: ([])
def wsX5_isPlace : List Cond := .code yX5_isPlace cX5_isPlace 2 (some .boolean) :: ([.fieldLink RX5 66 "MarginDeskModel" "length" "I", .methodLink RX5 69 yX5_in, .static yX5_in, .initialized RX5, .code yX5_in cX5_in 3 (some .boolean)] ++ wsX50)
def wsX5_isComment : List Cond := .code yX5_isComment cX5_isComment 2 (some .boolean) :: ([.fieldLink RX5 73 "MarginDeskModel" "comments" "I", .methodLink RX5 69 yX5_in, .static yX5_in, .initialized RX5, .code yX5_in cX5_in 3 (some .boolean)] ++ wsX50)
def wsX5_isSuggestion : List Cond := .code yX5_isSuggestion cX5_isSuggestion 2 (some .boolean) :: ([.fieldLink RX5 76 "MarginDeskModel" "suggestions" "I", .methodLink RX5 69 yX5_in, .static yX5_in, .initialized RX5, .code yX5_in cX5_in 3 (some .boolean)] ++ wsX50)
def wsX5_letterOf : List Cond := .code yX5_letterOf cX5_letterOf 2 (some .int) :: ([.fieldLink RX5 66 "MarginDeskModel" "length" "I", .fieldLink RX5 7 "MarginDeskModel" "letters" "[I", .methodLink RX5 69 yX5_in, .static yX5_in, .initialized RX5, .code yX5_in cX5_in 3 (some .boolean)] ++ wsX50 ++ (vx_atM "java/lang/ArrayIndexOutOfBoundsException" ["java/lang/IndexOutOfBoundsException", "java/lang/RuntimeException", "java/lang/Exception"]).filter goodWord)
def wsX5_inserts : List Cond := .code yX5_inserts cX5_inserts 8 none :: ([.fieldLink RX5 66 "MarginDeskModel" "length" "I", .fieldLink RX5 7 "MarginDeskModel" "letters" "[I", .fieldLink RX5 73 "MarginDeskModel" "comments" "I", .fieldLink RX5 13 "MarginDeskModel" "from" "[I", .fieldLink RX5 19 "MarginDeskModel" "sticky" "[I", .fieldLink RX5 16 "MarginDeskModel" "to" "[I", .fieldLink RX5 76 "MarginDeskModel" "suggestions" "I", .fieldLink RX5 44 "MarginDeskModel" "first" "[I", .fieldLink RX5 47 "MarginDeskModel" "last" "[I", .fieldLink RX5 79 "MarginDeskModel" "edits" "I"] ++ wsX50 ++ (vx_atM "java/lang/ArrayIndexOutOfBoundsException" ["java/lang/IndexOutOfBoundsException", "java/lang/RuntimeException", "java/lang/Exception"]).filter goodWord)
def wsX5_less : List Cond := .code yX5_less cX5_less 3 (some .int) :: ([])
def wsX5_removes : List Cond := .code yX5_removes cX5_removes 7 (some .int) :: ([.fieldLink RX5 66 "MarginDeskModel" "length" "I", .fieldLink RX5 7 "MarginDeskModel" "letters" "[I", .fieldLink RX5 73 "MarginDeskModel" "comments" "I", .fieldLink RX5 13 "MarginDeskModel" "from" "[I", .fieldLink RX5 16 "MarginDeskModel" "to" "[I", .fieldLink RX5 76 "MarginDeskModel" "suggestions" "I", .fieldLink RX5 44 "MarginDeskModel" "first" "[I", .fieldLink RX5 47 "MarginDeskModel" "last" "[I", .fieldLink RX5 56 "MarginDeskModel" "state" "[I", .fieldLink RX5 79 "MarginDeskModel" "edits" "I", .methodLink RX5 86 yX5_less, .static yX5_less, .initialized RX5, .code yX5_less cX5_less 3 (some .int)] ++ wsX50 ++ (vx_atM "java/lang/ArrayIndexOutOfBoundsException" ["java/lang/IndexOutOfBoundsException", "java/lang/RuntimeException", "java/lang/Exception"]).filter goodWord)
def wsX5_insert_r1 : List Cond := [Cond.fieldLink RX5 62 "MarginDeskModel" "thrown" "I", Cond.fieldLink RX5 66 "MarginDeskModel" "length" "I", Cond.fieldLink RX5 79 "MarginDeskModel" "edits" "I", Cond.methodLink RX5 90 yX5_isPlace, Cond.instanceMethod yX5_isPlace, Cond.selects RX5 yX5_isPlace yX5_isPlace, Cond.initialized RX5, Cond.code yX5_isPlace cX5_isPlace 2 (some .boolean), Cond.methodLink RX5 69 yX5_in, Cond.static yX5_in, Cond.code yX5_in cX5_in 3 (some .boolean), Cond.methodLink RX5 94 yX5_fails, Cond.instanceMethod yX5_fails, Cond.selects RX5 yX5_fails yX5_fails, Cond.code yX5_fails cX5_fails 2 (some .int), Cond.methodLink RX5 97 yX5_inserts, Cond.instanceMethod yX5_inserts, Cond.selects RX5 yX5_inserts yX5_inserts, Cond.code yX5_inserts cX5_inserts 8 none, Cond.fieldLink RX5 7 "MarginDeskModel" "letters" "[I", Cond.fieldLink RX5 73 "MarginDeskModel" "comments" "I", Cond.fieldLink RX5 13 "MarginDeskModel" "from" "[I", Cond.fieldLink RX5 19 "MarginDeskModel" "sticky" "[I", Cond.fieldLink RX5 16 "MarginDeskModel" "to" "[I"]
def wsX5_insert_r2 : List Cond := [Cond.fieldLink RX5 76 "MarginDeskModel" "suggestions" "I", Cond.fieldLink RX5 44 "MarginDeskModel" "first" "[I", Cond.fieldLink RX5 47 "MarginDeskModel" "last" "[I", Cond.methodLink RX5 59 yX5_keeps, Cond.instanceMethod yX5_keeps, Cond.selects RX5 yX5_keeps yX5_keeps, Cond.code yX5_keeps cX5_keeps 2 none, Cond.fieldLink RX5 41 "MarginDeskModel" "then" "[I", Cond.methodLink RX5 82 yX5_told, Cond.instanceMethod yX5_told, Cond.selects RX5 yX5_told yX5_told, Cond.code yX5_told cX5_told 2 (some .int)]
def wsX5_insert : List Cond := .code yX5_insert cX5_insert 4 (some .int) :: ((wsX5_insert_r1 ++ wsX5_insert_r2) ++ wsX50 ++ (vx_atM "java/lang/ArrayIndexOutOfBoundsException" ["java/lang/IndexOutOfBoundsException", "java/lang/RuntimeException", "java/lang/Exception"]).filter goodWord)
def wsX5_remove_r1 : List Cond := [Cond.fieldLink RX5 62 "MarginDeskModel" "thrown" "I", Cond.fieldLink RX5 66 "MarginDeskModel" "length" "I", Cond.fieldLink RX5 79 "MarginDeskModel" "edits" "I", Cond.methodLink RX5 90 yX5_isPlace, Cond.instanceMethod yX5_isPlace, Cond.selects RX5 yX5_isPlace yX5_isPlace, Cond.initialized RX5, Cond.code yX5_isPlace cX5_isPlace 2 (some .boolean), Cond.methodLink RX5 69 yX5_in, Cond.static yX5_in, Cond.code yX5_in cX5_in 3 (some .boolean), Cond.methodLink RX5 94 yX5_fails, Cond.instanceMethod yX5_fails, Cond.selects RX5 yX5_fails yX5_fails, Cond.code yX5_fails cX5_fails 2 (some .int), Cond.methodLink RX5 101 yX5_removes, Cond.instanceMethod yX5_removes, Cond.selects RX5 yX5_removes yX5_removes, Cond.code yX5_removes cX5_removes 7 (some .int), Cond.fieldLink RX5 7 "MarginDeskModel" "letters" "[I", Cond.fieldLink RX5 73 "MarginDeskModel" "comments" "I", Cond.fieldLink RX5 13 "MarginDeskModel" "from" "[I", Cond.fieldLink RX5 16 "MarginDeskModel" "to" "[I", Cond.fieldLink RX5 76 "MarginDeskModel" "suggestions" "I"]
def wsX5_remove_r2 : List Cond := [Cond.fieldLink RX5 44 "MarginDeskModel" "first" "[I", Cond.fieldLink RX5 47 "MarginDeskModel" "last" "[I", Cond.fieldLink RX5 56 "MarginDeskModel" "state" "[I", Cond.methodLink RX5 86 yX5_less, Cond.static yX5_less, Cond.code yX5_less cX5_less 3 (some .int), Cond.methodLink RX5 59 yX5_keeps, Cond.instanceMethod yX5_keeps, Cond.selects RX5 yX5_keeps yX5_keeps, Cond.code yX5_keeps cX5_keeps 2 none, Cond.fieldLink RX5 41 "MarginDeskModel" "then" "[I", Cond.methodLink RX5 82 yX5_told, Cond.instanceMethod yX5_told, Cond.selects RX5 yX5_told yX5_told, Cond.code yX5_told cX5_told 2 (some .int)]
def wsX5_remove : List Cond := .code yX5_remove cX5_remove 4 (some .int) :: ((wsX5_remove_r1 ++ wsX5_remove_r2) ++ wsX50 ++ (vx_atM "java/lang/ArrayIndexOutOfBoundsException" ["java/lang/IndexOutOfBoundsException", "java/lang/RuntimeException", "java/lang/Exception"]).filter goodWord)
def wsX5_length : List Cond := .code yX5_length cX5_length 1 (some .int) :: ([.fieldLink RX5 62 "MarginDeskModel" "thrown" "I", .fieldLink RX5 66 "MarginDeskModel" "length" "I"] ++ wsX50)
def wsX5_letterAt : List Cond := .code yX5_letterAt cX5_letterAt 2 (some .int) :: ([.fieldLink RX5 62 "MarginDeskModel" "thrown" "I", .methodLink RX5 90 yX5_isPlace, .instanceMethod yX5_isPlace, .selects RX5 yX5_isPlace yX5_isPlace, .initialized RX5, .code yX5_isPlace cX5_isPlace 2 (some .boolean), .fieldLink RX5 66 "MarginDeskModel" "length" "I", .methodLink RX5 69 yX5_in, .static yX5_in, .code yX5_in cX5_in 3 (some .boolean), .methodLink RX5 104 yX5_letterOf, .instanceMethod yX5_letterOf, .selects RX5 yX5_letterOf yX5_letterOf, .code yX5_letterOf cX5_letterOf 2 (some .int), .fieldLink RX5 7 "MarginDeskModel" "letters" "[I", .methodLink RX5 94 yX5_fails, .instanceMethod yX5_fails, .selects RX5 yX5_fails yX5_fails, .code yX5_fails cX5_fails 2 (some .int)] ++ wsX50 ++ (vx_atM "java/lang/ArrayIndexOutOfBoundsException" ["java/lang/IndexOutOfBoundsException", "java/lang/RuntimeException", "java/lang/Exception"]).filter goodWord)
def wsX5_version : List Cond := .code yX5_version cX5_version 1 (some .int) :: ([.fieldLink RX5 62 "MarginDeskModel" "thrown" "I", .fieldLink RX5 79 "MarginDeskModel" "edits" "I"] ++ wsX50)
def wsX5_comment_r1 : List Cond := [Cond.fieldLink RX5 62 "MarginDeskModel" "thrown" "I", Cond.fieldLink RX5 73 "MarginDeskModel" "comments" "I", Cond.fieldLink RX5 13 "MarginDeskModel" "from" "[I", Cond.fieldLink RX5 16 "MarginDeskModel" "to" "[I", Cond.fieldLink RX5 19 "MarginDeskModel" "sticky" "[I", Cond.fieldLink RX5 22 "MarginDeskModel" "open" "[Z", Cond.fieldLink RX5 32 "MarginDeskModel" "many" "[I", Cond.fieldLink RX5 29 "MarginDeskModel" "kept" "[I", Cond.fieldLink RX5 7 "MarginDeskModel" "letters" "[I", Cond.fieldLink RX5 35 "MarginDeskModel" "ahead" "[I", Cond.fieldLink RX5 38 "MarginDeskModel" "behind" "[I", Cond.methodLink RX5 90 yX5_isPlace, Cond.instanceMethod yX5_isPlace, Cond.selects RX5 yX5_isPlace yX5_isPlace, Cond.initialized RX5, Cond.code yX5_isPlace cX5_isPlace 2 (some .boolean), Cond.fieldLink RX5 66 "MarginDeskModel" "length" "I", Cond.methodLink RX5 69 yX5_in, Cond.static yX5_in, Cond.code yX5_in cX5_in 3 (some .boolean), Cond.methodLink RX5 94 yX5_fails, Cond.instanceMethod yX5_fails, Cond.selects RX5 yX5_fails yX5_fails, Cond.code yX5_fails cX5_fails 2 (some .int)]
def wsX5_comment_r2 : List Cond := [Cond.methodLink RX5 104 yX5_letterOf, Cond.instanceMethod yX5_letterOf, Cond.selects RX5 yX5_letterOf yX5_letterOf, Cond.code yX5_letterOf cX5_letterOf 2 (some .int), Cond.methodLink RX5 59 yX5_keeps, Cond.instanceMethod yX5_keeps, Cond.selects RX5 yX5_keeps yX5_keeps, Cond.code yX5_keeps cX5_keeps 2 none, Cond.fieldLink RX5 41 "MarginDeskModel" "then" "[I", Cond.fieldLink RX5 79 "MarginDeskModel" "edits" "I", Cond.methodLink RX5 82 yX5_told, Cond.instanceMethod yX5_told, Cond.selects RX5 yX5_told yX5_told, Cond.code yX5_told cX5_told 2 (some .int)]
def wsX5_comment : List Cond := .code yX5_comment cX5_comment 6 (some .int) :: ((wsX5_comment_r1 ++ wsX5_comment_r2) ++ wsX50 ++ (vx_atM "java/lang/ArrayIndexOutOfBoundsException" ["java/lang/IndexOutOfBoundsException", "java/lang/RuntimeException", "java/lang/Exception"]).filter goodWord)
def wsX5_answer : List Cond := .code yX5_answer cX5_answer 2 (some .int) :: ([.fieldLink RX5 62 "MarginDeskModel" "thrown" "I", .fieldLink RX5 22 "MarginDeskModel" "open" "[Z", .fieldLink RX5 26 "MarginDeskModel" "answers" "[I", .methodLink RX5 107 yX5_isComment, .instanceMethod yX5_isComment, .selects RX5 yX5_isComment yX5_isComment, .initialized RX5, .code yX5_isComment cX5_isComment 2 (some .boolean), .fieldLink RX5 73 "MarginDeskModel" "comments" "I", .methodLink RX5 69 yX5_in, .static yX5_in, .code yX5_in cX5_in 3 (some .boolean), .methodLink RX5 94 yX5_fails, .instanceMethod yX5_fails, .selects RX5 yX5_fails yX5_fails, .code yX5_fails cX5_fails 2 (some .int)] ++ wsX50 ++ (vx_atM "java/lang/ArrayIndexOutOfBoundsException" ["java/lang/IndexOutOfBoundsException", "java/lang/RuntimeException", "java/lang/Exception"]).filter goodWord)
def wsX5_resolve : List Cond := .code yX5_resolve cX5_resolve 3 (some .boolean) :: ([.fieldLink RX5 62 "MarginDeskModel" "thrown" "I", .fieldLink RX5 22 "MarginDeskModel" "open" "[Z", .methodLink RX5 107 yX5_isComment, .instanceMethod yX5_isComment, .selects RX5 yX5_isComment yX5_isComment, .initialized RX5, .code yX5_isComment cX5_isComment 2 (some .boolean), .fieldLink RX5 73 "MarginDeskModel" "comments" "I", .methodLink RX5 69 yX5_in, .static yX5_in, .code yX5_in cX5_in 3 (some .boolean)] ++ wsX50 ++ (vx_atM "java/lang/ArrayIndexOutOfBoundsException" ["java/lang/IndexOutOfBoundsException", "java/lang/RuntimeException", "java/lang/Exception"]).filter goodWord)
def wsX5_fit : List Cond := .code yX5_fit cX5_fit 5 (some .int) :: ([.fieldLink RX5 32 "MarginDeskModel" "many" "[I", .fieldLink RX5 66 "MarginDeskModel" "length" "I", .fieldLink RX5 7 "MarginDeskModel" "letters" "[I", .fieldLink RX5 29 "MarginDeskModel" "kept" "[I", .fieldLink RX5 35 "MarginDeskModel" "ahead" "[I", .fieldLink RX5 38 "MarginDeskModel" "behind" "[I", .methodLink RX5 104 yX5_letterOf, .instanceMethod yX5_letterOf, .selects RX5 yX5_letterOf yX5_letterOf, .initialized RX5, .code yX5_letterOf cX5_letterOf 2 (some .int), .methodLink RX5 69 yX5_in, .static yX5_in, .code yX5_in cX5_in 3 (some .boolean)] ++ wsX50 ++ (vx_atM "java/lang/ArrayIndexOutOfBoundsException" ["java/lang/IndexOutOfBoundsException", "java/lang/RuntimeException", "java/lang/Exception"]).filter goodWord)
def wsX5_find_r1 : List Cond := [Cond.fieldLink RX5 62 "MarginDeskModel" "thrown" "I", Cond.fieldLink RX5 13 "MarginDeskModel" "from" "[I", Cond.fieldLink RX5 66 "MarginDeskModel" "length" "I", Cond.fieldLink RX5 16 "MarginDeskModel" "to" "[I", Cond.fieldLink RX5 32 "MarginDeskModel" "many" "[I", Cond.methodLink RX5 107 yX5_isComment, Cond.instanceMethod yX5_isComment, Cond.selects RX5 yX5_isComment yX5_isComment, Cond.initialized RX5, Cond.code yX5_isComment cX5_isComment 2 (some .boolean), Cond.fieldLink RX5 73 "MarginDeskModel" "comments" "I", Cond.methodLink RX5 69 yX5_in, Cond.static yX5_in, Cond.code yX5_in cX5_in 3 (some .boolean), Cond.methodLink RX5 94 yX5_fails, Cond.instanceMethod yX5_fails, Cond.selects RX5 yX5_fails yX5_fails, Cond.code yX5_fails cX5_fails 2 (some .int), Cond.methodLink RX5 110 yX5_fit, Cond.instanceMethod yX5_fit, Cond.selects RX5 yX5_fit yX5_fit, Cond.code yX5_fit cX5_fit 5 (some .int), Cond.fieldLink RX5 7 "MarginDeskModel" "letters" "[I", Cond.fieldLink RX5 29 "MarginDeskModel" "kept" "[I"]
def wsX5_find_r2 : List Cond := [Cond.fieldLink RX5 35 "MarginDeskModel" "ahead" "[I", Cond.fieldLink RX5 38 "MarginDeskModel" "behind" "[I", Cond.methodLink RX5 104 yX5_letterOf, Cond.instanceMethod yX5_letterOf, Cond.selects RX5 yX5_letterOf yX5_letterOf, Cond.code yX5_letterOf cX5_letterOf 2 (some .int), Cond.methodLink RX5 59 yX5_keeps, Cond.instanceMethod yX5_keeps, Cond.selects RX5 yX5_keeps yX5_keeps, Cond.code yX5_keeps cX5_keeps 2 none, Cond.fieldLink RX5 41 "MarginDeskModel" "then" "[I", Cond.fieldLink RX5 79 "MarginDeskModel" "edits" "I", Cond.methodLink RX5 82 yX5_told, Cond.instanceMethod yX5_told, Cond.selects RX5 yX5_told yX5_told, Cond.code yX5_told cX5_told 2 (some .int)]
def wsX5_find : List Cond := .code yX5_find cX5_find 5 (some .int) :: ((wsX5_find_r1 ++ wsX5_find_r2) ++ wsX50 ++ (vx_atM "java/lang/ArrayIndexOutOfBoundsException" ["java/lang/IndexOutOfBoundsException", "java/lang/RuntimeException", "java/lang/Exception"]).filter goodWord)
def wsX5_comments : List Cond := .code yX5_comments cX5_comments 1 (some .int) :: ([.fieldLink RX5 62 "MarginDeskModel" "thrown" "I", .fieldLink RX5 73 "MarginDeskModel" "comments" "I"] ++ wsX50)
def wsX5_rangeOf : List Cond := .code yX5_rangeOf cX5_rangeOf 2 (some .int) :: ([.fieldLink RX5 62 "MarginDeskModel" "thrown" "I", .methodLink RX5 107 yX5_isComment, .instanceMethod yX5_isComment, .selects RX5 yX5_isComment yX5_isComment, .initialized RX5, .code yX5_isComment cX5_isComment 2 (some .boolean), .fieldLink RX5 73 "MarginDeskModel" "comments" "I", .methodLink RX5 69 yX5_in, .static yX5_in, .code yX5_in cX5_in 3 (some .boolean), .methodLink RX5 82 yX5_told, .instanceMethod yX5_told, .selects RX5 yX5_told yX5_told, .code yX5_told cX5_told 2 (some .int), .fieldLink RX5 13 "MarginDeskModel" "from" "[I", .fieldLink RX5 16 "MarginDeskModel" "to" "[I", .methodLink RX5 94 yX5_fails, .instanceMethod yX5_fails, .selects RX5 yX5_fails yX5_fails, .code yX5_fails cX5_fails 2 (some .int)] ++ wsX50 ++ (vx_atM "java/lang/ArrayIndexOutOfBoundsException" ["java/lang/IndexOutOfBoundsException", "java/lang/RuntimeException", "java/lang/Exception"]).filter goodWord)
def wsX5_rangeThen : List Cond := .code yX5_rangeThen cX5_rangeThen 3 (some .int) :: ([.fieldLink RX5 62 "MarginDeskModel" "thrown" "I", .fieldLink RX5 79 "MarginDeskModel" "edits" "I", .fieldLink RX5 41 "MarginDeskModel" "then" "[I", .methodLink RX5 107 yX5_isComment, .instanceMethod yX5_isComment, .selects RX5 yX5_isComment yX5_isComment, .initialized RX5, .code yX5_isComment cX5_isComment 2 (some .boolean), .fieldLink RX5 73 "MarginDeskModel" "comments" "I", .methodLink RX5 69 yX5_in, .static yX5_in, .code yX5_in cX5_in 3 (some .boolean), .methodLink RX5 94 yX5_fails, .instanceMethod yX5_fails, .selects RX5 yX5_fails yX5_fails, .code yX5_fails cX5_fails 2 (some .int)] ++ wsX50 ++ (vx_atM "java/lang/ArrayIndexOutOfBoundsException" ["java/lang/IndexOutOfBoundsException", "java/lang/RuntimeException", "java/lang/Exception"]).filter goodWord)
def wsX5_open : List Cond := .code yX5_open cX5_open 3 (some .int) :: ([.fieldLink RX5 62 "MarginDeskModel" "thrown" "I", .fieldLink RX5 73 "MarginDeskModel" "comments" "I", .fieldLink RX5 22 "MarginDeskModel" "open" "[Z"] ++ wsX50 ++ (vx_atM "java/lang/ArrayIndexOutOfBoundsException" ["java/lang/IndexOutOfBoundsException", "java/lang/RuntimeException", "java/lang/Exception"]).filter goodWord)
def wsX5_orphans : List Cond := .code yX5_orphans cX5_orphans 3 (some .int) :: ([.fieldLink RX5 62 "MarginDeskModel" "thrown" "I", .fieldLink RX5 73 "MarginDeskModel" "comments" "I", .fieldLink RX5 13 "MarginDeskModel" "from" "[I"] ++ wsX50 ++ (vx_atM "java/lang/ArrayIndexOutOfBoundsException" ["java/lang/IndexOutOfBoundsException", "java/lang/RuntimeException", "java/lang/Exception"]).filter goodWord)
def wsX5_coverOf : List Cond := .code yX5_coverOf cX5_coverOf 4 (some .int) :: ([.fieldLink RX5 73 "MarginDeskModel" "comments" "I", .fieldLink RX5 66 "MarginDeskModel" "length" "I", .fieldLink RX5 13 "MarginDeskModel" "from" "[I", .fieldLink RX5 16 "MarginDeskModel" "to" "[I"] ++ wsX50 ++ (vx_atM "java/lang/ArrayIndexOutOfBoundsException" ["java/lang/IndexOutOfBoundsException", "java/lang/RuntimeException", "java/lang/Exception"]).filter goodWord)
def wsX5_cover : List Cond := .code yX5_cover cX5_cover 2 (some .int) :: ([.fieldLink RX5 62 "MarginDeskModel" "thrown" "I", .methodLink RX5 90 yX5_isPlace, .instanceMethod yX5_isPlace, .selects RX5 yX5_isPlace yX5_isPlace, .initialized RX5, .code yX5_isPlace cX5_isPlace 2 (some .boolean), .fieldLink RX5 66 "MarginDeskModel" "length" "I", .methodLink RX5 69 yX5_in, .static yX5_in, .code yX5_in cX5_in 3 (some .boolean), .methodLink RX5 114 yX5_coverOf, .instanceMethod yX5_coverOf, .selects RX5 yX5_coverOf yX5_coverOf, .code yX5_coverOf cX5_coverOf 4 (some .int), .fieldLink RX5 73 "MarginDeskModel" "comments" "I", .fieldLink RX5 13 "MarginDeskModel" "from" "[I", .fieldLink RX5 16 "MarginDeskModel" "to" "[I", .methodLink RX5 94 yX5_fails, .instanceMethod yX5_fails, .selects RX5 yX5_fails yX5_fails, .code yX5_fails cX5_fails 2 (some .int)] ++ wsX50 ++ (vx_atM "java/lang/ArrayIndexOutOfBoundsException" ["java/lang/IndexOutOfBoundsException", "java/lang/RuntimeException", "java/lang/Exception"]).filter goodWord)
def wsX5_coverByLetters : List Cond := .code yX5_coverByLetters cX5_coverByLetters 2 (some .int) :: ([.fieldLink RX5 62 "MarginDeskModel" "thrown" "I", .methodLink RX5 90 yX5_isPlace, .instanceMethod yX5_isPlace, .selects RX5 yX5_isPlace yX5_isPlace, .initialized RX5, .code yX5_isPlace cX5_isPlace 2 (some .boolean), .fieldLink RX5 66 "MarginDeskModel" "length" "I", .methodLink RX5 69 yX5_in, .static yX5_in, .code yX5_in cX5_in 3 (some .boolean), .methodLink RX5 114 yX5_coverOf, .instanceMethod yX5_coverOf, .selects RX5 yX5_coverOf yX5_coverOf, .code yX5_coverOf cX5_coverOf 4 (some .int), .fieldLink RX5 73 "MarginDeskModel" "comments" "I", .fieldLink RX5 13 "MarginDeskModel" "from" "[I", .fieldLink RX5 16 "MarginDeskModel" "to" "[I", .methodLink RX5 94 yX5_fails, .instanceMethod yX5_fails, .selects RX5 yX5_fails yX5_fails, .code yX5_fails cX5_fails 2 (some .int)] ++ wsX50 ++ (vx_atM "java/lang/ArrayIndexOutOfBoundsException" ["java/lang/IndexOutOfBoundsException", "java/lang/RuntimeException", "java/lang/Exception"]).filter goodWord)
def wsX5_pieceOf : List Cond := .code yX5_pieceOf cX5_pieceOf 6 (some .int) :: ([.fieldLink RX5 66 "MarginDeskModel" "length" "I", .methodLink RX5 114 yX5_coverOf, .instanceMethod yX5_coverOf, .selects RX5 yX5_coverOf yX5_coverOf, .initialized RX5, .code yX5_coverOf cX5_coverOf 4 (some .int), .fieldLink RX5 73 "MarginDeskModel" "comments" "I", .fieldLink RX5 13 "MarginDeskModel" "from" "[I", .fieldLink RX5 16 "MarginDeskModel" "to" "[I"] ++ wsX50 ++ (vx_atM "java/lang/ArrayIndexOutOfBoundsException" ["java/lang/IndexOutOfBoundsException", "java/lang/RuntimeException", "java/lang/Exception"]).filter goodWord)
def wsX5_pieces : List Cond := .code yX5_pieces cX5_pieces 1 (some .int) :: ([.fieldLink RX5 62 "MarginDeskModel" "thrown" "I", .methodLink RX5 117 yX5_pieceOf, .instanceMethod yX5_pieceOf, .selects RX5 yX5_pieceOf yX5_pieceOf, .initialized RX5, .code yX5_pieceOf cX5_pieceOf 6 (some .int), .fieldLink RX5 66 "MarginDeskModel" "length" "I", .methodLink RX5 114 yX5_coverOf, .instanceMethod yX5_coverOf, .selects RX5 yX5_coverOf yX5_coverOf, .code yX5_coverOf cX5_coverOf 4 (some .int), .fieldLink RX5 73 "MarginDeskModel" "comments" "I", .fieldLink RX5 13 "MarginDeskModel" "from" "[I", .fieldLink RX5 16 "MarginDeskModel" "to" "[I"] ++ wsX50 ++ (vx_atM "java/lang/ArrayIndexOutOfBoundsException" ["java/lang/IndexOutOfBoundsException", "java/lang/RuntimeException", "java/lang/Exception"]).filter goodWord)
def wsX5_pieceAt : List Cond := .code yX5_pieceAt cX5_pieceAt 2 (some .int) :: ([.fieldLink RX5 62 "MarginDeskModel" "thrown" "I", .methodLink RX5 117 yX5_pieceOf, .instanceMethod yX5_pieceOf, .selects RX5 yX5_pieceOf yX5_pieceOf, .initialized RX5, .code yX5_pieceOf cX5_pieceOf 6 (some .int), .fieldLink RX5 66 "MarginDeskModel" "length" "I", .methodLink RX5 114 yX5_coverOf, .instanceMethod yX5_coverOf, .selects RX5 yX5_coverOf yX5_coverOf, .code yX5_coverOf cX5_coverOf 4 (some .int), .fieldLink RX5 73 "MarginDeskModel" "comments" "I", .fieldLink RX5 13 "MarginDeskModel" "from" "[I", .fieldLink RX5 16 "MarginDeskModel" "to" "[I", .methodLink RX5 69 yX5_in, .static yX5_in, .code yX5_in cX5_in 3 (some .boolean), .methodLink RX5 94 yX5_fails, .instanceMethod yX5_fails, .selects RX5 yX5_fails yX5_fails, .code yX5_fails cX5_fails 2 (some .int)] ++ wsX50 ++ (vx_atM "java/lang/ArrayIndexOutOfBoundsException" ["java/lang/IndexOutOfBoundsException", "java/lang/RuntimeException", "java/lang/Exception"]).filter goodWord)
def wsX5_suggest : List Cond := .code yX5_suggest cX5_suggest 5 (some .int) :: ([.fieldLink RX5 62 "MarginDeskModel" "thrown" "I", .fieldLink RX5 76 "MarginDeskModel" "suggestions" "I", .fieldLink RX5 44 "MarginDeskModel" "first" "[I", .fieldLink RX5 47 "MarginDeskModel" "last" "[I", .fieldLink RX5 50 "MarginDeskModel" "letter" "[I", .fieldLink RX5 53 "MarginDeskModel" "count" "[I", .methodLink RX5 90 yX5_isPlace, .instanceMethod yX5_isPlace, .selects RX5 yX5_isPlace yX5_isPlace, .initialized RX5, .code yX5_isPlace cX5_isPlace 2 (some .boolean), .fieldLink RX5 66 "MarginDeskModel" "length" "I", .methodLink RX5 69 yX5_in, .static yX5_in, .code yX5_in cX5_in 3 (some .boolean), .methodLink RX5 94 yX5_fails, .instanceMethod yX5_fails, .selects RX5 yX5_fails yX5_fails, .code yX5_fails cX5_fails 2 (some .int)] ++ wsX50 ++ (vx_atM "java/lang/ArrayIndexOutOfBoundsException" ["java/lang/IndexOutOfBoundsException", "java/lang/RuntimeException", "java/lang/Exception"]).filter goodWord)
def wsX5_overlapsOf : List Cond := .code yX5_overlapsOf cX5_overlapsOf 5 (some .int) :: ([.fieldLink RX5 76 "MarginDeskModel" "suggestions" "I", .fieldLink RX5 56 "MarginDeskModel" "state" "[I", .fieldLink RX5 44 "MarginDeskModel" "first" "[I", .fieldLink RX5 47 "MarginDeskModel" "last" "[I"] ++ wsX50 ++ (vx_atM "java/lang/ArrayIndexOutOfBoundsException" ["java/lang/IndexOutOfBoundsException", "java/lang/RuntimeException", "java/lang/Exception"]).filter goodWord)
def wsX5_accept_r1 : List Cond := [Cond.fieldLink RX5 62 "MarginDeskModel" "thrown" "I", Cond.fieldLink RX5 44 "MarginDeskModel" "first" "[I", Cond.fieldLink RX5 47 "MarginDeskModel" "last" "[I", Cond.fieldLink RX5 56 "MarginDeskModel" "state" "[I", Cond.fieldLink RX5 66 "MarginDeskModel" "length" "I", Cond.fieldLink RX5 53 "MarginDeskModel" "count" "[I", Cond.fieldLink RX5 79 "MarginDeskModel" "edits" "I", Cond.fieldLink RX5 50 "MarginDeskModel" "letter" "[I", Cond.methodLink RX5 120 yX5_isSuggestion, Cond.instanceMethod yX5_isSuggestion, Cond.selects RX5 yX5_isSuggestion yX5_isSuggestion, Cond.initialized RX5, Cond.code yX5_isSuggestion cX5_isSuggestion 2 (some .boolean), Cond.fieldLink RX5 76 "MarginDeskModel" "suggestions" "I", Cond.methodLink RX5 69 yX5_in, Cond.static yX5_in, Cond.code yX5_in cX5_in 3 (some .boolean), Cond.methodLink RX5 94 yX5_fails, Cond.instanceMethod yX5_fails, Cond.selects RX5 yX5_fails yX5_fails, Cond.code yX5_fails cX5_fails 2 (some .int), Cond.methodLink RX5 123 yX5_overlapsOf, Cond.instanceMethod yX5_overlapsOf, Cond.selects RX5 yX5_overlapsOf yX5_overlapsOf]
def wsX5_accept_r2 : List Cond := [Cond.code yX5_overlapsOf cX5_overlapsOf 5 (some .int), Cond.methodLink RX5 101 yX5_removes, Cond.instanceMethod yX5_removes, Cond.selects RX5 yX5_removes yX5_removes, Cond.code yX5_removes cX5_removes 7 (some .int), Cond.fieldLink RX5 7 "MarginDeskModel" "letters" "[I", Cond.fieldLink RX5 73 "MarginDeskModel" "comments" "I", Cond.fieldLink RX5 13 "MarginDeskModel" "from" "[I", Cond.fieldLink RX5 16 "MarginDeskModel" "to" "[I", Cond.methodLink RX5 86 yX5_less, Cond.static yX5_less, Cond.code yX5_less cX5_less 3 (some .int), Cond.methodLink RX5 59 yX5_keeps, Cond.instanceMethod yX5_keeps, Cond.selects RX5 yX5_keeps yX5_keeps, Cond.code yX5_keeps cX5_keeps 2 none, Cond.fieldLink RX5 41 "MarginDeskModel" "then" "[I", Cond.methodLink RX5 82 yX5_told, Cond.instanceMethod yX5_told, Cond.selects RX5 yX5_told yX5_told, Cond.code yX5_told cX5_told 2 (some .int), Cond.methodLink RX5 97 yX5_inserts, Cond.instanceMethod yX5_inserts, Cond.selects RX5 yX5_inserts yX5_inserts]
def wsX5_accept_r3 : List Cond := [Cond.code yX5_inserts cX5_inserts 8 none, Cond.fieldLink RX5 19 "MarginDeskModel" "sticky" "[I"]
def wsX5_accept : List Cond := .code yX5_accept cX5_accept 5 (some .int) :: ((wsX5_accept_r1 ++ (wsX5_accept_r2 ++ wsX5_accept_r3)) ++ wsX50 ++ (vx_atM "java/lang/ArrayIndexOutOfBoundsException" ["java/lang/IndexOutOfBoundsException", "java/lang/RuntimeException", "java/lang/Exception"]).filter goodWord)
def wsX5_reject : List Cond := .code yX5_reject cX5_reject 4 (some .int) :: ([.fieldLink RX5 62 "MarginDeskModel" "thrown" "I", .fieldLink RX5 56 "MarginDeskModel" "state" "[I", .fieldLink RX5 76 "MarginDeskModel" "suggestions" "I", .methodLink RX5 120 yX5_isSuggestion, .instanceMethod yX5_isSuggestion, .selects RX5 yX5_isSuggestion yX5_isSuggestion, .initialized RX5, .code yX5_isSuggestion cX5_isSuggestion 2 (some .boolean), .methodLink RX5 69 yX5_in, .static yX5_in, .code yX5_in cX5_in 3 (some .boolean), .methodLink RX5 94 yX5_fails, .instanceMethod yX5_fails, .selects RX5 yX5_fails yX5_fails, .code yX5_fails cX5_fails 2 (some .int)] ++ wsX50 ++ (vx_atM "java/lang/ArrayIndexOutOfBoundsException" ["java/lang/IndexOutOfBoundsException", "java/lang/RuntimeException", "java/lang/Exception"]).filter goodWord)
def wsX5_stateOf : List Cond := .code yX5_stateOf cX5_stateOf 2 (some .int) :: ([.fieldLink RX5 62 "MarginDeskModel" "thrown" "I", .fieldLink RX5 56 "MarginDeskModel" "state" "[I", .methodLink RX5 120 yX5_isSuggestion, .instanceMethod yX5_isSuggestion, .selects RX5 yX5_isSuggestion yX5_isSuggestion, .initialized RX5, .code yX5_isSuggestion cX5_isSuggestion 2 (some .boolean), .fieldLink RX5 76 "MarginDeskModel" "suggestions" "I", .methodLink RX5 69 yX5_in, .static yX5_in, .code yX5_in cX5_in 3 (some .boolean), .methodLink RX5 94 yX5_fails, .instanceMethod yX5_fails, .selects RX5 yX5_fails yX5_fails, .code yX5_fails cX5_fails 2 (some .int)] ++ wsX50 ++ (vx_atM "java/lang/ArrayIndexOutOfBoundsException" ["java/lang/IndexOutOfBoundsException", "java/lang/RuntimeException", "java/lang/Exception"]).filter goodWord)
def wsX5_overlaps : List Cond := .code yX5_overlaps cX5_overlaps 2 (some .int) :: ([.fieldLink RX5 62 "MarginDeskModel" "thrown" "I", .methodLink RX5 120 yX5_isSuggestion, .instanceMethod yX5_isSuggestion, .selects RX5 yX5_isSuggestion yX5_isSuggestion, .initialized RX5, .code yX5_isSuggestion cX5_isSuggestion 2 (some .boolean), .fieldLink RX5 76 "MarginDeskModel" "suggestions" "I", .methodLink RX5 69 yX5_in, .static yX5_in, .code yX5_in cX5_in 3 (some .boolean), .methodLink RX5 123 yX5_overlapsOf, .instanceMethod yX5_overlapsOf, .selects RX5 yX5_overlapsOf yX5_overlapsOf, .code yX5_overlapsOf cX5_overlapsOf 5 (some .int), .fieldLink RX5 56 "MarginDeskModel" "state" "[I", .fieldLink RX5 44 "MarginDeskModel" "first" "[I", .fieldLink RX5 47 "MarginDeskModel" "last" "[I", .methodLink RX5 94 yX5_fails, .instanceMethod yX5_fails, .selects RX5 yX5_fails yX5_fails, .code yX5_fails cX5_fails 2 (some .int)] ++ wsX50 ++ (vx_atM "java/lang/ArrayIndexOutOfBoundsException" ["java/lang/IndexOutOfBoundsException", "java/lang/RuntimeException", "java/lang/Exception"]).filter goodWord)
def wsJ2_newBytesLength_0f7a4 : List Cond := .code yJ2_newBytesLength_0f7a4 cJ2_newBytesLength_0f7a4 1 (some .int) :: ([.constant RJ2 20 (1073741823)])
def wsJ2_newBytesFor_77867 : List Cond := .code yJ2_newBytesFor_77867 cJ2_newBytesFor_77867 1 (some (.array .byte)) :: ([.arrayClass .byte, .methodLink RJ2 11 yJ2_newBytesLength_0f7a4, .static yJ2_newBytesLength_0f7a4, .initialized RJ2, .code yJ2_newBytesLength_0f7a4 cJ2_newBytesLength_0f7a4 1 (some .int), .constant RJ2 20 (1073741823)])
def wsJ5_init_d00df : List Cond := .code yJ5_init_d00df cJ5_init_d00df 2 none :: ([.methodLink RJ5 3 objectInit, .instanceMethod objectInit, .code objectInit ⟨#[0xb1]⟩ 1 none, .fieldLink RJ5 18 "java/lang/String" "COMPACT_STRINGS" "Z", .arrayClass .byte, .fieldLink RJ5 15 "java/lang/AbstractStringBuilder" "value" "[B", .fieldLink RJ5 22 "java/lang/AbstractStringBuilder" "coder" "B", .methodLink RJ5 26 yJ2_newBytesFor_77867, .static yJ2_newBytesFor_77867, .initialized RJ2, .code yJ2_newBytesFor_77867 cJ2_newBytesFor_77867 1 (some (.array .byte)), .methodLink RJ2 11 yJ2_newBytesLength_0f7a4, .static yJ2_newBytesLength_0f7a4, .code yJ2_newBytesLength_0f7a4 cJ2_newBytesLength_0f7a4 1 (some .int), .constant RJ2 20 (1073741823)] ++ wsJ40)
def wsJ5_length_8abf5 : List Cond := .code yJ5_length_8abf5 cJ5_length_8abf5 1 (some .int) :: ([.fieldLink RJ5 79 "java/lang/AbstractStringBuilder" "count" "I"] ++ wsJ40)
def wsJ8_hugeLength_7cf53 : List Cond := .code yJ8_hugeLength_7cf53 cJ8_hugeLength_7cf53 3 (some .int) :: ([.constant RJ8 200 (2147483639)])
def wsJ8_newLength_cabcc : List Cond := .code yJ8_newLength_cabcc cJ8_newLength_cabcc 4 (some .int) :: ([.methodLink RJ8 194 Lib.Math.max.name, .static Lib.Math.max.name, .initialized "java/lang/Math", .code Lib.Math.max.name Lib.Math.max.code 2 (some .int), .constant RJ8 200 (2147483639), .methodLink RJ8 201 yJ8_hugeLength_7cf53, .static yJ8_hugeLength_7cf53, .initialized RJ8, .code yJ8_hugeLength_7cf53 cJ8_hugeLength_7cf53 3 (some .int)])
def wsJ5_newCapacity_0f7a4 : List Cond := .code yJ5_newCapacity_0f7a4 cJ5_newCapacity_0f7a4 6 (some .int) :: ([.fieldLink RJ5 15 "java/lang/AbstractStringBuilder" "value" "[B", .fieldLink RJ5 22 "java/lang/AbstractStringBuilder" "coder" "B", .constant RJ5 39 (2147483647), .methodLink RJ5 114 yJ8_newLength_cabcc, .static yJ8_newLength_cabcc, .initialized RJ8, .code yJ8_newLength_cabcc cJ8_newLength_cabcc 4 (some .int), .methodLink RJ8 194 Lib.Math.max.name, .static Lib.Math.max.name, .initialized "java/lang/Math", .code Lib.Math.max.name Lib.Math.max.code 2 (some .int), .constant RJ8 200 (2147483639), .methodLink RJ8 201 yJ8_hugeLength_7cf53, .static yJ8_hugeLength_7cf53, .code yJ8_hugeLength_7cf53 cJ8_hugeLength_7cf53 3 (some .int)] ++ wsJ40)
def wsJ7_copyOf_9075b : List Cond := .code yJ7_copyOf_9075b cJ7_copyOf_9075b 3 (some (.array .byte)) :: ([.methodLink RJ7 310 ⟨"[B", "clone", "()Ljava/lang/Object;"⟩, .sameMethod "[B" "java/lang/Object" "clone" "()Ljava/lang/Object;", .native ⟨"java/lang/Object", "clone", "()Ljava/lang/Object;"⟩, .instanceMethod ⟨"java/lang/Object", "clone", "()Ljava/lang/Object;"⟩, .selects "[B" ⟨"[B", "clone", "()Ljava/lang/Object;"⟩ ⟨"java/lang/Object", "clone", "()Ljava/lang/Object;"⟩, .classLink RJ7 311 "[B", .arrayClass .byte, .methodLink RJ7 304 Lib.Math.min.name, .static Lib.Math.min.name, .initialized "java/lang/Math", .code Lib.Math.min.name Lib.Math.min.code 2 (some .int), .methodLink RJ7 150 arraycopyName, .native arraycopyName, .static arraycopyName, .initialized "java/lang/System"])
def wsJ5_ensureCapacityInternal_d00df_r1 : List Cond := [Cond.fieldLink RJ5 15 "java/lang/AbstractStringBuilder" "value" "[B", Cond.fieldLink RJ5 22 "java/lang/AbstractStringBuilder" "coder" "B", Cond.methodLink RJ5 104 ⟨"java/lang/AbstractStringBuilder", "newCapacity", "(I)I"⟩, Cond.sameMethod "java/lang/AbstractStringBuilder" "java/lang/AbstractStringBuilder" "newCapacity" "(I)I", Cond.selects RJ4 ⟨"java/lang/AbstractStringBuilder", "newCapacity", "(I)I"⟩ yJ5_newCapacity_0f7a4, Cond.instanceMethod yJ5_newCapacity_0f7a4, Cond.initialized RJ5, Cond.code yJ5_newCapacity_0f7a4 cJ5_newCapacity_0f7a4 6 (some .int), Cond.constant RJ5 39 (2147483647), Cond.methodLink RJ5 114 yJ8_newLength_cabcc, Cond.static yJ8_newLength_cabcc, Cond.initialized RJ8, Cond.code yJ8_newLength_cabcc cJ8_newLength_cabcc 4 (some .int), Cond.methodLink RJ8 194 Lib.Math.max.name, Cond.static Lib.Math.max.name, Cond.initialized "java/lang/Math", Cond.code Lib.Math.max.name Lib.Math.max.code 2 (some .int), Cond.constant RJ8 200 (2147483639), Cond.methodLink RJ8 201 yJ8_hugeLength_7cf53, Cond.static yJ8_hugeLength_7cf53, Cond.code yJ8_hugeLength_7cf53 cJ8_hugeLength_7cf53 3 (some .int), Cond.methodLink RJ5 108 yJ7_copyOf_9075b, Cond.static yJ7_copyOf_9075b, Cond.initialized RJ7]
def wsJ5_ensureCapacityInternal_d00df_r2 : List Cond := [Cond.code yJ7_copyOf_9075b cJ7_copyOf_9075b 3 (some (.array .byte)), Cond.methodLink RJ7 310 ⟨"[B", "clone", "()Ljava/lang/Object;"⟩, Cond.sameMethod "[B" "java/lang/Object" "clone" "()Ljava/lang/Object;", Cond.native ⟨"java/lang/Object", "clone", "()Ljava/lang/Object;"⟩, Cond.instanceMethod ⟨"java/lang/Object", "clone", "()Ljava/lang/Object;"⟩, Cond.selects "[B" ⟨"[B", "clone", "()Ljava/lang/Object;"⟩ ⟨"java/lang/Object", "clone", "()Ljava/lang/Object;"⟩, Cond.classLink RJ7 311 "[B", Cond.arrayClass .byte, Cond.methodLink RJ7 304 Lib.Math.min.name, Cond.static Lib.Math.min.name, Cond.code Lib.Math.min.name Lib.Math.min.code 2 (some .int), Cond.methodLink RJ7 150 arraycopyName, Cond.native arraycopyName, Cond.static arraycopyName, Cond.initialized "java/lang/System"]
def wsJ5_ensureCapacityInternal_d00df : List Cond := .code yJ5_ensureCapacityInternal_d00df cJ5_ensureCapacityInternal_d00df 3 none :: ((wsJ5_ensureCapacityInternal_d00df_r1 ++ wsJ5_ensureCapacityInternal_d00df_r2) ++ wsJ40)
def wsJ5_isLatin1_aae02 : List Cond := .code yJ5_isLatin1_aae02 cJ5_isLatin1_aae02 1 (some .boolean) :: ([.fieldLink RJ5 18 "java/lang/String" "COMPACT_STRINGS" "Z", .fieldLink RJ5 22 "java/lang/AbstractStringBuilder" "coder" "B"] ++ wsJ40)
def wsJ2_length_9d52b : List Cond := .code yJ2_length_9d52b cJ2_length_9d52b 1 (some .int) :: ([])
def wsJ3_checkFromIndexSize_8c36e : List Cond := .code yJ3_checkFromIndexSize_8c36e cJ3_checkFromIndexSize_8c36e 4 (some .int) :: ([])
def wsJ0_checkBoundsOffCount_cabcc : List Cond := .code yJ0_checkBoundsOffCount_cabcc cJ0_checkBoundsOffCount_cabcc 3 (some .int) :: ([.fieldLink RJ0 1053 "jdk/internal/util/Preconditions" "SIOOBE_FORMATTER" "Ljava/util/function/BiFunction;", .methodLink RJ0 1065 yJ3_checkFromIndexSize_8c36e, .static yJ3_checkFromIndexSize_8c36e, .initialized RJ3, .code yJ3_checkFromIndexSize_8c36e cJ3_checkFromIndexSize_8c36e 4 (some .int)])
def wsJ2_checkBoundsOffCount_d044e : List Cond := .code yJ2_checkBoundsOffCount_d044e cJ2_checkBoundsOffCount_d044e 3 none :: ([.methodLink RJ2 48 yJ2_length_9d52b, .static yJ2_length_9d52b, .initialized RJ2, .code yJ2_length_9d52b cJ2_length_9d52b 1 (some .int), .methodLink RJ2 419 yJ0_checkBoundsOffCount_cabcc, .static yJ0_checkBoundsOffCount_cabcc, .initialized RJ0, .code yJ0_checkBoundsOffCount_cabcc cJ0_checkBoundsOffCount_cabcc 3 (some .int), .fieldLink RJ0 1053 "jdk/internal/util/Preconditions" "SIOOBE_FORMATTER" "Ljava/util/function/BiFunction;", .methodLink RJ0 1065 yJ3_checkFromIndexSize_8c36e, .static yJ3_checkFromIndexSize_8c36e, .initialized RJ3, .code yJ3_checkFromIndexSize_8c36e cJ3_checkFromIndexSize_8c36e 4 (some .int)])
def wsJ2_putChar_b72d1 : List Cond := .code yJ2_putChar_b72d1 cJ2_putChar_b72d1 3 none :: ([.fieldLink RJ2 44 "java/lang/StringUTF16" "$assertionsDisabled" "Z", .fieldLink RJ2 59 "java/lang/StringUTF16" "HI_BYTE_SHIFT" "I", .fieldLink RJ2 63 "java/lang/StringUTF16" "LO_BYTE_SHIFT" "I", .methodLink RJ2 48 yJ2_length_9d52b, .static yJ2_length_9d52b, .initialized RJ2, .code yJ2_length_9d52b cJ2_length_9d52b 1 (some .int)])
def wsJ2_inflate_0e8fd : List Cond := .code yJ2_inflate_0e8fd cJ2_inflate_0e8fd 6 none :: ([.methodLink RJ2 173 yJ2_checkBoundsOffCount_d044e, .static yJ2_checkBoundsOffCount_d044e, .initialized RJ2, .code yJ2_checkBoundsOffCount_d044e cJ2_checkBoundsOffCount_d044e 3 none, .methodLink RJ2 48 yJ2_length_9d52b, .static yJ2_length_9d52b, .code yJ2_length_9d52b cJ2_length_9d52b 1 (some .int), .methodLink RJ2 419 yJ0_checkBoundsOffCount_cabcc, .static yJ0_checkBoundsOffCount_cabcc, .initialized RJ0, .code yJ0_checkBoundsOffCount_cabcc cJ0_checkBoundsOffCount_cabcc 3 (some .int), .fieldLink RJ0 1053 "jdk/internal/util/Preconditions" "SIOOBE_FORMATTER" "Ljava/util/function/BiFunction;", .methodLink RJ0 1065 yJ3_checkFromIndexSize_8c36e, .static yJ3_checkFromIndexSize_8c36e, .initialized RJ3, .code yJ3_checkFromIndexSize_8c36e cJ3_checkFromIndexSize_8c36e 4 (some .int), .methodLink RJ2 111 yJ2_putChar_b72d1, .static yJ2_putChar_b72d1, .code yJ2_putChar_b72d1 cJ2_putChar_b72d1 3 none, .fieldLink RJ2 44 "java/lang/StringUTF16" "$assertionsDisabled" "Z", .fieldLink RJ2 59 "java/lang/StringUTF16" "HI_BYTE_SHIFT" "I", .fieldLink RJ2 63 "java/lang/StringUTF16" "LO_BYTE_SHIFT" "I"])
def wsJ1_inflate_0e8fd_r1 : List Cond := [Cond.methodLink RJ1 240 yJ2_inflate_0e8fd, Cond.static yJ2_inflate_0e8fd, Cond.initialized RJ2, Cond.code yJ2_inflate_0e8fd cJ2_inflate_0e8fd 6 none, Cond.methodLink RJ2 173 yJ2_checkBoundsOffCount_d044e, Cond.static yJ2_checkBoundsOffCount_d044e, Cond.code yJ2_checkBoundsOffCount_d044e cJ2_checkBoundsOffCount_d044e 3 none, Cond.methodLink RJ2 48 yJ2_length_9d52b, Cond.static yJ2_length_9d52b, Cond.code yJ2_length_9d52b cJ2_length_9d52b 1 (some .int), Cond.methodLink RJ2 419 yJ0_checkBoundsOffCount_cabcc, Cond.static yJ0_checkBoundsOffCount_cabcc, Cond.initialized RJ0, Cond.code yJ0_checkBoundsOffCount_cabcc cJ0_checkBoundsOffCount_cabcc 3 (some .int), Cond.fieldLink RJ0 1053 "jdk/internal/util/Preconditions" "SIOOBE_FORMATTER" "Ljava/util/function/BiFunction;", Cond.methodLink RJ0 1065 yJ3_checkFromIndexSize_8c36e, Cond.static yJ3_checkFromIndexSize_8c36e, Cond.initialized RJ3, Cond.code yJ3_checkFromIndexSize_8c36e cJ3_checkFromIndexSize_8c36e 4 (some .int), Cond.methodLink RJ2 111 yJ2_putChar_b72d1, Cond.static yJ2_putChar_b72d1, Cond.code yJ2_putChar_b72d1 cJ2_putChar_b72d1 3 none, Cond.fieldLink RJ2 44 "java/lang/StringUTF16" "$assertionsDisabled" "Z", Cond.fieldLink RJ2 59 "java/lang/StringUTF16" "HI_BYTE_SHIFT" "I"]
def wsJ1_inflate_0e8fd_r2 : List Cond := [Cond.fieldLink RJ2 63 "java/lang/StringUTF16" "LO_BYTE_SHIFT" "I"]
def wsJ1_inflate_0e8fd : List Cond := .code yJ1_inflate_0e8fd cJ1_inflate_0e8fd 5 none :: ((wsJ1_inflate_0e8fd_r1 ++ wsJ1_inflate_0e8fd_r2))
def wsJ5_inflate_da8c8_r1 : List Cond := [Cond.fieldLink RJ5 15 "java/lang/AbstractStringBuilder" "value" "[B", Cond.fieldLink RJ5 79 "java/lang/AbstractStringBuilder" "count" "I", Cond.fieldLink RJ5 22 "java/lang/AbstractStringBuilder" "coder" "B", Cond.methodLink RJ5 83 ⟨"java/lang/AbstractStringBuilder", "isLatin1", "()Z"⟩, Cond.sameMethod "java/lang/AbstractStringBuilder" "java/lang/AbstractStringBuilder" "isLatin1" "()Z", Cond.selects RJ4 ⟨"java/lang/AbstractStringBuilder", "isLatin1", "()Z"⟩ yJ5_isLatin1_aae02, Cond.instanceMethod yJ5_isLatin1_aae02, Cond.initialized RJ5, Cond.code yJ5_isLatin1_aae02 cJ5_isLatin1_aae02 1 (some .boolean), Cond.fieldLink RJ5 18 "java/lang/String" "COMPACT_STRINGS" "Z", Cond.methodLink RJ5 26 yJ2_newBytesFor_77867, Cond.static yJ2_newBytesFor_77867, Cond.initialized RJ2, Cond.code yJ2_newBytesFor_77867 cJ2_newBytesFor_77867 1 (some (.array .byte)), Cond.arrayClass .byte, Cond.methodLink RJ2 11 yJ2_newBytesLength_0f7a4, Cond.static yJ2_newBytesLength_0f7a4, Cond.code yJ2_newBytesLength_0f7a4 cJ2_newBytesLength_0f7a4 1 (some .int), Cond.constant RJ2 20 (1073741823), Cond.methodLink RJ5 125 yJ1_inflate_0e8fd, Cond.static yJ1_inflate_0e8fd, Cond.initialized RJ1, Cond.code yJ1_inflate_0e8fd cJ1_inflate_0e8fd 5 none, Cond.methodLink RJ1 240 yJ2_inflate_0e8fd]
def wsJ5_inflate_da8c8_r2 : List Cond := [Cond.static yJ2_inflate_0e8fd, Cond.code yJ2_inflate_0e8fd cJ2_inflate_0e8fd 6 none, Cond.methodLink RJ2 173 yJ2_checkBoundsOffCount_d044e, Cond.static yJ2_checkBoundsOffCount_d044e, Cond.code yJ2_checkBoundsOffCount_d044e cJ2_checkBoundsOffCount_d044e 3 none, Cond.methodLink RJ2 48 yJ2_length_9d52b, Cond.static yJ2_length_9d52b, Cond.code yJ2_length_9d52b cJ2_length_9d52b 1 (some .int), Cond.methodLink RJ2 419 yJ0_checkBoundsOffCount_cabcc, Cond.static yJ0_checkBoundsOffCount_cabcc, Cond.initialized RJ0, Cond.code yJ0_checkBoundsOffCount_cabcc cJ0_checkBoundsOffCount_cabcc 3 (some .int), Cond.fieldLink RJ0 1053 "jdk/internal/util/Preconditions" "SIOOBE_FORMATTER" "Ljava/util/function/BiFunction;", Cond.methodLink RJ0 1065 yJ3_checkFromIndexSize_8c36e, Cond.static yJ3_checkFromIndexSize_8c36e, Cond.initialized RJ3, Cond.code yJ3_checkFromIndexSize_8c36e cJ3_checkFromIndexSize_8c36e 4 (some .int), Cond.methodLink RJ2 111 yJ2_putChar_b72d1, Cond.static yJ2_putChar_b72d1, Cond.code yJ2_putChar_b72d1 cJ2_putChar_b72d1 3 none, Cond.fieldLink RJ2 44 "java/lang/StringUTF16" "$assertionsDisabled" "Z", Cond.fieldLink RJ2 59 "java/lang/StringUTF16" "HI_BYTE_SHIFT" "I", Cond.fieldLink RJ2 63 "java/lang/StringUTF16" "LO_BYTE_SHIFT" "I"]
def wsJ5_inflate_da8c8 : List Cond := .code yJ5_inflate_da8c8 cJ5_inflate_da8c8 2 none :: ((wsJ5_inflate_da8c8_r1 ++ wsJ5_inflate_da8c8_r2) ++ wsJ40)
def wsJ3_checkFromToIndex_8c36e : List Cond := .code yJ3_checkFromToIndex_8c36e cJ3_checkFromToIndex_8c36e 4 (some .int) :: ([])
def wsJ0_checkBoundsBeginEnd_23922 : List Cond := .code yJ0_checkBoundsBeginEnd_23922 cJ0_checkBoundsBeginEnd_23922 3 none :: ([.fieldLink RJ0 1053 "jdk/internal/util/Preconditions" "SIOOBE_FORMATTER" "Ljava/util/function/BiFunction;", .methodLink RJ0 1062 yJ3_checkFromToIndex_8c36e, .static yJ3_checkFromToIndex_8c36e, .initialized RJ3, .code yJ3_checkFromToIndex_8c36e cJ3_checkFromToIndex_8c36e 4 (some .int)])
def wsJ2_checkBoundsBeginEnd_d044e : List Cond := .code yJ2_checkBoundsBeginEnd_d044e cJ2_checkBoundsBeginEnd_d044e 3 none :: ([.methodLink RJ2 48 yJ2_length_9d52b, .static yJ2_length_9d52b, .initialized RJ2, .code yJ2_length_9d52b cJ2_length_9d52b 1 (some .int), .methodLink RJ2 241 yJ0_checkBoundsBeginEnd_23922, .static yJ0_checkBoundsBeginEnd_23922, .initialized RJ0, .code yJ0_checkBoundsBeginEnd_23922 cJ0_checkBoundsBeginEnd_23922 3 none, .fieldLink RJ0 1053 "jdk/internal/util/Preconditions" "SIOOBE_FORMATTER" "Ljava/util/function/BiFunction;", .methodLink RJ0 1062 yJ3_checkFromToIndex_8c36e, .static yJ3_checkFromToIndex_8c36e, .initialized RJ3, .code yJ3_checkFromToIndex_8c36e cJ3_checkFromToIndex_8c36e 4 (some .int)])
def wsJ2_putCharsAt_cd4e5 : List Cond := .code yJ2_putCharsAt_cd4e5 cJ2_putCharsAt_cd4e5 7 (some .int) :: ([.fieldLink RJ2 44 "java/lang/StringUTF16" "$assertionsDisabled" "Z", .methodLink RJ2 96 yJ2_checkBoundsBeginEnd_d044e, .static yJ2_checkBoundsBeginEnd_d044e, .initialized RJ2, .code yJ2_checkBoundsBeginEnd_d044e cJ2_checkBoundsBeginEnd_d044e 3 none, .methodLink RJ2 48 yJ2_length_9d52b, .static yJ2_length_9d52b, .code yJ2_length_9d52b cJ2_length_9d52b 1 (some .int), .methodLink RJ2 241 yJ0_checkBoundsBeginEnd_23922, .static yJ0_checkBoundsBeginEnd_23922, .initialized RJ0, .code yJ0_checkBoundsBeginEnd_23922 cJ0_checkBoundsBeginEnd_23922 3 none, .fieldLink RJ0 1053 "jdk/internal/util/Preconditions" "SIOOBE_FORMATTER" "Ljava/util/function/BiFunction;", .methodLink RJ0 1062 yJ3_checkFromToIndex_8c36e, .static yJ3_checkFromToIndex_8c36e, .initialized RJ3, .code yJ3_checkFromToIndex_8c36e cJ3_checkFromToIndex_8c36e 4 (some .int), .methodLink RJ2 111 yJ2_putChar_b72d1, .static yJ2_putChar_b72d1, .code yJ2_putChar_b72d1 cJ2_putChar_b72d1 3 none, .fieldLink RJ2 59 "java/lang/StringUTF16" "HI_BYTE_SHIFT" "I", .fieldLink RJ2 63 "java/lang/StringUTF16" "LO_BYTE_SHIFT" "I"])
def wsJ5_appendNull_278bc_r1 : List Cond := [Cond.fieldLink RJ5 79 "java/lang/AbstractStringBuilder" "count" "I", Cond.fieldLink RJ5 15 "java/lang/AbstractStringBuilder" "value" "[B", Cond.methodLink RJ5 100 ⟨"java/lang/AbstractStringBuilder", "ensureCapacityInternal", "(I)V"⟩, Cond.sameMethod "java/lang/AbstractStringBuilder" "java/lang/AbstractStringBuilder" "ensureCapacityInternal" "(I)V", Cond.selects RJ4 ⟨"java/lang/AbstractStringBuilder", "ensureCapacityInternal", "(I)V"⟩ yJ5_ensureCapacityInternal_d00df, Cond.instanceMethod yJ5_ensureCapacityInternal_d00df, Cond.initialized RJ5, Cond.code yJ5_ensureCapacityInternal_d00df cJ5_ensureCapacityInternal_d00df 3 none, Cond.fieldLink RJ5 22 "java/lang/AbstractStringBuilder" "coder" "B", Cond.methodLink RJ5 104 ⟨"java/lang/AbstractStringBuilder", "newCapacity", "(I)I"⟩, Cond.sameMethod "java/lang/AbstractStringBuilder" "java/lang/AbstractStringBuilder" "newCapacity" "(I)I", Cond.selects RJ4 ⟨"java/lang/AbstractStringBuilder", "newCapacity", "(I)I"⟩ yJ5_newCapacity_0f7a4, Cond.instanceMethod yJ5_newCapacity_0f7a4, Cond.code yJ5_newCapacity_0f7a4 cJ5_newCapacity_0f7a4 6 (some .int), Cond.constant RJ5 39 (2147483647), Cond.methodLink RJ5 114 yJ8_newLength_cabcc, Cond.static yJ8_newLength_cabcc, Cond.initialized RJ8, Cond.code yJ8_newLength_cabcc cJ8_newLength_cabcc 4 (some .int), Cond.methodLink RJ8 194 Lib.Math.max.name, Cond.static Lib.Math.max.name, Cond.initialized "java/lang/Math", Cond.code Lib.Math.max.name Lib.Math.max.code 2 (some .int), Cond.constant RJ8 200 (2147483639)]
def wsJ5_appendNull_278bc_r2 : List Cond := [Cond.methodLink RJ8 201 yJ8_hugeLength_7cf53, Cond.static yJ8_hugeLength_7cf53, Cond.code yJ8_hugeLength_7cf53 cJ8_hugeLength_7cf53 3 (some .int), Cond.methodLink RJ5 108 yJ7_copyOf_9075b, Cond.static yJ7_copyOf_9075b, Cond.initialized RJ7, Cond.code yJ7_copyOf_9075b cJ7_copyOf_9075b 3 (some (.array .byte)), Cond.methodLink RJ7 310 ⟨"[B", "clone", "()Ljava/lang/Object;"⟩, Cond.sameMethod "[B" "java/lang/Object" "clone" "()Ljava/lang/Object;", Cond.native ⟨"java/lang/Object", "clone", "()Ljava/lang/Object;"⟩, Cond.instanceMethod ⟨"java/lang/Object", "clone", "()Ljava/lang/Object;"⟩, Cond.selects "[B" ⟨"[B", "clone", "()Ljava/lang/Object;"⟩ ⟨"java/lang/Object", "clone", "()Ljava/lang/Object;"⟩, Cond.classLink RJ7 311 "[B", Cond.arrayClass .byte, Cond.methodLink RJ7 304 Lib.Math.min.name, Cond.static Lib.Math.min.name, Cond.code Lib.Math.min.name Lib.Math.min.code 2 (some .int), Cond.methodLink RJ7 150 arraycopyName, Cond.native arraycopyName, Cond.static arraycopyName, Cond.initialized "java/lang/System", Cond.methodLink RJ5 83 ⟨"java/lang/AbstractStringBuilder", "isLatin1", "()Z"⟩, Cond.sameMethod "java/lang/AbstractStringBuilder" "java/lang/AbstractStringBuilder" "isLatin1" "()Z", Cond.selects RJ4 ⟨"java/lang/AbstractStringBuilder", "isLatin1", "()Z"⟩ yJ5_isLatin1_aae02]
def wsJ5_appendNull_278bc_r3 : List Cond := [Cond.instanceMethod yJ5_isLatin1_aae02, Cond.code yJ5_isLatin1_aae02 cJ5_isLatin1_aae02 1 (some .boolean), Cond.fieldLink RJ5 18 "java/lang/String" "COMPACT_STRINGS" "Z", Cond.methodLink RJ5 226 yJ2_putCharsAt_cd4e5, Cond.static yJ2_putCharsAt_cd4e5, Cond.initialized RJ2, Cond.code yJ2_putCharsAt_cd4e5 cJ2_putCharsAt_cd4e5 7 (some .int), Cond.fieldLink RJ2 44 "java/lang/StringUTF16" "$assertionsDisabled" "Z", Cond.methodLink RJ2 96 yJ2_checkBoundsBeginEnd_d044e, Cond.static yJ2_checkBoundsBeginEnd_d044e, Cond.code yJ2_checkBoundsBeginEnd_d044e cJ2_checkBoundsBeginEnd_d044e 3 none, Cond.methodLink RJ2 48 yJ2_length_9d52b, Cond.static yJ2_length_9d52b, Cond.code yJ2_length_9d52b cJ2_length_9d52b 1 (some .int), Cond.methodLink RJ2 241 yJ0_checkBoundsBeginEnd_23922, Cond.static yJ0_checkBoundsBeginEnd_23922, Cond.initialized RJ0, Cond.code yJ0_checkBoundsBeginEnd_23922 cJ0_checkBoundsBeginEnd_23922 3 none, Cond.fieldLink RJ0 1053 "jdk/internal/util/Preconditions" "SIOOBE_FORMATTER" "Ljava/util/function/BiFunction;", Cond.methodLink RJ0 1062 yJ3_checkFromToIndex_8c36e, Cond.static yJ3_checkFromToIndex_8c36e, Cond.initialized RJ3, Cond.code yJ3_checkFromToIndex_8c36e cJ3_checkFromToIndex_8c36e 4 (some .int), Cond.methodLink RJ2 111 yJ2_putChar_b72d1]
def wsJ5_appendNull_278bc_r4 : List Cond := [Cond.static yJ2_putChar_b72d1, Cond.code yJ2_putChar_b72d1 cJ2_putChar_b72d1 3 none, Cond.fieldLink RJ2 59 "java/lang/StringUTF16" "HI_BYTE_SHIFT" "I", Cond.fieldLink RJ2 63 "java/lang/StringUTF16" "LO_BYTE_SHIFT" "I"]
def wsJ5_appendNull_278bc : List Cond := .code yJ5_appendNull_278bc cJ5_appendNull_278bc 3 (some (.object "java/lang/AbstractStringBuilder")) :: ((wsJ5_appendNull_278bc_r1 ++ (wsJ5_appendNull_278bc_r2 ++ (wsJ5_appendNull_278bc_r3 ++ wsJ5_appendNull_278bc_r4))) ++ wsJ40)
def wsJ0_coder_7d493 : List Cond := .code yJ0_coder_7d493 cJ0_coder_7d493 1 (some .byte) :: ([.fieldLink RJ0 38 "java/lang/String" "COMPACT_STRINGS" "Z", .fieldLink RJ0 15 "java/lang/String" "coder" "B"] ++ wsJ00)
def wsJ0_length_8abf5 : List Cond := .code yJ0_length_8abf5 cJ0_length_8abf5 1 (some .int) :: ([.fieldLink RJ0 9 "java/lang/String" "value" "[B", .methodLink RJ0 335 yJ0_coder_7d493, .instanceMethod yJ0_coder_7d493, .selects RJ0 yJ0_coder_7d493 yJ0_coder_7d493, .initialized RJ0, .code yJ0_coder_7d493 cJ0_coder_7d493 1 (some .byte), .fieldLink RJ0 38 "java/lang/String" "COMPACT_STRINGS" "Z", .fieldLink RJ0 15 "java/lang/String" "coder" "B"] ++ wsJ00)
def wsJ5_inflateIfNeededFor_a7421_r1 : List Cond := [Cond.fieldLink RJ5 18 "java/lang/String" "COMPACT_STRINGS" "Z", Cond.fieldLink RJ5 22 "java/lang/AbstractStringBuilder" "coder" "B", Cond.methodLink RJ5 40 yJ0_coder_7d493, Cond.instanceMethod yJ0_coder_7d493, Cond.selects RJ0 yJ0_coder_7d493 yJ0_coder_7d493, Cond.initialized RJ0, Cond.code yJ0_coder_7d493 cJ0_coder_7d493 1 (some .byte), Cond.fieldLink RJ0 38 "java/lang/String" "COMPACT_STRINGS" "Z", Cond.fieldLink RJ0 15 "java/lang/String" "coder" "B", Cond.methodLink RJ5 195 ⟨"java/lang/AbstractStringBuilder", "inflate", "()V"⟩, Cond.sameMethod "java/lang/AbstractStringBuilder" "java/lang/AbstractStringBuilder" "inflate" "()V", Cond.selects RJ4 ⟨"java/lang/AbstractStringBuilder", "inflate", "()V"⟩ yJ5_inflate_da8c8, Cond.instanceMethod yJ5_inflate_da8c8, Cond.initialized RJ5, Cond.code yJ5_inflate_da8c8 cJ5_inflate_da8c8 2 none, Cond.fieldLink RJ5 15 "java/lang/AbstractStringBuilder" "value" "[B", Cond.fieldLink RJ5 79 "java/lang/AbstractStringBuilder" "count" "I", Cond.methodLink RJ5 83 ⟨"java/lang/AbstractStringBuilder", "isLatin1", "()Z"⟩, Cond.sameMethod "java/lang/AbstractStringBuilder" "java/lang/AbstractStringBuilder" "isLatin1" "()Z", Cond.selects RJ4 ⟨"java/lang/AbstractStringBuilder", "isLatin1", "()Z"⟩ yJ5_isLatin1_aae02, Cond.instanceMethod yJ5_isLatin1_aae02, Cond.code yJ5_isLatin1_aae02 cJ5_isLatin1_aae02 1 (some .boolean), Cond.methodLink RJ5 26 yJ2_newBytesFor_77867, Cond.static yJ2_newBytesFor_77867]
def wsJ5_inflateIfNeededFor_a7421_r2 : List Cond := [Cond.initialized RJ2, Cond.code yJ2_newBytesFor_77867 cJ2_newBytesFor_77867 1 (some (.array .byte)), Cond.arrayClass .byte, Cond.methodLink RJ2 11 yJ2_newBytesLength_0f7a4, Cond.static yJ2_newBytesLength_0f7a4, Cond.code yJ2_newBytesLength_0f7a4 cJ2_newBytesLength_0f7a4 1 (some .int), Cond.constant RJ2 20 (1073741823), Cond.methodLink RJ5 125 yJ1_inflate_0e8fd, Cond.static yJ1_inflate_0e8fd, Cond.initialized RJ1, Cond.code yJ1_inflate_0e8fd cJ1_inflate_0e8fd 5 none, Cond.methodLink RJ1 240 yJ2_inflate_0e8fd, Cond.static yJ2_inflate_0e8fd, Cond.code yJ2_inflate_0e8fd cJ2_inflate_0e8fd 6 none, Cond.methodLink RJ2 173 yJ2_checkBoundsOffCount_d044e, Cond.static yJ2_checkBoundsOffCount_d044e, Cond.code yJ2_checkBoundsOffCount_d044e cJ2_checkBoundsOffCount_d044e 3 none, Cond.methodLink RJ2 48 yJ2_length_9d52b, Cond.static yJ2_length_9d52b, Cond.code yJ2_length_9d52b cJ2_length_9d52b 1 (some .int), Cond.methodLink RJ2 419 yJ0_checkBoundsOffCount_cabcc, Cond.static yJ0_checkBoundsOffCount_cabcc, Cond.code yJ0_checkBoundsOffCount_cabcc cJ0_checkBoundsOffCount_cabcc 3 (some .int), Cond.fieldLink RJ0 1053 "jdk/internal/util/Preconditions" "SIOOBE_FORMATTER" "Ljava/util/function/BiFunction;"]
def wsJ5_inflateIfNeededFor_a7421_r3 : List Cond := [Cond.methodLink RJ0 1065 yJ3_checkFromIndexSize_8c36e, Cond.static yJ3_checkFromIndexSize_8c36e, Cond.initialized RJ3, Cond.code yJ3_checkFromIndexSize_8c36e cJ3_checkFromIndexSize_8c36e 4 (some .int), Cond.methodLink RJ2 111 yJ2_putChar_b72d1, Cond.static yJ2_putChar_b72d1, Cond.code yJ2_putChar_b72d1 cJ2_putChar_b72d1 3 none, Cond.fieldLink RJ2 44 "java/lang/StringUTF16" "$assertionsDisabled" "Z", Cond.fieldLink RJ2 59 "java/lang/StringUTF16" "HI_BYTE_SHIFT" "I", Cond.fieldLink RJ2 63 "java/lang/StringUTF16" "LO_BYTE_SHIFT" "I"]
def wsJ5_inflateIfNeededFor_a7421 : List Cond := .code yJ5_inflateIfNeededFor_a7421 cJ5_inflateIfNeededFor_a7421 2 none :: ((wsJ5_inflateIfNeededFor_a7421_r1 ++ (wsJ5_inflateIfNeededFor_a7421_r2 ++ wsJ5_inflateIfNeededFor_a7421_r3)) ++ wsJ40 ++ wsJ00)
def wsJ0_getBytes_840e7_r1 : List Cond := [Cond.fieldLink RJ0 9 "java/lang/String" "value" "[B", Cond.methodLink RJ0 212 arraycopyName, Cond.native arraycopyName, Cond.static arraycopyName, Cond.initialized "java/lang/System", Cond.methodLink RJ0 335 yJ0_coder_7d493, Cond.instanceMethod yJ0_coder_7d493, Cond.selects RJ0 yJ0_coder_7d493 yJ0_coder_7d493, Cond.initialized RJ0, Cond.code yJ0_coder_7d493 cJ0_coder_7d493 1 (some .byte), Cond.fieldLink RJ0 38 "java/lang/String" "COMPACT_STRINGS" "Z", Cond.fieldLink RJ0 15 "java/lang/String" "coder" "B", Cond.methodLink RJ0 106 yJ1_inflate_0e8fd, Cond.static yJ1_inflate_0e8fd, Cond.initialized RJ1, Cond.code yJ1_inflate_0e8fd cJ1_inflate_0e8fd 5 none, Cond.methodLink RJ1 240 yJ2_inflate_0e8fd, Cond.static yJ2_inflate_0e8fd, Cond.initialized RJ2, Cond.code yJ2_inflate_0e8fd cJ2_inflate_0e8fd 6 none, Cond.methodLink RJ2 173 yJ2_checkBoundsOffCount_d044e, Cond.static yJ2_checkBoundsOffCount_d044e, Cond.code yJ2_checkBoundsOffCount_d044e cJ2_checkBoundsOffCount_d044e 3 none, Cond.methodLink RJ2 48 yJ2_length_9d52b]
def wsJ0_getBytes_840e7_r2 : List Cond := [Cond.static yJ2_length_9d52b, Cond.code yJ2_length_9d52b cJ2_length_9d52b 1 (some .int), Cond.methodLink RJ2 419 yJ0_checkBoundsOffCount_cabcc, Cond.static yJ0_checkBoundsOffCount_cabcc, Cond.code yJ0_checkBoundsOffCount_cabcc cJ0_checkBoundsOffCount_cabcc 3 (some .int), Cond.fieldLink RJ0 1053 "jdk/internal/util/Preconditions" "SIOOBE_FORMATTER" "Ljava/util/function/BiFunction;", Cond.methodLink RJ0 1065 yJ3_checkFromIndexSize_8c36e, Cond.static yJ3_checkFromIndexSize_8c36e, Cond.initialized RJ3, Cond.code yJ3_checkFromIndexSize_8c36e cJ3_checkFromIndexSize_8c36e 4 (some .int), Cond.methodLink RJ2 111 yJ2_putChar_b72d1, Cond.static yJ2_putChar_b72d1, Cond.code yJ2_putChar_b72d1 cJ2_putChar_b72d1 3 none, Cond.fieldLink RJ2 44 "java/lang/StringUTF16" "$assertionsDisabled" "Z", Cond.fieldLink RJ2 59 "java/lang/StringUTF16" "HI_BYTE_SHIFT" "I", Cond.fieldLink RJ2 63 "java/lang/StringUTF16" "LO_BYTE_SHIFT" "I"]
def wsJ0_getBytes_840e7 : List Cond := .code yJ0_getBytes_840e7 cJ0_getBytes_840e7 4 none :: ((wsJ0_getBytes_840e7_r1 ++ wsJ0_getBytes_840e7_r2) ++ wsJ00)
def wsJ5_putStringAt_47b60_r1 : List Cond := [Cond.fieldLink RJ5 15 "java/lang/AbstractStringBuilder" "value" "[B", Cond.fieldLink RJ5 22 "java/lang/AbstractStringBuilder" "coder" "B", Cond.methodLink RJ5 397 ⟨"java/lang/AbstractStringBuilder", "inflateIfNeededFor", "(Ljava/lang/String;)V"⟩, Cond.sameMethod "java/lang/AbstractStringBuilder" "java/lang/AbstractStringBuilder" "inflateIfNeededFor" "(Ljava/lang/String;)V", Cond.selects RJ4 ⟨"java/lang/AbstractStringBuilder", "inflateIfNeededFor", "(Ljava/lang/String;)V"⟩ yJ5_inflateIfNeededFor_a7421, Cond.instanceMethod yJ5_inflateIfNeededFor_a7421, Cond.initialized RJ5, Cond.code yJ5_inflateIfNeededFor_a7421 cJ5_inflateIfNeededFor_a7421 2 none, Cond.fieldLink RJ5 18 "java/lang/String" "COMPACT_STRINGS" "Z", Cond.methodLink RJ5 40 yJ0_coder_7d493, Cond.instanceMethod yJ0_coder_7d493, Cond.selects RJ0 yJ0_coder_7d493 yJ0_coder_7d493, Cond.initialized RJ0, Cond.code yJ0_coder_7d493 cJ0_coder_7d493 1 (some .byte), Cond.fieldLink RJ0 38 "java/lang/String" "COMPACT_STRINGS" "Z", Cond.fieldLink RJ0 15 "java/lang/String" "coder" "B", Cond.methodLink RJ5 195 ⟨"java/lang/AbstractStringBuilder", "inflate", "()V"⟩, Cond.sameMethod "java/lang/AbstractStringBuilder" "java/lang/AbstractStringBuilder" "inflate" "()V", Cond.selects RJ4 ⟨"java/lang/AbstractStringBuilder", "inflate", "()V"⟩ yJ5_inflate_da8c8, Cond.instanceMethod yJ5_inflate_da8c8, Cond.code yJ5_inflate_da8c8 cJ5_inflate_da8c8 2 none, Cond.fieldLink RJ5 79 "java/lang/AbstractStringBuilder" "count" "I", Cond.methodLink RJ5 83 ⟨"java/lang/AbstractStringBuilder", "isLatin1", "()Z"⟩, Cond.sameMethod "java/lang/AbstractStringBuilder" "java/lang/AbstractStringBuilder" "isLatin1" "()Z"]
def wsJ5_putStringAt_47b60_r2 : List Cond := [Cond.selects RJ4 ⟨"java/lang/AbstractStringBuilder", "isLatin1", "()Z"⟩ yJ5_isLatin1_aae02, Cond.instanceMethod yJ5_isLatin1_aae02, Cond.code yJ5_isLatin1_aae02 cJ5_isLatin1_aae02 1 (some .boolean), Cond.methodLink RJ5 26 yJ2_newBytesFor_77867, Cond.static yJ2_newBytesFor_77867, Cond.initialized RJ2, Cond.code yJ2_newBytesFor_77867 cJ2_newBytesFor_77867 1 (some (.array .byte)), Cond.arrayClass .byte, Cond.methodLink RJ2 11 yJ2_newBytesLength_0f7a4, Cond.static yJ2_newBytesLength_0f7a4, Cond.code yJ2_newBytesLength_0f7a4 cJ2_newBytesLength_0f7a4 1 (some .int), Cond.constant RJ2 20 (1073741823), Cond.methodLink RJ5 125 yJ1_inflate_0e8fd, Cond.static yJ1_inflate_0e8fd, Cond.initialized RJ1, Cond.code yJ1_inflate_0e8fd cJ1_inflate_0e8fd 5 none, Cond.methodLink RJ1 240 yJ2_inflate_0e8fd, Cond.static yJ2_inflate_0e8fd, Cond.code yJ2_inflate_0e8fd cJ2_inflate_0e8fd 6 none, Cond.methodLink RJ2 173 yJ2_checkBoundsOffCount_d044e, Cond.static yJ2_checkBoundsOffCount_d044e, Cond.code yJ2_checkBoundsOffCount_d044e cJ2_checkBoundsOffCount_d044e 3 none, Cond.methodLink RJ2 48 yJ2_length_9d52b, Cond.static yJ2_length_9d52b]
def wsJ5_putStringAt_47b60_r3 : List Cond := [Cond.code yJ2_length_9d52b cJ2_length_9d52b 1 (some .int), Cond.methodLink RJ2 419 yJ0_checkBoundsOffCount_cabcc, Cond.static yJ0_checkBoundsOffCount_cabcc, Cond.code yJ0_checkBoundsOffCount_cabcc cJ0_checkBoundsOffCount_cabcc 3 (some .int), Cond.fieldLink RJ0 1053 "jdk/internal/util/Preconditions" "SIOOBE_FORMATTER" "Ljava/util/function/BiFunction;", Cond.methodLink RJ0 1065 yJ3_checkFromIndexSize_8c36e, Cond.static yJ3_checkFromIndexSize_8c36e, Cond.initialized RJ3, Cond.code yJ3_checkFromIndexSize_8c36e cJ3_checkFromIndexSize_8c36e 4 (some .int), Cond.methodLink RJ2 111 yJ2_putChar_b72d1, Cond.static yJ2_putChar_b72d1, Cond.code yJ2_putChar_b72d1 cJ2_putChar_b72d1 3 none, Cond.fieldLink RJ2 44 "java/lang/StringUTF16" "$assertionsDisabled" "Z", Cond.fieldLink RJ2 59 "java/lang/StringUTF16" "HI_BYTE_SHIFT" "I", Cond.fieldLink RJ2 63 "java/lang/StringUTF16" "LO_BYTE_SHIFT" "I", Cond.methodLink RJ5 399 yJ0_getBytes_840e7, Cond.instanceMethod yJ0_getBytes_840e7, Cond.selects RJ0 yJ0_getBytes_840e7 yJ0_getBytes_840e7, Cond.code yJ0_getBytes_840e7 cJ0_getBytes_840e7 4 none, Cond.fieldLink RJ0 9 "java/lang/String" "value" "[B", Cond.methodLink RJ0 212 arraycopyName, Cond.native arraycopyName, Cond.static arraycopyName, Cond.initialized "java/lang/System"]
def wsJ5_putStringAt_47b60_r4 : List Cond := [Cond.methodLink RJ0 335 yJ0_coder_7d493, Cond.methodLink RJ0 106 yJ1_inflate_0e8fd]
def wsJ5_putStringAt_47b60 : List Cond := .code yJ5_putStringAt_47b60 cJ5_putStringAt_47b60 3 none :: ((wsJ5_putStringAt_47b60_r1 ++ (wsJ5_putStringAt_47b60_r2 ++ (wsJ5_putStringAt_47b60_r3 ++ wsJ5_putStringAt_47b60_r4))) ++ wsJ40 ++ wsJ00)
def wsJ5_append_cf1ce_r1 : List Cond := [Cond.fieldLink RJ5 79 "java/lang/AbstractStringBuilder" "count" "I", Cond.methodLink RJ5 204 ⟨"java/lang/AbstractStringBuilder", "appendNull", "()Ljava/lang/AbstractStringBuilder;"⟩, Cond.sameMethod "java/lang/AbstractStringBuilder" "java/lang/AbstractStringBuilder" "appendNull" "()Ljava/lang/AbstractStringBuilder;", Cond.selects RJ4 ⟨"java/lang/AbstractStringBuilder", "appendNull", "()Ljava/lang/AbstractStringBuilder;"⟩ yJ5_appendNull_278bc, Cond.instanceMethod yJ5_appendNull_278bc, Cond.initialized RJ5, Cond.code yJ5_appendNull_278bc cJ5_appendNull_278bc 3 (some (.object "java/lang/AbstractStringBuilder")), Cond.fieldLink RJ5 15 "java/lang/AbstractStringBuilder" "value" "[B", Cond.methodLink RJ5 100 ⟨"java/lang/AbstractStringBuilder", "ensureCapacityInternal", "(I)V"⟩, Cond.sameMethod "java/lang/AbstractStringBuilder" "java/lang/AbstractStringBuilder" "ensureCapacityInternal" "(I)V", Cond.selects RJ4 ⟨"java/lang/AbstractStringBuilder", "ensureCapacityInternal", "(I)V"⟩ yJ5_ensureCapacityInternal_d00df, Cond.instanceMethod yJ5_ensureCapacityInternal_d00df, Cond.code yJ5_ensureCapacityInternal_d00df cJ5_ensureCapacityInternal_d00df 3 none, Cond.fieldLink RJ5 22 "java/lang/AbstractStringBuilder" "coder" "B", Cond.methodLink RJ5 104 ⟨"java/lang/AbstractStringBuilder", "newCapacity", "(I)I"⟩, Cond.sameMethod "java/lang/AbstractStringBuilder" "java/lang/AbstractStringBuilder" "newCapacity" "(I)I", Cond.selects RJ4 ⟨"java/lang/AbstractStringBuilder", "newCapacity", "(I)I"⟩ yJ5_newCapacity_0f7a4, Cond.instanceMethod yJ5_newCapacity_0f7a4, Cond.code yJ5_newCapacity_0f7a4 cJ5_newCapacity_0f7a4 6 (some .int), Cond.constant RJ5 39 (2147483647), Cond.methodLink RJ5 114 yJ8_newLength_cabcc, Cond.static yJ8_newLength_cabcc, Cond.initialized RJ8, Cond.code yJ8_newLength_cabcc cJ8_newLength_cabcc 4 (some .int)]
def wsJ5_append_cf1ce_r2 : List Cond := [Cond.methodLink RJ8 194 Lib.Math.max.name, Cond.static Lib.Math.max.name, Cond.initialized "java/lang/Math", Cond.code Lib.Math.max.name Lib.Math.max.code 2 (some .int), Cond.constant RJ8 200 (2147483639), Cond.methodLink RJ8 201 yJ8_hugeLength_7cf53, Cond.static yJ8_hugeLength_7cf53, Cond.code yJ8_hugeLength_7cf53 cJ8_hugeLength_7cf53 3 (some .int), Cond.methodLink RJ5 108 yJ7_copyOf_9075b, Cond.static yJ7_copyOf_9075b, Cond.initialized RJ7, Cond.code yJ7_copyOf_9075b cJ7_copyOf_9075b 3 (some (.array .byte)), Cond.methodLink RJ7 310 ⟨"[B", "clone", "()Ljava/lang/Object;"⟩, Cond.sameMethod "[B" "java/lang/Object" "clone" "()Ljava/lang/Object;", Cond.native ⟨"java/lang/Object", "clone", "()Ljava/lang/Object;"⟩, Cond.instanceMethod ⟨"java/lang/Object", "clone", "()Ljava/lang/Object;"⟩, Cond.selects "[B" ⟨"[B", "clone", "()Ljava/lang/Object;"⟩ ⟨"java/lang/Object", "clone", "()Ljava/lang/Object;"⟩, Cond.classLink RJ7 311 "[B", Cond.arrayClass .byte, Cond.methodLink RJ7 304 Lib.Math.min.name, Cond.static Lib.Math.min.name, Cond.code Lib.Math.min.name Lib.Math.min.code 2 (some .int), Cond.methodLink RJ7 150 arraycopyName, Cond.native arraycopyName]
def wsJ5_append_cf1ce_r3 : List Cond := [Cond.static arraycopyName, Cond.initialized "java/lang/System", Cond.methodLink RJ5 83 ⟨"java/lang/AbstractStringBuilder", "isLatin1", "()Z"⟩, Cond.sameMethod "java/lang/AbstractStringBuilder" "java/lang/AbstractStringBuilder" "isLatin1" "()Z", Cond.selects RJ4 ⟨"java/lang/AbstractStringBuilder", "isLatin1", "()Z"⟩ yJ5_isLatin1_aae02, Cond.instanceMethod yJ5_isLatin1_aae02, Cond.code yJ5_isLatin1_aae02 cJ5_isLatin1_aae02 1 (some .boolean), Cond.fieldLink RJ5 18 "java/lang/String" "COMPACT_STRINGS" "Z", Cond.methodLink RJ5 226 yJ2_putCharsAt_cd4e5, Cond.static yJ2_putCharsAt_cd4e5, Cond.initialized RJ2, Cond.code yJ2_putCharsAt_cd4e5 cJ2_putCharsAt_cd4e5 7 (some .int), Cond.fieldLink RJ2 44 "java/lang/StringUTF16" "$assertionsDisabled" "Z", Cond.methodLink RJ2 96 yJ2_checkBoundsBeginEnd_d044e, Cond.static yJ2_checkBoundsBeginEnd_d044e, Cond.code yJ2_checkBoundsBeginEnd_d044e cJ2_checkBoundsBeginEnd_d044e 3 none, Cond.methodLink RJ2 48 yJ2_length_9d52b, Cond.static yJ2_length_9d52b, Cond.code yJ2_length_9d52b cJ2_length_9d52b 1 (some .int), Cond.methodLink RJ2 241 yJ0_checkBoundsBeginEnd_23922, Cond.static yJ0_checkBoundsBeginEnd_23922, Cond.initialized RJ0, Cond.code yJ0_checkBoundsBeginEnd_23922 cJ0_checkBoundsBeginEnd_23922 3 none, Cond.fieldLink RJ0 1053 "jdk/internal/util/Preconditions" "SIOOBE_FORMATTER" "Ljava/util/function/BiFunction;"]
def wsJ5_append_cf1ce_r4 : List Cond := [Cond.methodLink RJ0 1062 yJ3_checkFromToIndex_8c36e, Cond.static yJ3_checkFromToIndex_8c36e, Cond.initialized RJ3, Cond.code yJ3_checkFromToIndex_8c36e cJ3_checkFromToIndex_8c36e 4 (some .int), Cond.methodLink RJ2 111 yJ2_putChar_b72d1, Cond.static yJ2_putChar_b72d1, Cond.code yJ2_putChar_b72d1 cJ2_putChar_b72d1 3 none, Cond.fieldLink RJ2 59 "java/lang/StringUTF16" "HI_BYTE_SHIFT" "I", Cond.fieldLink RJ2 63 "java/lang/StringUTF16" "LO_BYTE_SHIFT" "I", Cond.methodLink RJ5 32 yJ0_length_8abf5, Cond.instanceMethod yJ0_length_8abf5, Cond.selects RJ0 yJ0_length_8abf5 yJ0_length_8abf5, Cond.code yJ0_length_8abf5 cJ0_length_8abf5 1 (some .int), Cond.fieldLink RJ0 9 "java/lang/String" "value" "[B", Cond.methodLink RJ0 335 yJ0_coder_7d493, Cond.instanceMethod yJ0_coder_7d493, Cond.selects RJ0 yJ0_coder_7d493 yJ0_coder_7d493, Cond.code yJ0_coder_7d493 cJ0_coder_7d493 1 (some .byte), Cond.fieldLink RJ0 38 "java/lang/String" "COMPACT_STRINGS" "Z", Cond.fieldLink RJ0 15 "java/lang/String" "coder" "B", Cond.methodLink RJ5 208 ⟨"java/lang/AbstractStringBuilder", "putStringAt", "(ILjava/lang/String;)V"⟩, Cond.sameMethod "java/lang/AbstractStringBuilder" "java/lang/AbstractStringBuilder" "putStringAt" "(ILjava/lang/String;)V", Cond.selects RJ4 ⟨"java/lang/AbstractStringBuilder", "putStringAt", "(ILjava/lang/String;)V"⟩ yJ5_putStringAt_47b60, Cond.instanceMethod yJ5_putStringAt_47b60]
def wsJ5_append_cf1ce_r5 : List Cond := [Cond.code yJ5_putStringAt_47b60 cJ5_putStringAt_47b60 3 none, Cond.methodLink RJ5 397 ⟨"java/lang/AbstractStringBuilder", "inflateIfNeededFor", "(Ljava/lang/String;)V"⟩, Cond.sameMethod "java/lang/AbstractStringBuilder" "java/lang/AbstractStringBuilder" "inflateIfNeededFor" "(Ljava/lang/String;)V", Cond.selects RJ4 ⟨"java/lang/AbstractStringBuilder", "inflateIfNeededFor", "(Ljava/lang/String;)V"⟩ yJ5_inflateIfNeededFor_a7421, Cond.instanceMethod yJ5_inflateIfNeededFor_a7421, Cond.code yJ5_inflateIfNeededFor_a7421 cJ5_inflateIfNeededFor_a7421 2 none, Cond.methodLink RJ5 40 yJ0_coder_7d493, Cond.methodLink RJ5 195 ⟨"java/lang/AbstractStringBuilder", "inflate", "()V"⟩, Cond.sameMethod "java/lang/AbstractStringBuilder" "java/lang/AbstractStringBuilder" "inflate" "()V", Cond.selects RJ4 ⟨"java/lang/AbstractStringBuilder", "inflate", "()V"⟩ yJ5_inflate_da8c8, Cond.instanceMethod yJ5_inflate_da8c8, Cond.code yJ5_inflate_da8c8 cJ5_inflate_da8c8 2 none, Cond.methodLink RJ5 26 yJ2_newBytesFor_77867, Cond.static yJ2_newBytesFor_77867, Cond.code yJ2_newBytesFor_77867 cJ2_newBytesFor_77867 1 (some (.array .byte)), Cond.methodLink RJ2 11 yJ2_newBytesLength_0f7a4, Cond.static yJ2_newBytesLength_0f7a4, Cond.code yJ2_newBytesLength_0f7a4 cJ2_newBytesLength_0f7a4 1 (some .int), Cond.constant RJ2 20 (1073741823), Cond.methodLink RJ5 125 yJ1_inflate_0e8fd, Cond.static yJ1_inflate_0e8fd, Cond.initialized RJ1, Cond.code yJ1_inflate_0e8fd cJ1_inflate_0e8fd 5 none, Cond.methodLink RJ1 240 yJ2_inflate_0e8fd]
def wsJ5_append_cf1ce_r6 : List Cond := [Cond.static yJ2_inflate_0e8fd, Cond.code yJ2_inflate_0e8fd cJ2_inflate_0e8fd 6 none, Cond.methodLink RJ2 173 yJ2_checkBoundsOffCount_d044e, Cond.static yJ2_checkBoundsOffCount_d044e, Cond.code yJ2_checkBoundsOffCount_d044e cJ2_checkBoundsOffCount_d044e 3 none, Cond.methodLink RJ2 419 yJ0_checkBoundsOffCount_cabcc, Cond.static yJ0_checkBoundsOffCount_cabcc, Cond.code yJ0_checkBoundsOffCount_cabcc cJ0_checkBoundsOffCount_cabcc 3 (some .int), Cond.methodLink RJ0 1065 yJ3_checkFromIndexSize_8c36e, Cond.static yJ3_checkFromIndexSize_8c36e, Cond.code yJ3_checkFromIndexSize_8c36e cJ3_checkFromIndexSize_8c36e 4 (some .int), Cond.methodLink RJ5 399 yJ0_getBytes_840e7, Cond.instanceMethod yJ0_getBytes_840e7, Cond.selects RJ0 yJ0_getBytes_840e7 yJ0_getBytes_840e7, Cond.code yJ0_getBytes_840e7 cJ0_getBytes_840e7 4 none, Cond.methodLink RJ0 212 arraycopyName, Cond.methodLink RJ0 106 yJ1_inflate_0e8fd]
def wsJ5_append_cf1ce : List Cond := .code yJ5_append_cf1ce cJ5_append_cf1ce 3 (some (.object "java/lang/AbstractStringBuilder")) :: ((wsJ5_append_cf1ce_r1 ++ (wsJ5_append_cf1ce_r2 ++ (wsJ5_append_cf1ce_r3 ++ (wsJ5_append_cf1ce_r4 ++ (wsJ5_append_cf1ce_r5 ++ wsJ5_append_cf1ce_r6))))) ++ wsJ40 ++ wsJ00)
def wsJ6_stringSize_0f7a4 : List Cond := .code yJ6_stringSize_0f7a4 cJ6_stringSize_0f7a4 4 (some .int) :: ([])
def wsJ6_getChars_ba4f3 : List Cond := .code yJ6_getChars_ba4f3 cJ6_getChars_ba4f3 7 (some .int) :: ([.fieldLink RJ6 83 "java/lang/Integer" "DigitOnes" "[B", .fieldLink RJ6 87 "java/lang/Integer" "DigitTens" "[B"])
def wsJ2_getChars_ba4f3 : List Cond := .code yJ2_getChars_ba4f3 cJ2_getChars_ba4f3 7 (some .int) :: ([.fieldLink RJ2 403 "java/lang/Integer" "DigitOnes" "[B", .fieldLink RJ2 407 "java/lang/Integer" "DigitTens" "[B", .methodLink RJ2 111 yJ2_putChar_b72d1, .static yJ2_putChar_b72d1, .initialized RJ2, .code yJ2_putChar_b72d1 cJ2_putChar_b72d1 3 none, .fieldLink RJ2 44 "java/lang/StringUTF16" "$assertionsDisabled" "Z", .fieldLink RJ2 59 "java/lang/StringUTF16" "HI_BYTE_SHIFT" "I", .fieldLink RJ2 63 "java/lang/StringUTF16" "LO_BYTE_SHIFT" "I", .methodLink RJ2 48 yJ2_length_9d52b, .static yJ2_length_9d52b, .code yJ2_length_9d52b cJ2_length_9d52b 1 (some .int)])
def wsJ2_getChars_46870_r1 : List Cond := [Cond.fieldLink RJ2 44 "java/lang/StringUTF16" "$assertionsDisabled" "Z", Cond.methodLink RJ2 96 yJ2_checkBoundsBeginEnd_d044e, Cond.static yJ2_checkBoundsBeginEnd_d044e, Cond.initialized RJ2, Cond.code yJ2_checkBoundsBeginEnd_d044e cJ2_checkBoundsBeginEnd_d044e 3 none, Cond.methodLink RJ2 48 yJ2_length_9d52b, Cond.static yJ2_length_9d52b, Cond.code yJ2_length_9d52b cJ2_length_9d52b 1 (some .int), Cond.methodLink RJ2 241 yJ0_checkBoundsBeginEnd_23922, Cond.static yJ0_checkBoundsBeginEnd_23922, Cond.initialized RJ0, Cond.code yJ0_checkBoundsBeginEnd_23922 cJ0_checkBoundsBeginEnd_23922 3 none, Cond.fieldLink RJ0 1053 "jdk/internal/util/Preconditions" "SIOOBE_FORMATTER" "Ljava/util/function/BiFunction;", Cond.methodLink RJ0 1062 yJ3_checkFromToIndex_8c36e, Cond.static yJ3_checkFromToIndex_8c36e, Cond.initialized RJ3, Cond.code yJ3_checkFromToIndex_8c36e cJ3_checkFromToIndex_8c36e 4 (some .int), Cond.methodLink RJ2 393 yJ2_getChars_ba4f3, Cond.static yJ2_getChars_ba4f3, Cond.code yJ2_getChars_ba4f3 cJ2_getChars_ba4f3 7 (some .int), Cond.fieldLink RJ2 403 "java/lang/Integer" "DigitOnes" "[B", Cond.fieldLink RJ2 407 "java/lang/Integer" "DigitTens" "[B", Cond.methodLink RJ2 111 yJ2_putChar_b72d1, Cond.static yJ2_putChar_b72d1]
def wsJ2_getChars_46870_r2 : List Cond := [Cond.code yJ2_putChar_b72d1 cJ2_putChar_b72d1 3 none, Cond.fieldLink RJ2 59 "java/lang/StringUTF16" "HI_BYTE_SHIFT" "I", Cond.fieldLink RJ2 63 "java/lang/StringUTF16" "LO_BYTE_SHIFT" "I"]
def wsJ2_getChars_46870 : List Cond := .code yJ2_getChars_46870 cJ2_getChars_46870 5 (some .int) :: ((wsJ2_getChars_46870_r1 ++ wsJ2_getChars_46870_r2))
def wsJ5_append_c97b9_r1 : List Cond := [Cond.fieldLink RJ5 79 "java/lang/AbstractStringBuilder" "count" "I", Cond.fieldLink RJ5 15 "java/lang/AbstractStringBuilder" "value" "[B", Cond.methodLink RJ5 245 yJ6_stringSize_0f7a4, Cond.static yJ6_stringSize_0f7a4, Cond.initialized RJ6, Cond.code yJ6_stringSize_0f7a4 cJ6_stringSize_0f7a4 4 (some .int), Cond.methodLink RJ5 100 ⟨"java/lang/AbstractStringBuilder", "ensureCapacityInternal", "(I)V"⟩, Cond.sameMethod "java/lang/AbstractStringBuilder" "java/lang/AbstractStringBuilder" "ensureCapacityInternal" "(I)V", Cond.selects RJ4 ⟨"java/lang/AbstractStringBuilder", "ensureCapacityInternal", "(I)V"⟩ yJ5_ensureCapacityInternal_d00df, Cond.instanceMethod yJ5_ensureCapacityInternal_d00df, Cond.initialized RJ5, Cond.code yJ5_ensureCapacityInternal_d00df cJ5_ensureCapacityInternal_d00df 3 none, Cond.fieldLink RJ5 22 "java/lang/AbstractStringBuilder" "coder" "B", Cond.methodLink RJ5 104 ⟨"java/lang/AbstractStringBuilder", "newCapacity", "(I)I"⟩, Cond.sameMethod "java/lang/AbstractStringBuilder" "java/lang/AbstractStringBuilder" "newCapacity" "(I)I", Cond.selects RJ4 ⟨"java/lang/AbstractStringBuilder", "newCapacity", "(I)I"⟩ yJ5_newCapacity_0f7a4, Cond.instanceMethod yJ5_newCapacity_0f7a4, Cond.code yJ5_newCapacity_0f7a4 cJ5_newCapacity_0f7a4 6 (some .int), Cond.constant RJ5 39 (2147483647), Cond.methodLink RJ5 114 yJ8_newLength_cabcc, Cond.static yJ8_newLength_cabcc, Cond.initialized RJ8, Cond.code yJ8_newLength_cabcc cJ8_newLength_cabcc 4 (some .int), Cond.methodLink RJ8 194 Lib.Math.max.name]
def wsJ5_append_c97b9_r2 : List Cond := [Cond.static Lib.Math.max.name, Cond.initialized "java/lang/Math", Cond.code Lib.Math.max.name Lib.Math.max.code 2 (some .int), Cond.constant RJ8 200 (2147483639), Cond.methodLink RJ8 201 yJ8_hugeLength_7cf53, Cond.static yJ8_hugeLength_7cf53, Cond.code yJ8_hugeLength_7cf53 cJ8_hugeLength_7cf53 3 (some .int), Cond.methodLink RJ5 108 yJ7_copyOf_9075b, Cond.static yJ7_copyOf_9075b, Cond.initialized RJ7, Cond.code yJ7_copyOf_9075b cJ7_copyOf_9075b 3 (some (.array .byte)), Cond.methodLink RJ7 310 ⟨"[B", "clone", "()Ljava/lang/Object;"⟩, Cond.sameMethod "[B" "java/lang/Object" "clone" "()Ljava/lang/Object;", Cond.native ⟨"java/lang/Object", "clone", "()Ljava/lang/Object;"⟩, Cond.instanceMethod ⟨"java/lang/Object", "clone", "()Ljava/lang/Object;"⟩, Cond.selects "[B" ⟨"[B", "clone", "()Ljava/lang/Object;"⟩ ⟨"java/lang/Object", "clone", "()Ljava/lang/Object;"⟩, Cond.classLink RJ7 311 "[B", Cond.arrayClass .byte, Cond.methodLink RJ7 304 Lib.Math.min.name, Cond.static Lib.Math.min.name, Cond.code Lib.Math.min.name Lib.Math.min.code 2 (some .int), Cond.methodLink RJ7 150 arraycopyName, Cond.native arraycopyName, Cond.static arraycopyName]
def wsJ5_append_c97b9_r3 : List Cond := [Cond.initialized "java/lang/System", Cond.methodLink RJ5 83 ⟨"java/lang/AbstractStringBuilder", "isLatin1", "()Z"⟩, Cond.sameMethod "java/lang/AbstractStringBuilder" "java/lang/AbstractStringBuilder" "isLatin1" "()Z", Cond.selects RJ4 ⟨"java/lang/AbstractStringBuilder", "isLatin1", "()Z"⟩ yJ5_isLatin1_aae02, Cond.instanceMethod yJ5_isLatin1_aae02, Cond.code yJ5_isLatin1_aae02 cJ5_isLatin1_aae02 1 (some .boolean), Cond.fieldLink RJ5 18 "java/lang/String" "COMPACT_STRINGS" "Z", Cond.methodLink RJ5 248 yJ6_getChars_ba4f3, Cond.static yJ6_getChars_ba4f3, Cond.code yJ6_getChars_ba4f3 cJ6_getChars_ba4f3 7 (some .int), Cond.fieldLink RJ6 83 "java/lang/Integer" "DigitOnes" "[B", Cond.fieldLink RJ6 87 "java/lang/Integer" "DigitTens" "[B", Cond.methodLink RJ5 251 yJ2_getChars_46870, Cond.static yJ2_getChars_46870, Cond.initialized RJ2, Cond.code yJ2_getChars_46870 cJ2_getChars_46870 5 (some .int), Cond.fieldLink RJ2 44 "java/lang/StringUTF16" "$assertionsDisabled" "Z", Cond.methodLink RJ2 96 yJ2_checkBoundsBeginEnd_d044e, Cond.static yJ2_checkBoundsBeginEnd_d044e, Cond.code yJ2_checkBoundsBeginEnd_d044e cJ2_checkBoundsBeginEnd_d044e 3 none, Cond.methodLink RJ2 48 yJ2_length_9d52b, Cond.static yJ2_length_9d52b, Cond.code yJ2_length_9d52b cJ2_length_9d52b 1 (some .int), Cond.methodLink RJ2 241 yJ0_checkBoundsBeginEnd_23922]
def wsJ5_append_c97b9_r4 : List Cond := [Cond.static yJ0_checkBoundsBeginEnd_23922, Cond.initialized RJ0, Cond.code yJ0_checkBoundsBeginEnd_23922 cJ0_checkBoundsBeginEnd_23922 3 none, Cond.fieldLink RJ0 1053 "jdk/internal/util/Preconditions" "SIOOBE_FORMATTER" "Ljava/util/function/BiFunction;", Cond.methodLink RJ0 1062 yJ3_checkFromToIndex_8c36e, Cond.static yJ3_checkFromToIndex_8c36e, Cond.initialized RJ3, Cond.code yJ3_checkFromToIndex_8c36e cJ3_checkFromToIndex_8c36e 4 (some .int), Cond.methodLink RJ2 393 yJ2_getChars_ba4f3, Cond.static yJ2_getChars_ba4f3, Cond.code yJ2_getChars_ba4f3 cJ2_getChars_ba4f3 7 (some .int), Cond.fieldLink RJ2 403 "java/lang/Integer" "DigitOnes" "[B", Cond.fieldLink RJ2 407 "java/lang/Integer" "DigitTens" "[B", Cond.methodLink RJ2 111 yJ2_putChar_b72d1, Cond.static yJ2_putChar_b72d1, Cond.code yJ2_putChar_b72d1 cJ2_putChar_b72d1 3 none, Cond.fieldLink RJ2 59 "java/lang/StringUTF16" "HI_BYTE_SHIFT" "I", Cond.fieldLink RJ2 63 "java/lang/StringUTF16" "LO_BYTE_SHIFT" "I"]
def wsJ5_append_c97b9 : List Cond := .code yJ5_append_c97b9 cJ5_append_c97b9 4 (some (.object "java/lang/AbstractStringBuilder")) :: ((wsJ5_append_c97b9_r1 ++ (wsJ5_append_c97b9_r2 ++ (wsJ5_append_c97b9_r3 ++ wsJ5_append_c97b9_r4))) ++ wsJ40)
def wsJ5_getValue_6d5f1 : List Cond := .code yJ5_getValue_6d5f1 cJ5_getValue_6d5f1 1 (some (.array .byte)) :: ([.fieldLink RJ5 15 "java/lang/AbstractStringBuilder" "value" "[B"] ++ wsJ40)
def wsJ4_init_da8c8 : List Cond := .code yJ4_init_da8c8 cJ4_init_da8c8 1 none :: ([.methodLink RJ4 1 yJ5_init_d00df, .instanceMethod yJ5_init_d00df, .initialized RJ5, .code yJ5_init_d00df cJ5_init_d00df 2 none, .methodLink RJ5 3 objectInit, .instanceMethod objectInit, .code objectInit ⟨#[0xb1]⟩ 1 none, .fieldLink RJ5 18 "java/lang/String" "COMPACT_STRINGS" "Z", .arrayClass .byte, .fieldLink RJ5 15 "java/lang/AbstractStringBuilder" "value" "[B", .fieldLink RJ5 22 "java/lang/AbstractStringBuilder" "coder" "B", .methodLink RJ5 26 yJ2_newBytesFor_77867, .static yJ2_newBytesFor_77867, .initialized RJ2, .code yJ2_newBytesFor_77867 cJ2_newBytesFor_77867 1 (some (.array .byte)), .methodLink RJ2 11 yJ2_newBytesLength_0f7a4, .static yJ2_newBytesLength_0f7a4, .code yJ2_newBytesLength_0f7a4 cJ2_newBytesLength_0f7a4 1 (some .int), .constant RJ2 20 (1073741823)] ++ wsJ40)
def wsJ4_append_15ec4_r1 : List Cond := [Cond.methodLink RJ4 29 yJ5_append_cf1ce, Cond.sameMethod "java/lang/AbstractStringBuilder" "java/lang/AbstractStringBuilder" "append" "(Ljava/lang/String;)Ljava/lang/AbstractStringBuilder;", Cond.superclass RJ4 RJ5, Cond.instanceMethod yJ5_append_cf1ce, Cond.initialized RJ5, Cond.code yJ5_append_cf1ce cJ5_append_cf1ce 3 (some (.object "java/lang/AbstractStringBuilder")), Cond.fieldLink RJ5 79 "java/lang/AbstractStringBuilder" "count" "I", Cond.methodLink RJ5 204 ⟨"java/lang/AbstractStringBuilder", "appendNull", "()Ljava/lang/AbstractStringBuilder;"⟩, Cond.sameMethod "java/lang/AbstractStringBuilder" "java/lang/AbstractStringBuilder" "appendNull" "()Ljava/lang/AbstractStringBuilder;", Cond.selects RJ4 ⟨"java/lang/AbstractStringBuilder", "appendNull", "()Ljava/lang/AbstractStringBuilder;"⟩ yJ5_appendNull_278bc, Cond.instanceMethod yJ5_appendNull_278bc, Cond.code yJ5_appendNull_278bc cJ5_appendNull_278bc 3 (some (.object "java/lang/AbstractStringBuilder")), Cond.fieldLink RJ5 15 "java/lang/AbstractStringBuilder" "value" "[B", Cond.methodLink RJ5 100 ⟨"java/lang/AbstractStringBuilder", "ensureCapacityInternal", "(I)V"⟩, Cond.sameMethod "java/lang/AbstractStringBuilder" "java/lang/AbstractStringBuilder" "ensureCapacityInternal" "(I)V", Cond.selects RJ4 ⟨"java/lang/AbstractStringBuilder", "ensureCapacityInternal", "(I)V"⟩ yJ5_ensureCapacityInternal_d00df, Cond.instanceMethod yJ5_ensureCapacityInternal_d00df, Cond.code yJ5_ensureCapacityInternal_d00df cJ5_ensureCapacityInternal_d00df 3 none, Cond.fieldLink RJ5 22 "java/lang/AbstractStringBuilder" "coder" "B", Cond.methodLink RJ5 104 ⟨"java/lang/AbstractStringBuilder", "newCapacity", "(I)I"⟩, Cond.sameMethod "java/lang/AbstractStringBuilder" "java/lang/AbstractStringBuilder" "newCapacity" "(I)I", Cond.selects RJ4 ⟨"java/lang/AbstractStringBuilder", "newCapacity", "(I)I"⟩ yJ5_newCapacity_0f7a4, Cond.instanceMethod yJ5_newCapacity_0f7a4, Cond.code yJ5_newCapacity_0f7a4 cJ5_newCapacity_0f7a4 6 (some .int)]
def wsJ4_append_15ec4_r2 : List Cond := [Cond.constant RJ5 39 (2147483647), Cond.methodLink RJ5 114 yJ8_newLength_cabcc, Cond.static yJ8_newLength_cabcc, Cond.initialized RJ8, Cond.code yJ8_newLength_cabcc cJ8_newLength_cabcc 4 (some .int), Cond.methodLink RJ8 194 Lib.Math.max.name, Cond.static Lib.Math.max.name, Cond.initialized "java/lang/Math", Cond.code Lib.Math.max.name Lib.Math.max.code 2 (some .int), Cond.constant RJ8 200 (2147483639), Cond.methodLink RJ8 201 yJ8_hugeLength_7cf53, Cond.static yJ8_hugeLength_7cf53, Cond.code yJ8_hugeLength_7cf53 cJ8_hugeLength_7cf53 3 (some .int), Cond.methodLink RJ5 108 yJ7_copyOf_9075b, Cond.static yJ7_copyOf_9075b, Cond.initialized RJ7, Cond.code yJ7_copyOf_9075b cJ7_copyOf_9075b 3 (some (.array .byte)), Cond.methodLink RJ7 310 ⟨"[B", "clone", "()Ljava/lang/Object;"⟩, Cond.sameMethod "[B" "java/lang/Object" "clone" "()Ljava/lang/Object;", Cond.native ⟨"java/lang/Object", "clone", "()Ljava/lang/Object;"⟩, Cond.instanceMethod ⟨"java/lang/Object", "clone", "()Ljava/lang/Object;"⟩, Cond.selects "[B" ⟨"[B", "clone", "()Ljava/lang/Object;"⟩ ⟨"java/lang/Object", "clone", "()Ljava/lang/Object;"⟩, Cond.classLink RJ7 311 "[B", Cond.arrayClass .byte]
def wsJ4_append_15ec4_r3 : List Cond := [Cond.methodLink RJ7 304 Lib.Math.min.name, Cond.static Lib.Math.min.name, Cond.code Lib.Math.min.name Lib.Math.min.code 2 (some .int), Cond.methodLink RJ7 150 arraycopyName, Cond.native arraycopyName, Cond.static arraycopyName, Cond.initialized "java/lang/System", Cond.methodLink RJ5 83 ⟨"java/lang/AbstractStringBuilder", "isLatin1", "()Z"⟩, Cond.sameMethod "java/lang/AbstractStringBuilder" "java/lang/AbstractStringBuilder" "isLatin1" "()Z", Cond.selects RJ4 ⟨"java/lang/AbstractStringBuilder", "isLatin1", "()Z"⟩ yJ5_isLatin1_aae02, Cond.instanceMethod yJ5_isLatin1_aae02, Cond.code yJ5_isLatin1_aae02 cJ5_isLatin1_aae02 1 (some .boolean), Cond.fieldLink RJ5 18 "java/lang/String" "COMPACT_STRINGS" "Z", Cond.methodLink RJ5 226 yJ2_putCharsAt_cd4e5, Cond.static yJ2_putCharsAt_cd4e5, Cond.initialized RJ2, Cond.code yJ2_putCharsAt_cd4e5 cJ2_putCharsAt_cd4e5 7 (some .int), Cond.fieldLink RJ2 44 "java/lang/StringUTF16" "$assertionsDisabled" "Z", Cond.methodLink RJ2 96 yJ2_checkBoundsBeginEnd_d044e, Cond.static yJ2_checkBoundsBeginEnd_d044e, Cond.code yJ2_checkBoundsBeginEnd_d044e cJ2_checkBoundsBeginEnd_d044e 3 none, Cond.methodLink RJ2 48 yJ2_length_9d52b, Cond.static yJ2_length_9d52b, Cond.code yJ2_length_9d52b cJ2_length_9d52b 1 (some .int)]
def wsJ4_append_15ec4_r4 : List Cond := [Cond.methodLink RJ2 241 yJ0_checkBoundsBeginEnd_23922, Cond.static yJ0_checkBoundsBeginEnd_23922, Cond.initialized RJ0, Cond.code yJ0_checkBoundsBeginEnd_23922 cJ0_checkBoundsBeginEnd_23922 3 none, Cond.fieldLink RJ0 1053 "jdk/internal/util/Preconditions" "SIOOBE_FORMATTER" "Ljava/util/function/BiFunction;", Cond.methodLink RJ0 1062 yJ3_checkFromToIndex_8c36e, Cond.static yJ3_checkFromToIndex_8c36e, Cond.initialized RJ3, Cond.code yJ3_checkFromToIndex_8c36e cJ3_checkFromToIndex_8c36e 4 (some .int), Cond.methodLink RJ2 111 yJ2_putChar_b72d1, Cond.static yJ2_putChar_b72d1, Cond.code yJ2_putChar_b72d1 cJ2_putChar_b72d1 3 none, Cond.fieldLink RJ2 59 "java/lang/StringUTF16" "HI_BYTE_SHIFT" "I", Cond.fieldLink RJ2 63 "java/lang/StringUTF16" "LO_BYTE_SHIFT" "I", Cond.methodLink RJ5 32 yJ0_length_8abf5, Cond.instanceMethod yJ0_length_8abf5, Cond.selects RJ0 yJ0_length_8abf5 yJ0_length_8abf5, Cond.code yJ0_length_8abf5 cJ0_length_8abf5 1 (some .int), Cond.fieldLink RJ0 9 "java/lang/String" "value" "[B", Cond.methodLink RJ0 335 yJ0_coder_7d493, Cond.instanceMethod yJ0_coder_7d493, Cond.selects RJ0 yJ0_coder_7d493 yJ0_coder_7d493, Cond.code yJ0_coder_7d493 cJ0_coder_7d493 1 (some .byte), Cond.fieldLink RJ0 38 "java/lang/String" "COMPACT_STRINGS" "Z"]
def wsJ4_append_15ec4_r5 : List Cond := [Cond.fieldLink RJ0 15 "java/lang/String" "coder" "B", Cond.methodLink RJ5 208 ⟨"java/lang/AbstractStringBuilder", "putStringAt", "(ILjava/lang/String;)V"⟩, Cond.sameMethod "java/lang/AbstractStringBuilder" "java/lang/AbstractStringBuilder" "putStringAt" "(ILjava/lang/String;)V", Cond.selects RJ4 ⟨"java/lang/AbstractStringBuilder", "putStringAt", "(ILjava/lang/String;)V"⟩ yJ5_putStringAt_47b60, Cond.instanceMethod yJ5_putStringAt_47b60, Cond.code yJ5_putStringAt_47b60 cJ5_putStringAt_47b60 3 none, Cond.methodLink RJ5 397 ⟨"java/lang/AbstractStringBuilder", "inflateIfNeededFor", "(Ljava/lang/String;)V"⟩, Cond.sameMethod "java/lang/AbstractStringBuilder" "java/lang/AbstractStringBuilder" "inflateIfNeededFor" "(Ljava/lang/String;)V", Cond.selects RJ4 ⟨"java/lang/AbstractStringBuilder", "inflateIfNeededFor", "(Ljava/lang/String;)V"⟩ yJ5_inflateIfNeededFor_a7421, Cond.instanceMethod yJ5_inflateIfNeededFor_a7421, Cond.code yJ5_inflateIfNeededFor_a7421 cJ5_inflateIfNeededFor_a7421 2 none, Cond.methodLink RJ5 40 yJ0_coder_7d493, Cond.methodLink RJ5 195 ⟨"java/lang/AbstractStringBuilder", "inflate", "()V"⟩, Cond.sameMethod "java/lang/AbstractStringBuilder" "java/lang/AbstractStringBuilder" "inflate" "()V", Cond.selects RJ4 ⟨"java/lang/AbstractStringBuilder", "inflate", "()V"⟩ yJ5_inflate_da8c8, Cond.instanceMethod yJ5_inflate_da8c8, Cond.code yJ5_inflate_da8c8 cJ5_inflate_da8c8 2 none, Cond.methodLink RJ5 26 yJ2_newBytesFor_77867, Cond.static yJ2_newBytesFor_77867, Cond.code yJ2_newBytesFor_77867 cJ2_newBytesFor_77867 1 (some (.array .byte)), Cond.methodLink RJ2 11 yJ2_newBytesLength_0f7a4, Cond.static yJ2_newBytesLength_0f7a4, Cond.code yJ2_newBytesLength_0f7a4 cJ2_newBytesLength_0f7a4 1 (some .int), Cond.constant RJ2 20 (1073741823)]
def wsJ4_append_15ec4_r6 : List Cond := [Cond.methodLink RJ5 125 yJ1_inflate_0e8fd, Cond.static yJ1_inflate_0e8fd, Cond.initialized RJ1, Cond.code yJ1_inflate_0e8fd cJ1_inflate_0e8fd 5 none, Cond.methodLink RJ1 240 yJ2_inflate_0e8fd, Cond.static yJ2_inflate_0e8fd, Cond.code yJ2_inflate_0e8fd cJ2_inflate_0e8fd 6 none, Cond.methodLink RJ2 173 yJ2_checkBoundsOffCount_d044e, Cond.static yJ2_checkBoundsOffCount_d044e, Cond.code yJ2_checkBoundsOffCount_d044e cJ2_checkBoundsOffCount_d044e 3 none, Cond.methodLink RJ2 419 yJ0_checkBoundsOffCount_cabcc, Cond.static yJ0_checkBoundsOffCount_cabcc, Cond.code yJ0_checkBoundsOffCount_cabcc cJ0_checkBoundsOffCount_cabcc 3 (some .int), Cond.methodLink RJ0 1065 yJ3_checkFromIndexSize_8c36e, Cond.static yJ3_checkFromIndexSize_8c36e, Cond.code yJ3_checkFromIndexSize_8c36e cJ3_checkFromIndexSize_8c36e 4 (some .int), Cond.methodLink RJ5 399 yJ0_getBytes_840e7, Cond.instanceMethod yJ0_getBytes_840e7, Cond.selects RJ0 yJ0_getBytes_840e7 yJ0_getBytes_840e7, Cond.code yJ0_getBytes_840e7 cJ0_getBytes_840e7 4 none, Cond.methodLink RJ0 212 arraycopyName, Cond.methodLink RJ0 106 yJ1_inflate_0e8fd]
def wsJ4_append_15ec4 : List Cond := .code yJ4_append_15ec4 cJ4_append_15ec4 2 (some (.object "java/lang/StringBuilder")) :: ((wsJ4_append_15ec4_r1 ++ (wsJ4_append_15ec4_r2 ++ (wsJ4_append_15ec4_r3 ++ (wsJ4_append_15ec4_r4 ++ (wsJ4_append_15ec4_r5 ++ wsJ4_append_15ec4_r6))))) ++ wsJ40 ++ wsJ00)
def wsJ4_append_bf812_r1 : List Cond := [Cond.methodLink RJ4 53 yJ5_append_c97b9, Cond.sameMethod "java/lang/AbstractStringBuilder" "java/lang/AbstractStringBuilder" "append" "(I)Ljava/lang/AbstractStringBuilder;", Cond.superclass RJ4 RJ5, Cond.instanceMethod yJ5_append_c97b9, Cond.initialized RJ5, Cond.code yJ5_append_c97b9 cJ5_append_c97b9 4 (some (.object "java/lang/AbstractStringBuilder")), Cond.fieldLink RJ5 79 "java/lang/AbstractStringBuilder" "count" "I", Cond.fieldLink RJ5 15 "java/lang/AbstractStringBuilder" "value" "[B", Cond.methodLink RJ5 245 yJ6_stringSize_0f7a4, Cond.static yJ6_stringSize_0f7a4, Cond.initialized RJ6, Cond.code yJ6_stringSize_0f7a4 cJ6_stringSize_0f7a4 4 (some .int), Cond.methodLink RJ5 100 ⟨"java/lang/AbstractStringBuilder", "ensureCapacityInternal", "(I)V"⟩, Cond.sameMethod "java/lang/AbstractStringBuilder" "java/lang/AbstractStringBuilder" "ensureCapacityInternal" "(I)V", Cond.selects RJ4 ⟨"java/lang/AbstractStringBuilder", "ensureCapacityInternal", "(I)V"⟩ yJ5_ensureCapacityInternal_d00df, Cond.instanceMethod yJ5_ensureCapacityInternal_d00df, Cond.code yJ5_ensureCapacityInternal_d00df cJ5_ensureCapacityInternal_d00df 3 none, Cond.fieldLink RJ5 22 "java/lang/AbstractStringBuilder" "coder" "B", Cond.methodLink RJ5 104 ⟨"java/lang/AbstractStringBuilder", "newCapacity", "(I)I"⟩, Cond.sameMethod "java/lang/AbstractStringBuilder" "java/lang/AbstractStringBuilder" "newCapacity" "(I)I", Cond.selects RJ4 ⟨"java/lang/AbstractStringBuilder", "newCapacity", "(I)I"⟩ yJ5_newCapacity_0f7a4, Cond.instanceMethod yJ5_newCapacity_0f7a4, Cond.code yJ5_newCapacity_0f7a4 cJ5_newCapacity_0f7a4 6 (some .int), Cond.constant RJ5 39 (2147483647)]
def wsJ4_append_bf812_r2 : List Cond := [Cond.methodLink RJ5 114 yJ8_newLength_cabcc, Cond.static yJ8_newLength_cabcc, Cond.initialized RJ8, Cond.code yJ8_newLength_cabcc cJ8_newLength_cabcc 4 (some .int), Cond.methodLink RJ8 194 Lib.Math.max.name, Cond.static Lib.Math.max.name, Cond.initialized "java/lang/Math", Cond.code Lib.Math.max.name Lib.Math.max.code 2 (some .int), Cond.constant RJ8 200 (2147483639), Cond.methodLink RJ8 201 yJ8_hugeLength_7cf53, Cond.static yJ8_hugeLength_7cf53, Cond.code yJ8_hugeLength_7cf53 cJ8_hugeLength_7cf53 3 (some .int), Cond.methodLink RJ5 108 yJ7_copyOf_9075b, Cond.static yJ7_copyOf_9075b, Cond.initialized RJ7, Cond.code yJ7_copyOf_9075b cJ7_copyOf_9075b 3 (some (.array .byte)), Cond.methodLink RJ7 310 ⟨"[B", "clone", "()Ljava/lang/Object;"⟩, Cond.sameMethod "[B" "java/lang/Object" "clone" "()Ljava/lang/Object;", Cond.native ⟨"java/lang/Object", "clone", "()Ljava/lang/Object;"⟩, Cond.instanceMethod ⟨"java/lang/Object", "clone", "()Ljava/lang/Object;"⟩, Cond.selects "[B" ⟨"[B", "clone", "()Ljava/lang/Object;"⟩ ⟨"java/lang/Object", "clone", "()Ljava/lang/Object;"⟩, Cond.classLink RJ7 311 "[B", Cond.arrayClass .byte, Cond.methodLink RJ7 304 Lib.Math.min.name]
def wsJ4_append_bf812_r3 : List Cond := [Cond.static Lib.Math.min.name, Cond.code Lib.Math.min.name Lib.Math.min.code 2 (some .int), Cond.methodLink RJ7 150 arraycopyName, Cond.native arraycopyName, Cond.static arraycopyName, Cond.initialized "java/lang/System", Cond.methodLink RJ5 83 ⟨"java/lang/AbstractStringBuilder", "isLatin1", "()Z"⟩, Cond.sameMethod "java/lang/AbstractStringBuilder" "java/lang/AbstractStringBuilder" "isLatin1" "()Z", Cond.selects RJ4 ⟨"java/lang/AbstractStringBuilder", "isLatin1", "()Z"⟩ yJ5_isLatin1_aae02, Cond.instanceMethod yJ5_isLatin1_aae02, Cond.code yJ5_isLatin1_aae02 cJ5_isLatin1_aae02 1 (some .boolean), Cond.fieldLink RJ5 18 "java/lang/String" "COMPACT_STRINGS" "Z", Cond.methodLink RJ5 248 yJ6_getChars_ba4f3, Cond.static yJ6_getChars_ba4f3, Cond.code yJ6_getChars_ba4f3 cJ6_getChars_ba4f3 7 (some .int), Cond.fieldLink RJ6 83 "java/lang/Integer" "DigitOnes" "[B", Cond.fieldLink RJ6 87 "java/lang/Integer" "DigitTens" "[B", Cond.methodLink RJ5 251 yJ2_getChars_46870, Cond.static yJ2_getChars_46870, Cond.initialized RJ2, Cond.code yJ2_getChars_46870 cJ2_getChars_46870 5 (some .int), Cond.fieldLink RJ2 44 "java/lang/StringUTF16" "$assertionsDisabled" "Z", Cond.methodLink RJ2 96 yJ2_checkBoundsBeginEnd_d044e, Cond.static yJ2_checkBoundsBeginEnd_d044e]
def wsJ4_append_bf812_r4 : List Cond := [Cond.code yJ2_checkBoundsBeginEnd_d044e cJ2_checkBoundsBeginEnd_d044e 3 none, Cond.methodLink RJ2 48 yJ2_length_9d52b, Cond.static yJ2_length_9d52b, Cond.code yJ2_length_9d52b cJ2_length_9d52b 1 (some .int), Cond.methodLink RJ2 241 yJ0_checkBoundsBeginEnd_23922, Cond.static yJ0_checkBoundsBeginEnd_23922, Cond.initialized RJ0, Cond.code yJ0_checkBoundsBeginEnd_23922 cJ0_checkBoundsBeginEnd_23922 3 none, Cond.fieldLink RJ0 1053 "jdk/internal/util/Preconditions" "SIOOBE_FORMATTER" "Ljava/util/function/BiFunction;", Cond.methodLink RJ0 1062 yJ3_checkFromToIndex_8c36e, Cond.static yJ3_checkFromToIndex_8c36e, Cond.initialized RJ3, Cond.code yJ3_checkFromToIndex_8c36e cJ3_checkFromToIndex_8c36e 4 (some .int), Cond.methodLink RJ2 393 yJ2_getChars_ba4f3, Cond.static yJ2_getChars_ba4f3, Cond.code yJ2_getChars_ba4f3 cJ2_getChars_ba4f3 7 (some .int), Cond.fieldLink RJ2 403 "java/lang/Integer" "DigitOnes" "[B", Cond.fieldLink RJ2 407 "java/lang/Integer" "DigitTens" "[B", Cond.methodLink RJ2 111 yJ2_putChar_b72d1, Cond.static yJ2_putChar_b72d1, Cond.code yJ2_putChar_b72d1 cJ2_putChar_b72d1 3 none, Cond.fieldLink RJ2 59 "java/lang/StringUTF16" "HI_BYTE_SHIFT" "I", Cond.fieldLink RJ2 63 "java/lang/StringUTF16" "LO_BYTE_SHIFT" "I"]
def wsJ4_append_bf812 : List Cond := .code yJ4_append_bf812 cJ4_append_bf812 2 (some (.object "java/lang/StringBuilder")) :: ((wsJ4_append_bf812_r1 ++ (wsJ4_append_bf812_r2 ++ (wsJ4_append_bf812_r3 ++ wsJ4_append_bf812_r4))) ++ wsJ40)
def wsJ4_length_8abf5 : List Cond := .code yJ4_length_8abf5 cJ4_length_8abf5 1 (some .int) :: ([.methodLink RJ4 343 yJ5_length_8abf5, .sameMethod "java/lang/AbstractStringBuilder" "java/lang/AbstractStringBuilder" "length" "()I", .superclass RJ4 RJ5, .instanceMethod yJ5_length_8abf5, .initialized RJ5, .code yJ5_length_8abf5 cJ5_length_8abf5 1 (some .int), .fieldLink RJ5 79 "java/lang/AbstractStringBuilder" "count" "I"] ++ wsJ40)
def wsJ7_checkLength_df160 : List Cond := .code yJ7_checkLength_df160 cJ7_checkLength_df160 2 none :: ([.classLink RJ7 45 RJ4, .instantiable RJ4 4, .initialized RJ4] ++ wsJ40)
def wsJ7_copyOfRangeByte_39247 : List Cond := .code yJ7_copyOfRangeByte_39247 cJ7_copyOfRangeByte_39247 5 (some (.array .byte)) :: ([.arrayClass .byte, .methodLink RJ7 304 Lib.Math.min.name, .static Lib.Math.min.name, .initialized "java/lang/Math", .code Lib.Math.min.name Lib.Math.min.code 2 (some .int), .methodLink RJ7 150 arraycopyName, .native arraycopyName, .static arraycopyName, .initialized "java/lang/System", .methodLink RJ7 343 yJ7_checkLength_df160, .static yJ7_checkLength_df160, .initialized RJ7, .code yJ7_checkLength_df160 cJ7_checkLength_df160 2 none, .classLink RJ7 45 RJ4, .instantiable RJ4 4, .initialized RJ4] ++ wsJ40)
def wsJ7_copyOfRange_39247_r1 : List Cond := [Cond.methodLink RJ7 310 ⟨"[B", "clone", "()Ljava/lang/Object;"⟩, Cond.sameMethod "[B" "java/lang/Object" "clone" "()Ljava/lang/Object;", Cond.native ⟨"java/lang/Object", "clone", "()Ljava/lang/Object;"⟩, Cond.instanceMethod ⟨"java/lang/Object", "clone", "()Ljava/lang/Object;"⟩, Cond.selects "[B" ⟨"[B", "clone", "()Ljava/lang/Object;"⟩ ⟨"java/lang/Object", "clone", "()Ljava/lang/Object;"⟩, Cond.classLink RJ7 311 "[B", Cond.methodLink RJ7 339 yJ7_copyOfRangeByte_39247, Cond.static yJ7_copyOfRangeByte_39247, Cond.initialized RJ7, Cond.code yJ7_copyOfRangeByte_39247 cJ7_copyOfRangeByte_39247 5 (some (.array .byte)), Cond.arrayClass .byte, Cond.methodLink RJ7 304 Lib.Math.min.name, Cond.static Lib.Math.min.name, Cond.initialized "java/lang/Math", Cond.code Lib.Math.min.name Lib.Math.min.code 2 (some .int), Cond.methodLink RJ7 150 arraycopyName, Cond.native arraycopyName, Cond.static arraycopyName, Cond.initialized "java/lang/System", Cond.methodLink RJ7 343 yJ7_checkLength_df160, Cond.static yJ7_checkLength_df160, Cond.code yJ7_checkLength_df160 cJ7_checkLength_df160 2 none, Cond.classLink RJ7 45 RJ4, Cond.instantiable RJ4 4]
def wsJ7_copyOfRange_39247_r2 : List Cond := [Cond.initialized RJ4]
def wsJ7_copyOfRange_39247 : List Cond := .code yJ7_copyOfRange_39247 cJ7_copyOfRange_39247 3 (some (.array .byte)) :: ((wsJ7_copyOfRange_39247_r1 ++ wsJ7_copyOfRange_39247_r2) ++ wsJ40)
def wsJ2_getChar_3b067 : List Cond := .code yJ2_getChar_3b067 cJ2_getChar_3b067 2 (some .char) :: ([.fieldLink RJ2 44 "java/lang/StringUTF16" "$assertionsDisabled" "Z", .fieldLink RJ2 59 "java/lang/StringUTF16" "HI_BYTE_SHIFT" "I", .fieldLink RJ2 63 "java/lang/StringUTF16" "LO_BYTE_SHIFT" "I", .methodLink RJ2 48 yJ2_length_9d52b, .static yJ2_length_9d52b, .initialized RJ2, .code yJ2_length_9d52b cJ2_length_9d52b 1 (some .int)])
def wsJ2_compress_5af95 : List Cond := .code yJ2_compress_5af95 cJ2_compress_5af95 7 (some .int) :: ([.methodLink RJ2 173 yJ2_checkBoundsOffCount_d044e, .static yJ2_checkBoundsOffCount_d044e, .initialized RJ2, .code yJ2_checkBoundsOffCount_d044e cJ2_checkBoundsOffCount_d044e 3 none, .methodLink RJ2 48 yJ2_length_9d52b, .static yJ2_length_9d52b, .code yJ2_length_9d52b cJ2_length_9d52b 1 (some .int), .methodLink RJ2 419 yJ0_checkBoundsOffCount_cabcc, .static yJ0_checkBoundsOffCount_cabcc, .initialized RJ0, .code yJ0_checkBoundsOffCount_cabcc cJ0_checkBoundsOffCount_cabcc 3 (some .int), .fieldLink RJ0 1053 "jdk/internal/util/Preconditions" "SIOOBE_FORMATTER" "Ljava/util/function/BiFunction;", .methodLink RJ0 1065 yJ3_checkFromIndexSize_8c36e, .static yJ3_checkFromIndexSize_8c36e, .initialized RJ3, .code yJ3_checkFromIndexSize_8c36e cJ3_checkFromIndexSize_8c36e 4 (some .int), .methodLink RJ2 71 yJ2_getChar_3b067, .static yJ2_getChar_3b067, .code yJ2_getChar_3b067 cJ2_getChar_3b067 2 (some .char), .fieldLink RJ2 44 "java/lang/StringUTF16" "$assertionsDisabled" "Z", .fieldLink RJ2 59 "java/lang/StringUTF16" "HI_BYTE_SHIFT" "I", .fieldLink RJ2 63 "java/lang/StringUTF16" "LO_BYTE_SHIFT" "I"])
def wsJ2_compress_39247_r1 : List Cond := [Cond.arrayClass .byte, Cond.methodLink RJ2 123 yJ2_compress_5af95, Cond.static yJ2_compress_5af95, Cond.initialized RJ2, Cond.code yJ2_compress_5af95 cJ2_compress_5af95 7 (some .int), Cond.methodLink RJ2 173 yJ2_checkBoundsOffCount_d044e, Cond.static yJ2_checkBoundsOffCount_d044e, Cond.code yJ2_checkBoundsOffCount_d044e cJ2_checkBoundsOffCount_d044e 3 none, Cond.methodLink RJ2 48 yJ2_length_9d52b, Cond.static yJ2_length_9d52b, Cond.code yJ2_length_9d52b cJ2_length_9d52b 1 (some .int), Cond.methodLink RJ2 419 yJ0_checkBoundsOffCount_cabcc, Cond.static yJ0_checkBoundsOffCount_cabcc, Cond.initialized RJ0, Cond.code yJ0_checkBoundsOffCount_cabcc cJ0_checkBoundsOffCount_cabcc 3 (some .int), Cond.fieldLink RJ0 1053 "jdk/internal/util/Preconditions" "SIOOBE_FORMATTER" "Ljava/util/function/BiFunction;", Cond.methodLink RJ0 1065 yJ3_checkFromIndexSize_8c36e, Cond.static yJ3_checkFromIndexSize_8c36e, Cond.initialized RJ3, Cond.code yJ3_checkFromIndexSize_8c36e cJ3_checkFromIndexSize_8c36e 4 (some .int), Cond.methodLink RJ2 71 yJ2_getChar_3b067, Cond.static yJ2_getChar_3b067, Cond.code yJ2_getChar_3b067 cJ2_getChar_3b067 2 (some .char), Cond.fieldLink RJ2 44 "java/lang/StringUTF16" "$assertionsDisabled" "Z"]
def wsJ2_compress_39247_r2 : List Cond := [Cond.fieldLink RJ2 59 "java/lang/StringUTF16" "HI_BYTE_SHIFT" "I", Cond.fieldLink RJ2 63 "java/lang/StringUTF16" "LO_BYTE_SHIFT" "I", Cond.methodLink RJ2 11 yJ2_newBytesLength_0f7a4, Cond.static yJ2_newBytesLength_0f7a4, Cond.code yJ2_newBytesLength_0f7a4 cJ2_newBytesLength_0f7a4 1 (some .int), Cond.constant RJ2 20 (1073741823), Cond.methodLink RJ2 126 yJ7_copyOfRange_39247, Cond.static yJ7_copyOfRange_39247, Cond.initialized RJ7, Cond.code yJ7_copyOfRange_39247 cJ7_copyOfRange_39247 3 (some (.array .byte)), Cond.methodLink RJ7 310 ⟨"[B", "clone", "()Ljava/lang/Object;"⟩, Cond.sameMethod "[B" "java/lang/Object" "clone" "()Ljava/lang/Object;", Cond.native ⟨"java/lang/Object", "clone", "()Ljava/lang/Object;"⟩, Cond.instanceMethod ⟨"java/lang/Object", "clone", "()Ljava/lang/Object;"⟩, Cond.selects "[B" ⟨"[B", "clone", "()Ljava/lang/Object;"⟩ ⟨"java/lang/Object", "clone", "()Ljava/lang/Object;"⟩, Cond.classLink RJ7 311 "[B", Cond.methodLink RJ7 339 yJ7_copyOfRangeByte_39247, Cond.static yJ7_copyOfRangeByte_39247, Cond.code yJ7_copyOfRangeByte_39247 cJ7_copyOfRangeByte_39247 5 (some (.array .byte)), Cond.methodLink RJ7 304 Lib.Math.min.name, Cond.static Lib.Math.min.name, Cond.initialized "java/lang/Math", Cond.code Lib.Math.min.name Lib.Math.min.code 2 (some .int), Cond.methodLink RJ7 150 arraycopyName]
def wsJ2_compress_39247_r3 : List Cond := [Cond.native arraycopyName, Cond.static arraycopyName, Cond.initialized "java/lang/System", Cond.methodLink RJ7 343 yJ7_checkLength_df160, Cond.static yJ7_checkLength_df160, Cond.code yJ7_checkLength_df160 cJ7_checkLength_df160 2 none, Cond.classLink RJ7 45 RJ4, Cond.instantiable RJ4 4, Cond.initialized RJ4]
def wsJ2_compress_39247 : List Cond := .code yJ2_compress_39247 cJ2_compress_39247 6 (some (.array .byte)) :: ((wsJ2_compress_39247_r1 ++ (wsJ2_compress_39247_r2 ++ wsJ2_compress_39247_r3)) ++ wsJ40)
def wsJ2_coderFromArrayLen_85cad : List Cond := .code yJ2_coderFromArrayLen_85cad cJ2_coderFromArrayLen_85cad 2 (some .byte) :: ([])
def wsJ0_init_db425_r1 : List Cond := [Cond.methodLink RJ0 1 objectInit, Cond.instanceMethod objectInit, Cond.code objectInit ⟨#[0xb1]⟩ 1 none, Cond.fieldLink RJ0 15 "java/lang/String" "coder" "B", Cond.fieldLink RJ0 9 "java/lang/String" "value" "[B", Cond.fieldLink RJ0 38 "java/lang/String" "COMPACT_STRINGS" "Z", Cond.fieldLink RJ0 1048 "java/lang/AbstractStringBuilder" "maybeLatin1" "Z", Cond.methodLink RJ0 552 ⟨"java/lang/AbstractStringBuilder", "getValue", "()[B"⟩, Cond.sameMethod "java/lang/AbstractStringBuilder" "java/lang/AbstractStringBuilder" "getValue" "()[B", Cond.selects RJ4 ⟨"java/lang/AbstractStringBuilder", "getValue", "()[B"⟩ yJ5_getValue_6d5f1, Cond.instanceMethod yJ5_getValue_6d5f1, Cond.initialized RJ5, Cond.code yJ5_getValue_6d5f1 cJ5_getValue_6d5f1 1 (some (.array .byte)), Cond.fieldLink RJ5 15 "java/lang/AbstractStringBuilder" "value" "[B", Cond.methodLink RJ0 549 ⟨"java/lang/AbstractStringBuilder", "length", "()I"⟩, Cond.sameMethod "java/lang/AbstractStringBuilder" "java/lang/AbstractStringBuilder" "length" "()I", Cond.instanceMethod ⟨"java/lang/AbstractStringBuilder", "length", "()I"⟩, Cond.selects RJ4 ⟨"java/lang/AbstractStringBuilder", "length", "()I"⟩ yJ4_length_8abf5, Cond.instanceMethod yJ4_length_8abf5, Cond.initialized RJ4, Cond.code yJ4_length_8abf5 cJ4_length_8abf5 1 (some .int), Cond.methodLink RJ4 343 yJ5_length_8abf5, Cond.superclass RJ4 RJ5, Cond.instanceMethod yJ5_length_8abf5]
def wsJ0_init_db425_r2 : List Cond := [Cond.code yJ5_length_8abf5 cJ5_length_8abf5 1 (some .int), Cond.fieldLink RJ5 79 "java/lang/AbstractStringBuilder" "count" "I", Cond.methodLink RJ0 1047 ⟨"java/lang/AbstractStringBuilder", "isLatin1", "()Z"⟩, Cond.sameMethod "java/lang/AbstractStringBuilder" "java/lang/AbstractStringBuilder" "isLatin1" "()Z", Cond.selects RJ4 ⟨"java/lang/AbstractStringBuilder", "isLatin1", "()Z"⟩ yJ5_isLatin1_aae02, Cond.instanceMethod yJ5_isLatin1_aae02, Cond.code yJ5_isLatin1_aae02 cJ5_isLatin1_aae02 1 (some .boolean), Cond.fieldLink RJ5 18 "java/lang/String" "COMPACT_STRINGS" "Z", Cond.fieldLink RJ5 22 "java/lang/AbstractStringBuilder" "coder" "B", Cond.methodLink RJ0 54 yJ7_copyOfRange_39247, Cond.static yJ7_copyOfRange_39247, Cond.initialized RJ7, Cond.code yJ7_copyOfRange_39247 cJ7_copyOfRange_39247 3 (some (.array .byte)), Cond.methodLink RJ7 310 ⟨"[B", "clone", "()Ljava/lang/Object;"⟩, Cond.sameMethod "[B" "java/lang/Object" "clone" "()Ljava/lang/Object;", Cond.native ⟨"java/lang/Object", "clone", "()Ljava/lang/Object;"⟩, Cond.instanceMethod ⟨"java/lang/Object", "clone", "()Ljava/lang/Object;"⟩, Cond.selects "[B" ⟨"[B", "clone", "()Ljava/lang/Object;"⟩ ⟨"java/lang/Object", "clone", "()Ljava/lang/Object;"⟩, Cond.classLink RJ7 311 "[B", Cond.methodLink RJ7 339 yJ7_copyOfRangeByte_39247, Cond.static yJ7_copyOfRangeByte_39247, Cond.code yJ7_copyOfRangeByte_39247 cJ7_copyOfRangeByte_39247 5 (some (.array .byte)), Cond.arrayClass .byte, Cond.methodLink RJ7 304 Lib.Math.min.name]
def wsJ0_init_db425_r3 : List Cond := [Cond.static Lib.Math.min.name, Cond.initialized "java/lang/Math", Cond.code Lib.Math.min.name Lib.Math.min.code 2 (some .int), Cond.methodLink RJ7 150 arraycopyName, Cond.native arraycopyName, Cond.static arraycopyName, Cond.initialized "java/lang/System", Cond.methodLink RJ7 343 yJ7_checkLength_df160, Cond.static yJ7_checkLength_df160, Cond.code yJ7_checkLength_df160 cJ7_checkLength_df160 2 none, Cond.classLink RJ7 45 RJ4, Cond.instantiable RJ4 4, Cond.methodLink RJ0 1051 yJ2_compress_39247, Cond.static yJ2_compress_39247, Cond.initialized RJ2, Cond.code yJ2_compress_39247 cJ2_compress_39247 6 (some (.array .byte)), Cond.methodLink RJ2 123 yJ2_compress_5af95, Cond.static yJ2_compress_5af95, Cond.code yJ2_compress_5af95 cJ2_compress_5af95 7 (some .int), Cond.methodLink RJ2 173 yJ2_checkBoundsOffCount_d044e, Cond.static yJ2_checkBoundsOffCount_d044e, Cond.code yJ2_checkBoundsOffCount_d044e cJ2_checkBoundsOffCount_d044e 3 none, Cond.methodLink RJ2 48 yJ2_length_9d52b, Cond.static yJ2_length_9d52b]
def wsJ0_init_db425_r4 : List Cond := [Cond.code yJ2_length_9d52b cJ2_length_9d52b 1 (some .int), Cond.methodLink RJ2 419 yJ0_checkBoundsOffCount_cabcc, Cond.static yJ0_checkBoundsOffCount_cabcc, Cond.initialized RJ0, Cond.code yJ0_checkBoundsOffCount_cabcc cJ0_checkBoundsOffCount_cabcc 3 (some .int), Cond.fieldLink RJ0 1053 "jdk/internal/util/Preconditions" "SIOOBE_FORMATTER" "Ljava/util/function/BiFunction;", Cond.methodLink RJ0 1065 yJ3_checkFromIndexSize_8c36e, Cond.static yJ3_checkFromIndexSize_8c36e, Cond.initialized RJ3, Cond.code yJ3_checkFromIndexSize_8c36e cJ3_checkFromIndexSize_8c36e 4 (some .int), Cond.methodLink RJ2 71 yJ2_getChar_3b067, Cond.static yJ2_getChar_3b067, Cond.code yJ2_getChar_3b067 cJ2_getChar_3b067 2 (some .char), Cond.fieldLink RJ2 44 "java/lang/StringUTF16" "$assertionsDisabled" "Z", Cond.fieldLink RJ2 59 "java/lang/StringUTF16" "HI_BYTE_SHIFT" "I", Cond.fieldLink RJ2 63 "java/lang/StringUTF16" "LO_BYTE_SHIFT" "I", Cond.methodLink RJ2 11 yJ2_newBytesLength_0f7a4, Cond.static yJ2_newBytesLength_0f7a4, Cond.code yJ2_newBytesLength_0f7a4 cJ2_newBytesLength_0f7a4 1 (some .int), Cond.constant RJ2 20 (1073741823), Cond.methodLink RJ2 126 yJ7_copyOfRange_39247, Cond.methodLink RJ0 47 yJ2_coderFromArrayLen_85cad, Cond.static yJ2_coderFromArrayLen_85cad, Cond.code yJ2_coderFromArrayLen_85cad cJ2_coderFromArrayLen_85cad 2 (some .byte)]
def wsJ0_init_db425 : List Cond := .code yJ0_init_db425 cJ0_init_db425 5 none :: ((wsJ0_init_db425_r1 ++ (wsJ0_init_db425_r2 ++ (wsJ0_init_db425_r3 ++ wsJ0_init_db425_r4))) ++ wsJ00 ++ wsJ40)
def wsJ0_init_81219_r1 : List Cond := [Cond.methodLink RJ0 489 yJ0_init_db425, Cond.instanceMethod yJ0_init_db425, Cond.initialized RJ0, Cond.code yJ0_init_db425 cJ0_init_db425 5 none, Cond.methodLink RJ0 1 objectInit, Cond.instanceMethod objectInit, Cond.code objectInit ⟨#[0xb1]⟩ 1 none, Cond.fieldLink RJ0 15 "java/lang/String" "coder" "B", Cond.fieldLink RJ0 9 "java/lang/String" "value" "[B", Cond.fieldLink RJ0 38 "java/lang/String" "COMPACT_STRINGS" "Z", Cond.fieldLink RJ0 1048 "java/lang/AbstractStringBuilder" "maybeLatin1" "Z", Cond.methodLink RJ0 552 ⟨"java/lang/AbstractStringBuilder", "getValue", "()[B"⟩, Cond.sameMethod "java/lang/AbstractStringBuilder" "java/lang/AbstractStringBuilder" "getValue" "()[B", Cond.selects RJ4 ⟨"java/lang/AbstractStringBuilder", "getValue", "()[B"⟩ yJ5_getValue_6d5f1, Cond.instanceMethod yJ5_getValue_6d5f1, Cond.initialized RJ5, Cond.code yJ5_getValue_6d5f1 cJ5_getValue_6d5f1 1 (some (.array .byte)), Cond.fieldLink RJ5 15 "java/lang/AbstractStringBuilder" "value" "[B", Cond.methodLink RJ0 549 ⟨"java/lang/AbstractStringBuilder", "length", "()I"⟩, Cond.sameMethod "java/lang/AbstractStringBuilder" "java/lang/AbstractStringBuilder" "length" "()I", Cond.instanceMethod ⟨"java/lang/AbstractStringBuilder", "length", "()I"⟩, Cond.selects RJ4 ⟨"java/lang/AbstractStringBuilder", "length", "()I"⟩ yJ4_length_8abf5, Cond.instanceMethod yJ4_length_8abf5, Cond.initialized RJ4]
def wsJ0_init_81219_r2 : List Cond := [Cond.code yJ4_length_8abf5 cJ4_length_8abf5 1 (some .int), Cond.methodLink RJ4 343 yJ5_length_8abf5, Cond.superclass RJ4 RJ5, Cond.instanceMethod yJ5_length_8abf5, Cond.code yJ5_length_8abf5 cJ5_length_8abf5 1 (some .int), Cond.fieldLink RJ5 79 "java/lang/AbstractStringBuilder" "count" "I", Cond.methodLink RJ0 1047 ⟨"java/lang/AbstractStringBuilder", "isLatin1", "()Z"⟩, Cond.sameMethod "java/lang/AbstractStringBuilder" "java/lang/AbstractStringBuilder" "isLatin1" "()Z", Cond.selects RJ4 ⟨"java/lang/AbstractStringBuilder", "isLatin1", "()Z"⟩ yJ5_isLatin1_aae02, Cond.instanceMethod yJ5_isLatin1_aae02, Cond.code yJ5_isLatin1_aae02 cJ5_isLatin1_aae02 1 (some .boolean), Cond.fieldLink RJ5 18 "java/lang/String" "COMPACT_STRINGS" "Z", Cond.fieldLink RJ5 22 "java/lang/AbstractStringBuilder" "coder" "B", Cond.methodLink RJ0 54 yJ7_copyOfRange_39247, Cond.static yJ7_copyOfRange_39247, Cond.initialized RJ7, Cond.code yJ7_copyOfRange_39247 cJ7_copyOfRange_39247 3 (some (.array .byte)), Cond.methodLink RJ7 310 ⟨"[B", "clone", "()Ljava/lang/Object;"⟩, Cond.sameMethod "[B" "java/lang/Object" "clone" "()Ljava/lang/Object;", Cond.native ⟨"java/lang/Object", "clone", "()Ljava/lang/Object;"⟩, Cond.instanceMethod ⟨"java/lang/Object", "clone", "()Ljava/lang/Object;"⟩, Cond.selects "[B" ⟨"[B", "clone", "()Ljava/lang/Object;"⟩ ⟨"java/lang/Object", "clone", "()Ljava/lang/Object;"⟩, Cond.classLink RJ7 311 "[B", Cond.methodLink RJ7 339 yJ7_copyOfRangeByte_39247]
def wsJ0_init_81219_r3 : List Cond := [Cond.static yJ7_copyOfRangeByte_39247, Cond.code yJ7_copyOfRangeByte_39247 cJ7_copyOfRangeByte_39247 5 (some (.array .byte)), Cond.arrayClass .byte, Cond.methodLink RJ7 304 Lib.Math.min.name, Cond.static Lib.Math.min.name, Cond.initialized "java/lang/Math", Cond.code Lib.Math.min.name Lib.Math.min.code 2 (some .int), Cond.methodLink RJ7 150 arraycopyName, Cond.native arraycopyName, Cond.static arraycopyName, Cond.initialized "java/lang/System", Cond.methodLink RJ7 343 yJ7_checkLength_df160, Cond.static yJ7_checkLength_df160, Cond.code yJ7_checkLength_df160 cJ7_checkLength_df160 2 none, Cond.classLink RJ7 45 RJ4, Cond.instantiable RJ4 4, Cond.methodLink RJ0 1051 yJ2_compress_39247, Cond.static yJ2_compress_39247, Cond.initialized RJ2, Cond.code yJ2_compress_39247 cJ2_compress_39247 6 (some (.array .byte)), Cond.methodLink RJ2 123 yJ2_compress_5af95, Cond.static yJ2_compress_5af95, Cond.code yJ2_compress_5af95 cJ2_compress_5af95 7 (some .int), Cond.methodLink RJ2 173 yJ2_checkBoundsOffCount_d044e]
def wsJ0_init_81219_r4 : List Cond := [Cond.static yJ2_checkBoundsOffCount_d044e, Cond.code yJ2_checkBoundsOffCount_d044e cJ2_checkBoundsOffCount_d044e 3 none, Cond.methodLink RJ2 48 yJ2_length_9d52b, Cond.static yJ2_length_9d52b, Cond.code yJ2_length_9d52b cJ2_length_9d52b 1 (some .int), Cond.methodLink RJ2 419 yJ0_checkBoundsOffCount_cabcc, Cond.static yJ0_checkBoundsOffCount_cabcc, Cond.code yJ0_checkBoundsOffCount_cabcc cJ0_checkBoundsOffCount_cabcc 3 (some .int), Cond.fieldLink RJ0 1053 "jdk/internal/util/Preconditions" "SIOOBE_FORMATTER" "Ljava/util/function/BiFunction;", Cond.methodLink RJ0 1065 yJ3_checkFromIndexSize_8c36e, Cond.static yJ3_checkFromIndexSize_8c36e, Cond.initialized RJ3, Cond.code yJ3_checkFromIndexSize_8c36e cJ3_checkFromIndexSize_8c36e 4 (some .int), Cond.methodLink RJ2 71 yJ2_getChar_3b067, Cond.static yJ2_getChar_3b067, Cond.code yJ2_getChar_3b067 cJ2_getChar_3b067 2 (some .char), Cond.fieldLink RJ2 44 "java/lang/StringUTF16" "$assertionsDisabled" "Z", Cond.fieldLink RJ2 59 "java/lang/StringUTF16" "HI_BYTE_SHIFT" "I", Cond.fieldLink RJ2 63 "java/lang/StringUTF16" "LO_BYTE_SHIFT" "I", Cond.methodLink RJ2 11 yJ2_newBytesLength_0f7a4, Cond.static yJ2_newBytesLength_0f7a4, Cond.code yJ2_newBytesLength_0f7a4 cJ2_newBytesLength_0f7a4 1 (some .int), Cond.constant RJ2 20 (1073741823), Cond.methodLink RJ2 126 yJ7_copyOfRange_39247]
def wsJ0_init_81219_r5 : List Cond := [Cond.methodLink RJ0 47 yJ2_coderFromArrayLen_85cad, Cond.static yJ2_coderFromArrayLen_85cad, Cond.code yJ2_coderFromArrayLen_85cad cJ2_coderFromArrayLen_85cad 2 (some .byte)]
def wsJ0_init_81219 : List Cond := .code yJ0_init_81219 cJ0_init_81219 2 none :: ((wsJ0_init_81219_r1 ++ (wsJ0_init_81219_r2 ++ (wsJ0_init_81219_r3 ++ (wsJ0_init_81219_r4 ++ wsJ0_init_81219_r5)))) ++ wsJ00 ++ wsJ40)
def wsJ4_toString_0e30d_r1 : List Cond := [Cond.classLink RJ4 18 RJ0, Cond.instantiable RJ0 4, Cond.initialized RJ0, Cond.methodLink RJ4 137 yJ0_init_81219, Cond.instanceMethod yJ0_init_81219, Cond.code yJ0_init_81219 cJ0_init_81219 2 none, Cond.methodLink RJ0 489 yJ0_init_db425, Cond.instanceMethod yJ0_init_db425, Cond.code yJ0_init_db425 cJ0_init_db425 5 none, Cond.methodLink RJ0 1 objectInit, Cond.instanceMethod objectInit, Cond.code objectInit ⟨#[0xb1]⟩ 1 none, Cond.fieldLink RJ0 15 "java/lang/String" "coder" "B", Cond.fieldLink RJ0 9 "java/lang/String" "value" "[B", Cond.fieldLink RJ0 38 "java/lang/String" "COMPACT_STRINGS" "Z", Cond.fieldLink RJ0 1048 "java/lang/AbstractStringBuilder" "maybeLatin1" "Z", Cond.methodLink RJ0 552 ⟨"java/lang/AbstractStringBuilder", "getValue", "()[B"⟩, Cond.sameMethod "java/lang/AbstractStringBuilder" "java/lang/AbstractStringBuilder" "getValue" "()[B", Cond.selects RJ4 ⟨"java/lang/AbstractStringBuilder", "getValue", "()[B"⟩ yJ5_getValue_6d5f1, Cond.instanceMethod yJ5_getValue_6d5f1, Cond.initialized RJ5, Cond.code yJ5_getValue_6d5f1 cJ5_getValue_6d5f1 1 (some (.array .byte)), Cond.fieldLink RJ5 15 "java/lang/AbstractStringBuilder" "value" "[B", Cond.methodLink RJ0 549 ⟨"java/lang/AbstractStringBuilder", "length", "()I"⟩]
def wsJ4_toString_0e30d_r2 : List Cond := [Cond.sameMethod "java/lang/AbstractStringBuilder" "java/lang/AbstractStringBuilder" "length" "()I", Cond.instanceMethod ⟨"java/lang/AbstractStringBuilder", "length", "()I"⟩, Cond.selects RJ4 ⟨"java/lang/AbstractStringBuilder", "length", "()I"⟩ yJ4_length_8abf5, Cond.instanceMethod yJ4_length_8abf5, Cond.initialized RJ4, Cond.code yJ4_length_8abf5 cJ4_length_8abf5 1 (some .int), Cond.methodLink RJ4 343 yJ5_length_8abf5, Cond.superclass RJ4 RJ5, Cond.instanceMethod yJ5_length_8abf5, Cond.code yJ5_length_8abf5 cJ5_length_8abf5 1 (some .int), Cond.fieldLink RJ5 79 "java/lang/AbstractStringBuilder" "count" "I", Cond.methodLink RJ0 1047 ⟨"java/lang/AbstractStringBuilder", "isLatin1", "()Z"⟩, Cond.sameMethod "java/lang/AbstractStringBuilder" "java/lang/AbstractStringBuilder" "isLatin1" "()Z", Cond.selects RJ4 ⟨"java/lang/AbstractStringBuilder", "isLatin1", "()Z"⟩ yJ5_isLatin1_aae02, Cond.instanceMethod yJ5_isLatin1_aae02, Cond.code yJ5_isLatin1_aae02 cJ5_isLatin1_aae02 1 (some .boolean), Cond.fieldLink RJ5 18 "java/lang/String" "COMPACT_STRINGS" "Z", Cond.fieldLink RJ5 22 "java/lang/AbstractStringBuilder" "coder" "B", Cond.methodLink RJ0 54 yJ7_copyOfRange_39247, Cond.static yJ7_copyOfRange_39247, Cond.initialized RJ7, Cond.code yJ7_copyOfRange_39247 cJ7_copyOfRange_39247 3 (some (.array .byte)), Cond.methodLink RJ7 310 ⟨"[B", "clone", "()Ljava/lang/Object;"⟩, Cond.sameMethod "[B" "java/lang/Object" "clone" "()Ljava/lang/Object;"]
def wsJ4_toString_0e30d_r3 : List Cond := [Cond.native ⟨"java/lang/Object", "clone", "()Ljava/lang/Object;"⟩, Cond.instanceMethod ⟨"java/lang/Object", "clone", "()Ljava/lang/Object;"⟩, Cond.selects "[B" ⟨"[B", "clone", "()Ljava/lang/Object;"⟩ ⟨"java/lang/Object", "clone", "()Ljava/lang/Object;"⟩, Cond.classLink RJ7 311 "[B", Cond.methodLink RJ7 339 yJ7_copyOfRangeByte_39247, Cond.static yJ7_copyOfRangeByte_39247, Cond.code yJ7_copyOfRangeByte_39247 cJ7_copyOfRangeByte_39247 5 (some (.array .byte)), Cond.arrayClass .byte, Cond.methodLink RJ7 304 Lib.Math.min.name, Cond.static Lib.Math.min.name, Cond.initialized "java/lang/Math", Cond.code Lib.Math.min.name Lib.Math.min.code 2 (some .int), Cond.methodLink RJ7 150 arraycopyName, Cond.native arraycopyName, Cond.static arraycopyName, Cond.initialized "java/lang/System", Cond.methodLink RJ7 343 yJ7_checkLength_df160, Cond.static yJ7_checkLength_df160, Cond.code yJ7_checkLength_df160 cJ7_checkLength_df160 2 none, Cond.classLink RJ7 45 RJ4, Cond.instantiable RJ4 4, Cond.methodLink RJ0 1051 yJ2_compress_39247, Cond.static yJ2_compress_39247, Cond.initialized RJ2]
def wsJ4_toString_0e30d_r4 : List Cond := [Cond.code yJ2_compress_39247 cJ2_compress_39247 6 (some (.array .byte)), Cond.methodLink RJ2 123 yJ2_compress_5af95, Cond.static yJ2_compress_5af95, Cond.code yJ2_compress_5af95 cJ2_compress_5af95 7 (some .int), Cond.methodLink RJ2 173 yJ2_checkBoundsOffCount_d044e, Cond.static yJ2_checkBoundsOffCount_d044e, Cond.code yJ2_checkBoundsOffCount_d044e cJ2_checkBoundsOffCount_d044e 3 none, Cond.methodLink RJ2 48 yJ2_length_9d52b, Cond.static yJ2_length_9d52b, Cond.code yJ2_length_9d52b cJ2_length_9d52b 1 (some .int), Cond.methodLink RJ2 419 yJ0_checkBoundsOffCount_cabcc, Cond.static yJ0_checkBoundsOffCount_cabcc, Cond.code yJ0_checkBoundsOffCount_cabcc cJ0_checkBoundsOffCount_cabcc 3 (some .int), Cond.fieldLink RJ0 1053 "jdk/internal/util/Preconditions" "SIOOBE_FORMATTER" "Ljava/util/function/BiFunction;", Cond.methodLink RJ0 1065 yJ3_checkFromIndexSize_8c36e, Cond.static yJ3_checkFromIndexSize_8c36e, Cond.initialized RJ3, Cond.code yJ3_checkFromIndexSize_8c36e cJ3_checkFromIndexSize_8c36e 4 (some .int), Cond.methodLink RJ2 71 yJ2_getChar_3b067, Cond.static yJ2_getChar_3b067, Cond.code yJ2_getChar_3b067 cJ2_getChar_3b067 2 (some .char), Cond.fieldLink RJ2 44 "java/lang/StringUTF16" "$assertionsDisabled" "Z", Cond.fieldLink RJ2 59 "java/lang/StringUTF16" "HI_BYTE_SHIFT" "I", Cond.fieldLink RJ2 63 "java/lang/StringUTF16" "LO_BYTE_SHIFT" "I"]
def wsJ4_toString_0e30d_r5 : List Cond := [Cond.methodLink RJ2 11 yJ2_newBytesLength_0f7a4, Cond.static yJ2_newBytesLength_0f7a4, Cond.code yJ2_newBytesLength_0f7a4 cJ2_newBytesLength_0f7a4 1 (some .int), Cond.constant RJ2 20 (1073741823), Cond.methodLink RJ2 126 yJ7_copyOfRange_39247, Cond.methodLink RJ0 47 yJ2_coderFromArrayLen_85cad, Cond.static yJ2_coderFromArrayLen_85cad, Cond.code yJ2_coderFromArrayLen_85cad cJ2_coderFromArrayLen_85cad 2 (some .byte)]
def wsJ4_toString_0e30d : List Cond := .code yJ4_toString_0e30d cJ4_toString_0e30d 1 (some (.object "java/lang/String")) :: ((wsJ4_toString_0e30d_r1 ++ (wsJ4_toString_0e30d_r2 ++ (wsJ4_toString_0e30d_r3 ++ (wsJ4_toString_0e30d_r4 ++ wsJ4_toString_0e30d_r5)))) ++ wsJ00 ++ wsJ40)
def wsJx00060_init_d00df_r1 : List Cond := [Cond.classLink RJx00060 10 RJ4, Cond.instantiable RJ4 4, Cond.initialized RJ4, Cond.methodLink RJx00060 12 yJ4_init_da8c8, Cond.instanceMethod yJ4_init_da8c8, Cond.code yJ4_init_da8c8 cJ4_init_da8c8 1 none, Cond.methodLink RJ4 1 yJ5_init_d00df, Cond.instanceMethod yJ5_init_d00df, Cond.initialized RJ5, Cond.code yJ5_init_d00df cJ5_init_d00df 2 none, Cond.methodLink RJ5 3 objectInit, Cond.instanceMethod objectInit, Cond.code objectInit ⟨#[0xb1]⟩ 1 none, Cond.fieldLink RJ5 18 "java/lang/String" "COMPACT_STRINGS" "Z", Cond.arrayClass .byte, Cond.fieldLink RJ5 15 "java/lang/AbstractStringBuilder" "value" "[B", Cond.fieldLink RJ5 22 "java/lang/AbstractStringBuilder" "coder" "B", Cond.methodLink RJ5 26 yJ2_newBytesFor_77867, Cond.static yJ2_newBytesFor_77867, Cond.initialized RJ2, Cond.code yJ2_newBytesFor_77867 cJ2_newBytesFor_77867 1 (some (.array .byte)), Cond.methodLink RJ2 11 yJ2_newBytesLength_0f7a4, Cond.static yJ2_newBytesLength_0f7a4, Cond.code yJ2_newBytesLength_0f7a4 cJ2_newBytesLength_0f7a4 1 (some .int)]
def wsJx00060_init_d00df_r2 : List Cond := [Cond.constant RJ2 20 (1073741823), Cond.methodLink RJx00060 15 yJ4_append_15ec4, Cond.instanceMethod yJ4_append_15ec4, Cond.selects RJ4 yJ4_append_15ec4 yJ4_append_15ec4, Cond.code yJ4_append_15ec4 cJ4_append_15ec4 2 (some (.object "java/lang/StringBuilder")), Cond.methodLink RJ4 29 yJ5_append_cf1ce, Cond.sameMethod "java/lang/AbstractStringBuilder" "java/lang/AbstractStringBuilder" "append" "(Ljava/lang/String;)Ljava/lang/AbstractStringBuilder;", Cond.superclass RJ4 RJ5, Cond.instanceMethod yJ5_append_cf1ce, Cond.code yJ5_append_cf1ce cJ5_append_cf1ce 3 (some (.object "java/lang/AbstractStringBuilder")), Cond.fieldLink RJ5 79 "java/lang/AbstractStringBuilder" "count" "I", Cond.methodLink RJ5 204 ⟨"java/lang/AbstractStringBuilder", "appendNull", "()Ljava/lang/AbstractStringBuilder;"⟩, Cond.sameMethod "java/lang/AbstractStringBuilder" "java/lang/AbstractStringBuilder" "appendNull" "()Ljava/lang/AbstractStringBuilder;", Cond.selects RJ4 ⟨"java/lang/AbstractStringBuilder", "appendNull", "()Ljava/lang/AbstractStringBuilder;"⟩ yJ5_appendNull_278bc, Cond.instanceMethod yJ5_appendNull_278bc, Cond.code yJ5_appendNull_278bc cJ5_appendNull_278bc 3 (some (.object "java/lang/AbstractStringBuilder")), Cond.methodLink RJ5 100 ⟨"java/lang/AbstractStringBuilder", "ensureCapacityInternal", "(I)V"⟩, Cond.sameMethod "java/lang/AbstractStringBuilder" "java/lang/AbstractStringBuilder" "ensureCapacityInternal" "(I)V", Cond.selects RJ4 ⟨"java/lang/AbstractStringBuilder", "ensureCapacityInternal", "(I)V"⟩ yJ5_ensureCapacityInternal_d00df, Cond.instanceMethod yJ5_ensureCapacityInternal_d00df, Cond.code yJ5_ensureCapacityInternal_d00df cJ5_ensureCapacityInternal_d00df 3 none, Cond.methodLink RJ5 104 ⟨"java/lang/AbstractStringBuilder", "newCapacity", "(I)I"⟩, Cond.sameMethod "java/lang/AbstractStringBuilder" "java/lang/AbstractStringBuilder" "newCapacity" "(I)I", Cond.selects RJ4 ⟨"java/lang/AbstractStringBuilder", "newCapacity", "(I)I"⟩ yJ5_newCapacity_0f7a4]
def wsJx00060_init_d00df_r3 : List Cond := [Cond.instanceMethod yJ5_newCapacity_0f7a4, Cond.code yJ5_newCapacity_0f7a4 cJ5_newCapacity_0f7a4 6 (some .int), Cond.constant RJ5 39 (2147483647), Cond.methodLink RJ5 114 yJ8_newLength_cabcc, Cond.static yJ8_newLength_cabcc, Cond.initialized RJ8, Cond.code yJ8_newLength_cabcc cJ8_newLength_cabcc 4 (some .int), Cond.methodLink RJ8 194 Lib.Math.max.name, Cond.static Lib.Math.max.name, Cond.initialized "java/lang/Math", Cond.code Lib.Math.max.name Lib.Math.max.code 2 (some .int), Cond.constant RJ8 200 (2147483639), Cond.methodLink RJ8 201 yJ8_hugeLength_7cf53, Cond.static yJ8_hugeLength_7cf53, Cond.code yJ8_hugeLength_7cf53 cJ8_hugeLength_7cf53 3 (some .int), Cond.methodLink RJ5 108 yJ7_copyOf_9075b, Cond.static yJ7_copyOf_9075b, Cond.initialized RJ7, Cond.code yJ7_copyOf_9075b cJ7_copyOf_9075b 3 (some (.array .byte)), Cond.methodLink RJ7 310 ⟨"[B", "clone", "()Ljava/lang/Object;"⟩, Cond.sameMethod "[B" "java/lang/Object" "clone" "()Ljava/lang/Object;", Cond.native ⟨"java/lang/Object", "clone", "()Ljava/lang/Object;"⟩, Cond.instanceMethod ⟨"java/lang/Object", "clone", "()Ljava/lang/Object;"⟩, Cond.selects "[B" ⟨"[B", "clone", "()Ljava/lang/Object;"⟩ ⟨"java/lang/Object", "clone", "()Ljava/lang/Object;"⟩]
def wsJx00060_init_d00df_r4 : List Cond := [Cond.classLink RJ7 311 "[B", Cond.methodLink RJ7 304 Lib.Math.min.name, Cond.static Lib.Math.min.name, Cond.code Lib.Math.min.name Lib.Math.min.code 2 (some .int), Cond.methodLink RJ7 150 arraycopyName, Cond.native arraycopyName, Cond.static arraycopyName, Cond.initialized "java/lang/System", Cond.methodLink RJ5 83 ⟨"java/lang/AbstractStringBuilder", "isLatin1", "()Z"⟩, Cond.sameMethod "java/lang/AbstractStringBuilder" "java/lang/AbstractStringBuilder" "isLatin1" "()Z", Cond.selects RJ4 ⟨"java/lang/AbstractStringBuilder", "isLatin1", "()Z"⟩ yJ5_isLatin1_aae02, Cond.instanceMethod yJ5_isLatin1_aae02, Cond.code yJ5_isLatin1_aae02 cJ5_isLatin1_aae02 1 (some .boolean), Cond.methodLink RJ5 226 yJ2_putCharsAt_cd4e5, Cond.static yJ2_putCharsAt_cd4e5, Cond.code yJ2_putCharsAt_cd4e5 cJ2_putCharsAt_cd4e5 7 (some .int), Cond.fieldLink RJ2 44 "java/lang/StringUTF16" "$assertionsDisabled" "Z", Cond.methodLink RJ2 96 yJ2_checkBoundsBeginEnd_d044e, Cond.static yJ2_checkBoundsBeginEnd_d044e, Cond.code yJ2_checkBoundsBeginEnd_d044e cJ2_checkBoundsBeginEnd_d044e 3 none, Cond.methodLink RJ2 48 yJ2_length_9d52b, Cond.static yJ2_length_9d52b, Cond.code yJ2_length_9d52b cJ2_length_9d52b 1 (some .int), Cond.methodLink RJ2 241 yJ0_checkBoundsBeginEnd_23922]
def wsJx00060_init_d00df_r5 : List Cond := [Cond.static yJ0_checkBoundsBeginEnd_23922, Cond.initialized RJ0, Cond.code yJ0_checkBoundsBeginEnd_23922 cJ0_checkBoundsBeginEnd_23922 3 none, Cond.fieldLink RJ0 1053 "jdk/internal/util/Preconditions" "SIOOBE_FORMATTER" "Ljava/util/function/BiFunction;", Cond.methodLink RJ0 1062 yJ3_checkFromToIndex_8c36e, Cond.static yJ3_checkFromToIndex_8c36e, Cond.initialized RJ3, Cond.code yJ3_checkFromToIndex_8c36e cJ3_checkFromToIndex_8c36e 4 (some .int), Cond.methodLink RJ2 111 yJ2_putChar_b72d1, Cond.static yJ2_putChar_b72d1, Cond.code yJ2_putChar_b72d1 cJ2_putChar_b72d1 3 none, Cond.fieldLink RJ2 59 "java/lang/StringUTF16" "HI_BYTE_SHIFT" "I", Cond.fieldLink RJ2 63 "java/lang/StringUTF16" "LO_BYTE_SHIFT" "I", Cond.methodLink RJ5 32 yJ0_length_8abf5, Cond.instanceMethod yJ0_length_8abf5, Cond.selects RJ0 yJ0_length_8abf5 yJ0_length_8abf5, Cond.code yJ0_length_8abf5 cJ0_length_8abf5 1 (some .int), Cond.fieldLink RJ0 9 "java/lang/String" "value" "[B", Cond.methodLink RJ0 335 yJ0_coder_7d493, Cond.instanceMethod yJ0_coder_7d493, Cond.selects RJ0 yJ0_coder_7d493 yJ0_coder_7d493, Cond.code yJ0_coder_7d493 cJ0_coder_7d493 1 (some .byte), Cond.fieldLink RJ0 38 "java/lang/String" "COMPACT_STRINGS" "Z", Cond.fieldLink RJ0 15 "java/lang/String" "coder" "B"]
def wsJx00060_init_d00df_r6 : List Cond := [Cond.methodLink RJ5 208 ⟨"java/lang/AbstractStringBuilder", "putStringAt", "(ILjava/lang/String;)V"⟩, Cond.sameMethod "java/lang/AbstractStringBuilder" "java/lang/AbstractStringBuilder" "putStringAt" "(ILjava/lang/String;)V", Cond.selects RJ4 ⟨"java/lang/AbstractStringBuilder", "putStringAt", "(ILjava/lang/String;)V"⟩ yJ5_putStringAt_47b60, Cond.instanceMethod yJ5_putStringAt_47b60, Cond.code yJ5_putStringAt_47b60 cJ5_putStringAt_47b60 3 none, Cond.methodLink RJ5 397 ⟨"java/lang/AbstractStringBuilder", "inflateIfNeededFor", "(Ljava/lang/String;)V"⟩, Cond.sameMethod "java/lang/AbstractStringBuilder" "java/lang/AbstractStringBuilder" "inflateIfNeededFor" "(Ljava/lang/String;)V", Cond.selects RJ4 ⟨"java/lang/AbstractStringBuilder", "inflateIfNeededFor", "(Ljava/lang/String;)V"⟩ yJ5_inflateIfNeededFor_a7421, Cond.instanceMethod yJ5_inflateIfNeededFor_a7421, Cond.code yJ5_inflateIfNeededFor_a7421 cJ5_inflateIfNeededFor_a7421 2 none, Cond.methodLink RJ5 40 yJ0_coder_7d493, Cond.methodLink RJ5 195 ⟨"java/lang/AbstractStringBuilder", "inflate", "()V"⟩, Cond.sameMethod "java/lang/AbstractStringBuilder" "java/lang/AbstractStringBuilder" "inflate" "()V", Cond.selects RJ4 ⟨"java/lang/AbstractStringBuilder", "inflate", "()V"⟩ yJ5_inflate_da8c8, Cond.instanceMethod yJ5_inflate_da8c8, Cond.code yJ5_inflate_da8c8 cJ5_inflate_da8c8 2 none, Cond.methodLink RJ5 125 yJ1_inflate_0e8fd, Cond.static yJ1_inflate_0e8fd, Cond.initialized RJ1, Cond.code yJ1_inflate_0e8fd cJ1_inflate_0e8fd 5 none, Cond.methodLink RJ1 240 yJ2_inflate_0e8fd, Cond.static yJ2_inflate_0e8fd, Cond.code yJ2_inflate_0e8fd cJ2_inflate_0e8fd 6 none, Cond.methodLink RJ2 173 yJ2_checkBoundsOffCount_d044e]
def wsJx00060_init_d00df_r7 : List Cond := [Cond.static yJ2_checkBoundsOffCount_d044e, Cond.code yJ2_checkBoundsOffCount_d044e cJ2_checkBoundsOffCount_d044e 3 none, Cond.methodLink RJ2 419 yJ0_checkBoundsOffCount_cabcc, Cond.static yJ0_checkBoundsOffCount_cabcc, Cond.code yJ0_checkBoundsOffCount_cabcc cJ0_checkBoundsOffCount_cabcc 3 (some .int), Cond.methodLink RJ0 1065 yJ3_checkFromIndexSize_8c36e, Cond.static yJ3_checkFromIndexSize_8c36e, Cond.code yJ3_checkFromIndexSize_8c36e cJ3_checkFromIndexSize_8c36e 4 (some .int), Cond.methodLink RJ5 399 yJ0_getBytes_840e7, Cond.instanceMethod yJ0_getBytes_840e7, Cond.selects RJ0 yJ0_getBytes_840e7 yJ0_getBytes_840e7, Cond.code yJ0_getBytes_840e7 cJ0_getBytes_840e7 4 none, Cond.methodLink RJ0 212 arraycopyName, Cond.methodLink RJ0 106 yJ1_inflate_0e8fd, Cond.methodLink RJx00060 19 yJ4_append_bf812, Cond.instanceMethod yJ4_append_bf812, Cond.selects RJ4 yJ4_append_bf812 yJ4_append_bf812, Cond.code yJ4_append_bf812 cJ4_append_bf812 2 (some (.object "java/lang/StringBuilder")), Cond.methodLink RJ4 53 yJ5_append_c97b9, Cond.sameMethod "java/lang/AbstractStringBuilder" "java/lang/AbstractStringBuilder" "append" "(I)Ljava/lang/AbstractStringBuilder;", Cond.instanceMethod yJ5_append_c97b9, Cond.code yJ5_append_c97b9 cJ5_append_c97b9 4 (some (.object "java/lang/AbstractStringBuilder")), Cond.methodLink RJ5 245 yJ6_stringSize_0f7a4, Cond.static yJ6_stringSize_0f7a4]
def wsJx00060_init_d00df_r8 : List Cond := [Cond.initialized RJ6, Cond.code yJ6_stringSize_0f7a4 cJ6_stringSize_0f7a4 4 (some .int), Cond.methodLink RJ5 248 yJ6_getChars_ba4f3, Cond.static yJ6_getChars_ba4f3, Cond.code yJ6_getChars_ba4f3 cJ6_getChars_ba4f3 7 (some .int), Cond.fieldLink RJ6 83 "java/lang/Integer" "DigitOnes" "[B", Cond.fieldLink RJ6 87 "java/lang/Integer" "DigitTens" "[B", Cond.methodLink RJ5 251 yJ2_getChars_46870, Cond.static yJ2_getChars_46870, Cond.code yJ2_getChars_46870 cJ2_getChars_46870 5 (some .int), Cond.methodLink RJ2 393 yJ2_getChars_ba4f3, Cond.static yJ2_getChars_ba4f3, Cond.code yJ2_getChars_ba4f3 cJ2_getChars_ba4f3 7 (some .int), Cond.fieldLink RJ2 403 "java/lang/Integer" "DigitOnes" "[B", Cond.fieldLink RJ2 407 "java/lang/Integer" "DigitTens" "[B", Cond.methodLink RJx00060 22 yJ4_toString_0e30d, Cond.instanceMethod yJ4_toString_0e30d, Cond.selects RJ4 yJ4_toString_0e30d yJ4_toString_0e30d, Cond.code yJ4_toString_0e30d cJ4_toString_0e30d 1 (some (.object "java/lang/String")), Cond.classLink RJ4 18 RJ0, Cond.instantiable RJ0 4, Cond.methodLink RJ4 137 yJ0_init_81219, Cond.instanceMethod yJ0_init_81219, Cond.code yJ0_init_81219 cJ0_init_81219 2 none]
def wsJx00060_init_d00df_r9 : List Cond := [Cond.methodLink RJ0 489 yJ0_init_db425, Cond.instanceMethod yJ0_init_db425, Cond.code yJ0_init_db425 cJ0_init_db425 5 none, Cond.methodLink RJ0 1 objectInit, Cond.fieldLink RJ0 1048 "java/lang/AbstractStringBuilder" "maybeLatin1" "Z", Cond.methodLink RJ0 552 ⟨"java/lang/AbstractStringBuilder", "getValue", "()[B"⟩, Cond.sameMethod "java/lang/AbstractStringBuilder" "java/lang/AbstractStringBuilder" "getValue" "()[B", Cond.selects RJ4 ⟨"java/lang/AbstractStringBuilder", "getValue", "()[B"⟩ yJ5_getValue_6d5f1, Cond.instanceMethod yJ5_getValue_6d5f1, Cond.code yJ5_getValue_6d5f1 cJ5_getValue_6d5f1 1 (some (.array .byte)), Cond.methodLink RJ0 549 ⟨"java/lang/AbstractStringBuilder", "length", "()I"⟩, Cond.sameMethod "java/lang/AbstractStringBuilder" "java/lang/AbstractStringBuilder" "length" "()I", Cond.instanceMethod ⟨"java/lang/AbstractStringBuilder", "length", "()I"⟩, Cond.selects RJ4 ⟨"java/lang/AbstractStringBuilder", "length", "()I"⟩ yJ4_length_8abf5, Cond.instanceMethod yJ4_length_8abf5, Cond.code yJ4_length_8abf5 cJ4_length_8abf5 1 (some .int), Cond.methodLink RJ4 343 yJ5_length_8abf5, Cond.instanceMethod yJ5_length_8abf5, Cond.code yJ5_length_8abf5 cJ5_length_8abf5 1 (some .int), Cond.methodLink RJ0 1047 ⟨"java/lang/AbstractStringBuilder", "isLatin1", "()Z"⟩, Cond.methodLink RJ0 54 yJ7_copyOfRange_39247, Cond.static yJ7_copyOfRange_39247, Cond.code yJ7_copyOfRange_39247 cJ7_copyOfRange_39247 3 (some (.array .byte)), Cond.methodLink RJ7 339 yJ7_copyOfRangeByte_39247]
def wsJx00060_init_d00df_r10 : List Cond := [Cond.static yJ7_copyOfRangeByte_39247, Cond.code yJ7_copyOfRangeByte_39247 cJ7_copyOfRangeByte_39247 5 (some (.array .byte)), Cond.methodLink RJ7 343 yJ7_checkLength_df160, Cond.static yJ7_checkLength_df160, Cond.code yJ7_checkLength_df160 cJ7_checkLength_df160 2 none, Cond.classLink RJ7 45 RJ4, Cond.methodLink RJ0 1051 yJ2_compress_39247, Cond.static yJ2_compress_39247, Cond.code yJ2_compress_39247 cJ2_compress_39247 6 (some (.array .byte)), Cond.methodLink RJ2 123 yJ2_compress_5af95, Cond.static yJ2_compress_5af95, Cond.code yJ2_compress_5af95 cJ2_compress_5af95 7 (some .int), Cond.methodLink RJ2 71 yJ2_getChar_3b067, Cond.static yJ2_getChar_3b067, Cond.code yJ2_getChar_3b067 cJ2_getChar_3b067 2 (some .char), Cond.methodLink RJ2 126 yJ7_copyOfRange_39247, Cond.methodLink RJ0 47 yJ2_coderFromArrayLen_85cad, Cond.static yJ2_coderFromArrayLen_85cad, Cond.code yJ2_coderFromArrayLen_85cad cJ2_coderFromArrayLen_85cad 2 (some .byte)]
def wsJx00060_init_d00df : List Cond := .code yJx00060_init_d00df cJx00060_init_d00df 2 none :: ((wsJx00060_init_d00df_r1 ++ (wsJx00060_init_d00df_r2 ++ (wsJx00060_init_d00df_r3 ++ (wsJx00060_init_d00df_r4 ++ (wsJx00060_init_d00df_r5 ++ (wsJx00060_init_d00df_r6 ++ (wsJx00060_init_d00df_r7 ++ (wsJx00060_init_d00df_r8 ++ (wsJx00060_init_d00df_r9 ++ wsJx00060_init_d00df_r10))))))))) ++ wsJ40 ++ wsJ00)
def wsJ9_max_7cf53 : List Cond := .code yJ9_max_7cf53 cJ9_max_7cf53 2 (some .int) :: ([])
def wsJ9_min_7cf53 : List Cond := .code yJ9_min_7cf53 cJ9_min_7cf53 2 (some .int) :: ([])
def wsL_insert_r1 : List Cond := [Cond.classLink RL 13 "java/lang/IndexOutOfBoundsException", Cond.classLink RL 15 "java/lang/IllegalArgumentException", Cond.classLink RL 17 "java/lang/IllegalStateException", Cond.methodLink RL 7 yX4_insert, Cond.instanceMethod yX4_insert, Cond.selects RX4 yX4_insert yX4_insert, Cond.initialized RX4, Cond.code yX4_insert cX4_insert 4 (some .int), Cond.fieldLink RX4 10 "MarginDesk" "text" "LMarginDesk$Text;", Cond.methodLink RX4 60 yX4_checkPlace, Cond.instanceMethod yX4_checkPlace, Cond.selects RX4 yX4_checkPlace yX4_checkPlace, Cond.code yX4_checkPlace cX4_checkPlace 2 none, Cond.classLink RX4 138 "java/lang/IndexOutOfBoundsException", Cond.initialized "java/lang/IndexOutOfBoundsException", Cond.methodLink RX4 64 yX4_checkLetter, Cond.instanceMethod yX4_checkLetter, Cond.selects RX4 yX4_checkLetter yX4_checkLetter, Cond.code yX4_checkLetter cX4_checkLetter 2 none, Cond.methodLink RX4 67 yX4_checkAmong, Cond.instanceMethod yX4_checkAmong, Cond.selects RX4 yX4_checkAmong yX4_checkAmong, Cond.code yX4_checkAmong cX4_checkAmong 4 none, Cond.classLink RX4 182 "java/lang/IllegalArgumentException"]
def wsL_insert_r2 : List Cond := [Cond.initialized "java/lang/IllegalArgumentException", Cond.methodLink RX4 71 yX4_checkRoom, Cond.instanceMethod yX4_checkRoom, Cond.selects RX4 yX4_checkRoom yX4_checkRoom, Cond.code yX4_checkRoom cX4_checkRoom 3 none, Cond.classLink RX4 95 "java/lang/IllegalStateException", Cond.initialized "java/lang/IllegalStateException", Cond.fieldLink RX4 45 "MarginDesk" "edits" "I", Cond.methodLink RX4 75 yX4_putLettersIn, Cond.instanceMethod yX4_putLettersIn, Cond.selects RX4 yX4_putLettersIn yX4_putLettersIn, Cond.code yX4_putLettersIn cX4_putLettersIn 4 none, Cond.fieldLink RX4 19 "MarginDesk" "commentRanges" "LMarginDesk$Ranges;", Cond.fieldLink RX4 48 "MarginDesk" "suggestionRanges" "LMarginDesk$Ranges;", Cond.methodLink RX4 199 yX4_leaveVersion, Cond.instanceMethod yX4_leaveVersion, Cond.selects RX4 yX4_leaveVersion yX4_leaveVersion, Cond.code yX4_leaveVersion cX4_leaveVersion 1 none, Cond.fieldLink RX4 33 "MarginDesk" "history" "LMarginDesk$History;", Cond.instanceMethod yX0_write, Cond.initialized RX0, Cond.selects RX0 yX0_write yX0_write, Cond.code yX0_write cX0_write 5 none, Cond.fieldLink RX0 9 "MarginDesk$History" "ranges" "[I"]
def wsL_insert_r3 : List Cond := [Cond.instanceMethod yX2_asNumber, Cond.initialized RX2, Cond.selects RX2 yX2_asNumber yX2_asNumber, Cond.code yX2_asNumber cX2_asNumber 2 (some .int), Cond.fieldLink RX2 9 "MarginDesk$Ranges" "begins" "[I", Cond.fieldLink RX2 15 "MarginDesk$Ranges" "ends" "[I", Cond.methodLink RX2 25 yX2_isGone, Cond.instanceMethod yX2_isGone, Cond.selects RX2 yX2_isGone yX2_isGone, Cond.code yX2_isGone cX2_isGone 2 (some .boolean), Cond.instanceMethod yX2_moveByInsertion, Cond.selects RX2 yX2_moveByInsertion yX2_moveByInsertion, Cond.code yX2_moveByInsertion cX2_moveByInsertion 6 none, Cond.fieldLink RX2 21 "MarginDesk$Ranges" "count" "I", Cond.fieldLink RX2 18 "MarginDesk$Ranges" "stickiness" "[I", Cond.methodLink RX2 42 yX2_behindInsertion, Cond.static yX2_behindInsertion, Cond.code yX2_behindInsertion cX2_behindInsertion 5 (some .int), Cond.instanceMethod yX3_putIn, Cond.initialized RX3, Cond.selects RX3 yX3_putIn yX3_putIn, Cond.code yX3_putIn cX3_putIn 4 none, Cond.fieldLink RX3 9 "MarginDesk$Text" "letters" "[I", Cond.fieldLink RX3 15 "MarginDesk$Text" "marks" "[I"]
def wsL_insert_r4 : List Cond := [Cond.methodLink RX3 26 yX3_moveTail, Cond.instanceMethod yX3_moveTail, Cond.selects RX3 yX3_moveTail yX3_moveTail, Cond.code yX3_moveTail cX3_moveTail 4 none, Cond.fieldLink RX3 18 "MarginDesk$Text" "size" "I", Cond.methodLink RX3 36 arraycopyName, Cond.native arraycopyName, Cond.static arraycopyName, Cond.initialized "java/lang/System", Cond.methodLink RX3 30 yJ7_fill_fda19, Cond.static yJ7_fill_fda19, Cond.initialized RJ7, Cond.code yJ7_fill_fda19 cJ7_fill_fda19 5 none, Cond.methodLink RJ7 13 yJ7_rangeCheck_23922, Cond.static yJ7_rangeCheck_23922, Cond.code yJ7_rangeCheck_23922 cJ7_rangeCheck_23922 3 none, Cond.classLink RJ7 45 RJ4, Cond.instantiable RJ4 4, Cond.initialized RJ4, Cond.classLink RJ7 68 RJx00060, Cond.instantiable RJx00060 6, Cond.initialized RJx00060, Cond.instanceMethod yX2_covering, Cond.selects RX2 yX2_covering yX2_covering]
def wsL_insert_r5 : List Cond := [Cond.code yX2_covering cX2_covering 4 (some .int), Cond.static yX4_bit, Cond.code yX4_bit cX4_bit 1 (some .int), Cond.instanceMethod yX3_mark, Cond.selects RX3 yX3_mark yX3_mark, Cond.code yX3_mark cX3_mark 5 none]
def wsL_insert : List Cond := .codeWith yL_insert cL_insert 6 (some .int) [(0, 12, 15, 13), (0, 12, 19, 15), (0, 12, 23, 17)] :: ((wsL_insert_r1 ++ (wsL_insert_r2 ++ (wsL_insert_r3 ++ (wsL_insert_r4 ++ wsL_insert_r5)))) ++ wsX40 ++ wsX30 ++ wsX20 ++ wsX00 ++ wsJ40 ++ wsJx000600 ++ (vx_atM "java/lang/ArrayIndexOutOfBoundsException" ["java/lang/IndexOutOfBoundsException", "java/lang/RuntimeException", "java/lang/Exception"]).filter goodWord ++ (vx_atS RX4 142 "java/lang/IndexOutOfBoundsException" ["java/lang/RuntimeException", "java/lang/Exception"]).filter goodWord ++ (vx_atS RX4 186 "java/lang/IllegalArgumentException" ["java/lang/RuntimeException", "java/lang/Exception"]).filter goodWord ++ (vx_atS RX4 99 "java/lang/IllegalStateException" ["java/lang/RuntimeException", "java/lang/Exception"]).filter goodWord)
def wsL_remove_r1 : List Cond := [Cond.classLink RL 13 "java/lang/IndexOutOfBoundsException", Cond.classLink RL 15 "java/lang/IllegalArgumentException", Cond.classLink RL 17 "java/lang/IllegalStateException", Cond.methodLink RL 19 yX4_remove, Cond.instanceMethod yX4_remove, Cond.selects RX4 yX4_remove yX4_remove, Cond.initialized RX4, Cond.code yX4_remove cX4_remove 3 (some .int), Cond.fieldLink RX4 10 "MarginDesk" "text" "LMarginDesk$Text;", Cond.methodLink RX4 60 yX4_checkPlace, Cond.instanceMethod yX4_checkPlace, Cond.selects RX4 yX4_checkPlace yX4_checkPlace, Cond.code yX4_checkPlace cX4_checkPlace 2 none, Cond.classLink RX4 138 "java/lang/IndexOutOfBoundsException", Cond.initialized "java/lang/IndexOutOfBoundsException", Cond.methodLink RX4 67 yX4_checkAmong, Cond.instanceMethod yX4_checkAmong, Cond.selects RX4 yX4_checkAmong yX4_checkAmong, Cond.code yX4_checkAmong cX4_checkAmong 4 none, Cond.classLink RX4 182 "java/lang/IllegalArgumentException", Cond.initialized "java/lang/IllegalArgumentException", Cond.methodLink RX4 71 yX4_checkRoom, Cond.instanceMethod yX4_checkRoom, Cond.selects RX4 yX4_checkRoom yX4_checkRoom]
def wsL_remove_r2 : List Cond := [Cond.code yX4_checkRoom cX4_checkRoom 3 none, Cond.classLink RX4 95 "java/lang/IllegalStateException", Cond.initialized "java/lang/IllegalStateException", Cond.fieldLink RX4 45 "MarginDesk" "edits" "I", Cond.methodLink RX4 81 yX4_takeLettersOut, Cond.instanceMethod yX4_takeLettersOut, Cond.selects RX4 yX4_takeLettersOut yX4_takeLettersOut, Cond.code yX4_takeLettersOut cX4_takeLettersOut 4 (some .int), Cond.fieldLink RX4 19 "MarginDesk" "commentRanges" "LMarginDesk$Ranges;", Cond.fieldLink RX4 48 "MarginDesk" "suggestionRanges" "LMarginDesk$Ranges;", Cond.methodLink RX4 199 yX4_leaveVersion, Cond.instanceMethod yX4_leaveVersion, Cond.selects RX4 yX4_leaveVersion yX4_leaveVersion, Cond.code yX4_leaveVersion cX4_leaveVersion 1 none, Cond.fieldLink RX4 33 "MarginDesk" "history" "LMarginDesk$History;", Cond.instanceMethod yX0_write, Cond.initialized RX0, Cond.selects RX0 yX0_write yX0_write, Cond.code yX0_write cX0_write 5 none, Cond.fieldLink RX0 9 "MarginDesk$History" "ranges" "[I", Cond.instanceMethod yX2_asNumber, Cond.initialized RX2, Cond.selects RX2 yX2_asNumber yX2_asNumber, Cond.code yX2_asNumber cX2_asNumber 2 (some .int)]
def wsL_remove_r3 : List Cond := [Cond.fieldLink RX2 9 "MarginDesk$Ranges" "begins" "[I", Cond.fieldLink RX2 15 "MarginDesk$Ranges" "ends" "[I", Cond.methodLink RX2 25 yX2_isGone, Cond.instanceMethod yX2_isGone, Cond.selects RX2 yX2_isGone yX2_isGone, Cond.code yX2_isGone cX2_isGone 2 (some .boolean), Cond.instanceMethod yX2_moveByRemoval, Cond.selects RX2 yX2_moveByRemoval yX2_moveByRemoval, Cond.code yX2_moveByRemoval cX2_moveByRemoval 5 (some .int), Cond.fieldLink RX2 21 "MarginDesk$Ranges" "count" "I", Cond.methodLink RX2 46 yX2_behindRemoval, Cond.static yX2_behindRemoval, Cond.code yX2_behindRemoval cX2_behindRemoval 3 (some .int), Cond.methodLink RX2 33 Lib.Math.max.name, Cond.static Lib.Math.max.name, Cond.initialized "java/lang/Math", Cond.code Lib.Math.max.name Lib.Math.max.code 2 (some .int), Cond.static yX4_bit, Cond.code yX4_bit cX4_bit 1 (some .int), Cond.methodLink RX4 211 yX4_letGo, Cond.instanceMethod yX4_letGo, Cond.selects RX4 yX4_letGo yX4_letGo, Cond.code yX4_letGo cX4_letGo 3 none, Cond.fieldLink RX4 57 "MarginDesk" "states" "[I"]
def wsL_remove_r4 : List Cond := [Cond.methodLink RX4 110 yX4_bit, Cond.instanceMethod yX3_takeOut, Cond.initialized RX3, Cond.selects RX3 yX3_takeOut yX3_takeOut, Cond.code yX3_takeOut cX3_takeOut 3 none, Cond.methodLink RX3 26 yX3_moveTail, Cond.instanceMethod yX3_moveTail, Cond.selects RX3 yX3_moveTail yX3_moveTail, Cond.code yX3_moveTail cX3_moveTail 4 none, Cond.fieldLink RX3 18 "MarginDesk$Text" "size" "I", Cond.fieldLink RX3 9 "MarginDesk$Text" "letters" "[I", Cond.methodLink RX3 36 arraycopyName, Cond.native arraycopyName, Cond.static arraycopyName, Cond.initialized "java/lang/System", Cond.fieldLink RX3 15 "MarginDesk$Text" "marks" "[I", Cond.methodLink RX4 217 yJ6_bitCount_0f7a4, Cond.static yJ6_bitCount_0f7a4, Cond.initialized RJ6, Cond.code yJ6_bitCount_0f7a4 cJ6_bitCount_0f7a4 1 (some .int), Cond.constant RJ6 265 (1431655765), Cond.constant RJ6 266 (858993459), Cond.constant RJ6 267 (252645135)]
def wsL_remove : List Cond := .codeWith yL_remove cL_remove 5 (some .int) [(0, 10, 13, 13), (0, 10, 17, 15), (0, 10, 21, 17)] :: ((wsL_remove_r1 ++ (wsL_remove_r2 ++ (wsL_remove_r3 ++ wsL_remove_r4))) ++ wsX40 ++ wsX30 ++ wsX20 ++ wsX00 ++ (vx_atM "java/lang/ArrayIndexOutOfBoundsException" ["java/lang/IndexOutOfBoundsException", "java/lang/RuntimeException", "java/lang/Exception"]).filter goodWord ++ (vx_atS RX4 142 "java/lang/IndexOutOfBoundsException" ["java/lang/RuntimeException", "java/lang/Exception"]).filter goodWord ++ (vx_atS RX4 186 "java/lang/IllegalArgumentException" ["java/lang/RuntimeException", "java/lang/Exception"]).filter goodWord ++ (vx_atS RX4 99 "java/lang/IllegalStateException" ["java/lang/RuntimeException", "java/lang/Exception"]).filter goodWord)
def wsL_letterAt : List Cond := .codeWith yL_letterAt cL_letterAt 4 (some .int) [(0, 9, 12, 13)] :: ([.classLink RL 13 "java/lang/IndexOutOfBoundsException", .methodLink RL 23 yX4_letterAt, .instanceMethod yX4_letterAt, .selects RX4 yX4_letterAt yX4_letterAt, .initialized RX4, .code yX4_letterAt cX4_letterAt 2 (some .int), .fieldLink RX4 10 "MarginDesk" "text" "LMarginDesk$Text;", .methodLink RX4 60 yX4_checkPlace, .instanceMethod yX4_checkPlace, .selects RX4 yX4_checkPlace yX4_checkPlace, .code yX4_checkPlace cX4_checkPlace 2 none, .classLink RX4 138 "java/lang/IndexOutOfBoundsException", .initialized "java/lang/IndexOutOfBoundsException", .instanceMethod yX3_letterBehind, .initialized RX3, .selects RX3 yX3_letterBehind yX3_letterBehind, .code yX3_letterBehind cX3_letterBehind 2 (some .int), .fieldLink RX3 9 "MarginDesk$Text" "letters" "[I", .methodLink RX3 22 yX3_hasLetterBehind, .instanceMethod yX3_hasLetterBehind, .selects RX3 yX3_hasLetterBehind yX3_hasLetterBehind, .code yX3_hasLetterBehind cX3_hasLetterBehind 2 (some .boolean), .fieldLink RX3 18 "MarginDesk$Text" "size" "I"] ++ wsX40 ++ wsX30 ++ (vx_atM "java/lang/ArrayIndexOutOfBoundsException" ["java/lang/IndexOutOfBoundsException", "java/lang/RuntimeException", "java/lang/Exception"]).filter goodWord ++ (vx_atS RX4 142 "java/lang/IndexOutOfBoundsException" ["java/lang/RuntimeException", "java/lang/Exception"]).filter goodWord)
def wsL_comment_r1 : List Cond := [Cond.classLink RL 13 "java/lang/IndexOutOfBoundsException", Cond.classLink RL 15 "java/lang/IllegalArgumentException", Cond.classLink RL 17 "java/lang/IllegalStateException", Cond.methodLink RL 27 yX4_comment, Cond.instanceMethod yX4_comment, Cond.selects RX4 yX4_comment yX4_comment, Cond.initialized RX4, Cond.code yX4_comment cX4_comment 5 (some .int), Cond.classLink RX4 95 "java/lang/IllegalStateException", Cond.initialized "java/lang/IllegalStateException", Cond.fieldLink RX4 19 "MarginDesk" "commentRanges" "LMarginDesk$Ranges;", Cond.fieldLink RX4 26 "MarginDesk" "quotes" "LMarginDesk$Quotes;", Cond.fieldLink RX4 10 "MarginDesk" "text" "LMarginDesk$Text;", Cond.fieldLink RX4 41 "MarginDesk" "openSet" "I", Cond.methodLink RX4 89 yX4_checkRange, Cond.instanceMethod yX4_checkRange, Cond.selects RX4 yX4_checkRange yX4_checkRange, Cond.code yX4_checkRange cX4_checkRange 3 none, Cond.classLink RX4 182 "java/lang/IllegalArgumentException", Cond.initialized "java/lang/IllegalArgumentException", Cond.methodLink RX4 60 yX4_checkPlace, Cond.instanceMethod yX4_checkPlace, Cond.selects RX4 yX4_checkPlace yX4_checkPlace, Cond.code yX4_checkPlace cX4_checkPlace 2 none]
def wsL_comment_r2 : List Cond := [Cond.classLink RX4 138 "java/lang/IndexOutOfBoundsException", Cond.initialized "java/lang/IndexOutOfBoundsException", Cond.methodLink RX4 67 yX4_checkAmong, Cond.instanceMethod yX4_checkAmong, Cond.selects RX4 yX4_checkAmong yX4_checkAmong, Cond.code yX4_checkAmong cX4_checkAmong 4 none, Cond.instanceMethod yX2_add, Cond.initialized RX2, Cond.selects RX2 yX2_add yX2_add, Cond.code yX2_add cX2_add 5 (some .int), Cond.fieldLink RX2 21 "MarginDesk$Ranges" "count" "I", Cond.fieldLink RX2 9 "MarginDesk$Ranges" "begins" "[I", Cond.fieldLink RX2 15 "MarginDesk$Ranges" "ends" "[I", Cond.fieldLink RX2 18 "MarginDesk$Ranges" "stickiness" "[I", Cond.instanceMethod yX1_keep, Cond.initialized RX1, Cond.selects RX1 yX1_keep yX1_keep, Cond.code yX1_keep cX1_keep 5 none, Cond.fieldLink RX1 15 "MarginDesk$Quotes" "sizes" "[I", Cond.fieldLink RX1 9 "MarginDesk$Quotes" "letters" "[I", Cond.methodLink RX1 27 arraycopyName, Cond.native arraycopyName, Cond.static arraycopyName, Cond.initialized "java/lang/System"]
def wsL_comment_r3 : List Cond := [Cond.fieldLink RX1 18 "MarginDesk$Quotes" "aheads" "[I", Cond.fieldLink RX1 21 "MarginDesk$Quotes" "behinds" "[I", Cond.instanceMethod yX3_letterBehind, Cond.initialized RX3, Cond.selects RX3 yX3_letterBehind yX3_letterBehind, Cond.code yX3_letterBehind cX3_letterBehind 2 (some .int), Cond.fieldLink RX3 9 "MarginDesk$Text" "letters" "[I", Cond.methodLink RX3 22 yX3_hasLetterBehind, Cond.instanceMethod yX3_hasLetterBehind, Cond.selects RX3 yX3_hasLetterBehind yX3_hasLetterBehind, Cond.code yX3_hasLetterBehind cX3_hasLetterBehind 2 (some .boolean), Cond.fieldLink RX3 18 "MarginDesk$Text" "size" "I", Cond.methodLink RX4 110 yX4_bit, Cond.static yX4_bit, Cond.code yX4_bit cX4_bit 1 (some .int), Cond.instanceMethod yX3_mark, Cond.selects RX3 yX3_mark yX3_mark, Cond.code yX3_mark cX3_mark 5 none, Cond.fieldLink RX3 15 "MarginDesk$Text" "marks" "[I"]
def wsL_comment : List Cond := .codeWith yL_comment cL_comment 6 (some .int) [(0, 12, 15, 13), (0, 12, 19, 15), (0, 12, 23, 17)] :: ((wsL_comment_r1 ++ (wsL_comment_r2 ++ wsL_comment_r3)) ++ wsX40 ++ wsX20 ++ wsX30 ++ wsX10 ++ (vx_atM "java/lang/ArrayIndexOutOfBoundsException" ["java/lang/IndexOutOfBoundsException", "java/lang/RuntimeException", "java/lang/Exception"]).filter goodWord ++ (vx_atS RX4 99 "java/lang/IllegalStateException" ["java/lang/RuntimeException", "java/lang/Exception"]).filter goodWord ++ (vx_atS RX4 186 "java/lang/IllegalArgumentException" ["java/lang/RuntimeException", "java/lang/Exception"]).filter goodWord ++ (vx_atS RX4 142 "java/lang/IndexOutOfBoundsException" ["java/lang/RuntimeException", "java/lang/Exception"]).filter goodWord)
def wsL_answer : List Cond := .codeWith yL_answer cL_answer 4 (some .int) [(0, 9, 12, 13)] :: ([.classLink RL 13 "java/lang/IndexOutOfBoundsException", .methodLink RL 30 yX4_answer, .instanceMethod yX4_answer, .selects RX4 yX4_answer yX4_answer, .initialized RX4, .code yX4_answer cX4_answer 2 (some .int), .fieldLink RX4 41 "MarginDesk" "openSet" "I", .fieldLink RX4 37 "MarginDesk" "answerCounts" "[I", .methodLink RX4 116 yX4_checkComment, .instanceMethod yX4_checkComment, .selects RX4 yX4_checkComment yX4_checkComment, .code yX4_checkComment cX4_checkComment 2 none, .classLink RX4 138 "java/lang/IndexOutOfBoundsException", .initialized "java/lang/IndexOutOfBoundsException", .fieldLink RX4 19 "MarginDesk" "commentRanges" "LMarginDesk$Ranges;", .methodLink RX4 110 yX4_bit, .static yX4_bit, .code yX4_bit cX4_bit 1 (some .int)] ++ wsX40 ++ wsX20 ++ (vx_atM "java/lang/ArrayIndexOutOfBoundsException" ["java/lang/IndexOutOfBoundsException", "java/lang/RuntimeException", "java/lang/Exception"]).filter goodWord ++ (vx_atS RX4 142 "java/lang/IndexOutOfBoundsException" ["java/lang/RuntimeException", "java/lang/Exception"]).filter goodWord)
def wsL_resolve : List Cond := .codeWith yL_resolve cL_resolve 4 (some .int) [(0, 16, 19, 13)] :: ([.classLink RL 13 "java/lang/IndexOutOfBoundsException", .methodLink RL 33 yX4_resolve, .instanceMethod yX4_resolve, .selects RX4 yX4_resolve yX4_resolve, .initialized RX4, .code yX4_resolve cX4_resolve 3 (some .boolean), .fieldLink RX4 41 "MarginDesk" "openSet" "I", .methodLink RX4 116 yX4_checkComment, .instanceMethod yX4_checkComment, .selects RX4 yX4_checkComment yX4_checkComment, .code yX4_checkComment cX4_checkComment 2 none, .classLink RX4 138 "java/lang/IndexOutOfBoundsException", .initialized "java/lang/IndexOutOfBoundsException", .fieldLink RX4 19 "MarginDesk" "commentRanges" "LMarginDesk$Ranges;", .methodLink RX4 110 yX4_bit, .static yX4_bit, .code yX4_bit cX4_bit 1 (some .int)] ++ wsX40 ++ wsX20 ++ (vx_atM "java/lang/ArrayIndexOutOfBoundsException" ["java/lang/IndexOutOfBoundsException", "java/lang/RuntimeException", "java/lang/Exception"]).filter goodWord ++ (vx_atS RX4 142 "java/lang/IndexOutOfBoundsException" ["java/lang/RuntimeException", "java/lang/Exception"]).filter goodWord)
def wsL_find_r1 : List Cond := [Cond.classLink RL 13 "java/lang/IndexOutOfBoundsException", Cond.classLink RL 17 "java/lang/IllegalStateException", Cond.methodLink RL 37 yX4_find, Cond.instanceMethod yX4_find, Cond.selects RX4 yX4_find yX4_find, Cond.initialized RX4, Cond.code yX4_find cX4_find 4 (some .int), Cond.classLink RX4 95 "java/lang/IllegalStateException", Cond.initialized "java/lang/IllegalStateException", Cond.fieldLink RX4 19 "MarginDesk" "commentRanges" "LMarginDesk$Ranges;", Cond.fieldLink RX4 26 "MarginDesk" "quotes" "LMarginDesk$Quotes;", Cond.fieldLink RX4 10 "MarginDesk" "text" "LMarginDesk$Text;", Cond.methodLink RX4 116 yX4_checkComment, Cond.instanceMethod yX4_checkComment, Cond.selects RX4 yX4_checkComment yX4_checkComment, Cond.code yX4_checkComment cX4_checkComment 2 none, Cond.classLink RX4 138 "java/lang/IndexOutOfBoundsException", Cond.initialized "java/lang/IndexOutOfBoundsException", Cond.instanceMethod yX2_isGone, Cond.initialized RX2, Cond.selects RX2 yX2_isGone yX2_isGone, Cond.code yX2_isGone cX2_isGone 2 (some .boolean), Cond.fieldLink RX2 9 "MarginDesk$Ranges" "begins" "[I", Cond.instanceMethod yX1_bestPlace]
def wsL_find_r2 : List Cond := [Cond.initialized RX1, Cond.selects RX1 yX1_bestPlace yX1_bestPlace, Cond.code yX1_bestPlace cX1_bestPlace 7 (some .int), Cond.fieldLink RX1 15 "MarginDesk$Quotes" "sizes" "[I", Cond.methodLink RX1 41 yX1_standsAt, Cond.instanceMethod yX1_standsAt, Cond.selects RX1 yX1_standsAt yX1_standsAt, Cond.code yX1_standsAt cX1_standsAt 5 (some .boolean), Cond.fieldLink RX1 9 "MarginDesk$Quotes" "letters" "[I", Cond.methodLink RX1 45 yX1_fitAt, Cond.instanceMethod yX1_fitAt, Cond.selects RX1 yX1_fitAt yX1_fitAt, Cond.code yX1_fitAt cX1_fitAt 6 (some .int), Cond.fieldLink RX1 18 "MarginDesk$Quotes" "aheads" "[I", Cond.fieldLink RX1 21 "MarginDesk$Quotes" "behinds" "[I", Cond.instanceMethod yX3_letterBehind, Cond.initialized RX3, Cond.selects RX3 yX3_letterBehind yX3_letterBehind, Cond.code yX3_letterBehind cX3_letterBehind 2 (some .int), Cond.fieldLink RX3 9 "MarginDesk$Text" "letters" "[I", Cond.methodLink RX3 22 yX3_hasLetterBehind, Cond.instanceMethod yX3_hasLetterBehind, Cond.selects RX3 yX3_hasLetterBehind yX3_hasLetterBehind, Cond.code yX3_hasLetterBehind cX3_hasLetterBehind 2 (some .boolean)]
def wsL_find_r3 : List Cond := [Cond.fieldLink RX3 18 "MarginDesk$Text" "size" "I", Cond.instanceMethod yX1_sizeOf, Cond.selects RX1 yX1_sizeOf yX1_sizeOf, Cond.code yX1_sizeOf cX1_sizeOf 2 (some .int), Cond.instanceMethod yX2_bringBack, Cond.selects RX2 yX2_bringBack yX2_bringBack, Cond.code yX2_bringBack cX2_bringBack 4 none, Cond.fieldLink RX2 15 "MarginDesk$Ranges" "ends" "[I", Cond.methodLink RX4 110 yX4_bit, Cond.static yX4_bit, Cond.code yX4_bit cX4_bit 1 (some .int), Cond.instanceMethod yX3_mark, Cond.selects RX3 yX3_mark yX3_mark, Cond.code yX3_mark cX3_mark 5 none, Cond.fieldLink RX3 15 "MarginDesk$Text" "marks" "[I"]
def wsL_find : List Cond := .codeWith yL_find cL_find 4 (some .int) [(0, 9, 12, 13), (0, 9, 15, 17)] :: ((wsL_find_r1 ++ (wsL_find_r2 ++ wsL_find_r3)) ++ wsX40 ++ wsX20 ++ wsX30 ++ wsX10 ++ (vx_atM "java/lang/ArrayIndexOutOfBoundsException" ["java/lang/IndexOutOfBoundsException", "java/lang/RuntimeException", "java/lang/Exception"]).filter goodWord ++ (vx_atS RX4 99 "java/lang/IllegalStateException" ["java/lang/RuntimeException", "java/lang/Exception"]).filter goodWord ++ (vx_atS RX4 142 "java/lang/IndexOutOfBoundsException" ["java/lang/RuntimeException", "java/lang/Exception"]).filter goodWord)
def wsL_rangeOf : List Cond := .codeWith yL_rangeOf cL_rangeOf 4 (some .int) [(0, 9, 12, 13)] :: ([.classLink RL 13 "java/lang/IndexOutOfBoundsException", .methodLink RL 40 yX4_rangeOf, .instanceMethod yX4_rangeOf, .selects RX4 yX4_rangeOf yX4_rangeOf, .initialized RX4, .code yX4_rangeOf cX4_rangeOf 2 (some .int), .fieldLink RX4 19 "MarginDesk" "commentRanges" "LMarginDesk$Ranges;", .methodLink RX4 116 yX4_checkComment, .instanceMethod yX4_checkComment, .selects RX4 yX4_checkComment yX4_checkComment, .code yX4_checkComment cX4_checkComment 2 none, .classLink RX4 138 "java/lang/IndexOutOfBoundsException", .initialized "java/lang/IndexOutOfBoundsException", .instanceMethod yX2_asNumber, .initialized RX2, .selects RX2 yX2_asNumber yX2_asNumber, .code yX2_asNumber cX2_asNumber 2 (some .int), .fieldLink RX2 9 "MarginDesk$Ranges" "begins" "[I", .fieldLink RX2 15 "MarginDesk$Ranges" "ends" "[I", .methodLink RX2 25 yX2_isGone, .instanceMethod yX2_isGone, .selects RX2 yX2_isGone yX2_isGone, .code yX2_isGone cX2_isGone 2 (some .boolean)] ++ wsX40 ++ wsX20 ++ (vx_atM "java/lang/ArrayIndexOutOfBoundsException" ["java/lang/IndexOutOfBoundsException", "java/lang/RuntimeException", "java/lang/Exception"]).filter goodWord ++ (vx_atS RX4 142 "java/lang/IndexOutOfBoundsException" ["java/lang/RuntimeException", "java/lang/Exception"]).filter goodWord)
def wsL_rangeThen_r1 : List Cond := [Cond.classLink RL 13 "java/lang/IndexOutOfBoundsException", Cond.methodLink RL 43 yX4_rangeThen, Cond.instanceMethod yX4_rangeThen, Cond.selects RX4 yX4_rangeThen yX4_rangeThen, Cond.initialized RX4, Cond.code yX4_rangeThen cX4_rangeThen 3 (some .int), Cond.classLink RX4 138 "java/lang/IndexOutOfBoundsException", Cond.initialized "java/lang/IndexOutOfBoundsException", Cond.fieldLink RX4 45 "MarginDesk" "edits" "I", Cond.fieldLink RX4 19 "MarginDesk" "commentRanges" "LMarginDesk$Ranges;", Cond.fieldLink RX4 33 "MarginDesk" "history" "LMarginDesk$History;", Cond.methodLink RX4 116 yX4_checkComment, Cond.instanceMethod yX4_checkComment, Cond.selects RX4 yX4_checkComment yX4_checkComment, Cond.code yX4_checkComment cX4_checkComment 2 none, Cond.instanceMethod yX2_asNumber, Cond.initialized RX2, Cond.selects RX2 yX2_asNumber yX2_asNumber, Cond.code yX2_asNumber cX2_asNumber 2 (some .int), Cond.fieldLink RX2 9 "MarginDesk$Ranges" "begins" "[I", Cond.fieldLink RX2 15 "MarginDesk$Ranges" "ends" "[I", Cond.methodLink RX2 25 yX2_isGone, Cond.instanceMethod yX2_isGone, Cond.selects RX2 yX2_isGone yX2_isGone]
def wsL_rangeThen_r2 : List Cond := [Cond.code yX2_isGone cX2_isGone 2 (some .boolean), Cond.instanceMethod yX0_rangeAt, Cond.initialized RX0, Cond.selects RX0 yX0_rangeAt yX0_rangeAt, Cond.code yX0_rangeAt cX0_rangeAt 3 (some .int), Cond.fieldLink RX0 9 "MarginDesk$History" "ranges" "[I"]
def wsL_rangeThen : List Cond := .codeWith yL_rangeThen cL_rangeThen 5 (some .int) [(0, 10, 13, 13)] :: ((wsL_rangeThen_r1 ++ wsL_rangeThen_r2) ++ wsX40 ++ wsX20 ++ wsX00 ++ (vx_atM "java/lang/ArrayIndexOutOfBoundsException" ["java/lang/IndexOutOfBoundsException", "java/lang/RuntimeException", "java/lang/Exception"]).filter goodWord ++ (vx_atS RX4 142 "java/lang/IndexOutOfBoundsException" ["java/lang/RuntimeException", "java/lang/Exception"]).filter goodWord)
def wsL_cover : List Cond := .codeWith yL_cover cL_cover 4 (some .int) [(0, 9, 12, 13)] :: ([.classLink RL 13 "java/lang/IndexOutOfBoundsException", .methodLink RL 46 yX4_cover, .instanceMethod yX4_cover, .selects RX4 yX4_cover yX4_cover, .initialized RX4, .code yX4_cover cX4_cover 2 (some .int), .fieldLink RX4 19 "MarginDesk" "commentRanges" "LMarginDesk$Ranges;", .methodLink RX4 60 yX4_checkPlace, .instanceMethod yX4_checkPlace, .selects RX4 yX4_checkPlace yX4_checkPlace, .code yX4_checkPlace cX4_checkPlace 2 none, .classLink RX4 138 "java/lang/IndexOutOfBoundsException", .initialized "java/lang/IndexOutOfBoundsException", .fieldLink RX4 10 "MarginDesk" "text" "LMarginDesk$Text;", .instanceMethod yX2_covering, .initialized RX2, .selects RX2 yX2_covering yX2_covering, .code yX2_covering cX2_covering 4 (some .int), .fieldLink RX2 21 "MarginDesk$Ranges" "count" "I", .fieldLink RX2 9 "MarginDesk$Ranges" "begins" "[I", .fieldLink RX2 15 "MarginDesk$Ranges" "ends" "[I", .static yX4_bit, .code yX4_bit cX4_bit 1 (some .int)] ++ wsX40 ++ wsX30 ++ wsX20 ++ (vx_atM "java/lang/ArrayIndexOutOfBoundsException" ["java/lang/IndexOutOfBoundsException", "java/lang/RuntimeException", "java/lang/Exception"]).filter goodWord ++ (vx_atS RX4 142 "java/lang/IndexOutOfBoundsException" ["java/lang/RuntimeException", "java/lang/Exception"]).filter goodWord)
def wsL_coverByLetters : List Cond := .codeWith yL_coverByLetters cL_coverByLetters 4 (some .int) [(0, 9, 12, 13)] :: ([.classLink RL 13 "java/lang/IndexOutOfBoundsException", .methodLink RL 49 yX4_coverByLetters, .instanceMethod yX4_coverByLetters, .selects RX4 yX4_coverByLetters yX4_coverByLetters, .initialized RX4, .code yX4_coverByLetters cX4_coverByLetters 2 (some .int), .fieldLink RX4 10 "MarginDesk" "text" "LMarginDesk$Text;", .methodLink RX4 60 yX4_checkPlace, .instanceMethod yX4_checkPlace, .selects RX4 yX4_checkPlace yX4_checkPlace, .code yX4_checkPlace cX4_checkPlace 2 none, .classLink RX4 138 "java/lang/IndexOutOfBoundsException", .initialized "java/lang/IndexOutOfBoundsException", .instanceMethod yX3_marksBehind, .initialized RX3, .selects RX3 yX3_marksBehind yX3_marksBehind, .code yX3_marksBehind cX3_marksBehind 2 (some .int), .fieldLink RX3 15 "MarginDesk$Text" "marks" "[I", .methodLink RX3 22 yX3_hasLetterBehind, .instanceMethod yX3_hasLetterBehind, .selects RX3 yX3_hasLetterBehind yX3_hasLetterBehind, .code yX3_hasLetterBehind cX3_hasLetterBehind 2 (some .boolean), .fieldLink RX3 18 "MarginDesk$Text" "size" "I"] ++ wsX40 ++ wsX30 ++ (vx_atM "java/lang/ArrayIndexOutOfBoundsException" ["java/lang/IndexOutOfBoundsException", "java/lang/RuntimeException", "java/lang/Exception"]).filter goodWord ++ (vx_atS RX4 142 "java/lang/IndexOutOfBoundsException" ["java/lang/RuntimeException", "java/lang/Exception"]).filter goodWord)
def wsL_pieceAt : List Cond := .codeWith yL_pieceAt cL_pieceAt 4 (some .int) [(0, 9, 12, 13)] :: ([.classLink RL 13 "java/lang/IndexOutOfBoundsException", .methodLink RL 52 yX4_pieceAt, .instanceMethod yX4_pieceAt, .selects RX4 yX4_pieceAt yX4_pieceAt, .initialized RX4, .code yX4_pieceAt cX4_pieceAt 4 (some .int), .classLink RX4 138 "java/lang/IndexOutOfBoundsException", .initialized "java/lang/IndexOutOfBoundsException", .fieldLink RX4 10 "MarginDesk" "text" "LMarginDesk$Text;", .methodLink RX4 152 yX4_beginsPiece, .instanceMethod yX4_beginsPiece, .selects RX4 yX4_beginsPiece yX4_beginsPiece, .code yX4_beginsPiece cX4_beginsPiece 2 (some .boolean), .fieldLink RX4 19 "MarginDesk" "commentRanges" "LMarginDesk$Ranges;", .instanceMethod yX2_covering, .initialized RX2, .selects RX2 yX2_covering yX2_covering, .code yX2_covering cX2_covering 4 (some .int), .fieldLink RX2 21 "MarginDesk$Ranges" "count" "I", .fieldLink RX2 9 "MarginDesk$Ranges" "begins" "[I", .fieldLink RX2 15 "MarginDesk$Ranges" "ends" "[I", .static yX4_bit, .code yX4_bit cX4_bit 1 (some .int)] ++ wsX40 ++ wsX30 ++ wsX20 ++ (vx_atM "java/lang/ArrayIndexOutOfBoundsException" ["java/lang/IndexOutOfBoundsException", "java/lang/RuntimeException", "java/lang/Exception"]).filter goodWord ++ (vx_atS RX4 142 "java/lang/IndexOutOfBoundsException" ["java/lang/RuntimeException", "java/lang/Exception"]).filter goodWord)
def wsL_suggest_r1 : List Cond := [Cond.classLink RL 13 "java/lang/IndexOutOfBoundsException", Cond.classLink RL 15 "java/lang/IllegalArgumentException", Cond.classLink RL 17 "java/lang/IllegalStateException", Cond.methodLink RL 55 yX4_suggest, Cond.instanceMethod yX4_suggest, Cond.selects RX4 yX4_suggest yX4_suggest, Cond.initialized RX4, Cond.code yX4_suggest cX4_suggest 6 (some .int), Cond.classLink RX4 95 "java/lang/IllegalStateException", Cond.initialized "java/lang/IllegalStateException", Cond.fieldLink RX4 48 "MarginDesk" "suggestionRanges" "LMarginDesk$Ranges;", Cond.fieldLink RX4 51 "MarginDesk" "suggestedLetters" "[I", Cond.fieldLink RX4 54 "MarginDesk" "suggestedCounts" "[I", Cond.fieldLink RX4 57 "MarginDesk" "states" "[I", Cond.methodLink RX4 89 yX4_checkRange, Cond.instanceMethod yX4_checkRange, Cond.selects RX4 yX4_checkRange yX4_checkRange, Cond.code yX4_checkRange cX4_checkRange 3 none, Cond.classLink RX4 182 "java/lang/IllegalArgumentException", Cond.initialized "java/lang/IllegalArgumentException", Cond.methodLink RX4 60 yX4_checkPlace, Cond.instanceMethod yX4_checkPlace, Cond.selects RX4 yX4_checkPlace yX4_checkPlace, Cond.code yX4_checkPlace cX4_checkPlace 2 none]
def wsL_suggest_r2 : List Cond := [Cond.classLink RX4 138 "java/lang/IndexOutOfBoundsException", Cond.initialized "java/lang/IndexOutOfBoundsException", Cond.fieldLink RX4 10 "MarginDesk" "text" "LMarginDesk$Text;", Cond.methodLink RX4 64 yX4_checkLetter, Cond.instanceMethod yX4_checkLetter, Cond.selects RX4 yX4_checkLetter yX4_checkLetter, Cond.code yX4_checkLetter cX4_checkLetter 2 none, Cond.methodLink RX4 67 yX4_checkAmong, Cond.instanceMethod yX4_checkAmong, Cond.selects RX4 yX4_checkAmong yX4_checkAmong, Cond.code yX4_checkAmong cX4_checkAmong 4 none, Cond.instanceMethod yX2_add, Cond.initialized RX2, Cond.selects RX2 yX2_add yX2_add, Cond.code yX2_add cX2_add 5 (some .int), Cond.fieldLink RX2 21 "MarginDesk$Ranges" "count" "I", Cond.fieldLink RX2 9 "MarginDesk$Ranges" "begins" "[I", Cond.fieldLink RX2 15 "MarginDesk$Ranges" "ends" "[I", Cond.fieldLink RX2 18 "MarginDesk$Ranges" "stickiness" "[I"]
def wsL_suggest : List Cond := .codeWith yL_suggest cL_suggest 7 (some .int) [(0, 14, 17, 13), (0, 14, 21, 15), (0, 14, 25, 17)] :: ((wsL_suggest_r1 ++ wsL_suggest_r2) ++ wsX40 ++ wsX20 ++ wsX30 ++ (vx_atM "java/lang/ArrayIndexOutOfBoundsException" ["java/lang/IndexOutOfBoundsException", "java/lang/RuntimeException", "java/lang/Exception"]).filter goodWord ++ (vx_atS RX4 99 "java/lang/IllegalStateException" ["java/lang/RuntimeException", "java/lang/Exception"]).filter goodWord ++ (vx_atS RX4 186 "java/lang/IllegalArgumentException" ["java/lang/RuntimeException", "java/lang/Exception"]).filter goodWord ++ (vx_atS RX4 142 "java/lang/IndexOutOfBoundsException" ["java/lang/RuntimeException", "java/lang/Exception"]).filter goodWord)
def wsL_accept_r1 : List Cond := [Cond.classLink RL 13 "java/lang/IndexOutOfBoundsException", Cond.classLink RL 17 "java/lang/IllegalStateException", Cond.methodLink RL 59 yX4_accept, Cond.instanceMethod yX4_accept, Cond.selects RX4 yX4_accept yX4_accept, Cond.initialized RX4, Cond.code yX4_accept cX4_accept 5 (some .int), Cond.classLink RX4 95 "java/lang/IllegalStateException", Cond.initialized "java/lang/IllegalStateException", Cond.fieldLink RX4 48 "MarginDesk" "suggestionRanges" "LMarginDesk$Ranges;", Cond.fieldLink RX4 54 "MarginDesk" "suggestedCounts" "[I", Cond.fieldLink RX4 57 "MarginDesk" "states" "[I", Cond.fieldLink RX4 51 "MarginDesk" "suggestedLetters" "[I", Cond.fieldLink RX4 10 "MarginDesk" "text" "LMarginDesk$Text;", Cond.methodLink RX4 159 yX4_checkSuggestion, Cond.instanceMethod yX4_checkSuggestion, Cond.selects RX4 yX4_checkSuggestion yX4_checkSuggestion, Cond.code yX4_checkSuggestion cX4_checkSuggestion 2 none, Cond.classLink RX4 138 "java/lang/IndexOutOfBoundsException", Cond.initialized "java/lang/IndexOutOfBoundsException", Cond.methodLink RX4 162 yX4_checkWaiting, Cond.instanceMethod yX4_checkWaiting, Cond.selects RX4 yX4_checkWaiting yX4_checkWaiting, Cond.code yX4_checkWaiting cX4_checkWaiting 2 none]
def wsL_accept_r2 : List Cond := [Cond.methodLink RX4 165 yX4_overlapping, Cond.instanceMethod yX4_overlapping, Cond.selects RX4 yX4_overlapping yX4_overlapping, Cond.code yX4_overlapping cX4_overlapping 4 (some .int), Cond.instanceMethod yX2_share, Cond.initialized RX2, Cond.selects RX2 yX2_share yX2_share, Cond.code yX2_share cX2_share 3 (some .boolean), Cond.fieldLink RX2 9 "MarginDesk$Ranges" "begins" "[I", Cond.methodLink RX2 33 Lib.Math.max.name, Cond.static Lib.Math.max.name, Cond.initialized "java/lang/Math", Cond.code Lib.Math.max.name Lib.Math.max.code 2 (some .int), Cond.fieldLink RX2 15 "MarginDesk$Ranges" "ends" "[I", Cond.methodLink RX2 39 Lib.Math.min.name, Cond.static Lib.Math.min.name, Cond.code Lib.Math.min.name Lib.Math.min.code 2 (some .int), Cond.methodLink RX4 110 yX4_bit, Cond.static yX4_bit, Cond.code yX4_bit cX4_bit 1 (some .int), Cond.methodLink RX4 71 yX4_checkRoom, Cond.instanceMethod yX4_checkRoom, Cond.selects RX4 yX4_checkRoom yX4_checkRoom, Cond.code yX4_checkRoom cX4_checkRoom 3 none]
def wsL_accept_r3 : List Cond := [Cond.fieldLink RX4 45 "MarginDesk" "edits" "I", Cond.methodLink RX4 81 yX4_takeLettersOut, Cond.instanceMethod yX4_takeLettersOut, Cond.selects RX4 yX4_takeLettersOut yX4_takeLettersOut, Cond.code yX4_takeLettersOut cX4_takeLettersOut 4 (some .int), Cond.fieldLink RX4 19 "MarginDesk" "commentRanges" "LMarginDesk$Ranges;", Cond.methodLink RX4 199 yX4_leaveVersion, Cond.instanceMethod yX4_leaveVersion, Cond.selects RX4 yX4_leaveVersion yX4_leaveVersion, Cond.code yX4_leaveVersion cX4_leaveVersion 1 none, Cond.fieldLink RX4 33 "MarginDesk" "history" "LMarginDesk$History;", Cond.instanceMethod yX0_write, Cond.initialized RX0, Cond.selects RX0 yX0_write yX0_write, Cond.code yX0_write cX0_write 5 none, Cond.fieldLink RX0 9 "MarginDesk$History" "ranges" "[I", Cond.instanceMethod yX2_asNumber, Cond.selects RX2 yX2_asNumber yX2_asNumber, Cond.code yX2_asNumber cX2_asNumber 2 (some .int), Cond.methodLink RX2 25 yX2_isGone, Cond.instanceMethod yX2_isGone, Cond.selects RX2 yX2_isGone yX2_isGone, Cond.code yX2_isGone cX2_isGone 2 (some .boolean), Cond.instanceMethod yX2_moveByRemoval]
def wsL_accept_r4 : List Cond := [Cond.selects RX2 yX2_moveByRemoval yX2_moveByRemoval, Cond.code yX2_moveByRemoval cX2_moveByRemoval 5 (some .int), Cond.fieldLink RX2 21 "MarginDesk$Ranges" "count" "I", Cond.methodLink RX2 46 yX2_behindRemoval, Cond.static yX2_behindRemoval, Cond.code yX2_behindRemoval cX2_behindRemoval 3 (some .int), Cond.methodLink RX4 211 yX4_letGo, Cond.instanceMethod yX4_letGo, Cond.selects RX4 yX4_letGo yX4_letGo, Cond.code yX4_letGo cX4_letGo 3 none, Cond.instanceMethod yX3_takeOut, Cond.initialized RX3, Cond.selects RX3 yX3_takeOut yX3_takeOut, Cond.code yX3_takeOut cX3_takeOut 3 none, Cond.methodLink RX3 26 yX3_moveTail, Cond.instanceMethod yX3_moveTail, Cond.selects RX3 yX3_moveTail yX3_moveTail, Cond.code yX3_moveTail cX3_moveTail 4 none, Cond.fieldLink RX3 18 "MarginDesk$Text" "size" "I", Cond.fieldLink RX3 9 "MarginDesk$Text" "letters" "[I", Cond.methodLink RX3 36 arraycopyName, Cond.native arraycopyName, Cond.static arraycopyName, Cond.initialized "java/lang/System"]
def wsL_accept_r5 : List Cond := [Cond.fieldLink RX3 15 "MarginDesk$Text" "marks" "[I", Cond.methodLink RX4 217 yJ6_bitCount_0f7a4, Cond.static yJ6_bitCount_0f7a4, Cond.initialized RJ6, Cond.code yJ6_bitCount_0f7a4 cJ6_bitCount_0f7a4 1 (some .int), Cond.constant RJ6 265 (1431655765), Cond.constant RJ6 266 (858993459), Cond.constant RJ6 267 (252645135), Cond.methodLink RX4 75 yX4_putLettersIn, Cond.instanceMethod yX4_putLettersIn, Cond.selects RX4 yX4_putLettersIn yX4_putLettersIn, Cond.code yX4_putLettersIn cX4_putLettersIn 4 none, Cond.instanceMethod yX2_moveByInsertion, Cond.selects RX2 yX2_moveByInsertion yX2_moveByInsertion, Cond.code yX2_moveByInsertion cX2_moveByInsertion 6 none, Cond.fieldLink RX2 18 "MarginDesk$Ranges" "stickiness" "[I", Cond.methodLink RX2 42 yX2_behindInsertion, Cond.static yX2_behindInsertion, Cond.code yX2_behindInsertion cX2_behindInsertion 5 (some .int), Cond.instanceMethod yX3_putIn, Cond.selects RX3 yX3_putIn yX3_putIn, Cond.code yX3_putIn cX3_putIn 4 none, Cond.methodLink RX3 30 yJ7_fill_fda19, Cond.static yJ7_fill_fda19]
def wsL_accept_r6 : List Cond := [Cond.initialized RJ7, Cond.code yJ7_fill_fda19 cJ7_fill_fda19 5 none, Cond.methodLink RJ7 13 yJ7_rangeCheck_23922, Cond.static yJ7_rangeCheck_23922, Cond.code yJ7_rangeCheck_23922 cJ7_rangeCheck_23922 3 none, Cond.classLink RJ7 45 RJ4, Cond.instantiable RJ4 4, Cond.initialized RJ4, Cond.classLink RJ7 68 RJx00060, Cond.instantiable RJx00060 6, Cond.initialized RJx00060, Cond.instanceMethod yX2_covering, Cond.selects RX2 yX2_covering yX2_covering, Cond.code yX2_covering cX2_covering 4 (some .int), Cond.instanceMethod yX3_mark, Cond.selects RX3 yX3_mark yX3_mark, Cond.code yX3_mark cX3_mark 5 none]
def wsL_accept : List Cond := .codeWith yL_accept cL_accept 4 (some .int) [(0, 9, 12, 13), (0, 9, 15, 17)] :: ((wsL_accept_r1 ++ (wsL_accept_r2 ++ (wsL_accept_r3 ++ (wsL_accept_r4 ++ (wsL_accept_r5 ++ wsL_accept_r6))))) ++ wsX40 ++ wsX20 ++ wsX30 ++ wsX00 ++ wsJ40 ++ wsJx000600 ++ (vx_atM "java/lang/ArrayIndexOutOfBoundsException" ["java/lang/IndexOutOfBoundsException", "java/lang/RuntimeException", "java/lang/Exception"]).filter goodWord ++ (vx_atS RX4 99 "java/lang/IllegalStateException" ["java/lang/RuntimeException", "java/lang/Exception"]).filter goodWord ++ (vx_atS RX4 142 "java/lang/IndexOutOfBoundsException" ["java/lang/RuntimeException", "java/lang/Exception"]).filter goodWord)
def wsL_reject_r1 : List Cond := [Cond.classLink RL 13 "java/lang/IndexOutOfBoundsException", Cond.classLink RL 17 "java/lang/IllegalStateException", Cond.methodLink RL 62 yX4_reject, Cond.instanceMethod yX4_reject, Cond.selects RX4 yX4_reject yX4_reject, Cond.initialized RX4, Cond.code yX4_reject cX4_reject 2 (some .int), Cond.fieldLink RX4 57 "MarginDesk" "states" "[I", Cond.methodLink RX4 159 yX4_checkSuggestion, Cond.instanceMethod yX4_checkSuggestion, Cond.selects RX4 yX4_checkSuggestion yX4_checkSuggestion, Cond.code yX4_checkSuggestion cX4_checkSuggestion 2 none, Cond.classLink RX4 138 "java/lang/IndexOutOfBoundsException", Cond.initialized "java/lang/IndexOutOfBoundsException", Cond.fieldLink RX4 48 "MarginDesk" "suggestionRanges" "LMarginDesk$Ranges;", Cond.methodLink RX4 162 yX4_checkWaiting, Cond.instanceMethod yX4_checkWaiting, Cond.selects RX4 yX4_checkWaiting yX4_checkWaiting, Cond.code yX4_checkWaiting cX4_checkWaiting 2 none, Cond.classLink RX4 95 "java/lang/IllegalStateException", Cond.initialized "java/lang/IllegalStateException", Cond.methodLink RX4 176 yX4_countWaiting, Cond.instanceMethod yX4_countWaiting, Cond.selects RX4 yX4_countWaiting yX4_countWaiting]
def wsL_reject_r2 : List Cond := [Cond.code yX4_countWaiting cX4_countWaiting 3 (some .int)]
def wsL_reject : List Cond := .codeWith yL_reject cL_reject 4 (some .int) [(0, 9, 12, 13), (0, 9, 15, 17)] :: ((wsL_reject_r1 ++ wsL_reject_r2) ++ wsX40 ++ wsX20 ++ (vx_atM "java/lang/ArrayIndexOutOfBoundsException" ["java/lang/IndexOutOfBoundsException", "java/lang/RuntimeException", "java/lang/Exception"]).filter goodWord ++ (vx_atS RX4 142 "java/lang/IndexOutOfBoundsException" ["java/lang/RuntimeException", "java/lang/Exception"]).filter goodWord ++ (vx_atS RX4 99 "java/lang/IllegalStateException" ["java/lang/RuntimeException", "java/lang/Exception"]).filter goodWord)
def wsL_stateOf : List Cond := .codeWith yL_stateOf cL_stateOf 4 (some .int) [(0, 9, 12, 13)] :: ([.classLink RL 13 "java/lang/IndexOutOfBoundsException", .methodLink RL 65 yX4_stateOf, .instanceMethod yX4_stateOf, .selects RX4 yX4_stateOf yX4_stateOf, .initialized RX4, .code yX4_stateOf cX4_stateOf 2 (some .int), .fieldLink RX4 57 "MarginDesk" "states" "[I", .methodLink RX4 159 yX4_checkSuggestion, .instanceMethod yX4_checkSuggestion, .selects RX4 yX4_checkSuggestion yX4_checkSuggestion, .code yX4_checkSuggestion cX4_checkSuggestion 2 none, .classLink RX4 138 "java/lang/IndexOutOfBoundsException", .initialized "java/lang/IndexOutOfBoundsException", .fieldLink RX4 48 "MarginDesk" "suggestionRanges" "LMarginDesk$Ranges;"] ++ wsX40 ++ wsX20 ++ (vx_atM "java/lang/ArrayIndexOutOfBoundsException" ["java/lang/IndexOutOfBoundsException", "java/lang/RuntimeException", "java/lang/Exception"]).filter goodWord ++ (vx_atS RX4 142 "java/lang/IndexOutOfBoundsException" ["java/lang/RuntimeException", "java/lang/Exception"]).filter goodWord)
def wsL_overlaps_r1 : List Cond := [Cond.classLink RL 13 "java/lang/IndexOutOfBoundsException", Cond.methodLink RL 68 yX4_overlaps, Cond.instanceMethod yX4_overlaps, Cond.selects RX4 yX4_overlaps yX4_overlaps, Cond.initialized RX4, Cond.code yX4_overlaps cX4_overlaps 2 (some .int), Cond.methodLink RX4 159 yX4_checkSuggestion, Cond.instanceMethod yX4_checkSuggestion, Cond.selects RX4 yX4_checkSuggestion yX4_checkSuggestion, Cond.code yX4_checkSuggestion cX4_checkSuggestion 2 none, Cond.classLink RX4 138 "java/lang/IndexOutOfBoundsException", Cond.initialized "java/lang/IndexOutOfBoundsException", Cond.fieldLink RX4 48 "MarginDesk" "suggestionRanges" "LMarginDesk$Ranges;", Cond.methodLink RX4 165 yX4_overlapping, Cond.instanceMethod yX4_overlapping, Cond.selects RX4 yX4_overlapping yX4_overlapping, Cond.code yX4_overlapping cX4_overlapping 4 (some .int), Cond.fieldLink RX4 57 "MarginDesk" "states" "[I", Cond.instanceMethod yX2_share, Cond.initialized RX2, Cond.selects RX2 yX2_share yX2_share, Cond.code yX2_share cX2_share 3 (some .boolean), Cond.fieldLink RX2 9 "MarginDesk$Ranges" "begins" "[I", Cond.methodLink RX2 33 Lib.Math.max.name]
def wsL_overlaps_r2 : List Cond := [Cond.static Lib.Math.max.name, Cond.initialized "java/lang/Math", Cond.code Lib.Math.max.name Lib.Math.max.code 2 (some .int), Cond.fieldLink RX2 15 "MarginDesk$Ranges" "ends" "[I", Cond.methodLink RX2 39 Lib.Math.min.name, Cond.static Lib.Math.min.name, Cond.code Lib.Math.min.name Lib.Math.min.code 2 (some .int), Cond.methodLink RX4 110 yX4_bit, Cond.static yX4_bit, Cond.code yX4_bit cX4_bit 1 (some .int)]
def wsL_overlaps : List Cond := .codeWith yL_overlaps cL_overlaps 4 (some .int) [(0, 9, 12, 13)] :: ((wsL_overlaps_r1 ++ wsL_overlaps_r2) ++ wsX40 ++ wsX20 ++ (vx_atM "java/lang/ArrayIndexOutOfBoundsException" ["java/lang/IndexOutOfBoundsException", "java/lang/RuntimeException", "java/lang/Exception"]).filter goodWord ++ (vx_atS RX4 142 "java/lang/IndexOutOfBoundsException" ["java/lang/RuntimeException", "java/lang/Exception"]).filter goodWord)
def wsL_law0_r1 : List Cond := [Cond.classLink RL 8 RX4, Cond.instantiable RX4 11, Cond.initialized RX4, Cond.classLink RL 72 RX5, Cond.instantiable RX5 21, Cond.initialized RX5, Cond.arrayClass .long, Cond.methodLink RL 71 yX4_init, Cond.instanceMethod yX4_init, Cond.code yX4_init cX4_init 1 none, Cond.methodLink RX4 1 objectInit, Cond.instanceMethod objectInit, Cond.code objectInit ⟨#[0xb1]⟩ 1 none, Cond.classLink RX4 7 RX3, Cond.instantiable RX3 3, Cond.initialized RX3, Cond.fieldLink RX4 10 "MarginDesk" "text" "LMarginDesk$Text;", Cond.classLink RX4 16 RX2, Cond.instantiable RX2 4, Cond.initialized RX2, Cond.fieldLink RX4 19 "MarginDesk" "commentRanges" "LMarginDesk$Ranges;", Cond.classLink RX4 23 RX1, Cond.instantiable RX1 4, Cond.initialized RX1]
def wsL_law0_r2 : List Cond := [Cond.fieldLink RX4 26 "MarginDesk" "quotes" "LMarginDesk$Quotes;", Cond.classLink RX4 30 RX0, Cond.instantiable RX0 1, Cond.initialized RX0, Cond.fieldLink RX4 33 "MarginDesk" "history" "LMarginDesk$History;", Cond.arrayClass .int, Cond.fieldLink RX4 37 "MarginDesk" "answerCounts" "[I", Cond.fieldLink RX4 41 "MarginDesk" "openSet" "I", Cond.fieldLink RX4 45 "MarginDesk" "edits" "I", Cond.fieldLink RX4 48 "MarginDesk" "suggestionRanges" "LMarginDesk$Ranges;", Cond.fieldLink RX4 51 "MarginDesk" "suggestedLetters" "[I", Cond.fieldLink RX4 54 "MarginDesk" "suggestedCounts" "[I", Cond.fieldLink RX4 57 "MarginDesk" "states" "[I", Cond.instanceMethod yX3_init, Cond.code yX3_init cX3_init 1 none, Cond.methodLink RX3 3 objectInit, Cond.fieldLink RX3 9 "MarginDesk$Text" "letters" "[I", Cond.fieldLink RX3 15 "MarginDesk$Text" "marks" "[I", Cond.fieldLink RX3 18 "MarginDesk$Text" "size" "I", Cond.instanceMethod yX2_init, Cond.code yX2_init cX2_init 1 none, Cond.methodLink RX2 3 objectInit, Cond.fieldLink RX2 9 "MarginDesk$Ranges" "begins" "[I", Cond.fieldLink RX2 15 "MarginDesk$Ranges" "ends" "[I"]
def wsL_law0_r3 : List Cond := [Cond.fieldLink RX2 18 "MarginDesk$Ranges" "stickiness" "[I", Cond.fieldLink RX2 21 "MarginDesk$Ranges" "count" "I", Cond.instanceMethod yX1_init, Cond.code yX1_init cX1_init 1 none, Cond.methodLink RX1 3 objectInit, Cond.fieldLink RX1 9 "MarginDesk$Quotes" "letters" "[I", Cond.fieldLink RX1 15 "MarginDesk$Quotes" "sizes" "[I", Cond.fieldLink RX1 18 "MarginDesk$Quotes" "aheads" "[I", Cond.fieldLink RX1 21 "MarginDesk$Quotes" "behinds" "[I", Cond.instanceMethod yX0_init, Cond.code yX0_init cX0_init 1 none, Cond.methodLink RX0 3 objectInit, Cond.fieldLink RX0 9 "MarginDesk$History" "ranges" "[I", Cond.methodLink RL 74 yX5_init, Cond.instanceMethod yX5_init, Cond.code yX5_init cX5_init 1 none, Cond.methodLink RX5 1 objectInit, Cond.fieldLink RX5 7 "MarginDeskModel" "letters" "[I", Cond.fieldLink RX5 13 "MarginDeskModel" "from" "[I", Cond.fieldLink RX5 16 "MarginDeskModel" "to" "[I", Cond.fieldLink RX5 19 "MarginDeskModel" "sticky" "[I", Cond.arrayClass .boolean, Cond.fieldLink RX5 22 "MarginDeskModel" "open" "[Z", Cond.fieldLink RX5 26 "MarginDeskModel" "answers" "[I"]
def wsL_law0_r4 : List Cond := [Cond.fieldLink RX5 29 "MarginDeskModel" "kept" "[I", Cond.fieldLink RX5 32 "MarginDeskModel" "many" "[I", Cond.fieldLink RX5 35 "MarginDeskModel" "ahead" "[I", Cond.fieldLink RX5 38 "MarginDeskModel" "behind" "[I", Cond.fieldLink RX5 41 "MarginDeskModel" "then" "[I", Cond.fieldLink RX5 44 "MarginDeskModel" "first" "[I", Cond.fieldLink RX5 47 "MarginDeskModel" "last" "[I", Cond.fieldLink RX5 50 "MarginDeskModel" "letter" "[I", Cond.fieldLink RX5 53 "MarginDeskModel" "count" "[I", Cond.fieldLink RX5 56 "MarginDeskModel" "state" "[I", Cond.methodLink RX5 59 yX5_keeps, Cond.instanceMethod yX5_keeps, Cond.selects RX5 yX5_keeps yX5_keeps, Cond.code yX5_keeps cX5_keeps 2 none, Cond.fieldLink RX5 79 "MarginDeskModel" "edits" "I", Cond.methodLink RX5 82 yX5_told, Cond.instanceMethod yX5_told, Cond.selects RX5 yX5_told yX5_told, Cond.code yX5_told cX5_told 2 (some .int), Cond.fieldLink RX5 73 "MarginDeskModel" "comments" "I", Cond.methodLink RL 75 yL_insert, Cond.static yL_insert, Cond.initialized RL, Cond.codeWith yL_insert cL_insert 6 (some .int) [(0, 12, 15, 13), (0, 12, 19, 15), (0, 12, 23, 17)]]
def wsL_law0_r5 : List Cond := [Cond.classLink RL 13 "java/lang/IndexOutOfBoundsException", Cond.classLink RL 15 "java/lang/IllegalArgumentException", Cond.classLink RL 17 "java/lang/IllegalStateException", Cond.methodLink RL 7 yX4_insert, Cond.instanceMethod yX4_insert, Cond.selects RX4 yX4_insert yX4_insert, Cond.code yX4_insert cX4_insert 4 (some .int), Cond.methodLink RX4 60 yX4_checkPlace, Cond.instanceMethod yX4_checkPlace, Cond.selects RX4 yX4_checkPlace yX4_checkPlace, Cond.code yX4_checkPlace cX4_checkPlace 2 none, Cond.classLink RX4 138 "java/lang/IndexOutOfBoundsException", Cond.initialized "java/lang/IndexOutOfBoundsException", Cond.methodLink RX4 64 yX4_checkLetter, Cond.instanceMethod yX4_checkLetter, Cond.selects RX4 yX4_checkLetter yX4_checkLetter, Cond.code yX4_checkLetter cX4_checkLetter 2 none, Cond.methodLink RX4 67 yX4_checkAmong, Cond.instanceMethod yX4_checkAmong, Cond.selects RX4 yX4_checkAmong yX4_checkAmong, Cond.code yX4_checkAmong cX4_checkAmong 4 none, Cond.classLink RX4 182 "java/lang/IllegalArgumentException", Cond.initialized "java/lang/IllegalArgumentException", Cond.methodLink RX4 71 yX4_checkRoom]
def wsL_law0_r6 : List Cond := [Cond.instanceMethod yX4_checkRoom, Cond.selects RX4 yX4_checkRoom yX4_checkRoom, Cond.code yX4_checkRoom cX4_checkRoom 3 none, Cond.classLink RX4 95 "java/lang/IllegalStateException", Cond.initialized "java/lang/IllegalStateException", Cond.methodLink RX4 75 yX4_putLettersIn, Cond.instanceMethod yX4_putLettersIn, Cond.selects RX4 yX4_putLettersIn yX4_putLettersIn, Cond.code yX4_putLettersIn cX4_putLettersIn 4 none, Cond.methodLink RX4 199 yX4_leaveVersion, Cond.instanceMethod yX4_leaveVersion, Cond.selects RX4 yX4_leaveVersion yX4_leaveVersion, Cond.code yX4_leaveVersion cX4_leaveVersion 1 none, Cond.instanceMethod yX0_write, Cond.selects RX0 yX0_write yX0_write, Cond.code yX0_write cX0_write 5 none, Cond.instanceMethod yX2_asNumber, Cond.selects RX2 yX2_asNumber yX2_asNumber, Cond.code yX2_asNumber cX2_asNumber 2 (some .int), Cond.methodLink RX2 25 yX2_isGone, Cond.instanceMethod yX2_isGone, Cond.selects RX2 yX2_isGone yX2_isGone, Cond.code yX2_isGone cX2_isGone 2 (some .boolean), Cond.instanceMethod yX2_moveByInsertion]
def wsL_law0_r7 : List Cond := [Cond.selects RX2 yX2_moveByInsertion yX2_moveByInsertion, Cond.code yX2_moveByInsertion cX2_moveByInsertion 6 none, Cond.methodLink RX2 42 yX2_behindInsertion, Cond.static yX2_behindInsertion, Cond.code yX2_behindInsertion cX2_behindInsertion 5 (some .int), Cond.instanceMethod yX3_putIn, Cond.selects RX3 yX3_putIn yX3_putIn, Cond.code yX3_putIn cX3_putIn 4 none, Cond.methodLink RX3 26 yX3_moveTail, Cond.instanceMethod yX3_moveTail, Cond.selects RX3 yX3_moveTail yX3_moveTail, Cond.code yX3_moveTail cX3_moveTail 4 none, Cond.methodLink RX3 36 arraycopyName, Cond.native arraycopyName, Cond.static arraycopyName, Cond.initialized "java/lang/System", Cond.methodLink RX3 30 yJ7_fill_fda19, Cond.static yJ7_fill_fda19, Cond.initialized RJ7, Cond.code yJ7_fill_fda19 cJ7_fill_fda19 5 none, Cond.methodLink RJ7 13 yJ7_rangeCheck_23922, Cond.static yJ7_rangeCheck_23922, Cond.code yJ7_rangeCheck_23922 cJ7_rangeCheck_23922 3 none, Cond.classLink RJ7 45 RJ4]
def wsL_law0_r8 : List Cond := [Cond.instantiable RJ4 4, Cond.initialized RJ4, Cond.classLink RJ7 68 RJx00060, Cond.instantiable RJx00060 6, Cond.initialized RJx00060, Cond.instanceMethod yX2_covering, Cond.selects RX2 yX2_covering yX2_covering, Cond.code yX2_covering cX2_covering 4 (some .int), Cond.static yX4_bit, Cond.code yX4_bit cX4_bit 1 (some .int), Cond.instanceMethod yX3_mark, Cond.selects RX3 yX3_mark yX3_mark, Cond.code yX3_mark cX3_mark 5 none, Cond.methodLink RL 80 yX5_insert, Cond.instanceMethod yX5_insert, Cond.selects RX5 yX5_insert yX5_insert, Cond.code yX5_insert cX5_insert 4 (some .int), Cond.fieldLink RX5 62 "MarginDeskModel" "thrown" "I", Cond.fieldLink RX5 66 "MarginDeskModel" "length" "I", Cond.methodLink RX5 90 yX5_isPlace, Cond.instanceMethod yX5_isPlace, Cond.selects RX5 yX5_isPlace yX5_isPlace, Cond.code yX5_isPlace cX5_isPlace 2 (some .boolean), Cond.methodLink RX5 69 yX5_in]
def wsL_law0_r9 : List Cond := [Cond.static yX5_in, Cond.code yX5_in cX5_in 3 (some .boolean), Cond.methodLink RX5 94 yX5_fails, Cond.instanceMethod yX5_fails, Cond.selects RX5 yX5_fails yX5_fails, Cond.code yX5_fails cX5_fails 2 (some .int), Cond.methodLink RX5 97 yX5_inserts, Cond.instanceMethod yX5_inserts, Cond.selects RX5 yX5_inserts yX5_inserts, Cond.code yX5_inserts cX5_inserts 8 none, Cond.fieldLink RX5 76 "MarginDeskModel" "suggestions" "I", Cond.methodLink RL 81 yX5_thrown, Cond.instanceMethod yX5_thrown, Cond.selects RX5 yX5_thrown yX5_thrown, Cond.code yX5_thrown cX5_thrown 1 (some .int), Cond.methodLink RL 85 yL_remove, Cond.static yL_remove, Cond.codeWith yL_remove cL_remove 5 (some .int) [(0, 10, 13, 13), (0, 10, 17, 15), (0, 10, 21, 17)], Cond.methodLink RL 19 yX4_remove, Cond.instanceMethod yX4_remove, Cond.selects RX4 yX4_remove yX4_remove, Cond.code yX4_remove cX4_remove 3 (some .int), Cond.methodLink RX4 81 yX4_takeLettersOut, Cond.instanceMethod yX4_takeLettersOut]
def wsL_law0_r10 : List Cond := [Cond.selects RX4 yX4_takeLettersOut yX4_takeLettersOut, Cond.code yX4_takeLettersOut cX4_takeLettersOut 4 (some .int), Cond.instanceMethod yX2_moveByRemoval, Cond.selects RX2 yX2_moveByRemoval yX2_moveByRemoval, Cond.code yX2_moveByRemoval cX2_moveByRemoval 5 (some .int), Cond.methodLink RX2 46 yX2_behindRemoval, Cond.static yX2_behindRemoval, Cond.code yX2_behindRemoval cX2_behindRemoval 3 (some .int), Cond.methodLink RX2 33 Lib.Math.max.name, Cond.static Lib.Math.max.name, Cond.initialized "java/lang/Math", Cond.code Lib.Math.max.name Lib.Math.max.code 2 (some .int), Cond.methodLink RX4 211 yX4_letGo, Cond.instanceMethod yX4_letGo, Cond.selects RX4 yX4_letGo yX4_letGo, Cond.code yX4_letGo cX4_letGo 3 none, Cond.methodLink RX4 110 yX4_bit, Cond.instanceMethod yX3_takeOut, Cond.selects RX3 yX3_takeOut yX3_takeOut, Cond.code yX3_takeOut cX3_takeOut 3 none, Cond.methodLink RX4 217 yJ6_bitCount_0f7a4, Cond.static yJ6_bitCount_0f7a4, Cond.initialized RJ6, Cond.code yJ6_bitCount_0f7a4 cJ6_bitCount_0f7a4 1 (some .int)]
def wsL_law0_r11 : List Cond := [Cond.constant RJ6 265 (1431655765), Cond.constant RJ6 266 (858993459), Cond.constant RJ6 267 (252645135), Cond.methodLink RL 88 yX5_remove, Cond.instanceMethod yX5_remove, Cond.selects RX5 yX5_remove yX5_remove, Cond.code yX5_remove cX5_remove 4 (some .int), Cond.methodLink RX5 101 yX5_removes, Cond.instanceMethod yX5_removes, Cond.selects RX5 yX5_removes yX5_removes, Cond.code yX5_removes cX5_removes 7 (some .int), Cond.methodLink RX5 86 yX5_less, Cond.static yX5_less, Cond.code yX5_less cX5_less 3 (some .int), Cond.methodLink RL 89 yX4_length, Cond.instanceMethod yX4_length, Cond.selects RX4 yX4_length yX4_length, Cond.code yX4_length cX4_length 1 (some .int), Cond.methodLink RL 92 yX5_length, Cond.instanceMethod yX5_length, Cond.selects RX5 yX5_length yX5_length, Cond.code yX5_length cX5_length 1 (some .int), Cond.methodLink RL 93 yL_letterAt, Cond.static yL_letterAt]
def wsL_law0_r12 : List Cond := [Cond.codeWith yL_letterAt cL_letterAt 4 (some .int) [(0, 9, 12, 13)], Cond.methodLink RL 23 yX4_letterAt, Cond.instanceMethod yX4_letterAt, Cond.selects RX4 yX4_letterAt yX4_letterAt, Cond.code yX4_letterAt cX4_letterAt 2 (some .int), Cond.instanceMethod yX3_letterBehind, Cond.selects RX3 yX3_letterBehind yX3_letterBehind, Cond.code yX3_letterBehind cX3_letterBehind 2 (some .int), Cond.methodLink RX3 22 yX3_hasLetterBehind, Cond.instanceMethod yX3_hasLetterBehind, Cond.selects RX3 yX3_hasLetterBehind yX3_hasLetterBehind, Cond.code yX3_hasLetterBehind cX3_hasLetterBehind 2 (some .boolean), Cond.methodLink RL 96 yX5_letterAt, Cond.instanceMethod yX5_letterAt, Cond.selects RX5 yX5_letterAt yX5_letterAt, Cond.code yX5_letterAt cX5_letterAt 2 (some .int), Cond.methodLink RX5 104 yX5_letterOf, Cond.instanceMethod yX5_letterOf, Cond.selects RX5 yX5_letterOf yX5_letterOf, Cond.code yX5_letterOf cX5_letterOf 2 (some .int), Cond.methodLink RL 97 yX4_version, Cond.instanceMethod yX4_version, Cond.selects RX4 yX4_version yX4_version, Cond.code yX4_version cX4_version 1 (some .int)]
def wsL_law0_r13 : List Cond := [Cond.methodLink RL 100 yX5_version, Cond.instanceMethod yX5_version, Cond.selects RX5 yX5_version yX5_version, Cond.code yX5_version cX5_version 1 (some .int), Cond.methodLink RL 101 yL_comment, Cond.static yL_comment, Cond.codeWith yL_comment cL_comment 6 (some .int) [(0, 12, 15, 13), (0, 12, 19, 15), (0, 12, 23, 17)], Cond.methodLink RL 27 yX4_comment, Cond.instanceMethod yX4_comment, Cond.selects RX4 yX4_comment yX4_comment, Cond.code yX4_comment cX4_comment 5 (some .int), Cond.methodLink RX4 89 yX4_checkRange, Cond.instanceMethod yX4_checkRange, Cond.selects RX4 yX4_checkRange yX4_checkRange, Cond.code yX4_checkRange cX4_checkRange 3 none, Cond.instanceMethod yX2_add, Cond.selects RX2 yX2_add yX2_add, Cond.code yX2_add cX2_add 5 (some .int), Cond.instanceMethod yX1_keep, Cond.selects RX1 yX1_keep yX1_keep, Cond.code yX1_keep cX1_keep 5 none, Cond.methodLink RX1 27 arraycopyName, Cond.methodLink RL 103 yX5_comment, Cond.instanceMethod yX5_comment]
def wsL_law0_r14 : List Cond := [Cond.selects RX5 yX5_comment yX5_comment, Cond.code yX5_comment cX5_comment 6 (some .int), Cond.methodLink RL 104 yL_answer, Cond.static yL_answer, Cond.codeWith yL_answer cL_answer 4 (some .int) [(0, 9, 12, 13)], Cond.methodLink RL 30 yX4_answer, Cond.instanceMethod yX4_answer, Cond.selects RX4 yX4_answer yX4_answer, Cond.code yX4_answer cX4_answer 2 (some .int), Cond.methodLink RX4 116 yX4_checkComment, Cond.instanceMethod yX4_checkComment, Cond.selects RX4 yX4_checkComment yX4_checkComment, Cond.code yX4_checkComment cX4_checkComment 2 none, Cond.methodLink RL 106 yX5_answer, Cond.instanceMethod yX5_answer, Cond.selects RX5 yX5_answer yX5_answer, Cond.code yX5_answer cX5_answer 2 (some .int), Cond.methodLink RX5 107 yX5_isComment, Cond.instanceMethod yX5_isComment, Cond.selects RX5 yX5_isComment yX5_isComment, Cond.code yX5_isComment cX5_isComment 2 (some .boolean), Cond.methodLink RL 107 yL_resolve, Cond.static yL_resolve, Cond.codeWith yL_resolve cL_resolve 4 (some .int) [(0, 16, 19, 13)]]
def wsL_law0_r15 : List Cond := [Cond.methodLink RL 33 yX4_resolve, Cond.instanceMethod yX4_resolve, Cond.selects RX4 yX4_resolve yX4_resolve, Cond.code yX4_resolve cX4_resolve 3 (some .boolean), Cond.methodLink RL 109 yX5_resolve, Cond.instanceMethod yX5_resolve, Cond.selects RX5 yX5_resolve yX5_resolve, Cond.code yX5_resolve cX5_resolve 3 (some .boolean), Cond.methodLink RL 110 yL_find, Cond.static yL_find, Cond.codeWith yL_find cL_find 4 (some .int) [(0, 9, 12, 13), (0, 9, 15, 17)], Cond.methodLink RL 37 yX4_find, Cond.instanceMethod yX4_find, Cond.selects RX4 yX4_find yX4_find, Cond.code yX4_find cX4_find 4 (some .int), Cond.instanceMethod yX1_bestPlace, Cond.selects RX1 yX1_bestPlace yX1_bestPlace, Cond.code yX1_bestPlace cX1_bestPlace 7 (some .int), Cond.methodLink RX1 41 yX1_standsAt, Cond.instanceMethod yX1_standsAt, Cond.selects RX1 yX1_standsAt yX1_standsAt, Cond.code yX1_standsAt cX1_standsAt 5 (some .boolean), Cond.methodLink RX1 45 yX1_fitAt, Cond.instanceMethod yX1_fitAt]
def wsL_law0_r16 : List Cond := [Cond.selects RX1 yX1_fitAt yX1_fitAt, Cond.code yX1_fitAt cX1_fitAt 6 (some .int), Cond.instanceMethod yX1_sizeOf, Cond.selects RX1 yX1_sizeOf yX1_sizeOf, Cond.code yX1_sizeOf cX1_sizeOf 2 (some .int), Cond.instanceMethod yX2_bringBack, Cond.selects RX2 yX2_bringBack yX2_bringBack, Cond.code yX2_bringBack cX2_bringBack 4 none, Cond.methodLink RL 112 yX5_find, Cond.instanceMethod yX5_find, Cond.selects RX5 yX5_find yX5_find, Cond.code yX5_find cX5_find 5 (some .int), Cond.methodLink RX5 110 yX5_fit, Cond.instanceMethod yX5_fit, Cond.selects RX5 yX5_fit yX5_fit, Cond.code yX5_fit cX5_fit 5 (some .int), Cond.methodLink RL 113 yX4_comments, Cond.instanceMethod yX4_comments, Cond.selects RX4 yX4_comments yX4_comments, Cond.code yX4_comments cX4_comments 1 (some .int), Cond.methodLink RL 116 yX5_comments, Cond.instanceMethod yX5_comments, Cond.selects RX5 yX5_comments yX5_comments, Cond.code yX5_comments cX5_comments 1 (some .int)]
def wsL_law0_r17 : List Cond := [Cond.methodLink RL 117 yL_rangeOf, Cond.static yL_rangeOf, Cond.codeWith yL_rangeOf cL_rangeOf 4 (some .int) [(0, 9, 12, 13)], Cond.methodLink RL 40 yX4_rangeOf, Cond.instanceMethod yX4_rangeOf, Cond.selects RX4 yX4_rangeOf yX4_rangeOf, Cond.code yX4_rangeOf cX4_rangeOf 2 (some .int), Cond.methodLink RL 119 yX5_rangeOf, Cond.instanceMethod yX5_rangeOf, Cond.selects RX5 yX5_rangeOf yX5_rangeOf, Cond.code yX5_rangeOf cX5_rangeOf 2 (some .int), Cond.methodLink RL 120 yL_rangeThen, Cond.static yL_rangeThen, Cond.codeWith yL_rangeThen cL_rangeThen 5 (some .int) [(0, 10, 13, 13)], Cond.methodLink RL 43 yX4_rangeThen, Cond.instanceMethod yX4_rangeThen, Cond.selects RX4 yX4_rangeThen yX4_rangeThen, Cond.code yX4_rangeThen cX4_rangeThen 3 (some .int), Cond.instanceMethod yX0_rangeAt, Cond.selects RX0 yX0_rangeAt yX0_rangeAt, Cond.code yX0_rangeAt cX0_rangeAt 3 (some .int), Cond.methodLink RL 122 yX5_rangeThen, Cond.instanceMethod yX5_rangeThen, Cond.selects RX5 yX5_rangeThen yX5_rangeThen]
def wsL_law0_r18 : List Cond := [Cond.code yX5_rangeThen cX5_rangeThen 3 (some .int), Cond.methodLink RL 123 yX4_open, Cond.instanceMethod yX4_open, Cond.selects RX4 yX4_open yX4_open, Cond.code yX4_open cX4_open 1 (some .int), Cond.methodLink RL 126 yX5_open, Cond.instanceMethod yX5_open, Cond.selects RX5 yX5_open yX5_open, Cond.code yX5_open cX5_open 3 (some .int), Cond.methodLink RL 127 yX4_orphans, Cond.instanceMethod yX4_orphans, Cond.selects RX4 yX4_orphans yX4_orphans, Cond.code yX4_orphans cX4_orphans 3 (some .int), Cond.methodLink RL 130 yX5_orphans, Cond.instanceMethod yX5_orphans, Cond.selects RX5 yX5_orphans yX5_orphans, Cond.code yX5_orphans cX5_orphans 3 (some .int), Cond.methodLink RL 131 yL_cover, Cond.static yL_cover, Cond.codeWith yL_cover cL_cover 4 (some .int) [(0, 9, 12, 13)], Cond.methodLink RL 46 yX4_cover, Cond.instanceMethod yX4_cover, Cond.selects RX4 yX4_cover yX4_cover, Cond.code yX4_cover cX4_cover 2 (some .int)]
def wsL_law0_r19 : List Cond := [Cond.methodLink RL 133 yX5_cover, Cond.instanceMethod yX5_cover, Cond.selects RX5 yX5_cover yX5_cover, Cond.code yX5_cover cX5_cover 2 (some .int), Cond.methodLink RX5 114 yX5_coverOf, Cond.instanceMethod yX5_coverOf, Cond.selects RX5 yX5_coverOf yX5_coverOf, Cond.code yX5_coverOf cX5_coverOf 4 (some .int), Cond.methodLink RL 134 yL_coverByLetters, Cond.static yL_coverByLetters, Cond.codeWith yL_coverByLetters cL_coverByLetters 4 (some .int) [(0, 9, 12, 13)], Cond.methodLink RL 49 yX4_coverByLetters, Cond.instanceMethod yX4_coverByLetters, Cond.selects RX4 yX4_coverByLetters yX4_coverByLetters, Cond.code yX4_coverByLetters cX4_coverByLetters 2 (some .int), Cond.instanceMethod yX3_marksBehind, Cond.selects RX3 yX3_marksBehind yX3_marksBehind, Cond.code yX3_marksBehind cX3_marksBehind 2 (some .int), Cond.methodLink RL 136 yX5_coverByLetters, Cond.instanceMethod yX5_coverByLetters, Cond.selects RX5 yX5_coverByLetters yX5_coverByLetters, Cond.code yX5_coverByLetters cX5_coverByLetters 2 (some .int), Cond.methodLink RL 137 yX4_pieces, Cond.instanceMethod yX4_pieces]
def wsL_law0_r20 : List Cond := [Cond.selects RX4 yX4_pieces yX4_pieces, Cond.code yX4_pieces cX4_pieces 3 (some .int), Cond.methodLink RX4 152 yX4_beginsPiece, Cond.instanceMethod yX4_beginsPiece, Cond.selects RX4 yX4_beginsPiece yX4_beginsPiece, Cond.code yX4_beginsPiece cX4_beginsPiece 2 (some .boolean), Cond.methodLink RL 140 yX5_pieces, Cond.instanceMethod yX5_pieces, Cond.selects RX5 yX5_pieces yX5_pieces, Cond.code yX5_pieces cX5_pieces 1 (some .int), Cond.methodLink RX5 117 yX5_pieceOf, Cond.instanceMethod yX5_pieceOf, Cond.selects RX5 yX5_pieceOf yX5_pieceOf, Cond.code yX5_pieceOf cX5_pieceOf 6 (some .int), Cond.methodLink RL 141 yL_pieceAt, Cond.static yL_pieceAt, Cond.codeWith yL_pieceAt cL_pieceAt 4 (some .int) [(0, 9, 12, 13)], Cond.methodLink RL 52 yX4_pieceAt, Cond.instanceMethod yX4_pieceAt, Cond.selects RX4 yX4_pieceAt yX4_pieceAt, Cond.code yX4_pieceAt cX4_pieceAt 4 (some .int), Cond.methodLink RL 143 yX5_pieceAt, Cond.instanceMethod yX5_pieceAt, Cond.selects RX5 yX5_pieceAt yX5_pieceAt]
def wsL_law0_r21 : List Cond := [Cond.code yX5_pieceAt cX5_pieceAt 2 (some .int), Cond.methodLink RL 144 yL_suggest, Cond.static yL_suggest, Cond.codeWith yL_suggest cL_suggest 7 (some .int) [(0, 14, 17, 13), (0, 14, 21, 15), (0, 14, 25, 17)], Cond.methodLink RL 55 yX4_suggest, Cond.instanceMethod yX4_suggest, Cond.selects RX4 yX4_suggest yX4_suggest, Cond.code yX4_suggest cX4_suggest 6 (some .int), Cond.methodLink RL 147 yX5_suggest, Cond.instanceMethod yX5_suggest, Cond.selects RX5 yX5_suggest yX5_suggest, Cond.code yX5_suggest cX5_suggest 5 (some .int), Cond.methodLink RL 148 yL_accept, Cond.static yL_accept, Cond.codeWith yL_accept cL_accept 4 (some .int) [(0, 9, 12, 13), (0, 9, 15, 17)], Cond.methodLink RL 59 yX4_accept, Cond.instanceMethod yX4_accept, Cond.selects RX4 yX4_accept yX4_accept, Cond.code yX4_accept cX4_accept 5 (some .int), Cond.methodLink RX4 159 yX4_checkSuggestion, Cond.instanceMethod yX4_checkSuggestion, Cond.selects RX4 yX4_checkSuggestion yX4_checkSuggestion, Cond.code yX4_checkSuggestion cX4_checkSuggestion 2 none, Cond.methodLink RX4 162 yX4_checkWaiting]
def wsL_law0_r22 : List Cond := [Cond.instanceMethod yX4_checkWaiting, Cond.selects RX4 yX4_checkWaiting yX4_checkWaiting, Cond.code yX4_checkWaiting cX4_checkWaiting 2 none, Cond.methodLink RX4 165 yX4_overlapping, Cond.instanceMethod yX4_overlapping, Cond.selects RX4 yX4_overlapping yX4_overlapping, Cond.code yX4_overlapping cX4_overlapping 4 (some .int), Cond.instanceMethod yX2_share, Cond.selects RX2 yX2_share yX2_share, Cond.code yX2_share cX2_share 3 (some .boolean), Cond.methodLink RX2 39 Lib.Math.min.name, Cond.static Lib.Math.min.name, Cond.code Lib.Math.min.name Lib.Math.min.code 2 (some .int), Cond.methodLink RL 150 yX5_accept, Cond.instanceMethod yX5_accept, Cond.selects RX5 yX5_accept yX5_accept, Cond.code yX5_accept cX5_accept 5 (some .int), Cond.methodLink RX5 120 yX5_isSuggestion, Cond.instanceMethod yX5_isSuggestion, Cond.selects RX5 yX5_isSuggestion yX5_isSuggestion, Cond.code yX5_isSuggestion cX5_isSuggestion 2 (some .boolean), Cond.methodLink RX5 123 yX5_overlapsOf, Cond.instanceMethod yX5_overlapsOf, Cond.selects RX5 yX5_overlapsOf yX5_overlapsOf]
def wsL_law0_r23 : List Cond := [Cond.code yX5_overlapsOf cX5_overlapsOf 5 (some .int), Cond.methodLink RL 151 yL_reject, Cond.static yL_reject, Cond.codeWith yL_reject cL_reject 4 (some .int) [(0, 9, 12, 13), (0, 9, 15, 17)], Cond.methodLink RL 62 yX4_reject, Cond.instanceMethod yX4_reject, Cond.selects RX4 yX4_reject yX4_reject, Cond.code yX4_reject cX4_reject 2 (some .int), Cond.methodLink RX4 176 yX4_countWaiting, Cond.instanceMethod yX4_countWaiting, Cond.selects RX4 yX4_countWaiting yX4_countWaiting, Cond.code yX4_countWaiting cX4_countWaiting 3 (some .int), Cond.methodLink RL 153 yX5_reject, Cond.instanceMethod yX5_reject, Cond.selects RX5 yX5_reject yX5_reject, Cond.code yX5_reject cX5_reject 4 (some .int), Cond.methodLink RL 154 yL_stateOf, Cond.static yL_stateOf, Cond.codeWith yL_stateOf cL_stateOf 4 (some .int) [(0, 9, 12, 13)], Cond.methodLink RL 65 yX4_stateOf, Cond.instanceMethod yX4_stateOf, Cond.selects RX4 yX4_stateOf yX4_stateOf, Cond.code yX4_stateOf cX4_stateOf 2 (some .int), Cond.methodLink RL 156 yX5_stateOf]
def wsL_law0_r24 : List Cond := [Cond.instanceMethod yX5_stateOf, Cond.selects RX5 yX5_stateOf yX5_stateOf, Cond.code yX5_stateOf cX5_stateOf 2 (some .int), Cond.methodLink RL 157 yL_overlaps, Cond.static yL_overlaps, Cond.codeWith yL_overlaps cL_overlaps 4 (some .int) [(0, 9, 12, 13)], Cond.methodLink RL 68 yX4_overlaps, Cond.instanceMethod yX4_overlaps, Cond.selects RX4 yX4_overlaps yX4_overlaps, Cond.code yX4_overlaps cX4_overlaps 2 (some .int), Cond.methodLink RL 159 yX5_overlaps, Cond.instanceMethod yX5_overlaps, Cond.selects RX5 yX5_overlaps yX5_overlaps, Cond.code yX5_overlaps cX5_overlaps 2 (some .int)]
def wsL_law0 : List Cond := (wsL_law0_r1 ++ (wsL_law0_r2 ++ (wsL_law0_r3 ++ (wsL_law0_r4 ++ (wsL_law0_r5 ++ (wsL_law0_r6 ++ (wsL_law0_r7 ++ (wsL_law0_r8 ++ (wsL_law0_r9 ++ (wsL_law0_r10 ++ (wsL_law0_r11 ++ (wsL_law0_r12 ++ (wsL_law0_r13 ++ (wsL_law0_r14 ++ (wsL_law0_r15 ++ (wsL_law0_r16 ++ (wsL_law0_r17 ++ (wsL_law0_r18 ++ (wsL_law0_r19 ++ (wsL_law0_r20 ++ (wsL_law0_r21 ++ (wsL_law0_r22 ++ (wsL_law0_r23 ++ wsL_law0_r24))))))))))))))))))))))) ++ wsX40 ++ wsX50 ++ wsX30 ++ wsX20 ++ wsX10 ++ wsX00 ++ wsJ40 ++ wsJx000600 ++ ([] : List Cond)
def wsL_law : List Cond := wsL_law0 ++ (vx_atM "java/lang/ArrayIndexOutOfBoundsException" ["java/lang/IndexOutOfBoundsException", "java/lang/RuntimeException", "java/lang/Exception"]).filter goodWord ++ (vx_atS RX4 142 "java/lang/IndexOutOfBoundsException" ["java/lang/RuntimeException", "java/lang/Exception"]).filter goodWord ++ (vx_atS RX4 186 "java/lang/IllegalArgumentException" ["java/lang/RuntimeException", "java/lang/Exception"]).filter goodWord ++ (vx_atS RX4 99 "java/lang/IllegalStateException" ["java/lang/RuntimeException", "java/lang/Exception"]).filter goodWord
abbrev vwCl : List vw_C := [(RX0, TX0, 1), (RX1, TX1, 4), (RX2, TX2, 4), (RX3, TX3, 3), (RX4, TX4, 11), (RX5, TX5, 21)]
end
section
/-! a layer over the kit: one judgement zJ (pc, world, locals, stack), with the heap hidden; contracts zM (returns) and zX (returns or throws) -/
abbrev zG : Type := Launch × va_G × ClassId × ClassId × ClassId
abbrev zTy (G : zG) : List (ClassId × FieldType) := [(G.2.2.1, .int), (G.2.2.2.1, .boolean), (G.2.2.2.2, .long)]
abbrev eI (G : zG) (n : Nat) (f : Nat → Int32) : va_E := .inl (G.2.2.1, n, .inl f)
abbrev eZ (G : zG) (n : Nat) (f : Nat → Int32) : va_E := .inl (G.2.2.2.1, n, .inl f)
abbrev eL (G : zG) (n : Nat) (f : Nat → Int64) : va_E := .inl (G.2.2.2.2, n, .inr (.inl f))
-- the words that a nest mate's call or field needs, the strings, the casts: what every method of the system is given
def zNF : List (String × Nat × String × String × String) := [("MarginDesk", 170, "MarginDesk$Ranges", "begins", "[I"), ("MarginDesk", 173, "MarginDesk$Ranges", "ends", "[I"), ("MarginDesk", 78, "MarginDesk$Text", "size", "I"), ("MarginDesk", 92, "MarginDesk$Ranges", "count", "I"), ("MarginDesk$History", 15, "MarginDesk$Ranges", "count", "I"), ("MarginDesk$Quotes", 24, "MarginDesk$Text", "letters", "[I"), ("MarginDesk$Quotes", 37, "MarginDesk$Text", "size", "I")]
def zNM : List (String × Nat × MethodName) := [(RX4, 9, yX3_init), (RX4, 18, yX2_init), (RX4, 25, yX1_init), (RX4, 32, yX0_init), (RX4, 119, yX2_isGone), (RX4, 146, yX2_covering), (RX2, 29, yX4_bit), (RX4, 222, yX0_write), (RX0, 21, yX2_asNumber), (RX4, 202, yX2_moveByInsertion), (RX4, 205, yX3_putIn), (RX4, 113, yX3_mark), (RX4, 208, yX2_moveByRemoval), (RX4, 214, yX3_takeOut), (RX4, 85, yX3_letterBehind), (RX4, 102, yX2_add), (RX4, 106, yX1_keep), (RX1, 33, yX3_letterBehind), (RX4, 125, yX1_bestPlace), (RX4, 129, yX1_sizeOf), (RX4, 132, yX2_bringBack), (RX4, 135, yX2_asNumber), (RX4, 143, yX0_rangeAt), (RX4, 149, yX3_marksBehind), (RX4, 226, yX2_share)]
def zST : List (Nat × String) := [(123, "the comment is no orphan"), (140, "no such version"), (155, "no such piece"), (157, "there are 10 suggestions"), (168, "the suggestion overlaps another one"), (180, "no such place"), (184, "the end is not later than the beginning"), (187, "an argument is out of its range"), (189, "no such comment"), (191, "no such suggestion"), (193, "the suggestion is not waiting"), (195, "the document would have more than 60 letters"), (197, "there would be more than 300 edits"), (97, "there are 12 comments")]
abbrev zRun : String := "java/lang/RuntimeException"
abbrev zExc : String := "java/lang/Exception"
def zEx : Nat → String
  | 1 => "java/lang/IndexOutOfBoundsException"
  | 2 => "java/lang/IllegalArgumentException"
  | _ => "java/lang/IllegalStateException"
def zND : List MethodName := [Bundle.initS zRun, Bundle.initS zExc, Bundle.initS Bundle.tN]
def zNC : List (String × String) := [(zEx 1, zEx 1), (zEx 2, zEx 2), (zEx 3, zEx 3)]
def zNN : List (String × String) := [(zEx 2, zEx 1), (zEx 3, zEx 1), (zEx 3, zEx 2)]
def zE0 (U : State) : Prop := (∀ q ∈ zNF, va_Nw (.fieldLinkNest q.1 q.2.1 q.2.2.1 q.2.2.2.1 q.2.2.2.2 RX4) U) ∧ (∀ q ∈ zNM, va_Nw (.methodLinkNest q.1 q.2.1 q.2.2 RX4) U) ∧ (∀ q ∈ zST, ∃ a, vk_R RX4 q.1 q.2 a U) ∧ (∀ q ∈ zND, va_Nw (.declares q) U) ∧ (∀ q ∈ zNC, va_Nw (.castable q.1 q.2) U) ∧ (∀ q ∈ zNN, va_Nc q.1 q.2 U)
def zE (G : zG) (A : Nat → Prop) (U : State) (H : Heap) : Prop := va_K G.2.1 vwCl (zTy G) U ∧ zE0 U ∧ vx_Zq Bundle.tN "UNASSIGNED_STACK" Bundle.steD A U H ∧ vx_Zq Bundle.tN "SUPPRESSED_SENTINEL" Bundle.listD A U H
theorem zE0.moved {u U : State} (hW : u.WarmedH U.vm) (h : zE0 u) : zE0 U :=
  ⟨fun q hq => va_Nw.warmF hW (h.1 q hq), fun q hq => va_Nw.warmM hW (h.2.1 q hq), fun q hq => (h.2.2.1 q hq).imp fun _ ha => vk_R.warm hW ha, fun q hq => va_Nw.warmD hW (h.2.2.2.1 q hq), fun q hq => va_Nw.warmC hW (h.2.2.2.2.1 q hq), fun q hq => va_Nc.moved hW.alike (h.2.2.2.2.2 q hq)⟩
theorem zE.moved {G : zG} {A : Nat → Prop} {u U : State} {H : Heap} (hW : u.WarmedH U.vm) (h : zE G A u H) : zE G A U H :=
  ⟨va_K.moved hW.alike h.1, zE0.moved hW h.2.1, vx_Zq.moved hW.alike h.2.2.1, vx_Zq.moved hW.alike h.2.2.2⟩
theorem zE.blind {G : zG} {A : Nat → Prop} {U : State} {H : Heap} {g : JFrame} {mk : MethodId} {a : Array Value} (h : zE G A U H) : zE G A (U.calling g mk a) H :=
  zE.moved (u := U) (U := U.calling g mk a) (State.WarmedH.refl U) h
theorem zE.call {G : zG} {A A' : Nat → Prop} {s U : State} {H : Heap} {locs : List Loc} (h : zE G A s s.heap) (hS : va_S A s.heap H locs) (hsub : ∀ q, A' q → A q) (hW : s.WarmedH U.vm) : zE G A' U H :=
  ⟨va_K.moved hW.alike h.1, zE0.moved hW h.2.1, vx_Zq.moved hW.alike ((h.2.2.1.kept hS.2.1).narrow hsub), vx_Zq.moved hW.alike ((h.2.2.2.kept hS.2.1).narrow hsub)⟩
def zPre (G : zG) (ws : va_W) (sz : Nat) : State → Prop := fun U => U.heap.size = sz ∧ va_P G.2.1 vwCl ws U.heap ∧ va_D (fun _ => True) ws ∧ zE G (va_A ws sz) U U.heap
theorem zPre.blind {G : zG} {av : List Value} {ws : va_W} {sz : Nat} : FrameBlind (va_Pc av (zPre G ws sz)) := fun a U g mk q => by
  obtain ⟨q0, q1, q2, q3, q4⟩ := q
  exact ⟨q0, q1, q2, q3, zE.blind q4⟩
def zQ (G : zG) (o : Option Value) (w1 : va_W) (A : Nat → Prop) : Array Value → State → Outcome → State → Prop := fun _ st oc t => (oc = .returned o ∧ va_P G.2.1 vwCl w1 t.heap) ∧ va_F A st t
def zQx (G : zG) (code : Nat) (o : Option Value) (w1 : va_W) (A : Nat → Prop) : Array Value → State → Outcome → State → Prop := fun _ st oc t => (code = 0 ∧ oc = .returned o ∧ va_P G.2.1 vwCl w1 t.heap) ∧ va_F A st t
def zXC (G : zG) (code : Nat) (wc : va_W) (A : Nat → Prop) : String → State → State → Prop := fun E st t => (code ≠ 0 ∧ E = zEx code ∧ va_P G.2.1 vwCl wc t.heap) ∧ va_F A st t
/-- a contract: returns o, its cells wc hold w1 then -/
def zM (G : zG) (y : MethodName) (wsy : List Cond) (rm : Room) (av : List Value) (wc w1 : va_W) (o : Option Value) (mc ms : Nat) : Prop :=
  G.1.stackTraces = false → ∀ sz, Met G.1 y wsy rm (va_Pc av (zPre G wc sz)) (zQ G o w1 (va_A wc sz)) mc ms (va_A wc sz)
/-- a contract: code 0: it returns o, its cells hold w1 then; else it throws the exception of that number, its cells as they were -/
def zX (G : zG) (y : MethodName) (wsy : List Cond) (rm : Room) (av : List Value) (wc w1 : va_W) (code : Nat) (o : Option Value) (mc ms : Nat) : Prop :=
  G.1.stackTraces = false → ∀ sz, vx_Met G.1 y wsy rm (va_Pc av (zPre G wc sz)) (zQx G code o w1 (va_A wc sz)) (zXC G code wc (va_A wc sz)) mc ms (va_A wc sz)
-- locals by their numbers; values of one slot alone
def zh (ls : Array Slot) (n : Nat) (lv : List (Option Value)) : Prop := ls.size = n ∧ lv_wf ls ∧ (∀ (i : Nat) (v : Value), lv[i]? = some (some v) → v.category = 1 ∧ ls[i]? = some (.val v)) ∧ lv.length = n
def zl (lv : List (Option Value)) : List (Nat × Value) := (List.range lv.length).filterMap (fun j => (lv[j]?.join).map (fun w => (j, w)))
theorem zl_mem {lv : List (Option Value)} {j : Nat} {w : Value} : (j, w) ∈ zl lv ↔ lv[j]? = some (some w) := by
  constructor
  · intro h
    obtain ⟨i, hi, he⟩ := List.mem_filterMap.mp h
    obtain ⟨w', hw, he⟩ := Option.map_eq_some_iff.mp he
    cases he
    exact Option.join_eq_some_iff.mp hw
  · intro h
    refine List.mem_filterMap.mpr ⟨j, List.mem_range.mpr (List.getElem?_eq_some_iff.mp h).1, ?_⟩
    simp [h]
theorem zh.has {ls : Array Slot} {n : Nat} {lv : List (Option Value)} (h : zh ls n lv) : lv_has ls n (zl lv) :=
  ⟨h.1, h.2.1, fun q hq => (h.2.2.1 q.1 q.2 (zl_mem.mp hq)).2⟩
theorem zh.set {ls ls' : Array Slot} {n i : Nat} {v : Value} {lv : List (Option Value)} (h : zh ls n lv) (hc : v.category = 1) (h' : lv_has ls' n ((i, v) :: (zl lv).filter (fun q => !(q.1 == i) && !(q.1 + 1 == i && q.2.category == 2)))) : zh ls' n (lv.set i (some v)) := by
  refine ⟨h'.1, h'.2.1, fun j w hw => ?_, by rw [List.length_set]; exact h.2.2.2⟩
  by_cases hij : i = j
  · subst hij
    rw [List.getElem?_set_self' ] at hw
    cases hq : lv[i]? with
    | none => rw [hq] at hw; cases hw
    | some x =>
      rw [hq] at hw
      cases hw
      exact ⟨hc, h'.2.2 (i, v) List.mem_cons_self⟩
  · rw [List.getElem?_set_ne hij] at hw
    obtain ⟨h1, -⟩ := h.2.2.1 j w hw
    refine ⟨h1, h'.2.2 (j, w) (List.mem_cons_of_mem _ (List.mem_filter.mpr ⟨zl_mem.mpr hw, ?_⟩))⟩
    have e1 : (j == i) = false := beq_false_of_ne (fun e => hij e.symm)
    simp [e1, h1]
def zlv (av : List Value) (n : Nat) : List (Option Value) := av.map some ++ List.replicate (n - av.length) none
theorem zlv_args : ∀ (av : List Value) (r k i : Nat) (v : Value), (∀ w ∈ av, w.category = 1) → (av.map some ++ List.replicate r none)[i]? = some (some v) → v ∈ av ∧ (k + i, v) ∈ lv_args k av
  | [], r, k, i, v, _, h => by
    rw [List.map_nil, List.nil_append, List.getElem?_replicate] at h
    split at h <;> cases h
  | a :: av, r, k, 0, v, _, h => by
    cases h
    exact ⟨List.mem_cons_self, List.mem_cons_self⟩
  | a :: av, r, k, i + 1, v, hc, h => by
    obtain ⟨h1, h2⟩ := zlv_args av r (k + 1) i v (fun w hw => hc w (List.mem_cons_of_mem _ hw)) h
    refine ⟨List.mem_cons_of_mem _ h1, List.mem_cons_of_mem _ ?_⟩
    rw [hc a List.mem_cons_self, if_neg (by decide), show k + (i + 1) = k + 1 + i by omega]
    exact h2
theorem zlg : ∀ (av : List Value), (∀ w ∈ av, w.category = 1) → (lg_sl av).length = av.length
  | [], _ => rfl
  | a :: av, hc => by
    show ((if a.category = 2 then _ else _) ++ lg_sl av).length = _
    rw [hc a List.mem_cons_self, if_neg (by decide), List.length_append, zlg av (fun w hw => hc w (List.mem_cons_of_mem _ hw))]
    simp only [List.length_cons, List.length_nil]
    omega
theorem zh_entry {av : List Value} {n : Nat} (hc : ∀ w ∈ av, w.category = 1) (hn : av.length ≤ n) : zh ((lg_sl av ++ List.replicate (n - (lg_sl av).length) Slot.unset).toArray) n (zlv av n) := by
  have h := lv_entry av (n := n) (by rw [zlg av hc]; exact hn)
  refine ⟨h.1, h.2.1, fun i v hv => ?_, by simp only [zlv, List.length_append, List.length_map, List.length_replicate]; omega⟩
  obtain ⟨h1, h2⟩ := zlv_args av _ 0 i v hc hv
  refine ⟨hc v h1, ?_⟩
  have h3 := h.2.2 (0 + i, v) h2
  rw [Nat.zero_add] at h3
  exact h3
-- the judgement
abbrev zT : Type := Program × Launch × Env × Room × State × MethodId × Array Value × List Frame × Method × Code × (State → Prop) × (Nat → Prop) × Nat
def zJ (G : zG) : zT → Nat → va_W → List (Option Value) → List Value → Nat → Nat → Prop
  | (p, l, e, R, s, m, args, below, meth, c, Q, A, n), pc, ws, lv, st, cells, slots => ∀ (H : Heap) (locs : List Loc) (ls : Array Slot), va_P G.2.1 vwCl ws H → va_D A ws → va_S A s.heap H locs → zh ls n lv → W p l e R s m args below meth c H locs cells slots Q (F0 m pc ls st)
def zV (G : zG) : zT → Nat → va_W → List (Option Value) → List Value → String → Nat → Nat → Prop
  | (p, l, e, R, s, m, args, below, meth, c, Q, A, n), pc, ws, lv, st, E, cells, slots => ∀ (H : Heap) (locs : List Loc) (ls : Array Slot) (q : Addr) (ce : Cell), va_P G.2.1 vwCl ws H → va_D A ws → va_S A s.heap H locs → zh ls n lv → H[q]? = some ce → ce.vm = .none → s.vm.findClass E = some ce.cls → vx_W p l e R s m args below meth c H locs cells slots Q (F0 m pc ls st) q
def zF (G : zG) : zT → Room → ByteArray → List Cond → String → Prop
  | (p, l, e, R, s, m, args, below, meth, c, Q, A, n), R', cc, Ts, own => G.1 = l ∧ R' = R ∧ G.1.stackTraces = false ∧ CallFix p m c cc n s args Ts own ∧ zE G A s s.heap ∧ ∀ q, s.heap.size ≤ q → A q
def zH : zT → Cond → Prop
  | (p, l, e, R, s, m, args, below, meth, c, Q, A, n), w => w.before args s = true
theorem zF.w {G : zG} {X : zT} {R : Room} {cc : ByteArray} {Ts : List Cond} {own : String} (hF : zF G X R cc Ts own) {w : Cond} (h : w ∈ Ts) : zH X w := by
  obtain ⟨p, l, e, R', s, m, args, below, meth, c, Q, A, n⟩ := X
  exact hF.2.2.2.1.2.2.2.2 w h
theorem zF.nf {G : zG} {X : zT} {R : Room} {cc : ByteArray} {Ts : List Cond} {own : String} (hF : zF G X R cc Ts own) {q : String × Nat × String × String × String} (h : q ∈ zNF) : zH X (.fieldLinkNest q.1 q.2.1 q.2.2.1 q.2.2.2.1 q.2.2.2.2 RX4) := by
  obtain ⟨p, l, e, R', s, m, args, below, meth, c, Q, A, n⟩ := X
  exact va_Nw.use rfl (hF.2.2.2.2.1.2.1.1 q h)
/-- how a method of the class ends: with o, its cells w1 -/
def zR (G : zG) (X : zT) (cc : ByteArray) (w1 : va_W) (o : Option Value) (mc ms : Nat) : Prop :=
  ∀ (pc : Nat) (lv : List (Option Value)) (cells slots : Nat), cells ≤ mc → slots ≤ ms → (match o with | some _ => decode cc pc = .ok (.ireturn, 1) | none => decode cc pc = .ok (.return_, 1)) → zJ G X pc w1 lv o.toList cells slots
theorem zR.i {G : zG} {X : zT} {cc : ByteArray} {w1 ws : va_W} {sp v : Int32} {mc ms pc cells slots : Nat} {lv : List (Option Value)} (h : zR G X cc w1 (some (.int sp)) mc ms) (d : decode cc pc = .ok (.ireturn, 1)) (hc : cells ≤ mc) (hs : slots ≤ ms) (hw : ws = w1) (hv : v = sp) : zJ G X pc ws lv [.int v] cells slots := by
  subst hv; subst hw; exact h pc lv cells slots hc hs d
theorem zR.v {G : zG} {X : zT} {cc : ByteArray} {w1 ws : va_W} {mc ms pc cells slots : Nat} {lv : List (Option Value)} (h : zR G X cc w1 none mc ms) (d : decode cc pc = .ok (.return_, 1)) (hc : cells ≤ mc) (hs : slots ≤ ms) (hw : ws = w1) : zJ G X pc ws lv [] cells slots := by
  subst hw; exact h pc lv cells slots hc hs d
/-- a method without a table that may throw: what it owes at a throw -/
def zZ (G : zG) : zT → va_W → Nat → Nat → Nat → Prop
  | (p, l, e, R, s, m, args, below, meth, c, Q, A, n), wc, code, mc, ms => (∃ Qc : Array Value → State → Outcome → State → Prop, Q = vx_MQ below Qc (zXC G code wc A) args s mc ms A) ∧ (∀ x ∈ c.exceptionTable.toList, False) ∧ meth.locks = false
theorem zZ.x {G : zG} {X : zT} {wc ws : va_W} {code k mc ms pc cells slots : Nat} {lv : List (Option Value)} {rest : List Value} (h : zZ G X wc code mc ms) (hc : cells ≤ mc) (hs : slots ≤ ms) (hk : k ≠ 0 → code = k) (h0 : k ≠ 0) (hw : ws = wc) : zV G X pc ws lv rest (zEx k) cells slots := by
  obtain ⟨p, l, e, R', s, m, args, below, meth, c, Q, A, n⟩ := X
  obtain ⟨⟨Qc, rfl⟩, ht, hlk⟩ := h
  intro H locs ls q ce hP hD hS hl hq hv hcl
  subst hw
  exact vx_out (fun x hx => (ht x hx).elim) hlk hq hv hcl (fun t htH hA => ⟨⟨by rw [hk h0]; exact h0, by rw [hk h0], by rw [htH]; exact hP⟩, hS.F htH⟩) hS.2.2 hc hs
set_option maxHeartbeats 2000000 in
theorem zM.ofI {G : zG} {y : MethodName} {wsy ws' : List Cond} {rm : Room} {cc : ByteArray} {maxL mc ms : Nat} {av : List Value} {wc w1 : va_W} {sp : Int32} {ret : FieldType} {own : String} (ho : y.cls = own) (hy : plainName y.cls = true) (hw : wsy = Cond.code y cc maxL (some ret) :: ws') (hret : narrow ret (.int sp) = .int sp) (hav : ∀ v ∈ av, v.category = 1) (hlen : av.length ≤ maxL)
    (body : ∀ X : zT, zF G X rm cc wsy own → zR G X cc w1 (some (.int sp)) mc ms → zJ G X 0 wc (zlv av maxL) [] 0 0) : zM G y wsy rm av wc w1 (some (.int sp)) mc ms := by
  subst ho
  intro hfl sz
  refine Met.ofW (cc := cc) (maxL := maxL) (ret := some ret) hy hw ?_
  intro p e s m args below meth c s₁ B hml hv
  obtain ⟨rfl, hsz, hP, hD0, hE⟩ := hv
  have hx := B.exec
  have hb := B.bytes
  have hr := B.returns
  have hts := atoms_spec (ws := wsy) B.pre
  have hown := findClass_of_methodNamed B.named
  have hlocks := B.notSynchronized
  subst hsz
  have hD := hD0.self (sz := s.heap.size)
  have key := body (p, G.1, e, (headSpec wsy rm).room, s, m, av.toArray, below, meth, c, MQ below (zQ G (some (.int sp)) w1 (va_A wc s.heap.size)) av.toArray s mc ms (va_A wc s.heap.size), va_A wc s.heap.size, maxL) ⟨rfl, rfl, hfl, ⟨hx, hb, hml, hown, hts⟩, hE, fun q h => Or.inr h⟩ ?_
  · rw [lg_entry_eq]
    exact key s.heap [] _ hP hD va_S.rf (zh_entry hav hlen)
  · intro pc lv cells slots hc hs d H locs ls hP hD hS hl
    refine W.widen hc hs ?_
    exact W.zret hx hb hr hret (fun t ht hW => ⟨⟨rfl, by rw [ht]; exact hP⟩, hS.F ht⟩) hS.2.2 d
set_option maxHeartbeats 2000000 in
theorem zM.ofV {G : zG} {y : MethodName} {wsy ws' : List Cond} {rm : Room} {cc : ByteArray} {maxL mc ms : Nat} {av : List Value} {wc w1 : va_W} {own : String} (ho : y.cls = own) (hy : plainName y.cls = true) (hw : wsy = Cond.code y cc maxL none :: ws') (hav : ∀ v ∈ av, v.category = 1) (hlen : av.length ≤ maxL)
    (body : ∀ X : zT, zF G X rm cc wsy own → zR G X cc w1 none mc ms → zJ G X 0 wc (zlv av maxL) [] 0 0) : zM G y wsy rm av wc w1 none mc ms := by
  subst ho
  intro hfl sz
  refine Met.ofW (cc := cc) (maxL := maxL) (ret := none) hy hw ?_
  intro p e s m args below meth c s₁ B hml hv
  obtain ⟨rfl, hsz, hP, hD0, hE⟩ := hv
  have hx := B.exec
  have hb := B.bytes
  have hr := B.returns
  have hts := atoms_spec (ws := wsy) B.pre
  have hown := findClass_of_methodNamed B.named
  have hlocks := B.notSynchronized
  subst hsz
  have hD := hD0.self (sz := s.heap.size)
  have key := body (p, G.1, e, (headSpec wsy rm).room, s, m, av.toArray, below, meth, c, MQ below (zQ G none w1 (va_A wc s.heap.size)) av.toArray s mc ms (va_A wc s.heap.size), va_A wc s.heap.size, maxL) ⟨rfl, rfl, hfl, ⟨hx, hb, hml, hown, hts⟩, hE, fun q h => Or.inr h⟩ ?_
  · rw [lg_entry_eq]
    exact key s.heap [] _ hP hD va_S.rf (zh_entry hav hlen)
  · intro pc lv cells slots hc hs d H locs ls hP hD hS hl
    refine W.widen hc hs ?_
    exact W.vret hx hb hr (fun t ht hW => ⟨⟨rfl, by rw [ht]; exact hP⟩, hS.F ht⟩) hS.2.2 d
set_option maxHeartbeats 2000000 in
theorem zX.ofI {G : zG} {y : MethodName} {wsy ws' : List Cond} {rm : Room} {cc : ByteArray} {maxL mc ms code : Nat} {av : List Value} {wc w1 : va_W} {sp : Int32} {ret : FieldType} {own : String} (ho : y.cls = own) (hy : plainName y.cls = true) (hw : wsy = Cond.code y cc maxL (some ret) :: ws') (hret : narrow ret (.int sp) = .int sp) (hav : ∀ v ∈ av, v.category = 1) (hlen : av.length ≤ maxL)
    (body : ∀ X : zT, zF G X rm cc wsy own → zZ G X wc code mc ms → (code = 0 → zR G X cc w1 (some (.int sp)) mc ms) → zJ G X 0 wc (zlv av maxL) [] 0 0) : zX G y wsy rm av wc w1 code (some (.int sp)) mc ms := by
  subst ho
  intro hfl sz
  refine vx_ofW (cc := cc) (maxL := maxL) (ret := some ret) hy hw ?_
  intro p e s m args below meth c s₁ B hml htab hv
  obtain ⟨rfl, hsz, hP, hD0, hE⟩ := hv
  have hx := B.exec
  have hb := B.bytes
  have hr := B.returns
  have hts := atoms_spec (ws := wsy) B.pre
  have hown := findClass_of_methodNamed B.named
  have hlocks := B.notSynchronized
  subst hsz
  have hD := hD0.self (sz := s.heap.size)
  have key := body (p, G.1, e, (headSpec wsy rm).room, s, m, av.toArray, below, meth, c, vx_MQ below (zQx G code (some (.int sp)) w1 (va_A wc s.heap.size)) (zXC G code wc (va_A wc s.heap.size)) av.toArray s mc ms (va_A wc s.heap.size), va_A wc s.heap.size, maxL) ⟨rfl, rfl, hfl, ⟨hx, hb, hml, hown, hts⟩, hE, fun q h => Or.inr h⟩ ⟨⟨_, rfl⟩, fun x hx => absurd (htab x hx) id, hlocks⟩ ?_
  · rw [lg_entry_eq]
    exact key s.heap [] _ hP hD va_S.rf (zh_entry hav hlen)
  · intro h0 pc lv cells slots hc hs d H locs ls hP hD hS hl
    refine vx_ret (W.widen hc hs ?_)
    exact W.zret hx hb hr hret (fun t ht hW => ⟨⟨h0, rfl, by rw [ht]; exact hP⟩, hS.F ht⟩) hS.2.2 d
set_option maxHeartbeats 2000000 in
theorem zX.ofV {G : zG} {y : MethodName} {wsy ws' : List Cond} {rm : Room} {cc : ByteArray} {maxL mc ms code : Nat} {av : List Value} {wc w1 : va_W} {own : String} (ho : y.cls = own) (hy : plainName y.cls = true) (hw : wsy = Cond.code y cc maxL none :: ws') (hav : ∀ v ∈ av, v.category = 1) (hlen : av.length ≤ maxL)
    (body : ∀ X : zT, zF G X rm cc wsy own → zZ G X wc code mc ms → (code = 0 → zR G X cc w1 none mc ms) → zJ G X 0 wc (zlv av maxL) [] 0 0) : zX G y wsy rm av wc w1 code none mc ms := by
  subst ho
  intro hfl sz
  refine vx_ofW (cc := cc) (maxL := maxL) (ret := none) hy hw ?_
  intro p e s m args below meth c s₁ B hml htab hv
  obtain ⟨rfl, hsz, hP, hD0, hE⟩ := hv
  have hx := B.exec
  have hb := B.bytes
  have hr := B.returns
  have hts := atoms_spec (ws := wsy) B.pre
  have hown := findClass_of_methodNamed B.named
  have hlocks := B.notSynchronized
  subst hsz
  have hD := hD0.self (sz := s.heap.size)
  have key := body (p, G.1, e, (headSpec wsy rm).room, s, m, av.toArray, below, meth, c, vx_MQ below (zQx G code none w1 (va_A wc s.heap.size)) (zXC G code wc (va_A wc s.heap.size)) av.toArray s mc ms (va_A wc s.heap.size), va_A wc s.heap.size, maxL) ⟨rfl, rfl, hfl, ⟨hx, hb, hml, hown, hts⟩, hE, fun q h => Or.inr h⟩ ⟨⟨_, rfl⟩, fun x hx => absurd (htab x hx) id, hlocks⟩ ?_
  · rw [lg_entry_eq]
    exact key s.heap [] _ hP hD va_S.rf (zh_entry hav hlen)
  · intro h0 pc lv cells slots hc hs d H locs ls hP hD hS hl
    refine vx_ret (W.widen hc hs ?_)
    exact W.vret hx hb hr (fun t ht hW => ⟨⟨h0, rfl, by rw [ht]; exact hP⟩, hS.F ht⟩) hS.2.2 d
end
section
/-! one instruction, one rule, on zJ -/
section ZR
variable {G : zG} {X : zT} {R : Room} {cc : ByteArray} {Ts : List Cond} {own : String} {pc cells slots : Nat} {ws : va_W} {lv : List (Option Value)} {st : List Value}
theorem z_iconst (hF : zF G X R cc Ts own) {k : Int} {v : Int32} (hdg : decode cc pc = .ok (.iconst k, 1)) (hv : Int32.ofInt k = v)
    (kk : zJ G X (pc + 1) ws lv (.int v :: st) cells slots) : zJ G X pc ws lv (st) cells slots := by
  obtain ⟨p, l, e, R', s, m, args, below, meth, c, Q, A, n⟩ := X
  intro H locs ls hP hD hS hl
  exact lv_iconst hF.2.2.2.1.1 hF.2.2.2.1.2.1 hdg hv (kk H locs ls hP hD hS hl)
theorem z_bipush (hF : zF G X R cc Ts own) {k : Int} {v : Int32} (hdg : decode cc pc = .ok (.bipush k, 2)) (hv : (Int8.ofInt k).toInt32 = v)
    (kk : zJ G X (pc + 2) ws lv (.int v :: st) cells slots) : zJ G X pc ws lv (st) cells slots := by
  obtain ⟨p, l, e, R', s, m, args, below, meth, c, Q, A, n⟩ := X
  intro H locs ls hP hD hS hl
  exact lv_bipush hF.2.2.2.1.1 hF.2.2.2.1.2.1 hdg hv (kk H locs ls hP hD hS hl)
theorem z_sipush (hF : zF G X R cc Ts own) {k : Int} {v : Int32} (hdg : decode cc pc = .ok (.sipush k, 3)) (hv : (Int16.ofInt k).toInt32 = v)
    (kk : zJ G X (pc + 3) ws lv (.int v :: st) cells slots) : zJ G X pc ws lv (st) cells slots := by
  obtain ⟨p, l, e, R', s, m, args, below, meth, c, Q, A, n⟩ := X
  intro H locs ls hP hD hS hl
  exact lv_sipush hF.2.2.2.1.1 hF.2.2.2.1.2.1 hdg hv (kk H locs ls hP hD hS hl)
theorem z_lconst (hF : zF G X R cc Ts own) {k : Fin 2} {v : Int64} (hdg : decode cc pc = .ok (.lconst k, 1)) (hv : Int64.ofNat (k : Nat) = v)
    (kk : zJ G X (pc + 1) ws lv (.long v :: st) cells slots) : zJ G X pc ws lv (st) cells slots := by
  obtain ⟨p, l, e, R', s, m, args, below, meth, c, Q, A, n⟩ := X
  intro H locs ls hP hD hS hl
  exact lv_lconst hF.2.2.2.1.1 hF.2.2.2.1.2.1 hdg hv (kk H locs ls hP hD hS hl)
theorem z_iload_n (hF : zF G X R cc Ts own) {k : Fin 4} {x : Int32} (hdg : decode cc pc = .ok (.iload_n k, 1)) (hq : lv[(k : Nat)]? = some (some (.int x)))
    (kk : zJ G X (pc + 1) ws lv (.int x :: st) cells slots) : zJ G X pc ws lv (st) cells slots := by
  obtain ⟨p, l, e, R', s, m, args, below, meth, c, Q, A, n⟩ := X
  intro H locs ls hP hD hS hl
  exact lv_iload_n hF.2.2.2.1.1 hF.2.2.2.1.2.1 hdg rfl (hl.2.2.1 _ _ hq).2 (kk H locs ls hP hD hS hl)
theorem z_iload (hF : zF G X R cc Ts own) {k : Nat} {x : Int32} (hdg : decode cc pc = .ok (.iload k, 2)) (hq : lv[k]? = some (some (.int x)))
    (kk : zJ G X (pc + 2) ws lv (.int x :: st) cells slots) : zJ G X pc ws lv (st) cells slots := by
  obtain ⟨p, l, e, R', s, m, args, below, meth, c, Q, A, n⟩ := X
  intro H locs ls hP hD hS hl
  exact lv_iload hF.2.2.2.1.1 hF.2.2.2.1.2.1 hdg (hl.2.2.1 _ _ hq).2 (kk H locs ls hP hD hS hl)
theorem z_aload_n (hF : zF G X R cc Ts own) {k : Fin 4} {x : Nat} (hdg : decode cc pc = .ok (.aload_n k, 1)) (hq : lv[(k : Nat)]? = some (some (.ref x)))
    (kk : zJ G X (pc + 1) ws lv (.ref x :: st) cells slots) : zJ G X pc ws lv (st) cells slots := by
  obtain ⟨p, l, e, R', s, m, args, below, meth, c, Q, A, n⟩ := X
  intro H locs ls hP hD hS hl
  exact lv_aload_n hF.2.2.2.1.1 hF.2.2.2.1.2.1 hdg rfl (hl.2.2.1 _ _ hq).2 (kk H locs ls hP hD hS hl)
theorem z_aload (hF : zF G X R cc Ts own) {k : Nat} {x : Nat} (hdg : decode cc pc = .ok (.aload k, 2)) (hq : lv[k]? = some (some (.ref x)))
    (kk : zJ G X (pc + 2) ws lv (.ref x :: st) cells slots) : zJ G X pc ws lv (st) cells slots := by
  obtain ⟨p, l, e, R', s, m, args, below, meth, c, Q, A, n⟩ := X
  intro H locs ls hP hD hS hl
  exact lv_aload hF.2.2.2.1.1 hF.2.2.2.1.2.1 hdg (hl.2.2.1 _ _ hq).2 (kk H locs ls hP hD hS hl)
theorem z_iadd (hF : zF G X R cc Ts own) {x y : Int32} (hdg : decode cc pc = .ok (.iadd, 1))
    (kk : zJ G X (pc + 1) ws lv (.int (x + y) :: st) cells slots) : zJ G X pc ws lv (.int y :: .int x :: st) cells slots := by
  obtain ⟨p, l, e, R', s, m, args, below, meth, c, Q, A, n⟩ := X
  intro H locs ls hP hD hS hl
  exact lv_iadd hF.2.2.2.1.1 hF.2.2.2.1.2.1 hdg (kk H locs ls hP hD hS hl)
theorem z_isub (hF : zF G X R cc Ts own) {x y : Int32} (hdg : decode cc pc = .ok (.isub, 1))
    (kk : zJ G X (pc + 1) ws lv (.int (x - y) :: st) cells slots) : zJ G X pc ws lv (.int y :: .int x :: st) cells slots := by
  obtain ⟨p, l, e, R', s, m, args, below, meth, c, Q, A, n⟩ := X
  intro H locs ls hP hD hS hl
  exact lv_isub hF.2.2.2.1.1 hF.2.2.2.1.2.1 hdg (kk H locs ls hP hD hS hl)
theorem z_imul (hF : zF G X R cc Ts own) {x y : Int32} (hdg : decode cc pc = .ok (.imul, 1))
    (kk : zJ G X (pc + 1) ws lv (.int (x * y) :: st) cells slots) : zJ G X pc ws lv (.int y :: .int x :: st) cells slots := by
  obtain ⟨p, l, e, R', s, m, args, below, meth, c, Q, A, n⟩ := X
  intro H locs ls hP hD hS hl
  exact lv_imul hF.2.2.2.1.1 hF.2.2.2.1.2.1 hdg (kk H locs ls hP hD hS hl)
theorem z_iand (hF : zF G X R cc Ts own) {x y : Int32} (hdg : decode cc pc = .ok (.iand, 1))
    (kk : zJ G X (pc + 1) ws lv (.int (x &&& y) :: st) cells slots) : zJ G X pc ws lv (.int y :: .int x :: st) cells slots := by
  obtain ⟨p, l, e, R', s, m, args, below, meth, c, Q, A, n⟩ := X
  intro H locs ls hP hD hS hl
  exact lv_iand hF.2.2.2.1.1 hF.2.2.2.1.2.1 hdg (kk H locs ls hP hD hS hl)
theorem z_ior (hF : zF G X R cc Ts own) {x y : Int32} (hdg : decode cc pc = .ok (.ior, 1))
    (kk : zJ G X (pc + 1) ws lv (.int (x ||| y) :: st) cells slots) : zJ G X pc ws lv (.int y :: .int x :: st) cells slots := by
  obtain ⟨p, l, e, R', s, m, args, below, meth, c, Q, A, n⟩ := X
  intro H locs ls hP hD hS hl
  exact lv_ior hF.2.2.2.1.1 hF.2.2.2.1.2.1 hdg (kk H locs ls hP hD hS hl)
theorem z_ixor (hF : zF G X R cc Ts own) {x y : Int32} (hdg : decode cc pc = .ok (.ixor, 1))
    (kk : zJ G X (pc + 1) ws lv (.int (x ^^^ y) :: st) cells slots) : zJ G X pc ws lv (.int y :: .int x :: st) cells slots := by
  obtain ⟨p, l, e, R', s, m, args, below, meth, c, Q, A, n⟩ := X
  intro H locs ls hP hD hS hl
  exact lv_ixor hF.2.2.2.1.1 hF.2.2.2.1.2.1 hdg (kk H locs ls hP hD hS hl)
theorem z_ishl (hF : zF G X R cc Ts own) {x y : Int32} (hdg : decode cc pc = .ok (.ishl, 1))
    (kk : zJ G X (pc + 1) ws lv (.int (x <<< (y &&& 31)) :: st) cells slots) : zJ G X pc ws lv (.int y :: .int x :: st) cells slots := by
  obtain ⟨p, l, e, R', s, m, args, below, meth, c, Q, A, n⟩ := X
  intro H locs ls hP hD hS hl
  exact lv_ishl hF.2.2.2.1.1 hF.2.2.2.1.2.1 hdg (kk H locs ls hP hD hS hl)
theorem z_idiv (hF : zF G X R cc Ts own) {x y : Int32} (hdg : decode cc pc = .ok (.idiv, 1)) (h0 : ¬ y = 0)
    (kk : zJ G X (pc + 1) ws lv (.int (x / y) :: st) cells slots) : zJ G X pc ws lv (.int y :: .int x :: st) cells slots := by
  obtain ⟨p, l, e, R', s, m, args, below, meth, c, Q, A, n⟩ := X
  intro H locs ls hP hD hS hl
  exact lv_idiv hF.2.2.2.1.1 hF.2.2.2.1.2.1 hdg h0 (kk H locs ls hP hD hS hl)
theorem z_irem (hF : zF G X R cc Ts own) {x y : Int32} (hdg : decode cc pc = .ok (.irem, 1)) (h0 : ¬ y = 0)
    (kk : zJ G X (pc + 1) ws lv (.int (x - x / y * y) :: st) cells slots) : zJ G X pc ws lv (.int y :: .int x :: st) cells slots := by
  obtain ⟨p, l, e, R', s, m, args, below, meth, c, Q, A, n⟩ := X
  intro H locs ls hP hD hS hl
  exact lv_irem hF.2.2.2.1.1 hF.2.2.2.1.2.1 hdg h0 (kk H locs ls hP hD hS hl)
theorem z_iushr (hF : zF G X R cc Ts own) {x y : Int32} (hdg : decode cc pc = .ok (.iushr, 1))
    (kk : zJ G X (pc + 1) ws lv (.int (x.toUInt32 >>> (y.toUInt32 &&& Int32.toUInt32 31)).toInt32 :: st) cells slots) : zJ G X pc ws lv (.int y :: .int x :: st) cells slots := by
  obtain ⟨p, l, e, R', s, m, args, below, meth, c, Q, A, n⟩ := X
  intro H locs ls hP hD hS hl
  exact lv_iushr hF.2.2.2.1.1 hF.2.2.2.1.2.1 hdg rfl (kk H locs ls hP hD hS hl)
theorem z_ineg (hF : zF G X R cc Ts own) {x : Int32} (hdg : decode cc pc = .ok (.ineg, 1))
    (kk : zJ G X (pc + 1) ws lv (.int (-x) :: st) cells slots) : zJ G X pc ws lv (.int x :: st) cells slots := by
  obtain ⟨p, l, e, R', s, m, args, below, meth, c, Q, A, n⟩ := X
  intro H locs ls hP hD hS hl
  exact lv_ineg hF.2.2.2.1.1 hF.2.2.2.1.2.1 hdg (kk H locs ls hP hD hS hl)
theorem z_i2l (hF : zF G X R cc Ts own) {x : Int32} (hdg : decode cc pc = .ok (.i2l, 1))
    (kk : zJ G X (pc + 1) ws lv (.long x.toInt64 :: st) cells slots) : zJ G X pc ws lv (.int x :: st) cells slots := by
  obtain ⟨p, l, e, R', s, m, args, below, meth, c, Q, A, n⟩ := X
  intro H locs ls hP hD hS hl
  exact lv_i2l hF.2.2.2.1.1 hF.2.2.2.1.2.1 hdg rfl (kk H locs ls hP hD hS hl)
theorem z_dup (hF : zF G X R cc Ts own) {v : Value} (hdg : decode cc pc = .ok (.dup, 1)) (hv : v.category = 1)
    (kk : zJ G X (pc + 1) ws lv (v :: v :: st) cells slots) : zJ G X pc ws lv (v :: st) cells slots := by
  obtain ⟨p, l, e, R', s, m, args, below, meth, c, Q, A, n⟩ := X
  intro H locs ls hP hD hS hl
  exact lv_dup hF.2.2.2.1.1 hF.2.2.2.1.2.1 hdg hv (kk H locs ls hP hD hS hl)
theorem z_pop (hF : zF G X R cc Ts own) {v : Value} (hdg : decode cc pc = .ok (.pop, 1)) (hv : v.category = 1)
    (kk : zJ G X (pc + 1) ws lv (st) cells slots) : zJ G X pc ws lv (v :: st) cells slots := by
  obtain ⟨p, l, e, R', s, m, args, below, meth, c, Q, A, n⟩ := X
  intro H locs ls hP hD hS hl
  exact lv_pop hF.2.2.2.1.1 hF.2.2.2.1.2.1 hdg hv (kk H locs ls hP hD hS hl)
theorem z_dup2 (hF : zF G X R cc Ts own) {v w : Value} (hdg : decode cc pc = .ok (.dup2, 1)) (hv : v.category = 1) (hw : w.category = 1)
    (kk : zJ G X (pc + 1) ws lv (v :: w :: v :: w :: st) cells slots) : zJ G X pc ws lv (v :: w :: st) cells slots := by
  obtain ⟨p, l, e, R', s, m, args, below, meth, c, Q, A, n⟩ := X
  intro H locs ls hP hD hS hl
  exact lv_dup2_11 hF.2.2.2.1.1 hF.2.2.2.1.2.1 hdg hv hw (kk H locs ls hP hD hS hl)
theorem z_goto (hF : zF G X R cc Ts own) {off : Int} {tgt : Nat} (hdg : decode cc pc = .ok (.goto off, 3)) (ht : (pc : Int) + off = (tgt : Int))
    (kk : zJ G X (tgt) ws lv (st) cells slots) : zJ G X pc ws lv (st) cells slots := by
  obtain ⟨p, l, e, R', s, m, args, below, meth, c, Q, A, n⟩ := X
  intro H locs ls hP hD hS hl
  exact lv_goto hF.2.2.2.1.1 hF.2.2.2.1.2.1 hdg ht (kk H locs ls hP hD hS hl)
theorem z_ldc (hF : zF G X R cc Ts own) {index : Nat} {v : Int32} (hdg : decode cc pc = .ok (.ldc index, 2)) (hc : zH X (.constant own index v))
    (kk : zJ G X (pc + 2) ws lv (.int v :: st) cells slots) : zJ G X pc ws lv (st) cells slots := by
  obtain ⟨p, l, e, R', s, m, args, below, meth, c, Q, A, n⟩ := X
  intro H locs ls hP hD hS hl
  exact lv_ldc hF.2.2.2.1.1 hF.2.2.2.1.2.1 hF.2.2.2.1.2.2.2.1 hc hdg (kk H locs ls hP hD hS hl)
theorem z_istore_n (hF : zF G X R cc Ts own) {k : Fin 4} {x : Int32} {lv' : List (Option Value)} (hdg : decode cc pc = .ok (.istore_n k, 1)) (hlv : lv.set k (some (.int x)) = lv') (hn : decide ((k : Nat) < lv.length) = true)
    (kk : zJ G X (pc + 1) ws lv' st cells slots) : zJ G X pc ws lv (.int x :: st) cells slots := by
  obtain ⟨p, l, e, R', s, m, args, below, meth, c, Q, A, n⟩ := X
  intro H locs ls hP hD hS hl
  subst hlv
  exact lv_istore_n hF.2.2.2.1.1 hF.2.2.2.1.2.1 hdg rfl hl.has (Nat.lt_of_lt_of_eq (of_decide_eq_true hn) hl.2.2.2) rfl (fun ls' h' => kk H locs ls' hP hD hS (hl.set rfl h'))
theorem z_istore (hF : zF G X R cc Ts own) {k : Nat} {x : Int32} {lv' : List (Option Value)} (hdg : decode cc pc = .ok (.istore k, 2)) (hlv : lv.set k (some (.int x)) = lv') (hn : decide (k < lv.length) = true)
    (kk : zJ G X (pc + 2) ws lv' st cells slots) : zJ G X pc ws lv (.int x :: st) cells slots := by
  obtain ⟨p, l, e, R', s, m, args, below, meth, c, Q, A, n⟩ := X
  intro H locs ls hP hD hS hl
  subst hlv
  exact lv_istore hF.2.2.2.1.1 hF.2.2.2.1.2.1 hdg hl.has (Nat.lt_of_lt_of_eq (of_decide_eq_true hn) hl.2.2.2) rfl (fun ls' h' => kk H locs ls' hP hD hS (hl.set rfl h'))
theorem z_astore_n (hF : zF G X R cc Ts own) {k : Fin 4} {x : Nat} {lv' : List (Option Value)} (hdg : decode cc pc = .ok (.astore_n k, 1)) (hlv : lv.set k (some (.ref x)) = lv') (hn : decide ((k : Nat) < lv.length) = true)
    (kk : zJ G X (pc + 1) ws lv' st cells slots) : zJ G X pc ws lv (.ref x :: st) cells slots := by
  obtain ⟨p, l, e, R', s, m, args, below, meth, c, Q, A, n⟩ := X
  intro H locs ls hP hD hS hl
  subst hlv
  exact lv_astore_n hF.2.2.2.1.1 hF.2.2.2.1.2.1 hdg rfl hl.has (Nat.lt_of_lt_of_eq (of_decide_eq_true hn) hl.2.2.2) rfl (fun ls' h' => kk H locs ls' hP hD hS (hl.set rfl h'))
theorem z_astore (hF : zF G X R cc Ts own) {k : Nat} {x : Nat} {lv' : List (Option Value)} (hdg : decode cc pc = .ok (.astore k, 2)) (hlv : lv.set k (some (.ref x)) = lv') (hn : decide (k < lv.length) = true)
    (kk : zJ G X (pc + 2) ws lv' st cells slots) : zJ G X pc ws lv (.ref x :: st) cells slots := by
  obtain ⟨p, l, e, R', s, m, args, below, meth, c, Q, A, n⟩ := X
  intro H locs ls hP hD hS hl
  subst hlv
  exact lv_astore hF.2.2.2.1.1 hF.2.2.2.1.2.1 hdg hl.has (Nat.lt_of_lt_of_eq (of_decide_eq_true hn) hl.2.2.2) rfl (fun ls' h' => kk H locs ls' hP hD hS (hl.set rfl h'))
theorem z_iinc (hF : zF G X R cc Ts own) {k : Nat} {n : Int} {x v : Int32} {lv' : List (Option Value)} (hdg : decode cc pc = .ok (.iinc k n, 3)) (hq : lv[k]? = some (some (.int x))) (hv : x + Int32.ofInt n = v) (hlv : lv.set k (some (.int v)) = lv') (hn : decide (k < lv.length) = true)
    (kk : zJ G X (pc + 3) ws lv' st cells slots) : zJ G X pc ws lv st cells slots := by
  obtain ⟨p, l, e, R', s, m, args, below, meth, c, Q, A, n⟩ := X
  intro H locs ls hP hD hS hl
  subst hlv
  obtain ⟨j, hj⟩ := List.getElem?_of_mem (zl_mem.mpr hq)
  exact lv_iinc hF.2.2.2.1.1 hF.2.2.2.1.2.1 hdg hl.has hj hv (Nat.lt_of_lt_of_eq (of_decide_eq_true hn) hl.2.2.2) rfl (fun ls' h' => kk H locs ls' hP hD hS (hl.set rfl h'))
theorem z_if_eq (hF : zF G X R cc Ts own) {x : Int32} {off : Int} {tgt : Nat} (hdg : decode cc pc = .ok (.ifCond .eq off, 3)) (ht : (pc : Int) + off = (tgt : Int))
    (kt : x = 0 → zJ G X tgt ws lv st cells slots) (kf : ¬ x = 0 → zJ G X (pc + 3) ws lv st cells slots) : zJ G X pc ws lv (.int x :: st) cells slots := by
  obtain ⟨p, l, e, R', s, m, args, below, meth, c, Q, A, n⟩ := X
  intro H locs ls hP hD hS hl
  exact lv_if_eq hF.2.2.2.1.1 hF.2.2.2.1.2.1 hdg ht (fun h => kt h H locs ls hP hD hS hl) (fun h => kf h H locs ls hP hD hS hl)
theorem z_if_ne (hF : zF G X R cc Ts own) {x : Int32} {off : Int} {tgt : Nat} (hdg : decode cc pc = .ok (.ifCond .ne off, 3)) (ht : (pc : Int) + off = (tgt : Int))
    (kt : ¬ x = 0 → zJ G X tgt ws lv st cells slots) (kf : x = 0 → zJ G X (pc + 3) ws lv st cells slots) : zJ G X pc ws lv (.int x :: st) cells slots := by
  obtain ⟨p, l, e, R', s, m, args, below, meth, c, Q, A, n⟩ := X
  intro H locs ls hP hD hS hl
  exact lv_if_ne hF.2.2.2.1.1 hF.2.2.2.1.2.1 hdg ht (fun h => kt h H locs ls hP hD hS hl) (fun h => kf h H locs ls hP hD hS hl)
theorem z_if_lt (hF : zF G X R cc Ts own) {x : Int32} {off : Int} {tgt : Nat} (hdg : decode cc pc = .ok (.ifCond .lt off, 3)) (ht : (pc : Int) + off = (tgt : Int))
    (kt : x < 0 → zJ G X tgt ws lv st cells slots) (kf : ¬ x < 0 → zJ G X (pc + 3) ws lv st cells slots) : zJ G X pc ws lv (.int x :: st) cells slots := by
  obtain ⟨p, l, e, R', s, m, args, below, meth, c, Q, A, n⟩ := X
  intro H locs ls hP hD hS hl
  exact lv_if_lt hF.2.2.2.1.1 hF.2.2.2.1.2.1 hdg ht (fun h => kt h H locs ls hP hD hS hl) (fun h => kf h H locs ls hP hD hS hl)
theorem z_if_ge (hF : zF G X R cc Ts own) {x : Int32} {off : Int} {tgt : Nat} (hdg : decode cc pc = .ok (.ifCond .ge off, 3)) (ht : (pc : Int) + off = (tgt : Int))
    (kt : 0 ≤ x → zJ G X tgt ws lv st cells slots) (kf : ¬ 0 ≤ x → zJ G X (pc + 3) ws lv st cells slots) : zJ G X pc ws lv (.int x :: st) cells slots := by
  obtain ⟨p, l, e, R', s, m, args, below, meth, c, Q, A, n⟩ := X
  intro H locs ls hP hD hS hl
  exact lv_if_ge hF.2.2.2.1.1 hF.2.2.2.1.2.1 hdg ht (fun h => kt h H locs ls hP hD hS hl) (fun h => kf h H locs ls hP hD hS hl)
theorem z_if_le (hF : zF G X R cc Ts own) {x : Int32} {off : Int} {tgt : Nat} (hdg : decode cc pc = .ok (.ifCond .le off, 3)) (ht : (pc : Int) + off = (tgt : Int))
    (kt : x ≤ 0 → zJ G X tgt ws lv st cells slots) (kf : ¬ x ≤ 0 → zJ G X (pc + 3) ws lv st cells slots) : zJ G X pc ws lv (.int x :: st) cells slots := by
  obtain ⟨p, l, e, R', s, m, args, below, meth, c, Q, A, n⟩ := X
  intro H locs ls hP hD hS hl
  exact lv_if_le hF.2.2.2.1.1 hF.2.2.2.1.2.1 hdg ht (fun h => kt h H locs ls hP hD hS hl) (fun h => kf h H locs ls hP hD hS hl)
theorem z_if_gt (hF : zF G X R cc Ts own) {x : Int32} {off : Int} {tgt : Nat} (hdg : decode cc pc = .ok (.ifCond .gt off, 3)) (ht : (pc : Int) + off = (tgt : Int))
    (kt : 0 < x → zJ G X tgt ws lv st cells slots) (kf : ¬ 0 < x → zJ G X (pc + 3) ws lv st cells slots) : zJ G X pc ws lv (.int x :: st) cells slots := by
  obtain ⟨p, l, e, R', s, m, args, below, meth, c, Q, A, n⟩ := X
  intro H locs ls hP hD hS hl
  exact lv_if_gt hF.2.2.2.1.1 hF.2.2.2.1.2.1 hdg ht (fun h => kt h H locs ls hP hD hS hl) (fun h => kf h H locs ls hP hD hS hl)
theorem z_ic_eq (hF : zF G X R cc Ts own) {x y : Int32} {off : Int} {tgt : Nat} (hdg : decode cc pc = .ok (.if_icmp .eq off, 3)) (ht : (pc : Int) + off = (tgt : Int))
    (kt : x = y → zJ G X tgt ws lv st cells slots) (kf : ¬ x = y → zJ G X (pc + 3) ws lv st cells slots) : zJ G X pc ws lv (.int y :: .int x :: st) cells slots := by
  obtain ⟨p, l, e, R', s, m, args, below, meth, c, Q, A, n⟩ := X
  intro H locs ls hP hD hS hl
  exact lv_icmp_eq hF.2.2.2.1.1 hF.2.2.2.1.2.1 hdg ht (fun h => kt h H locs ls hP hD hS hl) (fun h => kf h H locs ls hP hD hS hl)
theorem z_ic_ne (hF : zF G X R cc Ts own) {x y : Int32} {off : Int} {tgt : Nat} (hdg : decode cc pc = .ok (.if_icmp .ne off, 3)) (ht : (pc : Int) + off = (tgt : Int))
    (kt : ¬ x = y → zJ G X tgt ws lv st cells slots) (kf : x = y → zJ G X (pc + 3) ws lv st cells slots) : zJ G X pc ws lv (.int y :: .int x :: st) cells slots := by
  obtain ⟨p, l, e, R', s, m, args, below, meth, c, Q, A, n⟩ := X
  intro H locs ls hP hD hS hl
  exact lv_icmp_ne hF.2.2.2.1.1 hF.2.2.2.1.2.1 hdg ht (fun h => kt h H locs ls hP hD hS hl) (fun h => kf h H locs ls hP hD hS hl)
theorem z_ic_lt (hF : zF G X R cc Ts own) {x y : Int32} {off : Int} {tgt : Nat} (hdg : decode cc pc = .ok (.if_icmp .lt off, 3)) (ht : (pc : Int) + off = (tgt : Int))
    (kt : x < y → zJ G X tgt ws lv st cells slots) (kf : ¬ x < y → zJ G X (pc + 3) ws lv st cells slots) : zJ G X pc ws lv (.int y :: .int x :: st) cells slots := by
  obtain ⟨p, l, e, R', s, m, args, below, meth, c, Q, A, n⟩ := X
  intro H locs ls hP hD hS hl
  exact lv_icmp_lt hF.2.2.2.1.1 hF.2.2.2.1.2.1 hdg ht (fun h => kt h H locs ls hP hD hS hl) (fun h => kf h H locs ls hP hD hS hl)
theorem z_ic_ge (hF : zF G X R cc Ts own) {x y : Int32} {off : Int} {tgt : Nat} (hdg : decode cc pc = .ok (.if_icmp .ge off, 3)) (ht : (pc : Int) + off = (tgt : Int))
    (kt : y ≤ x → zJ G X tgt ws lv st cells slots) (kf : ¬ y ≤ x → zJ G X (pc + 3) ws lv st cells slots) : zJ G X pc ws lv (.int y :: .int x :: st) cells slots := by
  obtain ⟨p, l, e, R', s, m, args, below, meth, c, Q, A, n⟩ := X
  intro H locs ls hP hD hS hl
  exact lv_icmp_ge hF.2.2.2.1.1 hF.2.2.2.1.2.1 hdg ht (fun h => kt h H locs ls hP hD hS hl) (fun h => kf h H locs ls hP hD hS hl)
theorem z_ic_le (hF : zF G X R cc Ts own) {x y : Int32} {off : Int} {tgt : Nat} (hdg : decode cc pc = .ok (.if_icmp .le off, 3)) (ht : (pc : Int) + off = (tgt : Int))
    (kt : x ≤ y → zJ G X tgt ws lv st cells slots) (kf : ¬ x ≤ y → zJ G X (pc + 3) ws lv st cells slots) : zJ G X pc ws lv (.int y :: .int x :: st) cells slots := by
  obtain ⟨p, l, e, R', s, m, args, below, meth, c, Q, A, n⟩ := X
  intro H locs ls hP hD hS hl
  exact lv_icmp_le hF.2.2.2.1.1 hF.2.2.2.1.2.1 hdg ht (fun h => kt h H locs ls hP hD hS hl) (fun h => kf h H locs ls hP hD hS hl)
theorem z_ic_gt (hF : zF G X R cc Ts own) {x y : Int32} {off : Int} {tgt : Nat} (hdg : decode cc pc = .ok (.if_icmp .gt off, 3)) (ht : (pc : Int) + off = (tgt : Int))
    (kt : y < x → zJ G X tgt ws lv st cells slots) (kf : ¬ y < x → zJ G X (pc + 3) ws lv st cells slots) : zJ G X pc ws lv (.int y :: .int x :: st) cells slots := by
  obtain ⟨p, l, e, R', s, m, args, below, meth, c, Q, A, n⟩ := X
  intro H locs ls hP hD hS hl
  exact lv_icmp_gt hF.2.2.2.1.1 hF.2.2.2.1.2.1 hdg ht (fun h => kt h H locs ls hP hD hS hl) (fun h => kf h H locs ls hP hD hS hl)
def zb (P : Prop) [Decidable P] : Int32 := if P then 1 else 0
theorem zb_0 {P : Prop} [Decidable P] : zb P = 0 ↔ ¬ P := by
  unfold zb
  split <;> simp_all
theorem zb_nar {P : Prop} [Decidable P] : narrow .boolean (.int (zb P)) = .int (zb P) := by
  unfold zb
  split <;> rfl
theorem zb_iff {P P' : Prop} [Decidable P] [Decidable P'] (h : P ↔ P') : zb P = zb P' := by
  unfold zb
  split <;> split <;> simp_all
theorem zb_1 {P : Prop} [Decidable P] (h : P) : (1 : Int32) = zb P := by
  unfold zb
  rw [if_pos h]
theorem zb_z {P : Prop} [Decidable P] (h : ¬ P) : (0 : Int32) = zb P := by
  unfold zb
  rw [if_neg h]
theorem z_if_eq_b (hF : zF G X R cc Ts own) {P : Prop} [Decidable P] {off : Int} {tgt : Nat} (hdg : decode cc pc = .ok (.ifCond .eq off, 3)) (ht : (pc : Int) + off = (tgt : Int))
    (kt : ¬ P → zJ G X tgt ws lv st cells slots) (kf : P → zJ G X (pc + 3) ws lv st cells slots) : zJ G X pc ws lv (.int (zb P) :: st) cells slots :=
  z_if_eq hF hdg ht (fun h => kt (zb_0.mp h)) (fun h => kf (Decidable.not_not.mp (fun z => h (zb_0.mpr z))))
theorem z_if_ne_b (hF : zF G X R cc Ts own) {P : Prop} [Decidable P] {off : Int} {tgt : Nat} (hdg : decode cc pc = .ok (.ifCond .ne off, 3)) (ht : (pc : Int) + off = (tgt : Int))
    (kt : P → zJ G X tgt ws lv st cells slots) (kf : ¬ P → zJ G X (pc + 3) ws lv st cells slots) : zJ G X pc ws lv (.int (zb P) :: st) cells slots :=
  z_if_ne hF hdg ht (fun h => kt (Decidable.not_not.mp (fun z => h (zb_0.mpr z)))) (fun h => kf (zb_0.mp h))
/-- rewriting what stands on top, a local, the world -/
theorem z_top {x y : Int32} (h : x = y) (kk : zJ G X pc ws lv (.int y :: st) cells slots) : zJ G X pc ws lv (.int x :: st) cells slots := h ▸ kk
theorem z_top2 {x y : Int32} {v : Value} (h : x = y) (kk : zJ G X pc ws lv (v :: .int y :: st) cells slots) : zJ G X pc ws lv (v :: .int x :: st) cells slots := h ▸ kk
theorem z_nm {x : Int32} (kk : ∀ y : Int32, y = x → zJ G X pc ws lv (.int y :: st) cells slots) : zJ G X pc ws lv (.int x :: st) cells slots := kk x rfl
theorem z_ws {ws' : va_W} (h : ws = ws') (kk : zJ G X pc ws' lv st cells slots) : zJ G X pc ws lv st cells slots := h ▸ kk
theorem z_lv {lv' : List (Option Value)} (h : lv = lv') (kk : zJ G X pc ws lv' st cells slots) : zJ G X pc ws lv st cells slots := h ▸ kk
theorem z_st {st' : List Value} (h : st = st') (kk : zJ G X pc ws lv st' cells slots) : zJ G X pc ws lv st cells slots := h ▸ kk
/-- forgetting locals -/
theorem z_drop {lv' : List (Option Value)} (h : (∀ (i : Nat) (v : Value), lv'[i]? = some (some v) → lv[i]? = some (some v)) ∧ lv'.length = lv.length) (kk : zJ G X pc ws lv' st cells slots) : zJ G X pc ws lv st cells slots := by
  obtain ⟨p, l, e, R', s, m, args, below, meth, c, Q, A, n⟩ := X
  intro H locs ls hP hD hS hl
  exact kk H locs ls hP hD hS ⟨hl.1, hl.2.1, fun i v hv => hl.2.2.1 i v (h.1 i v hv), h.2.trans hl.2.2.2⟩
def zle : List (Option Value) → List (Option Value) → Prop
  | [], [] => True
  | none :: l, _ :: l' => zle l l'
  | some v :: l, w :: l' => w = some v ∧ zle l l'
  | _, _ => False
theorem zle_at : ∀ {l l' : List (Option Value)}, zle l l' → (∀ (i : Nat) (v : Value), l[i]? = some (some v) → l'[i]? = some (some v)) ∧ l.length = l'.length
  | [], [], _ => ⟨fun _ _ h => h, rfl⟩
  | none :: l, _ :: l', h => ⟨fun i v hv => match i, hv with
      | 0, hv => by cases hv
      | i + 1, hv => (zle_at (l := l) (l' := l') h).1 i v hv, congrArg (· + 1) (zle_at (l := l) (l' := l') h).2⟩
  | some w :: l, x :: l', h => ⟨fun i v hv => match i, hv with
      | 0, hv => by cases hv; exact congrArg some h.1
      | i + 1, hv => (zle_at (l := l) (l' := l') h.2).1 i v hv, congrArg (· + 1) (zle_at (l := l) (l' := l') h.2).2⟩
  | [], _ :: _, h => h.elim
  | none :: _, [], h => h.elim
  | some _ :: _, [], h => h.elim
theorem z_forget {lv' : List (Option Value)} (h : zle lv' lv) (kk : zJ G X pc ws lv' st cells slots) : zJ G X pc ws lv st cells slots := z_drop (zle_at h) kk
theorem z_widen {k n : Nat} (h1 : cells ≤ k) (h2 : slots ≤ n) (kk : zJ G X pc ws lv st k n) : zJ G X pc ws lv st cells slots := by
  obtain ⟨p, l, e, R', s, m, args, below, meth, c, Q, A, n⟩ := X
  intro H locs ls hP hD hS hl
  exact W.widen h1 h2 (kk H locs ls hP hD hS hl)
end ZR
end
section
/-! fields, rows, calls, throws: rules on zJ -/
section ZS
variable {G : zG} {X : zT} {R : Room} {cc : ByteArray} {Ts : List Cond} {own : String} {pc cells slots : Nat} {ws ws' : va_W} {lv : List (Option Value)} {st : List Value}
theorem z_get (hF : zF G X R cc Ts own) {C ref : String} {T : u_T} {N ci index : Nat} (hin : ∀ w ∈ u_ws C T N, w ∈ Ts) (k : Nat) (hk : k < N) (hc : vwCl[ci]? = some (C, T, N)) (hlink : zH X (.fieldLink own index ref (T k).2.1 (T k).2.2.1)) (href : (T k).1 = ref) (q0 : Nat) {a : Nat} {fs : List Value} {v : Value} (he : ws[q0]? = some (a, .inr (ci, fs))) (hv : fs[k]? = some v) (hdg : decode cc pc = .ok (.getfield index, 3))
    (kk : zJ G X (pc + 3) ws lv (v :: st) cells slots) : zJ G X pc ws lv (.ref a :: st) cells slots := by
  obtain ⟨p, l, e, R', s, m, args, below, meth, c, Q, A, n⟩ := X
  obtain ⟨rfl, rfl, hfl, ⟨hx, hb, hml, hown, hts⟩, hE, hA⟩ := hF
  intro H locs ls hP hD hS hl
  exact va_get hx hb hts hin hown hE.1 hP q0 he hc k hk hlink (fun x h => by rw [← href]; exact h) hv hdg (kk H locs ls hP hD hS hl)
theorem z_getN (hF : zF G X R cc Ts own) {C ref : String} {T : u_T} {N ci index : Nat} (hin : ∀ w ∈ u_ws C T N, w ∈ Ts) (k : Nat) (hk : k < N) (hc : vwCl[ci]? = some (C, T, N)) (hlink : zH X (.fieldLinkNest own index ref (T k).2.1 (T k).2.2.1 RX4)) (href : (T k).1 = ref) (q0 : Nat) {a : Nat} {fs : List Value} {v : Value} (he : ws[q0]? = some (a, .inr (ci, fs))) (hv : fs[k]? = some v) (hdg : decode cc pc = .ok (.getfield index, 3))
    (kk : zJ G X (pc + 3) ws lv (v :: st) cells slots) : zJ G X pc ws lv (.ref a :: st) cells slots := by
  obtain ⟨p, l, e, R', s, m, args, below, meth, c, Q, A, n⟩ := X
  obtain ⟨rfl, rfl, hfl, ⟨hx, hb, hml, hown, hts⟩, hE, hA⟩ := hF
  intro H locs ls hP hD hS hl
  exact va_getN hx hb hts hin hown hE.1 hP q0 he hc k hk hlink (fun x h => by rw [← href]; exact h) hv hdg (kk H locs ls hP hD hS hl)
theorem z_put (hF : zF G X R cc Ts own) {C ref : String} {T : u_T} {N ci index : Nat} (hin : ∀ w ∈ u_ws C T N, w ∈ Ts) (ty0 : Nat → FieldType) (hty : ∀ k, k < N → parseFieldDescriptor (T k).2.2.1 = some (ty0 k)) (hnm : ∀ a, a < N → ∀ b, b < N → a ≠ b → (T a).2.1 ≠ (T b).2.1) (k : Nat) (hk : k < N) (hc : vwCl[ci]? = some (C, T, N)) (hlink : zH X (.fieldLink own index ref (T k).2.1 (T k).2.2.1)) (href : (T k).1 = ref) (hfin : (T k).2.2.2 = false) {v : Value} (hn : narrow (ty0 k) v = v) (hfit : fits (ty0 k) v = true) (q0 : Nat) {a : Nat} {fs : List Value} (he : ws[q0]? = some (a, .inr (ci, fs))) (hl0 : decide (k < fs.length) = true) (hw : ws.set q0 (a, .inr (ci, fs.set k v)) = ws') (hdg : decode cc pc = .ok (.putfield index, 3))
    (kk : zJ G X (pc + 3) ws' lv st cells slots) : zJ G X pc ws lv (v :: .ref a :: st) cells slots := by
  obtain ⟨p, l, e, R', s, m, args, below, meth, c, Q, A, n⟩ := X
  obtain ⟨rfl, rfl, hfl, ⟨hx, hb, hml, hown, hts⟩, hE, hA⟩ := hF
  intro H locs ls hP hD hS hl
  subst hw
  exact va_put hx hb hts hin ty0 hty hnm hown hE.1 hP hD hS q0 he hc k hk hlink (fun x h => by rw [← href]; exact h) hfin (hty k hk) hn hfit (of_decide_eq_true hl0) hdg (fun H1 locs1 h1 h2 h3 => kk H1 locs1 ls h1 h2 h3 hl)
theorem z_iald (hF : zF G X R cc Ts own) (q0 : Nat) {a n k : Nat} {f : Nat → Int32} {i : Int32} (ha : ws[q0]? = some (a, eI G n f)) (hi : i = nI k) (hk : k < n) (hn : decide (n < 2 ^ 31) = true) (hdg : decode cc pc = .ok (.iaload, 1))
    (kk : zJ G X (pc + 1) ws lv (.int (f k) :: st) cells slots) : zJ G X pc ws lv (.int i :: .ref a :: st) cells slots := by
  obtain ⟨p, l, e, R', s, m, args, below, meth, c, Q, A, n9⟩ := X
  obtain ⟨rfl, rfl, hfl, ⟨hx, hb, hml, hown, hts⟩, hE, hA⟩ := hF
  intro H locs ls hP hD hS hl
  have hn := of_decide_eq_true hn
  subst hi
  refine va_iald hx hb hE.1 hP q0 0 ha rfl (vp_in_nI hk hn) hdg ?_
  rw [nI_clamp (Nat.lt_trans hk hn)]
  exact kk H locs ls hP hD hS hl
theorem z_zald (hF : zF G X R cc Ts own) (q0 : Nat) {a n k : Nat} {f : Nat → Int32} {i : Int32} (ha : ws[q0]? = some (a, eZ G n f)) (hi : i = nI k) (hk : k < n) (hn : decide (n < 2 ^ 31) = true) (hdg : decode cc pc = .ok (.baload, 1))
    (kk : zJ G X (pc + 1) ws lv (.int (f k) :: st) cells slots) : zJ G X pc ws lv (.int i :: .ref a :: st) cells slots := by
  obtain ⟨p, l, e, R', s, m, args, below, meth, c, Q, A, n9⟩ := X
  obtain ⟨rfl, rfl, hfl, ⟨hx, hb, hml, hown, hts⟩, hE, hA⟩ := hF
  intro H locs ls hP hD hS hl
  have hn := of_decide_eq_true hn
  subst hi
  refine va_zald hx hb hE.1 hP q0 1 ha rfl (vp_in_nI hk hn) hdg ?_
  rw [nI_clamp (Nat.lt_trans hk hn)]
  exact kk H locs ls hP hD hS hl
theorem z_lald (hF : zF G X R cc Ts own) (q0 : Nat) {a n k : Nat} {f : Nat → Int64} {i : Int32} (ha : ws[q0]? = some (a, eL G n f)) (hi : i = nI k) (hk : k < n) (hn : decide (n < 2 ^ 31) = true) (hdg : decode cc pc = .ok (.laload, 1))
    (kk : zJ G X (pc + 1) ws lv (.long (f k) :: st) cells slots) : zJ G X pc ws lv (.int i :: .ref a :: st) cells slots := by
  obtain ⟨p, l, e, R', s, m, args, below, meth, c, Q, A, n9⟩ := X
  obtain ⟨rfl, rfl, hfl, ⟨hx, hb, hml, hown, hts⟩, hE, hA⟩ := hF
  intro H locs ls hP hD hS hl
  have hn := of_decide_eq_true hn
  subst hi
  refine va_lald hx hb hE.1 hP q0 2 ha rfl (vp_in_nI hk hn) hdg ?_
  rw [nI_clamp (Nat.lt_trans hk hn)]
  exact kk H locs ls hP hD hS hl
theorem z_iast (hF : zF G X R cc Ts own) (q0 : Nat) {a n k : Nat} {f : Nat → Int32} {i x : Int32} (ha : ws[q0]? = some (a, eI G n f)) (hi : i = nI k) (hk : k < n) (hn : decide (n < 2 ^ 31) = true) (hw : ws.set q0 (a, eI G n (upd f k x)) = ws') (hdg : decode cc pc = .ok (.iastore, 1))
    (kk : zJ G X (pc + 1) ws' lv st cells slots) : zJ G X pc ws lv (.int x :: .int i :: .ref a :: st) cells slots := by
  obtain ⟨p, l, e, R', s, m, args, below, meth, c, Q, A, n9⟩ := X
  obtain ⟨rfl, rfl, hfl, ⟨hx, hb, hml, hown, hts⟩, hE, hA⟩ := hF
  intro H locs ls hP hD hS hl
  have hn := of_decide_eq_true hn
  subst hi
  refine va_iast hx hb hE.1 hP hD hS q0 0 ha rfl (vp_in_nI hk hn) hdg (fun H1 locs1 h1 h2 h3 => ?_)
  rw [nI_clamp (Nat.lt_trans hk hn)] at h1 h2
  subst hw
  exact kk H1 locs1 ls h1 h2 h3 hl
theorem z_zast (hF : zF G X R cc Ts own) (q0 : Nat) {a n k : Nat} {f : Nat → Int32} {i x : Int32} (ha : ws[q0]? = some (a, eZ G n f)) (hi : i = nI k) (hk : k < n) (hn : decide (n < 2 ^ 31) = true) (hx0 : vp_nar .boolean x = x) (hw : ws.set q0 (a, eZ G n (upd f k x)) = ws') (hdg : decode cc pc = .ok (.bastore, 1))
    (kk : zJ G X (pc + 1) ws' lv st cells slots) : zJ G X pc ws lv (.int x :: .int i :: .ref a :: st) cells slots := by
  obtain ⟨p, l, e, R', s, m, args, below, meth, c, Q, A, n9⟩ := X
  obtain ⟨rfl, rfl, hfl, ⟨hx, hb, hml, hown, hts⟩, hE, hA⟩ := hF
  intro H locs ls hP hD hS hl
  have hn := of_decide_eq_true hn
  subst hi
  refine va_zast hx hb hE.1 hP hD hS q0 1 ha rfl (vp_in_nI hk hn) hdg (fun H1 locs1 h1 h2 h3 => ?_)
  rw [nI_clamp (Nat.lt_trans hk hn), hx0] at h1 h2
  subst hw
  exact kk H1 locs1 ls h1 h2 h3 hl
theorem z_last (hF : zF G X R cc Ts own) (q0 : Nat) {a n k : Nat} {f : Nat → Int64} {i : Int32} {x : Int64} (ha : ws[q0]? = some (a, eL G n f)) (hi : i = nI k) (hk : k < n) (hn : decide (n < 2 ^ 31) = true) (hw : ws.set q0 (a, eL G n (vp_updL f k x)) = ws') (hdg : decode cc pc = .ok (.lastore, 1))
    (kk : zJ G X (pc + 1) ws' lv st cells slots) : zJ G X pc ws lv (.long x :: .int i :: .ref a :: st) cells slots := by
  obtain ⟨p, l, e, R', s, m, args, below, meth, c, Q, A, n9⟩ := X
  obtain ⟨rfl, rfl, hfl, ⟨hx, hb, hml, hown, hts⟩, hE, hA⟩ := hF
  intro H locs ls hP hD hS hl
  have hn := of_decide_eq_true hn
  subst hi
  refine va_last hx hb hE.1 hP hD hS q0 2 ha rfl (vp_in_nI hk hn) hdg (fun H1 locs1 h1 h2 h3 => ?_)
  rw [nI_clamp (Nat.lt_trans hk hn)] at h1 h2
  subst hw
  exact kk H1 locs1 ls h1 h2 h3 hl
/-- System.arraycopy of ints -/
theorem z_copy (hF : zF G X R cc Ts own) {index : Nat} (q0 q1 : Nat) {a0 a1 n0 n1 sp dp n : Nat} {f g : Nat → Int32} {isp idp ni : Int32} (hlink : zH X (.methodLink own index arraycopyName)) (hnat : zH X (.native arraycopyName)) (hstat : zH X (.static arraycopyName)) (hini : zH X (.initialized "java/lang/System"))
    (ha0 : ws[q0]? = some (a0, eI G n0 f)) (ha1 : ws[q1]? = some (a1, eI G n1 g)) (hsp : isp = nI sp) (hdp : idp = nI dp) (hn : ni = nI n) (h4 : sp + n ≤ n0) (h5 : dp + n ≤ n1) (hb0 : decide (n0 < 2 ^ 31) = true) (hb1 : decide (n1 < 2 ^ 31) = true)
    (hR : decide (1 ≤ R.frames ∧ (st.map fun v => v.category).sum + (nativeFrameWords "java/lang/System" "arraycopy" 5 + 11) ≤ R.locals) = true) (hw : ws.set q1 (a1, eI G n1 (va_cpy f g sp dp n)) = ws') (hdg : decode cc pc = .ok (.invokestatic index, 3))
    (kk : zJ G X (pc + 3) ws' lv st cells slots) : zJ G X pc ws lv (.int ni :: .int idp :: .ref a1 :: .int isp :: .ref a0 :: st) cells slots := by
  obtain ⟨p, l, e, R', s, m, args, below, meth, c, Q, A, n9⟩ := X
  obtain ⟨rfl, rfl, hfl, ⟨hx, hb, hml, hown, hts⟩, hE, hA⟩ := hF
  intro H locs ls hP hD hS hl
  have hb0 := of_decide_eq_true hb0
  have hb1 := of_decide_eq_true hb1
  have hR := of_decide_eq_true hR
  subst hsp; subst hdp; subst hn
  have e1 : (nI sp).toNatClampNeg = sp := nI_clamp (by omega)
  have e2 : (nI dp).toNatClampNeg = dp := nI_clamp (by omega)
  have e3 : (nI n).toNatClampNeg = n := nI_clamp (by omega)
  refine va_copyi hx hb (hml.trans hl.1.symm) hown hlink hnat hstat hini hE.1 hP hD hS q0 q1 0 0 ha0 ha1 rfl rfl rfl (nI_pos (by omega)) (nI_pos (by omega)) (nI_pos (by omega)) (by rw [e1, e3]; exact h4) (by rw [e2, e3]; exact h5) (fun i _ => rfl) hR.1 hR.2 hdg (fun H1 locs1 h1 h2 h3 => ?_)
  rw [e1, e2, e3] at h1 h2
  subst hw
  exact kk H1 locs1 ls h1 h2 h3 hl
theorem z_max (hF : zF G X R cc Ts own) {index : Nat} {x y : Int32} (hlink : zH X (.methodLink own index Lib.Math.max.name)) (hstat : zH X (.static Lib.Math.max.name)) (hini : zH X (.initialized "java/lang/Math")) (hcode : zH X (.code Lib.Math.max.name Lib.Math.max.code 2 (some .int))) (hR : decide (1 ≤ R.frames ∧ (st.map fun v => v.category).sum + 13 ≤ R.locals ∧ cells ≤ R.cells ∧ slots ≤ R.slots) = true) (hdg : decode cc pc = .ok (.invokestatic index, 3))
    (kk : zJ G X (pc + 3) ws lv (.int (if x < y then y else x) :: st) cells slots) : zJ G X pc ws lv (.int y :: .int x :: st) cells slots := by
  obtain ⟨p, l, e, R', s, m, args, below, meth, c, Q, A, n9⟩ := X
  obtain ⟨rfl, rfl, hfl, ⟨hx, hb, hml, hown, hts⟩, hE, hA⟩ := hF
  intro H locs ls hP hD hS hl
  have hR := of_decide_eq_true hR
  exact va_mmax hx hb (hml.trans hl.1.symm) hown hlink hstat hini hcode hR.1 hR.2.1 hR.2.2.1 hR.2.2.2 hdg (kk H locs ls hP hD hS hl)
theorem z_min (hF : zF G X R cc Ts own) {index : Nat} {x y : Int32} (hlink : zH X (.methodLink own index Lib.Math.min.name)) (hstat : zH X (.static Lib.Math.min.name)) (hini : zH X (.initialized "java/lang/Math")) (hcode : zH X (.code Lib.Math.min.name Lib.Math.min.code 2 (some .int))) (hR : decide (1 ≤ R.frames ∧ (st.map fun v => v.category).sum + 13 ≤ R.locals ∧ cells ≤ R.cells ∧ slots ≤ R.slots) = true) (hdg : decode cc pc = .ok (.invokestatic index, 3))
    (kk : zJ G X (pc + 3) ws lv (.int (if y < x then y else x) :: st) cells slots) : zJ G X pc ws lv (.int y :: .int x :: st) cells slots := by
  obtain ⟨p, l, e, R', s, m, args, below, meth, c, Q, A, n9⟩ := X
  obtain ⟨rfl, rfl, hfl, ⟨hx, hb, hml, hown, hts⟩, hE, hA⟩ := hF
  intro H locs ls hP hD hS hl
  have hR := of_decide_eq_true hR
  exact va_mmin hx hb (hml.trans hl.1.symm) hown hlink hstat hini hcode hR.1 hR.2.1 hR.2.2.1 hR.2.2.2 hdg (kk H locs ls hP hD hS hl)
end ZS
/-! ===== calls ===== -/
/-- some cells of a world, anew -/
def zset : va_W → List Nat → va_W → va_W
  | ws, i :: is, e :: es => zset (ws.set i e) is es
  | ws, _, _ => ws
theorem zset_get : ∀ (is : List Nat) (es ws : va_W), is.length = es.length → ∀ (k : Nat) (q : Nat × va_E), (zset ws is es)[k]? = some q → (∃ j : Nat, is[j]? = some k ∧ es[j]? = some q) ∨ (ws[k]? = some q ∧ k ∉ is)
  | [], [], ws, _, k, q, h => Or.inr ⟨h, List.not_mem_nil⟩
  | i :: is, e :: es, ws, hl, k, q, h => by
    rcases zset_get is es (ws.set i e) (Nat.succ.inj hl) k q h with ⟨j, h1, h2⟩ | ⟨h1, h2⟩
    · exact Or.inl ⟨j + 1, h1, h2⟩
    · by_cases hik : i = k
      · subst hik
        rw [List.getElem?_set_self'] at h1
        cases hq : ws[i]? with
        | none => rw [hq] at h1; cases h1
        | some x => rw [hq] at h1; cases h1; exact Or.inl ⟨0, rfl, rfl⟩
      · rw [List.getElem?_set_ne hik] at h1
        exact Or.inr ⟨h1, fun hm => (List.mem_cons.mp hm).elim (fun e => hik e.symm) h2⟩
  | [], _ :: _, _, hl, _, _, _ => nomatch hl
  | _ :: _, [], _, hl, _, _, _ => nomatch hl
theorem zpick {ws w : va_W} {is : List Nat} (hs : is.map (fun i => ws[i]?) = w.map some) (k : Nat) (q : Nat × va_E) (hq : w[k]? = some q) : ∃ i, is[k]? = some i ∧ ws[i]? = some q := by
  have h1 : (is.map (fun i => ws[i]?))[k]? = some (some q) := by rw [hs, List.getElem?_map, hq]; rfl
  rw [List.getElem?_map] at h1
  cases hi : is[k]? with
  | none => rw [hi] at h1; cases h1
  | some i => rw [hi] at h1; exact ⟨i, rfl, Option.some.inj h1⟩
theorem zfst {A : Nat → Prop} {ws ws' : va_W} (h : ws'.map Prod.fst = ws.map Prod.fst) (hD : va_D A ws) : va_D A ws' := by
  have key : ∀ (i : Nat) (p : Nat × va_E), ws'[i]? = some p → ∃ p', ws[i]? = some p' ∧ p'.1 = p.1 := by
    intro i p hp
    have h1 : (ws'.map Prod.fst)[i]? = some p.1 := by rw [List.getElem?_map, hp]; rfl
    rw [h, List.getElem?_map] at h1
    cases hq : ws[i]? with
    | none => rw [hq] at h1; cases h1
    | some p' => rw [hq] at h1; exact ⟨p', rfl, Option.some.inj h1⟩
  refine ⟨fun i j p q hp hq e => ?_, fun k q hq => ?_⟩
  · obtain ⟨p', h1, h2⟩ := key i p hp
    obtain ⟨q', h3, h4⟩ := key j q hq
    exact hD.1 i j p' q' h1 h3 (by rw [h2, h4, e])
  · obtain ⟨q', h1, h2⟩ := key k q hq
    rw [← h2]
    exact hD.2 k q' h1
theorem zmerge {A0 : Nat → Prop} {D : va_G} {cl : List vw_C} {ws wc w1 ws' : va_W} {H H1 : Heap} (hP : va_P D cl ws H) (hD : va_D A0 ws) {isC : List Nat} (hC : isC.map (fun i => ws[i]?) = wc.map some)
    (hk : ∀ q : Nat, q < H.size → ¬ va_A wc H.size q → H1[q]? = H[q]?) (hP1 : va_P D cl w1 H1) (hlen : isC.length = w1.length) (hset : zset ws isC w1 = ws') : va_P D cl ws' H1 := by
  intro k q hq
  rw [← hset] at hq
  rcases zset_get isC w1 ws hlen k q hq with ⟨j, -, h2⟩ | ⟨h1, h2⟩
  · exact hP1 j q h2
  · refine (hP k q h1).kept (hk q.1 (hP k q h1).lt fun h => ?_)
    rcases h with ⟨k2, e, h⟩ | h
    · obtain ⟨i, h3, h4⟩ := zpick hC k2 (q.1, e) h
      have hij := hD.1 k i q (q.1, e) h1 h4 rfl
      subst hij
      exact h2 (List.mem_of_getElem? h3)
    · exact absurd (hP k q h1).lt (Nat.not_lt.mpr h)
theorem zsubP {D : va_G} {cl : List vw_C} {ws wc : va_W} {H : Heap} (hP : va_P D cl ws H) {isC : List Nat} (hC : isC.map (fun i => ws[i]?) = wc.map some) : va_P D cl wc H := fun k q hq => by
  obtain ⟨i, -, h⟩ := zpick hC k q hq
  exact hP i q h
end
section
/-! calls and throws on zJ -/
theorem zPreU {G : zG} {A : Nat → Prop} {s : State} {H : Heap} {locs : List Loc} {wc : va_W} {av : List Value} (hE : zE G A s s.heap) (hS : va_S A s.heap H locs) (hPc : va_P G.2.1 vwCl wc H) (hDc : va_D (fun _ => True) wc) (hf : ∀ q, va_A wc H.size q → A q) : ∀ U : State, U.heap = H → s.WarmedH U.vm → va_Pc av (zPre G wc H.size) av.toArray U :=
  fun U hU hW => ⟨rfl, by rw [hU], by rw [hU]; exact hPc, hDc, by rw [hU]; exact zE.call hE hS hf hW⟩
section ZC
variable {p : Program} {l : Launch} {e : Env} {R : Room} {s : State} {m : MethodId} {args : Array Value} {below : List Frame} {meth : Method} {c : Code} {H H0 : Heap} {locs : List Loc} {cells slots mc ms pc : Nat} {Q : State → Prop} {ls : Array Slot} {st0 rest : List Value} {a : Array Value} {A0 A1 free : Nat → Prop} {G : zG} {o : Option Value} {w1 wc : va_W} {code : Nat}
theorem zrunM (hr : va_Run p l e R s m args below meth c H locs cells slots mc ms (F0 m pc ls st0) rest (zQ G o w1 A1 a) free) (hS : va_S A0 H0 H locs) (hA : ∀ q, A1 q → A0 q) (hf : ∀ q, free q → A0 q)
    (kk : ∀ (H1 : Heap) (locs1 : List Loc), va_P G.2.1 vwCl w1 H1 → (∀ q : Nat, q < H.size → ¬ A1 q → H1[q]? = H[q]?) → va_S A0 H0 H1 locs1 → W p l e R s m args below meth c H1 locs1 (cells + mc) (slots + ms) Q (F0 m (pc + 3) ls (o.toList ++ rest))) : W p l e R s m args below meth c H locs cells slots Q (F0 m pc ls st0) := by
  intro T hT X
  obtain ⟨v, st₀, t, T', L, h0, X', hL, e1, e2, ⟨⟨hv, hb⟩, hz, hk⟩, st⟩ := hr T hT X
  cases hv
  rw [h0] at hz hk
  obtain ⟨t2, a1, b1⟩ := kk T'.heap (locs ++ L) (by rw [e1]; exact hb) (fun q h1 h2 => by rw [e1]; exact hk q h1 h2)
    ⟨Nat.le_trans hS.1 (by rw [e1]; exact hz), fun q h1 h2 => by rw [e1, hk q (Nat.lt_of_lt_of_le h1 hS.1) (fun z => h2 (hA q z))]; exact hS.2.1 q h1 h2, fun q hq => by
      rcases List.mem_append.mp hq with h | h
      · exact hS.2.2 q h
      · exact hf _ (hL q h)⟩ T' rfl X'
  exact ⟨t2, st t2 a1, b1⟩
theorem zrunX (hr : vx_Run p l e R s m args below meth c H locs cells slots mc ms (F0 m pc ls st0) rest (zQx G code o w1 A1 a) (zXC G code wc A1) free) (hS : va_S A0 H0 H locs) (hA : ∀ q, A1 q → A0 q) (hf : ∀ q, free q → A0 q)
    (kx : code ≠ 0 → ∀ (q : Addr) (ce : Cell) (H1 : Heap) (locs1 : List Loc), va_P G.2.1 vwCl wc H1 → (∀ q : Nat, q < H.size → ¬ A1 q → H1[q]? = H[q]?) → va_S A0 H0 H1 locs1 → H1[q]? = some ce → ce.vm = .none → s.vm.findClass (zEx code) = some ce.cls → vx_W p l e R s m args below meth c H1 locs1 (cells + mc) (slots + ms) Q (F0 m pc ls rest) q)
    (kk : code = 0 → ∀ (H1 : Heap) (locs1 : List Loc), va_P G.2.1 vwCl w1 H1 → (∀ q : Nat, q < H.size → ¬ A1 q → H1[q]? = H[q]?) → va_S A0 H0 H1 locs1 → W p l e R s m args below meth c H1 locs1 (cells + mc) (slots + ms) Q (F0 m (pc + 3) ls (o.toList ++ rest))) : W p l e R s m args below meth c H locs cells slots Q (F0 m pc ls st0) := by
  intro T hT X
  rcases hr T hT X with ⟨v, st₀, t, T', L, h0, X', hL, e1, e2, ⟨⟨hc, hv, hb⟩, hF⟩, st⟩ | ⟨q, st₀, t, T', L, E, ce, h0, X', hL, e1, e2, ⟨⟨hc, hE, hb⟩, hF⟩, hce, hcv, hcl, st⟩
  · cases hv
    obtain ⟨k1, k2, k3⟩ := vx_keep h0 e1 hS (fun q _ z => hA q z) hf hL hF
    obtain ⟨t2, a1, b1⟩ := kk hc T'.heap (locs ++ L) (by rw [e1]; exact hb) k2 k3 T' rfl X'
    exact ⟨t2, st t2 a1, b1⟩
  · subst hE
    obtain ⟨k1, k2, k3⟩ := vx_keep h0 e1 hS (fun q _ z => hA q z) hf hL hF
    obtain ⟨t2, a1, b1⟩ := kx hc q ce T'.heap (locs ++ L) (by rw [e1]; exact hb) k2 k3 (by rw [e1]; exact hce) hcv hcl T' rfl X'
    exact ⟨t2, st.trans a1, b1⟩
end ZC
section ZD
variable {G : zG} {X : zT} {R : Room} {cc : ByteArray} {Ts : List Cond} {own : String} {pc cells slots : Nat} {ws ws' : va_W} {lv : List (Option Value)} {st : List Value}
variable {y : MethodName} {C : String} {T : u_T} {N index maxL n mc ms ci b : Nat} {bytes : ByteArray} {ret : Option FieldType} {wsy ws2 : List Cond} {rm : Room} {As rest : List Value} {wc w1 : va_W} {o : Option Value} {fs : List Value} {code : Nat}
theorem z_V (hF : zF G X R cc Ts own) (hM : zM G y wsy rm (.ref b :: As) wc w1 o mc ms) (hg : GoodIn Ts (wsV own index C y wsy)) (hwy : wsy = Cond.code y bytes maxL ret :: ws2) (hrc : rm.cells = mc) (hrs : rm.slots = ms) (hd : y.cls = C ∧ y.cls ≠ "java/lang/invoke/MethodHandle" ∧ y.cls ≠ "java/lang/invoke/VarHandle" ∧ (parseMethodDescriptor y.desc).map (fun d => d.parameters.length) = some n) (hR : (rm.frames + 1 ≤ R.frames ∧ 8 + (maxL + 11) + rm.locals ≤ R.locals) ∧ (cells + mc ≤ R.cells ∧ slots + ms ≤ R.slots) ∧ (rest.map fun v => v.category).sum ≤ 8) (isC : List Nat) (hC : isC.map (fun i => ws[i]?) = wc.map some) (hnd : va_nd isC = true) (k0 : Nat) (hk0 : wc[k0]? = some (b, .inr (ci, fs))) (hci : vwCl[ci]? = some (C, T, N)) (hlen : As.length = n) (hst : st = As.reverse ++ .ref b :: rest) (hl1 : isC.length = w1.length) (hset : zset ws isC w1 = ws') (hfst : ws'.map Prod.fst = ws.map Prod.fst) {st2 : List Value} (hst2 : o.toList ++ rest = st2) {c2 s2 : Nat} (hc2 : cells + mc = c2) (hs2 : slots + ms = s2) (hdg : decode cc pc = .ok (.invokevirtual index, 3))
    (kk : zJ G X (pc + 3) ws' lv st2 c2 s2) : zJ G X pc ws lv st cells slots := by
  obtain ⟨p, l, e, R', s, m, args, below, meth, c, Q, A, n9⟩ := X
  obtain ⟨rfl, rfl, hfl, ⟨hx, hb, hml, hown, hts⟩, hE, hA⟩ := hF
  intro H locs ls hP hD hS hl
  subst hst; subst hst2; subst hc2; subst hs2
  have hPc := zsubP hP hC
  have hDc := (hD.sub isC hnd hC).weaken (B := fun _ => True) (fun _ _ _ _ => trivial)
  have hf := va_free hD hS hA isC hC
  exact zrunM (va_runV (As := As) (rest := rest) ⟨hx, hb, hml, hown, hts⟩ (hM hfl H.size) (cwV n hts hg hwy hrc hrs hd hR.1) ⟨zPre.blind, va_recv hE.1 hPc hci hk0, zPreU hE hS hPc hDc hf⟩ rfl hlen hl.1 rfl (lv_room hR.2.2) hdg hR.2.1) hS hf hf (fun H1 locs1 h1 h2 h3 => kk H1 locs1 ls (zmerge hP hD hC h2 h1 hl1 hset) (zfst hfst hD) h3 hl)
theorem z_S (hF : zF G X R cc Ts own) (hM : zM G y wsy rm As wc w1 o mc ms) (hg : GoodIn Ts (va_wsS own index y wsy)) (hwy : wsy = Cond.code y bytes maxL ret :: ws2) (hrc : rm.cells = mc) (hrs : rm.slots = ms) (hd : y.cls ≠ "java/lang/invoke/MethodHandle" ∧ y.cls ≠ "java/lang/invoke/VarHandle" ∧ (parseMethodDescriptor y.desc).map (fun d => d.parameters.length) = some n) (hR : (rm.frames + 1 ≤ R.frames ∧ 8 + (maxL + 11) + rm.locals ≤ R.locals) ∧ (cells + mc ≤ R.cells ∧ slots + ms ≤ R.slots) ∧ (rest.map fun v => v.category).sum ≤ 8) (isC : List Nat) (hC : isC.map (fun i => ws[i]?) = wc.map some) (hnd : va_nd isC = true)  (hlen : As.length = n) (hst : st = As.reverse ++ rest) (hl1 : isC.length = w1.length) (hset : zset ws isC w1 = ws') (hfst : ws'.map Prod.fst = ws.map Prod.fst) {st2 : List Value} (hst2 : o.toList ++ rest = st2) {c2 s2 : Nat} (hc2 : cells + mc = c2) (hs2 : slots + ms = s2) (hdg : decode cc pc = .ok (.invokestatic index, 3))
    (kk : zJ G X (pc + 3) ws' lv st2 c2 s2) : zJ G X pc ws lv st cells slots := by
  obtain ⟨p, l, e, R', s, m, args, below, meth, c, Q, A, n9⟩ := X
  obtain ⟨rfl, rfl, hfl, ⟨hx, hb, hml, hown, hts⟩, hE, hA⟩ := hF
  intro H locs ls hP hD hS hl
  subst hst; subst hst2; subst hc2; subst hs2
  have hPc := zsubP hP hC
  have hDc := (hD.sub isC hnd hC).weaken (B := fun _ => True) (fun _ _ _ _ => trivial)
  have hf := va_free hD hS hA isC hC
  exact zrunM (va_runS (As := As) (rest := rest) ⟨hx, hb, hml, hown, hts⟩ (hM hfl H.size) (va_cwS n hts hg hwy hrc hrs hd hR.1) ⟨zPre.blind, zPreU hE hS hPc hDc hf⟩ rfl hlen hl.1 rfl (lv_room hR.2.2) hdg hR.2.1) hS hf hf (fun H1 locs1 h1 h2 h3 => kk H1 locs1 ls (zmerge hP hD hC h2 h1 hl1 hset) (zfst hfst hD) h3 hl)
theorem z_VN (hF : zF G X R cc Ts own) (hM : zM G y wsy rm (.ref b :: As) wc w1 o mc ms) (hg : GoodIn Ts wsy) (hnm : (own, index, y) ∈ zNM) (hini : zH X (.initialized y.cls)) (hins : zH X (.instanceMethod y)) (hsel : zH X (.selects C y y)) (hwy : wsy = Cond.code y bytes maxL ret :: ws2) (hrc : rm.cells = mc) (hrs : rm.slots = ms) (hd : y.cls ≠ "java/lang/invoke/MethodHandle" ∧ y.cls ≠ "java/lang/invoke/VarHandle" ∧ (parseMethodDescriptor y.desc).map (fun d => d.parameters.length) = some n) (hR : (rm.frames + 1 ≤ R.frames ∧ 8 + (maxL + 11) + rm.locals ≤ R.locals) ∧ (cells + mc ≤ R.cells ∧ slots + ms ≤ R.slots) ∧ (rest.map fun v => v.category).sum ≤ 8) (isC : List Nat) (hC : isC.map (fun i => ws[i]?) = wc.map some) (hnd : va_nd isC = true) (k0 : Nat) (hk0 : wc[k0]? = some (b, .inr (ci, fs))) (hci : vwCl[ci]? = some (C, T, N)) (hlen : As.length = n) (hst : st = As.reverse ++ .ref b :: rest) (hl1 : isC.length = w1.length) (hset : zset ws isC w1 = ws') (hfst : ws'.map Prod.fst = ws.map Prod.fst) {st2 : List Value} (hst2 : o.toList ++ rest = st2) {c2 s2 : Nat} (hc2 : cells + mc = c2) (hs2 : slots + ms = s2) (hdg : decode cc pc = .ok (.invokevirtual index, 3))
    (kk : zJ G X (pc + 3) ws' lv st2 c2 s2) : zJ G X pc ws lv st cells slots := by
  obtain ⟨p, l, e, R', s, m, args, below, meth, c, Q, A, n9⟩ := X
  obtain ⟨rfl, rfl, hfl, ⟨hx, hb, hml, hown, hts⟩, hE, hA⟩ := hF
  intro H locs ls hP hD hS hl
  subst hst; subst hst2; subst hc2; subst hs2
  have hPc := zsubP hP hC
  have hDc := (hD.sub isC hnd hC).weaken (B := fun _ => True) (fun _ _ _ _ => trivial)
  have hf := va_free hD hS hA isC hC
  exact zrunM (va_runVN (As := As) (rest := rest) ⟨hx, hb, hml, hown, hts⟩ (hM hfl H.size) ⟨va_cnB n hts hg hwy hrc hrs (hE.2.1.2.1 _ hnm) hini hd hR.1, hins, hsel⟩ ⟨zPre.blind, va_recv hE.1 hPc hci hk0, zPreU hE hS hPc hDc hf⟩ rfl hlen hl.1 rfl (lv_room hR.2.2) hdg hR.2.1) hS hf hf (fun H1 locs1 h1 h2 h3 => kk H1 locs1 ls (zmerge hP hD hC h2 h1 hl1 hset) (zfst hfst hD) h3 hl)
theorem z_SN (hF : zF G X R cc Ts own) (hM : zM G y wsy rm As wc w1 o mc ms) (hg : GoodIn Ts wsy) (hnm : (own, index, y) ∈ zNM) (hini : zH X (.initialized y.cls)) (hsta : zH X (.static y)) (hwy : wsy = Cond.code y bytes maxL ret :: ws2) (hrc : rm.cells = mc) (hrs : rm.slots = ms) (hd : y.cls ≠ "java/lang/invoke/MethodHandle" ∧ y.cls ≠ "java/lang/invoke/VarHandle" ∧ (parseMethodDescriptor y.desc).map (fun d => d.parameters.length) = some n) (hR : (rm.frames + 1 ≤ R.frames ∧ 8 + (maxL + 11) + rm.locals ≤ R.locals) ∧ (cells + mc ≤ R.cells ∧ slots + ms ≤ R.slots) ∧ (rest.map fun v => v.category).sum ≤ 8) (isC : List Nat) (hC : isC.map (fun i => ws[i]?) = wc.map some) (hnd : va_nd isC = true)  (hlen : As.length = n) (hst : st = As.reverse ++ rest) (hl1 : isC.length = w1.length) (hset : zset ws isC w1 = ws') (hfst : ws'.map Prod.fst = ws.map Prod.fst) {st2 : List Value} (hst2 : o.toList ++ rest = st2) {c2 s2 : Nat} (hc2 : cells + mc = c2) (hs2 : slots + ms = s2) (hdg : decode cc pc = .ok (.invokestatic index, 3))
    (kk : zJ G X (pc + 3) ws' lv st2 c2 s2) : zJ G X pc ws lv st cells slots := by
  obtain ⟨p, l, e, R', s, m, args, below, meth, c, Q, A, n9⟩ := X
  obtain ⟨rfl, rfl, hfl, ⟨hx, hb, hml, hown, hts⟩, hE, hA⟩ := hF
  intro H locs ls hP hD hS hl
  subst hst; subst hst2; subst hc2; subst hs2
  have hPc := zsubP hP hC
  have hDc := (hD.sub isC hnd hC).weaken (B := fun _ => True) (fun _ _ _ _ => trivial)
  have hf := va_free hD hS hA isC hC
  exact zrunM (va_runSN (As := As) (rest := rest) ⟨hx, hb, hml, hown, hts⟩ (hM hfl H.size) ⟨va_cnB n hts hg hwy hrc hrs (hE.2.1.2.1 _ hnm) hini hd hR.1, hsta, trivial⟩ ⟨zPre.blind, zPreU hE hS hPc hDc hf⟩ rfl hlen hl.1 rfl (lv_room hR.2.2) hdg hR.2.1) hS hf hf (fun H1 locs1 h1 h2 h3 => kk H1 locs1 ls (zmerge hP hD hC h2 h1 hl1 hset) (zfst hfst hD) h3 hl)
theorem z_Vx (hF : zF G X R cc Ts own) (hM : zX G y wsy rm (.ref b :: As) wc w1 code o mc ms) (hg : GoodIn Ts (wsV own index C y wsy)) (hwy : wsy = Cond.code y bytes maxL ret :: ws2) (hrc : rm.cells = mc) (hrs : rm.slots = ms) (hd : y.cls = C ∧ y.cls ≠ "java/lang/invoke/MethodHandle" ∧ y.cls ≠ "java/lang/invoke/VarHandle" ∧ (parseMethodDescriptor y.desc).map (fun d => d.parameters.length) = some n) (hR : (rm.frames + 1 ≤ R.frames ∧ 8 + (maxL + 11) + rm.locals ≤ R.locals) ∧ (cells + mc ≤ R.cells ∧ slots + ms ≤ R.slots) ∧ (rest.map fun v => v.category).sum ≤ 8) (isC : List Nat) (hC : isC.map (fun i => ws[i]?) = wc.map some) (hnd : va_nd isC = true) (k0 : Nat) (hk0 : wc[k0]? = some (b, .inr (ci, fs))) (hci : vwCl[ci]? = some (C, T, N)) (hlen : As.length = n) (hst : st = As.reverse ++ .ref b :: rest) (hl1 : isC.length = w1.length) (hset : zset ws isC w1 = ws') (hfst : ws'.map Prod.fst = ws.map Prod.fst) (hl2 : isC.length = wc.length) (hset2 : zset ws isC wc = ws) {st2 : List Value} (hst2 : o.toList ++ rest = st2) {c2 s2 : Nat} (hc2 : cells + mc = c2) (hs2 : slots + ms = s2) (hdg : decode cc pc = .ok (.invokevirtual index, 3))
    (kx : code ≠ 0 → zV G X pc ws lv rest (zEx code) c2 s2)
    (kk : code = 0 → zJ G X (pc + 3) ws' lv st2 c2 s2) : zJ G X pc ws lv st cells slots := by
  obtain ⟨p, l, e, R', s, m, args, below, meth, c, Q, A, n9⟩ := X
  obtain ⟨rfl, rfl, hfl, ⟨hx, hb, hml, hown, hts⟩, hE, hA⟩ := hF
  intro H locs ls hP hD hS hl
  subst hst; subst hst2; subst hc2; subst hs2
  have hPc := zsubP hP hC
  have hDc := (hD.sub isC hnd hC).weaken (B := fun _ => True) (fun _ _ _ _ => trivial)
  have hf := va_free hD hS hA isC hC
  exact zrunX (vx_runV (As := As) (rest := rest) ⟨hx, hb, hml, hown, hts⟩ (hM hfl H.size) (cwV n hts hg hwy hrc hrs hd hR.1) ⟨zPre.blind, va_recv hE.1 hPc hci hk0, zPreU hE hS hPc hDc hf⟩ rfl hlen hl.1 rfl (lv_room hR.2.2) hdg hR.2.1) hS hf hf (fun h0 q ce H1 locs1 h1 h2 h3 h4 h5 h6 => kx h0 H1 locs1 ls q ce (zmerge hP hD hC h2 h1 hl2 hset2) hD h3 hl h4 h5 h6)
    (fun h0 H1 locs1 h1 h2 h3 => kk h0 H1 locs1 ls (zmerge hP hD hC h2 h1 hl1 hset) (zfst hfst hD) h3 hl)
/-- 'throw new E(text)' in a method without a table -/
theorem z_throw (hF : zF G X R cc Ts RX4) {wc : va_W} {mc0 ms0 k ik is ic : Nat} {text : String} (hZ : zZ G X wc code mc0 ms0) (hk : zH X (.classLink RX4 ik (zEx k))) (hini : zH X (.initialized (zEx k))) (hstr : (is, text) ∈ zST) (hat : ∀ w ∈ (vx_atS RX4 ic (zEx k) [zRun, zExc]).filter goodWord, w ∈ Ts)
    (hcls : Bundle.fit (zEx k) = true) (hbad : ∀ w ∈ (vx_atS RX4 ic (zEx k) [zRun, zExc]).filter (fun w => !goodWord w), w ∈ [Cond.declares (Bundle.initS zRun), Cond.declares (Bundle.initS zExc), Cond.declares (Bundle.initS Bundle.tN), Cond.castable (zEx k) (zEx k)]) (hnc : (zEx k, zEx k) ∈ zNC)
    (hgood : ∀ w ∈ Cond.classLink RX4 ik (zEx k) :: Cond.initialized (zEx k) :: vx_atS RX4 ic (zEx k) [zRun, zExc], vx_ot w = true)
    (d0 : decode cc pc = .ok (.new ik, 3)) (d3 : decode cc (pc + 3) = .ok (.dup, 1)) (d4 : decode cc (pc + 4) = .ok (.ldc is, 2)) (d6 : decode cc (pc + 6) = .ok (.invokespecial ic, 3)) (d9 : decode cc (pc + 9) = .ok (.athrow, 1))
    (hR : 5 < R.frames ∧ (st.map fun v => v.category).sum + 82 ≤ R.locals ∧ cells + 1 ≤ R.cells ∧ slots + 6 ≤ R.slots) (hc : cells + 1 ≤ mc0) (hs : slots + 6 ≤ ms0) (h0 : k ≠ 0) (hcode : code = k) (hw : ws = wc) : zJ G X pc ws lv st cells slots := by
  obtain ⟨p, l, e, R', s, m, args, below, meth, c, Q, A, n9⟩ := X
  obtain ⟨rfl, rfl, hfl, ⟨hx, hb, hml, hown, hts⟩, hE, hA⟩ := hF
  obtain ⟨⟨Qc, rfl⟩, ht, hlk⟩ := hZ
  intro H locs ls hP hD hS hl
  subst hw
  obtain ⟨sa, hsa⟩ := hE.2.1.2.2.1 _ hstr
  have hat2 : ∀ w ∈ vx_atS RX4 ic (zEx k) [zRun, zExc], w.before args s = true := vx_hat (fun w hw => hts w (hat w hw)) hbad
    (vx_c (va_Nw.use rfl (hE.2.1.2.2.2.1 (Bundle.initS zRun) (by decide +kernel))) (vx_c (va_Nw.use rfl (hE.2.1.2.2.2.1 (Bundle.initS zExc) (by decide +kernel))) (vx_c (va_Nw.use rfl (hE.2.1.2.2.2.1 (Bundle.initS Bundle.tN) (by decide +kernel))) (vx_c (va_Nw.use rfl (hE.2.1.2.2.2.2.1 _ hnc)) vx_n))))
  have hfr : ([zRun, zExc] : List String).length + 3 < R.frames := hR.1
  have hlo : (st.map fun v => v.category).sum + (13 * (([zRun, zExc] : List String).length + 1) + 43) ≤ R.locals := hR.2.1
  refine vx_throwS (names := [zRun, zExc]) (A := A) hx hb hfl hown hcls (by decide +kernel) hk hini hsa hat2 hgood hE.2.2.1 hE.2.2.2 hS (hl.1.trans hml.symm) d0 d3 d4 d6 d9 (fun x hx => (ht x hx).elim) hfr hlo hR.2.2.1 hR.2.2.2 hlk (fun t hA2 hz hq => ?_) hS.2.2 hc hs
  refine ⟨⟨by rw [hcode]; exact h0, by rw [hcode], fun j q hj => (hP j q hj).kept (hq _ (hP j q hj).lt)⟩, ⟨Nat.le_trans hS.1 hz, fun q h1 h2 => (hq q (Nat.lt_of_lt_of_le h1 hS.1)).trans (hS.2.1 q h1 h2)⟩⟩
end ZD
end
section
/-! numbers: branches over Nat forms; places; maps under a bound; sets of bits -/
section ZN
variable {G : zG} {X : zT} {R : Room} {cc : ByteArray} {Ts : List Cond} {own : String} {pc cells slots : Nat} {ws : va_W} {lv : List (Option Value)} {st : List Value} {a b : Nat} {off : Int} {tgt : Nat}
theorem z_icn_ge (hF : zF G X R cc Ts own) (ha : a < 2 ^ 31) (hb : b < 2 ^ 31) (hdg : decode cc pc = .ok (.if_icmp .ge off, 3)) (ht : (pc : Int) + off = (tgt : Int)) (kt : b ≤ a → zJ G X tgt ws lv st cells slots) (kf : a < b → zJ G X (pc + 3) ws lv st cells slots) : zJ G X pc ws lv (.int (nI b) :: .int (nI a) :: st) cells slots :=
  z_ic_ge hF hdg ht (fun h => kt ((nI_leI hb ha).mp h)) (fun h => kf (Nat.lt_of_not_le fun z => h ((nI_leI hb ha).mpr z)))
theorem z_icn_lt (hF : zF G X R cc Ts own) (ha : a < 2 ^ 31) (hb : b < 2 ^ 31) (hdg : decode cc pc = .ok (.if_icmp .lt off, 3)) (ht : (pc : Int) + off = (tgt : Int)) (kt : a < b → zJ G X tgt ws lv st cells slots) (kf : b ≤ a → zJ G X (pc + 3) ws lv st cells slots) : zJ G X pc ws lv (.int (nI b) :: .int (nI a) :: st) cells slots :=
  z_ic_lt hF hdg ht (fun h => kt ((nI_ltI ha hb).mp h)) (fun h => kf (Nat.le_of_not_lt fun z => h ((nI_ltI ha hb).mpr z)))
theorem z_icn_gt (hF : zF G X R cc Ts own) (ha : a < 2 ^ 31) (hb : b < 2 ^ 31) (hdg : decode cc pc = .ok (.if_icmp .gt off, 3)) (ht : (pc : Int) + off = (tgt : Int)) (kt : b < a → zJ G X tgt ws lv st cells slots) (kf : a ≤ b → zJ G X (pc + 3) ws lv st cells slots) : zJ G X pc ws lv (.int (nI b) :: .int (nI a) :: st) cells slots :=
  z_ic_gt hF hdg ht (fun h => kt ((nI_ltI hb ha).mp h)) (fun h => kf (Nat.le_of_not_lt fun z => h ((nI_ltI hb ha).mpr z)))
theorem z_icn_le (hF : zF G X R cc Ts own) (ha : a < 2 ^ 31) (hb : b < 2 ^ 31) (hdg : decode cc pc = .ok (.if_icmp .le off, 3)) (ht : (pc : Int) + off = (tgt : Int)) (kt : a ≤ b → zJ G X tgt ws lv st cells slots) (kf : b < a → zJ G X (pc + 3) ws lv st cells slots) : zJ G X pc ws lv (.int (nI b) :: .int (nI a) :: st) cells slots :=
  z_ic_le hF hdg ht (fun h => kt ((nI_leI ha hb).mp h)) (fun h => kf (Nat.lt_of_not_le fun z => h ((nI_leI ha hb).mpr z)))
theorem z_icn_eq (hF : zF G X R cc Ts own) (ha : a < 2 ^ 31) (hb : b < 2 ^ 31) (hdg : decode cc pc = .ok (.if_icmp .eq off, 3)) (ht : (pc : Int) + off = (tgt : Int)) (kt : a = b → zJ G X tgt ws lv st cells slots) (kf : a ≠ b → zJ G X (pc + 3) ws lv st cells slots) : zJ G X pc ws lv (.int (nI b) :: .int (nI a) :: st) cells slots :=
  z_ic_eq hF hdg ht (fun h => kt ((nI_eq ha hb).mp h)) (fun h => kf (fun z => h ((nI_eq ha hb).mpr z)))
theorem z_icn_ne (hF : zF G X R cc Ts own) (ha : a < 2 ^ 31) (hb : b < 2 ^ 31) (hdg : decode cc pc = .ok (.if_icmp .ne off, 3)) (ht : (pc : Int) + off = (tgt : Int)) (kt : a ≠ b → zJ G X tgt ws lv st cells slots) (kf : a = b → zJ G X (pc + 3) ws lv st cells slots) : zJ G X pc ws lv (.int (nI b) :: .int (nI a) :: st) cells slots :=
  z_ic_ne hF hdg ht (fun h => kt (fun z => h ((nI_eq ha hb).mpr z))) (fun h => kf ((nI_eq ha hb).mp h))
end ZN
theorem zix {x : Int32} {n : Nat} (h0 : ¬ x < 0) (h1 : x < nI n) (hn : n < 2 ^ 31) : x = nI x.toNatClampNeg ∧ x.toNatClampNeg < n := by
  obtain ⟨j, hj, rfl⟩ := nI_of h0
  rw [nI_clamp hj]
  exact ⟨rfl, (nI_ltI hj hn).mp h1⟩
theorem zix2 {x : Int32} {n : Nat} (h0 : ¬ x < 0) (h1 : ¬ nI n < x) (hn : n < 2 ^ 31) : x = nI x.toNatClampNeg ∧ x.toNatClampNeg ≤ n := by
  obtain ⟨j, hj, rfl⟩ := nI_of h0
  rw [nI_clamp hj]
  exact ⟨rfl, Nat.le_of_not_lt fun z => h1 ((nI_ltI hn hj).mpr z)⟩
/-- a map under a bound -/
def mpF (m : Nat) (g f : Nat → Int32) : Nat → Int32 := fun k => if k < m then g k else f k
theorem mpF_0 (g f : Nat → Int32) : mpF 0 g f = f := by
  funext k
  simp [mpF]
theorem mpF_at {m i : Nat} (g f : Nat → Int32) (h : m ≤ i) : mpF m g f i = f i := by
  simp [mpF, Nat.not_lt.mpr h]
theorem mpF_lt {m i : Nat} (g f : Nat → Int32) (h : i < m) : mpF m g f i = g i := by
  simp [mpF, h]
theorem mpF_up {i : Nat} (g f : Nat → Int32) : upd (mpF i g f) i (g i) = mpF (i + 1) g f := by
  funext k
  simp only [mpF, upd]
  split <;> split <;> first | rfl | (subst_vars; rfl) | (exfalso; omega) | skip
  all_goals (split <;> first | rfl | (exfalso; omega) | (subst_vars; rfl))
theorem mpF_skip {i : Nat} (g f : Nat → Int32) (h : g i = f i) : mpF i g f = mpF (i + 1) g f := by
  funext k
  simp only [mpF]
  split <;> split <;> first | rfl | (exfalso; omega) | skip
  have : k = i := by omega
  subst this
  exact h.symm
/-- the set of those that P holds for -/
def bitF (k : Int32) : Int32 := nI 1 <<< (k &&& 31)
def cov (P : Nat → Prop) [DecidablePred P] : Nat → Int32
  | 0 => 0
  | k + 1 => if P k then cov P k ||| bitF (nI k) else cov P k
theorem cov_t {P : Nat → Prop} [DecidablePred P] {k : Nat} (h : P k) : cov P k ||| bitF (nI k) = cov P (k + 1) := by
  simp [cov, h]
theorem cov_f {P : Nat → Prop} [DecidablePred P] {k : Nat} (h : ¬ P k) : cov P k = cov P (k + 1) := by
  simp [cov, h]
theorem cov_cong {P P' : Nat → Prop} [DecidablePred P] [DecidablePred P'] : ∀ {m : Nat}, (∀ k, k < m → (P k ↔ P' k)) → cov P m = cov P' m
  | 0, _ => rfl
  | m + 1, h => by
    have h1 := cov_cong (m := m) (fun k hk => h k (Nat.lt_succ_of_lt hk))
    have h2 := h m (Nat.lt_succ_self m)
    simp only [cov, h1]
    split <;> split <;> simp_all
end
section
theorem z_alen {G : zG} {X : zT} {R : Room} {cc : ByteArray} {Ts : List Cond} {own : String} {pc cells slots : Nat} {ws : va_W} {lv : List (Option Value)} {st : List Value} (hF : zF G X R cc Ts own) (q0 : Nat) {a n : Nat} {f : Nat → Int32} (ha : ws[q0]? = some (a, eI G n f)) (hdg : decode cc pc = .ok (.arraylength, 1))
    (kk : zJ G X (pc + 1) ws lv (.int (nI n) :: st) cells slots) : zJ G X pc ws lv (.ref a :: st) cells slots := by
  obtain ⟨p, l, e, R', s, m, args, below, meth, c, Q, A, n9⟩ := X
  obtain ⟨rfl, rfl, hfl, ⟨hx, hb, hml, hown, hts⟩, hE, hA⟩ := hF
  intro H locs ls hP hD hS hl
  exact va_alen hx hb hE.1 hP q0 0 ha (ty := .int) rfl rfl hdg (kk H locs ls hP hD hS hl)
/-- setting cells aside behind a binary rewriting: any equal world -/
theorem upd_id {f : Nat → Int32} {k : Nat} {x : Int32} (h : f k = x) : upd f k x = f := by
  funext i
  simp only [upd]
  split
  · subst_vars; rfl
  · rfl
theorem z_ldcw {G : zG} {X : zT} {R : Room} {cc : ByteArray} {Ts : List Cond} {own : String} {pc cells slots : Nat} {ws : va_W} {lv : List (Option Value)} {st : List Value} (hF : zF G X R cc Ts own) {index : Nat} {v : Int32} (hdg : decode cc pc = .ok (.ldc_w index, 3)) (hc : zH X (.constant own index v))
    (kk : zJ G X (pc + 3) ws lv (.int v :: st) cells slots) : zJ G X pc ws lv st cells slots := by
  obtain ⟨p, l, e, R', s, m, args, below, meth, c, Q, A, n9⟩ := X
  obtain ⟨rfl, rfl, hfl, ⟨hx, hb, hml, hown, hts⟩, hE, hA⟩ := hF
  intro H locs ls hP hD hS hl
  exact lv_ldcw hx hb hown hc hdg (kk H locs ls hP hD hS hl)
end
section
/-! what the small methods answer -/
theorem zb1 {P : Prop} [Decidable P] (h : P) : nI 1 = zb P := zb_1 h
theorem zb0 {P : Prop} [Decidable P] (h : ¬ P) : nI 0 = zb P := zb_z h
def letF (n : Nat) (f : Nat → Int32) (p : Int32) : Int32 := if 0 ≤ p ∧ p < nI n then f p.toNatClampNeg else -1
def marF (n : Nat) (f : Nat → Int32) (p : Int32) : Int32 := if 0 ≤ p ∧ p < nI n then f p.toNatClampNeg else 0
def filF (f : Nat → Int32) (a b : Nat) (x : Int32) : Nat → Int32 := fun i => if a ≤ i ∧ i < b then x else f i
def mrkF (f : Nat → Int32) (a b : Nat) (x : Int32) : Nat → Int32 := fun i => if a ≤ i ∧ i < b then f i ||| x else f i
theorem filF_0 (f : Nat → Int32) {a b : Nat} (x : Int32) (h : b ≤ a) : filF f a b x = f := by
  funext i
  simp only [filF]
  rw [if_neg (by omega)]
theorem filF_up (f : Nat → Int32) {a b : Nat} (x : Int32) (h : a ≤ b) : upd (filF f a b x) b x = filF f a (b + 1) x := by
  funext i
  simp only [filF, upd]
  by_cases e : i = b
  · subst e
    rw [if_pos rfl, if_pos (by omega)]
  · rw [if_neg e]
    by_cases q : a ≤ i ∧ i < b
    · rw [if_pos q, if_pos (by omega)]
    · rw [if_neg q, if_neg (by omega)]
theorem mrkF_0 (f : Nat → Int32) {a b : Nat} (x : Int32) (h : b ≤ a) : mrkF f a b x = f := by
  funext i
  simp only [mrkF]
  rw [if_neg (by omega)]
theorem mrkF_at (f : Nat → Int32) (a b : Nat) (x : Int32) : mrkF f a b x b = f b := by
  simp only [mrkF]
  rw [if_neg (by omega)]
theorem mrkF_up (f : Nat → Int32) {a b : Nat} (x : Int32) (h : a ≤ b) : upd (mrkF f a b x) b (f b ||| x) = mrkF f a (b + 1) x := by
  funext i
  simp only [mrkF, upd]
  by_cases e : i = b
  · subst e
    rw [if_pos rfl, if_pos (by omega)]
  · rw [if_neg e]
    by_cases q : a ≤ i ∧ i < b
    · rw [if_pos q, if_pos (by omega)]
    · rw [if_neg q, if_neg (by omega)]
-- ranges
def numF (b e : Int32) : Int32 := if b = -1 then -1 else nI 100 * b + e
def bInsF (x p n r : Int32) : Int32 := if p < x ∨ (x = p ∧ r = 0) then x + n else x
def behF (x p n : Int32) : Int32 := if x ≤ p then x else if x - n < p then p else x - n
def insB (p n : Int32) (b s : Nat → Int32) : Nat → Int32 := fun k => if b k = -1 then b k else bInsF (b k) p n (zb (¬ s k &&& nI 1 = 0))
def insE (p n : Int32) (b e s : Nat → Int32) : Nat → Int32 := fun k => if b k = -1 then e k else bInsF (e k) p n (zb (s k &&& nI 2 = 0))
def remB (p n : Int32) (b e : Nat → Int32) : Nat → Int32 := fun k => if b k = -1 then b k else if behF (b k) p n = behF (e k) p n then -1 else behF (b k) p n
def remE (p n : Int32) (b e : Nat → Int32) : Nat → Int32 := fun k => if b k = -1 then e k else if behF (b k) p n = behF (e k) p n then -1 else behF (e k) p n
theorem upd_upd (f : Nat → Int32) (k : Nat) (x y : Int32) : upd (upd f k x) k y = upd f k y := by
  funext i
  simp only [upd]
  split <;> rfl
/-- a row written in the middle of another one -/
def wrF (h : Nat → Int32) (s i : Nat) (g : Nat → Int32) : Nat → Int32 := fun k => if s ≤ k ∧ k < s + i then g (k - s) else h k
theorem wrF_0 (h : Nat → Int32) (s : Nat) (g : Nat → Int32) : wrF h s 0 g = h := by
  funext k
  simp only [wrF]
  rw [if_neg (by omega)]
theorem wrF_up (h : Nat → Int32) (s i : Nat) (g : Nat → Int32) : upd (wrF h s i g) (s + i) (g i) = wrF h s (i + 1) g := by
  funext k
  simp only [wrF, upd]
  by_cases e : k = s + i
  · subst e
    rw [if_pos rfl, if_pos (by omega), Nat.add_sub_cancel_left]
  · rw [if_neg e]
    by_cases q : s ≤ k ∧ k < s + i
    · rw [if_pos q, if_pos (by omega)]
    · rw [if_neg q, if_neg (by omega)]
/-- the best of the places: the lowest of those with the greatest fit -/
def bst (S : Nat → Prop) [DecidablePred S] (F : Nat → Int32) : Nat → Int32 × Int32
  | 0 => (-1, nI 0)
  | k + 1 => if S k ∧ ((bst S F k).1 = -1 ∨ (bst S F k).2 < F k) then (nI k, F k) else bst S F k
theorem bst_t {S : Nat → Prop} [DecidablePred S] {F : Nat → Int32} {k : Nat} (h : S k) (h2 : (bst S F k).1 = -1 ∨ (bst S F k).2 < F k) : bst S F (k + 1) = (nI k, F k) := by
  simp only [bst]
  rw [if_pos ⟨h, h2⟩]
theorem bst_f {S : Nat → Prop} [DecidablePred S] {F : Nat → Int32} {k : Nat} (h : ¬ (S k ∧ ((bst S F k).1 = -1 ∨ (bst S F k).2 < F k))) : bst S F (k + 1) = bst S F k := by
  simp only [bst]
  rw [if_neg h]
-- bitCount, as the machine counts
def bc1 (x : Int32) : Int32 := x - ((x.toUInt32 >>> ((nI 1).toUInt32 &&& Int32.toUInt32 31)).toInt32 &&& 1431655765)
def bc2 (x : Int32) : Int32 := (x &&& 858993459) + ((x.toUInt32 >>> ((nI 2).toUInt32 &&& Int32.toUInt32 31)).toInt32 &&& 858993459)
def bc3 (x : Int32) : Int32 := (x + (x.toUInt32 >>> ((nI 4).toUInt32 &&& Int32.toUInt32 31)).toInt32) &&& 252645135
def bc4 (x : Int32) : Int32 := x + (x.toUInt32 >>> ((nI 8).toUInt32 &&& Int32.toUInt32 31)).toInt32
def bc5 (x : Int32) : Int32 := (x + (x.toUInt32 >>> ((nI 16).toUInt32 &&& Int32.toUInt32 31)).toInt32) &&& nI 63
def bcF (x : Int32) : Int32 := bc5 (bc4 (bc3 (bc2 (bc1 x))))
theorem zsubT {n z : Nat} (hn : n < 2 ^ 29) (hz : z < 2 ^ 29) : (nI n - nI z).toInt = (n : Int) - z := pk_sub_toInt (by omega) (by omega)
theorem zsubgt {i n z : Nat} (hi : i < 2 ^ 29) (hn : n < 2 ^ 29) (hz : z < 2 ^ 29) (q : n < i + z) : nI n - nI z < nI i := by
  rw [Int32.lt_iff_toInt_lt, zsubT hn hz, nI_toInt (by omega)]
  omega
theorem zsubgt2 {i n z : Nat} (hi : i < 2 ^ 29) (hn : n < 2 ^ 29) (hz : z < 2 ^ 29) (q : nI n - nI z < nI i) : n < i + z := by
  rw [Int32.lt_iff_toInt_lt, zsubT hn hz, nI_toInt (by omega)] at q
  omega
end
section
theorem dJ6_bitCount_0f7a4_0 : decode cJ6_bitCount_0f7a4 0 = .ok (.iload_n 0, 1) := by decide +kernel
theorem dJ6_bitCount_0f7a4_1 : decode cJ6_bitCount_0f7a4 1 = .ok (.iload_n 0, 1) := by decide +kernel
theorem dJ6_bitCount_0f7a4_2 : decode cJ6_bitCount_0f7a4 2 = .ok (.iconst 1, 1) := by decide +kernel
theorem dJ6_bitCount_0f7a4_3 : decode cJ6_bitCount_0f7a4 3 = .ok (.iushr, 1) := by decide +kernel
theorem dJ6_bitCount_0f7a4_4 : decode cJ6_bitCount_0f7a4 4 = .ok (.ldc_w 265, 3) := by decide +kernel
theorem dJ6_bitCount_0f7a4_7 : decode cJ6_bitCount_0f7a4 7 = .ok (.iand, 1) := by decide +kernel
theorem dJ6_bitCount_0f7a4_8 : decode cJ6_bitCount_0f7a4 8 = .ok (.isub, 1) := by decide +kernel
theorem dJ6_bitCount_0f7a4_9 : decode cJ6_bitCount_0f7a4 9 = .ok (.istore_n 0, 1) := by decide +kernel
theorem dJ6_bitCount_0f7a4_10 : decode cJ6_bitCount_0f7a4 10 = .ok (.iload_n 0, 1) := by decide +kernel
theorem dJ6_bitCount_0f7a4_11 : decode cJ6_bitCount_0f7a4 11 = .ok (.ldc_w 266, 3) := by decide +kernel
theorem dJ6_bitCount_0f7a4_14 : decode cJ6_bitCount_0f7a4 14 = .ok (.iand, 1) := by decide +kernel
theorem dJ6_bitCount_0f7a4_15 : decode cJ6_bitCount_0f7a4 15 = .ok (.iload_n 0, 1) := by decide +kernel
theorem dJ6_bitCount_0f7a4_16 : decode cJ6_bitCount_0f7a4 16 = .ok (.iconst 2, 1) := by decide +kernel
theorem dJ6_bitCount_0f7a4_17 : decode cJ6_bitCount_0f7a4 17 = .ok (.iushr, 1) := by decide +kernel
theorem dJ6_bitCount_0f7a4_18 : decode cJ6_bitCount_0f7a4 18 = .ok (.ldc_w 266, 3) := by decide +kernel
theorem dJ6_bitCount_0f7a4_21 : decode cJ6_bitCount_0f7a4 21 = .ok (.iand, 1) := by decide +kernel
theorem dJ6_bitCount_0f7a4_22 : decode cJ6_bitCount_0f7a4 22 = .ok (.iadd, 1) := by decide +kernel
theorem dJ6_bitCount_0f7a4_23 : decode cJ6_bitCount_0f7a4 23 = .ok (.istore_n 0, 1) := by decide +kernel
theorem dJ6_bitCount_0f7a4_24 : decode cJ6_bitCount_0f7a4 24 = .ok (.iload_n 0, 1) := by decide +kernel
theorem dJ6_bitCount_0f7a4_25 : decode cJ6_bitCount_0f7a4 25 = .ok (.iload_n 0, 1) := by decide +kernel
theorem dJ6_bitCount_0f7a4_26 : decode cJ6_bitCount_0f7a4 26 = .ok (.iconst 4, 1) := by decide +kernel
theorem dJ6_bitCount_0f7a4_27 : decode cJ6_bitCount_0f7a4 27 = .ok (.iushr, 1) := by decide +kernel
theorem dJ6_bitCount_0f7a4_28 : decode cJ6_bitCount_0f7a4 28 = .ok (.iadd, 1) := by decide +kernel
theorem dJ6_bitCount_0f7a4_29 : decode cJ6_bitCount_0f7a4 29 = .ok (.ldc_w 267, 3) := by decide +kernel
theorem dJ6_bitCount_0f7a4_32 : decode cJ6_bitCount_0f7a4 32 = .ok (.iand, 1) := by decide +kernel
theorem dJ6_bitCount_0f7a4_33 : decode cJ6_bitCount_0f7a4 33 = .ok (.istore_n 0, 1) := by decide +kernel
theorem dJ6_bitCount_0f7a4_34 : decode cJ6_bitCount_0f7a4 34 = .ok (.iload_n 0, 1) := by decide +kernel
theorem dJ6_bitCount_0f7a4_35 : decode cJ6_bitCount_0f7a4 35 = .ok (.iload_n 0, 1) := by decide +kernel
theorem dJ6_bitCount_0f7a4_36 : decode cJ6_bitCount_0f7a4 36 = .ok (.bipush 8, 2) := by decide +kernel
theorem dJ6_bitCount_0f7a4_38 : decode cJ6_bitCount_0f7a4 38 = .ok (.iushr, 1) := by decide +kernel
theorem dJ6_bitCount_0f7a4_39 : decode cJ6_bitCount_0f7a4 39 = .ok (.iadd, 1) := by decide +kernel
theorem dJ6_bitCount_0f7a4_40 : decode cJ6_bitCount_0f7a4 40 = .ok (.istore_n 0, 1) := by decide +kernel
theorem dJ6_bitCount_0f7a4_41 : decode cJ6_bitCount_0f7a4 41 = .ok (.iload_n 0, 1) := by decide +kernel
theorem dJ6_bitCount_0f7a4_42 : decode cJ6_bitCount_0f7a4 42 = .ok (.iload_n 0, 1) := by decide +kernel
theorem dJ6_bitCount_0f7a4_43 : decode cJ6_bitCount_0f7a4 43 = .ok (.bipush 16, 2) := by decide +kernel
theorem dJ6_bitCount_0f7a4_45 : decode cJ6_bitCount_0f7a4 45 = .ok (.iushr, 1) := by decide +kernel
theorem dJ6_bitCount_0f7a4_46 : decode cJ6_bitCount_0f7a4 46 = .ok (.iadd, 1) := by decide +kernel
theorem dJ6_bitCount_0f7a4_47 : decode cJ6_bitCount_0f7a4 47 = .ok (.istore_n 0, 1) := by decide +kernel
theorem dJ6_bitCount_0f7a4_48 : decode cJ6_bitCount_0f7a4 48 = .ok (.iload_n 0, 1) := by decide +kernel
theorem dJ6_bitCount_0f7a4_49 : decode cJ6_bitCount_0f7a4 49 = .ok (.bipush 63, 2) := by decide +kernel
theorem dJ6_bitCount_0f7a4_51 : decode cJ6_bitCount_0f7a4 51 = .ok (.iand, 1) := by decide +kernel
theorem dJ6_bitCount_0f7a4_52 : decode cJ6_bitCount_0f7a4 52 = .ok (.ireturn, 1) := by decide +kernel
theorem dJ7_rangeCheck_23922_0 : decode cJ7_rangeCheck_23922 0 = .ok (.iload_n 1, 1) := by decide +kernel
theorem dJ7_rangeCheck_23922_1 : decode cJ7_rangeCheck_23922 1 = .ok (.iload_n 2, 1) := by decide +kernel
theorem dJ7_rangeCheck_23922_2 : decode cJ7_rangeCheck_23922 2 = .ok (.if_icmp .le 44, 3) := by decide +kernel
theorem dJ7_rangeCheck_23922_5 : decode cJ7_rangeCheck_23922 5 = .ok (.new 43, 3) := by decide +kernel
theorem dJ7_rangeCheck_23922_8 : decode cJ7_rangeCheck_23922 8 = .ok (.dup, 1) := by decide +kernel
theorem dJ7_rangeCheck_23922_9 : decode cJ7_rangeCheck_23922 9 = .ok (.new 45, 3) := by decide +kernel
theorem dJ7_rangeCheck_23922_12 : decode cJ7_rangeCheck_23922 12 = .ok (.dup, 1) := by decide +kernel
theorem dJ7_rangeCheck_23922_13 : decode cJ7_rangeCheck_23922 13 = .ok (.invokespecial 47, 3) := by decide +kernel
theorem dJ7_rangeCheck_23922_16 : decode cJ7_rangeCheck_23922 16 = .ok (.ldc 48, 2) := by decide +kernel
theorem dJ7_rangeCheck_23922_18 : decode cJ7_rangeCheck_23922 18 = .ok (.invokevirtual 50, 3) := by decide +kernel
theorem dJ7_rangeCheck_23922_21 : decode cJ7_rangeCheck_23922 21 = .ok (.iload_n 1, 1) := by decide +kernel
theorem dJ7_rangeCheck_23922_22 : decode cJ7_rangeCheck_23922 22 = .ok (.invokevirtual 54, 3) := by decide +kernel
theorem dJ7_rangeCheck_23922_25 : decode cJ7_rangeCheck_23922 25 = .ok (.ldc 57, 2) := by decide +kernel
theorem dJ7_rangeCheck_23922_27 : decode cJ7_rangeCheck_23922 27 = .ok (.invokevirtual 50, 3) := by decide +kernel
theorem dJ7_rangeCheck_23922_30 : decode cJ7_rangeCheck_23922 30 = .ok (.iload_n 2, 1) := by decide +kernel
theorem dJ7_rangeCheck_23922_31 : decode cJ7_rangeCheck_23922 31 = .ok (.invokevirtual 54, 3) := by decide +kernel
theorem dJ7_rangeCheck_23922_34 : decode cJ7_rangeCheck_23922 34 = .ok (.ldc 59, 2) := by decide +kernel
theorem dJ7_rangeCheck_23922_36 : decode cJ7_rangeCheck_23922 36 = .ok (.invokevirtual 50, 3) := by decide +kernel
theorem dJ7_rangeCheck_23922_39 : decode cJ7_rangeCheck_23922 39 = .ok (.invokevirtual 61, 3) := by decide +kernel
theorem dJ7_rangeCheck_23922_42 : decode cJ7_rangeCheck_23922 42 = .ok (.invokespecial 65, 3) := by decide +kernel
theorem dJ7_rangeCheck_23922_45 : decode cJ7_rangeCheck_23922 45 = .ok (.athrow, 1) := by decide +kernel
theorem dJ7_rangeCheck_23922_46 : decode cJ7_rangeCheck_23922 46 = .ok (.iload_n 1, 1) := by decide +kernel
theorem dJ7_rangeCheck_23922_47 : decode cJ7_rangeCheck_23922 47 = .ok (.ifCond .ge 12, 3) := by decide +kernel
theorem dJ7_rangeCheck_23922_50 : decode cJ7_rangeCheck_23922 50 = .ok (.new 68, 3) := by decide +kernel
theorem dJ7_rangeCheck_23922_53 : decode cJ7_rangeCheck_23922 53 = .ok (.dup, 1) := by decide +kernel
theorem dJ7_rangeCheck_23922_54 : decode cJ7_rangeCheck_23922 54 = .ok (.iload_n 1, 1) := by decide +kernel
theorem dJ7_rangeCheck_23922_55 : decode cJ7_rangeCheck_23922 55 = .ok (.invokespecial 70, 3) := by decide +kernel
theorem dJ7_rangeCheck_23922_58 : decode cJ7_rangeCheck_23922 58 = .ok (.athrow, 1) := by decide +kernel
theorem dJ7_rangeCheck_23922_59 : decode cJ7_rangeCheck_23922 59 = .ok (.iload_n 2, 1) := by decide +kernel
theorem dJ7_rangeCheck_23922_60 : decode cJ7_rangeCheck_23922 60 = .ok (.iload_n 0, 1) := by decide +kernel
theorem dJ7_rangeCheck_23922_61 : decode cJ7_rangeCheck_23922 61 = .ok (.if_icmp .le 12, 3) := by decide +kernel
theorem dJ7_rangeCheck_23922_64 : decode cJ7_rangeCheck_23922 64 = .ok (.new 68, 3) := by decide +kernel
theorem dJ7_rangeCheck_23922_67 : decode cJ7_rangeCheck_23922 67 = .ok (.dup, 1) := by decide +kernel
theorem dJ7_rangeCheck_23922_68 : decode cJ7_rangeCheck_23922 68 = .ok (.iload_n 2, 1) := by decide +kernel
theorem dJ7_rangeCheck_23922_69 : decode cJ7_rangeCheck_23922 69 = .ok (.invokespecial 70, 3) := by decide +kernel
theorem dJ7_rangeCheck_23922_72 : decode cJ7_rangeCheck_23922 72 = .ok (.athrow, 1) := by decide +kernel
theorem dJ7_rangeCheck_23922_73 : decode cJ7_rangeCheck_23922 73 = .ok (.return_, 1) := by decide +kernel
set_option maxRecDepth 20000 in
theorem ggJ7_fill_fda19_J7_rangeCheck_23922 : GoodIn wsJ7_fill_fda19 wsJ7_rangeCheck_23922 := goodIn_r _ [4, 5, 6, 7, 8, 9, 10, 11, 12, 13, 14, 15, 16, 17, 18, 19, 20] (by decide +kernel) (by decide +kernel)
set_option maxRecDepth 20000 in
theorem gJ7_fill_fda19_J7_rangeCheck_23922 : GoodIn wsJ7_fill_fda19 (va_wsS RJ7 13 yJ7_rangeCheck_23922 wsJ7_rangeCheck_23922) := goodIn_app (goodIn_of _ (by decide +kernel)) ggJ7_fill_fda19_J7_rangeCheck_23922
theorem dJ7_fill_fda19_0 : decode cJ7_fill_fda19 0 = .ok (.aload_n 0, 1) := by decide +kernel
theorem dJ7_fill_fda19_1 : decode cJ7_fill_fda19 1 = .ok (.arraylength, 1) := by decide +kernel
theorem dJ7_fill_fda19_2 : decode cJ7_fill_fda19 2 = .ok (.iload_n 1, 1) := by decide +kernel
theorem dJ7_fill_fda19_3 : decode cJ7_fill_fda19 3 = .ok (.iload_n 2, 1) := by decide +kernel
theorem dJ7_fill_fda19_4 : decode cJ7_fill_fda19 4 = .ok (.invokestatic 13, 3) := by decide +kernel
theorem dJ7_fill_fda19_7 : decode cJ7_fill_fda19 7 = .ok (.iload_n 1, 1) := by decide +kernel
theorem dJ7_fill_fda19_8 : decode cJ7_fill_fda19 8 = .ok (.istore 4, 2) := by decide +kernel
theorem dJ7_fill_fda19_10 : decode cJ7_fill_fda19 10 = .ok (.iload 4, 2) := by decide +kernel
theorem dJ7_fill_fda19_12 : decode cJ7_fill_fda19 12 = .ok (.iload_n 2, 1) := by decide +kernel
theorem dJ7_fill_fda19_13 : decode cJ7_fill_fda19 13 = .ok (.if_icmp .ge 14, 3) := by decide +kernel
theorem dJ7_fill_fda19_16 : decode cJ7_fill_fda19 16 = .ok (.aload_n 0, 1) := by decide +kernel
theorem dJ7_fill_fda19_17 : decode cJ7_fill_fda19 17 = .ok (.iload 4, 2) := by decide +kernel
theorem dJ7_fill_fda19_19 : decode cJ7_fill_fda19 19 = .ok (.iload_n 3, 1) := by decide +kernel
theorem dJ7_fill_fda19_20 : decode cJ7_fill_fda19 20 = .ok (.iastore, 1) := by decide +kernel
theorem dJ7_fill_fda19_21 : decode cJ7_fill_fda19 21 = .ok (.iinc 4 1, 3) := by decide +kernel
theorem dJ7_fill_fda19_24 : decode cJ7_fill_fda19 24 = .ok (.goto (-14), 3) := by decide +kernel
theorem dJ7_fill_fda19_27 : decode cJ7_fill_fda19 27 = .ok (.return_, 1) := by decide +kernel
end
section
theorem dX0_init_0 : decode cX0_init 0 = .ok (.aload_n 0, 1) := by decide +kernel
theorem dX0_init_1 : decode cX0_init 1 = .ok (.invokespecial 3, 3) := by decide +kernel
theorem dX0_init_4 : decode cX0_init 4 = .ok (.aload_n 0, 1) := by decide +kernel
theorem dX0_init_5 : decode cX0_init 5 = .ok (.sipush 3600, 3) := by decide +kernel
theorem dX0_init_8 : decode cX0_init 8 = .ok (.newarray .int, 2) := by decide +kernel
theorem dX0_init_10 : decode cX0_init 10 = .ok (.putfield 9, 3) := by decide +kernel
theorem dX0_init_13 : decode cX0_init 13 = .ok (.return_, 1) := by decide +kernel
set_option maxRecDepth 20000 in
theorem ggX0_write_X2_asNumber : GoodIn wsX0_write wsX2_asNumber := goodIn_ca (goodIn_r _ [5, 6, 7, 8, 9, 10, 3, 11, 12, 13, 14, 15] (by decide +kernel) (by decide +kernel)) (goodIn_sub (fun _ h => List.mem_cons_of_mem _ (List.mem_append_right _ h)) (by decide +kernel))
set_option maxRecDepth 20000 in
theorem gX0_write_X2_asNumber_n21 : GoodIn wsX0_write (wsX2_asNumber) := ggX0_write_X2_asNumber
theorem dX0_write_0 : decode cX0_write 0 = .ok (.iconst 0, 1) := by decide +kernel
theorem dX0_write_1 : decode cX0_write 1 = .ok (.istore_n 3, 1) := by decide +kernel
theorem dX0_write_2 : decode cX0_write 2 = .ok (.iload_n 3, 1) := by decide +kernel
theorem dX0_write_3 : decode cX0_write 3 = .ok (.bipush 12, 2) := by decide +kernel
theorem dX0_write_5 : decode cX0_write 5 = .ok (.if_icmp .ge 49, 3) := by decide +kernel
theorem dX0_write_8 : decode cX0_write 8 = .ok (.iload_n 3, 1) := by decide +kernel
theorem dX0_write_9 : decode cX0_write 9 = .ok (.aload_n 2, 1) := by decide +kernel
theorem dX0_write_10 : decode cX0_write 10 = .ok (.getfield 15, 3) := by decide +kernel
theorem dX0_write_13 : decode cX0_write 13 = .ok (.if_icmp .ge 7, 3) := by decide +kernel
theorem dX0_write_16 : decode cX0_write 16 = .ok (.iconst 1, 1) := by decide +kernel
theorem dX0_write_17 : decode cX0_write 17 = .ok (.goto 4, 3) := by decide +kernel
theorem dX0_write_20 : decode cX0_write 20 = .ok (.iconst 0, 1) := by decide +kernel
theorem dX0_write_21 : decode cX0_write 21 = .ok (.istore 4, 2) := by decide +kernel
theorem dX0_write_23 : decode cX0_write 23 = .ok (.aload_n 0, 1) := by decide +kernel
theorem dX0_write_24 : decode cX0_write 24 = .ok (.getfield 9, 3) := by decide +kernel
theorem dX0_write_27 : decode cX0_write 27 = .ok (.iload_n 1, 1) := by decide +kernel
theorem dX0_write_28 : decode cX0_write 28 = .ok (.bipush 12, 2) := by decide +kernel
theorem dX0_write_30 : decode cX0_write 30 = .ok (.imul, 1) := by decide +kernel
theorem dX0_write_31 : decode cX0_write 31 = .ok (.iload_n 3, 1) := by decide +kernel
theorem dX0_write_32 : decode cX0_write 32 = .ok (.iadd, 1) := by decide +kernel
theorem dX0_write_33 : decode cX0_write 33 = .ok (.iload 4, 2) := by decide +kernel
theorem dX0_write_35 : decode cX0_write 35 = .ok (.ifCond .eq 11, 3) := by decide +kernel
theorem dX0_write_38 : decode cX0_write 38 = .ok (.aload_n 2, 1) := by decide +kernel
theorem dX0_write_39 : decode cX0_write 39 = .ok (.iload_n 3, 1) := by decide +kernel
theorem dX0_write_40 : decode cX0_write 40 = .ok (.invokevirtual 21, 3) := by decide +kernel
theorem dX0_write_43 : decode cX0_write 43 = .ok (.goto 4, 3) := by decide +kernel
theorem dX0_write_46 : decode cX0_write 46 = .ok (.iconst (-1), 1) := by decide +kernel
theorem dX0_write_47 : decode cX0_write 47 = .ok (.iastore, 1) := by decide +kernel
theorem dX0_write_48 : decode cX0_write 48 = .ok (.iinc 3 1, 3) := by decide +kernel
theorem dX0_write_51 : decode cX0_write 51 = .ok (.goto (-49), 3) := by decide +kernel
theorem dX0_write_54 : decode cX0_write 54 = .ok (.return_, 1) := by decide +kernel
theorem dX0_rangeAt_0 : decode cX0_rangeAt 0 = .ok (.aload_n 0, 1) := by decide +kernel
theorem dX0_rangeAt_1 : decode cX0_rangeAt 1 = .ok (.getfield 9, 3) := by decide +kernel
theorem dX0_rangeAt_4 : decode cX0_rangeAt 4 = .ok (.iload_n 1, 1) := by decide +kernel
theorem dX0_rangeAt_5 : decode cX0_rangeAt 5 = .ok (.bipush 12, 2) := by decide +kernel
theorem dX0_rangeAt_7 : decode cX0_rangeAt 7 = .ok (.imul, 1) := by decide +kernel
theorem dX0_rangeAt_8 : decode cX0_rangeAt 8 = .ok (.iload_n 2, 1) := by decide +kernel
theorem dX0_rangeAt_9 : decode cX0_rangeAt 9 = .ok (.iadd, 1) := by decide +kernel
theorem dX0_rangeAt_10 : decode cX0_rangeAt 10 = .ok (.iaload, 1) := by decide +kernel
theorem dX0_rangeAt_11 : decode cX0_rangeAt 11 = .ok (.ireturn, 1) := by decide +kernel
theorem dX1_init_0 : decode cX1_init 0 = .ok (.aload_n 0, 1) := by decide +kernel
theorem dX1_init_1 : decode cX1_init 1 = .ok (.invokespecial 3, 3) := by decide +kernel
theorem dX1_init_4 : decode cX1_init 4 = .ok (.aload_n 0, 1) := by decide +kernel
theorem dX1_init_5 : decode cX1_init 5 = .ok (.sipush 720, 3) := by decide +kernel
theorem dX1_init_8 : decode cX1_init 8 = .ok (.newarray .int, 2) := by decide +kernel
theorem dX1_init_10 : decode cX1_init 10 = .ok (.putfield 9, 3) := by decide +kernel
theorem dX1_init_13 : decode cX1_init 13 = .ok (.aload_n 0, 1) := by decide +kernel
theorem dX1_init_14 : decode cX1_init 14 = .ok (.bipush 12, 2) := by decide +kernel
theorem dX1_init_16 : decode cX1_init 16 = .ok (.newarray .int, 2) := by decide +kernel
theorem dX1_init_18 : decode cX1_init 18 = .ok (.putfield 15, 3) := by decide +kernel
theorem dX1_init_21 : decode cX1_init 21 = .ok (.aload_n 0, 1) := by decide +kernel
theorem dX1_init_22 : decode cX1_init 22 = .ok (.bipush 12, 2) := by decide +kernel
theorem dX1_init_24 : decode cX1_init 24 = .ok (.newarray .int, 2) := by decide +kernel
theorem dX1_init_26 : decode cX1_init 26 = .ok (.putfield 18, 3) := by decide +kernel
theorem dX1_init_29 : decode cX1_init 29 = .ok (.aload_n 0, 1) := by decide +kernel
theorem dX1_init_30 : decode cX1_init 30 = .ok (.bipush 12, 2) := by decide +kernel
theorem dX1_init_32 : decode cX1_init 32 = .ok (.newarray .int, 2) := by decide +kernel
theorem dX1_init_34 : decode cX1_init 34 = .ok (.putfield 21, 3) := by decide +kernel
theorem dX1_init_37 : decode cX1_init 37 = .ok (.return_, 1) := by decide +kernel
set_option maxRecDepth 20000 in
theorem ggX1_keep_X3_letterBehind : GoodIn wsX1_keep wsX3_letterBehind := goodIn_ca (goodIn_r _ [12, 13, 14, 15, 16, 10, 17, 18, 23, 24, 25] (by decide +kernel) (by decide +kernel)) (goodIn_sub (fun _ h => List.mem_cons_of_mem _ (List.mem_append_right _ h)) (by decide +kernel))
set_option maxRecDepth 20000 in
theorem gX1_keep_X3_letterBehind_n33 : GoodIn wsX1_keep (wsX3_letterBehind) := ggX1_keep_X3_letterBehind
theorem dX1_keep_0 : decode cX1_keep 0 = .ok (.aload_n 0, 1) := by decide +kernel
theorem dX1_keep_1 : decode cX1_keep 1 = .ok (.getfield 15, 3) := by decide +kernel
theorem dX1_keep_4 : decode cX1_keep 4 = .ok (.iload_n 1, 1) := by decide +kernel
theorem dX1_keep_5 : decode cX1_keep 5 = .ok (.iload 4, 2) := by decide +kernel
theorem dX1_keep_7 : decode cX1_keep 7 = .ok (.iload_n 3, 1) := by decide +kernel
theorem dX1_keep_8 : decode cX1_keep 8 = .ok (.isub, 1) := by decide +kernel
theorem dX1_keep_9 : decode cX1_keep 9 = .ok (.iastore, 1) := by decide +kernel
theorem dX1_keep_10 : decode cX1_keep 10 = .ok (.aload_n 2, 1) := by decide +kernel
theorem dX1_keep_11 : decode cX1_keep 11 = .ok (.getfield 24, 3) := by decide +kernel
theorem dX1_keep_14 : decode cX1_keep 14 = .ok (.iload_n 3, 1) := by decide +kernel
theorem dX1_keep_15 : decode cX1_keep 15 = .ok (.aload_n 0, 1) := by decide +kernel
theorem dX1_keep_16 : decode cX1_keep 16 = .ok (.getfield 9, 3) := by decide +kernel
theorem dX1_keep_19 : decode cX1_keep 19 = .ok (.iload_n 1, 1) := by decide +kernel
theorem dX1_keep_20 : decode cX1_keep 20 = .ok (.bipush 60, 2) := by decide +kernel
theorem dX1_keep_22 : decode cX1_keep 22 = .ok (.imul, 1) := by decide +kernel
theorem dX1_keep_23 : decode cX1_keep 23 = .ok (.iload 4, 2) := by decide +kernel
theorem dX1_keep_25 : decode cX1_keep 25 = .ok (.iload_n 3, 1) := by decide +kernel
theorem dX1_keep_26 : decode cX1_keep 26 = .ok (.isub, 1) := by decide +kernel
theorem dX1_keep_27 : decode cX1_keep 27 = .ok (.invokestatic 27, 3) := by decide +kernel
theorem dX1_keep_30 : decode cX1_keep 30 = .ok (.aload_n 0, 1) := by decide +kernel
theorem dX1_keep_31 : decode cX1_keep 31 = .ok (.getfield 18, 3) := by decide +kernel
theorem dX1_keep_34 : decode cX1_keep 34 = .ok (.iload_n 1, 1) := by decide +kernel
theorem dX1_keep_35 : decode cX1_keep 35 = .ok (.aload_n 2, 1) := by decide +kernel
theorem dX1_keep_36 : decode cX1_keep 36 = .ok (.iload_n 3, 1) := by decide +kernel
theorem dX1_keep_37 : decode cX1_keep 37 = .ok (.iconst 1, 1) := by decide +kernel
theorem dX1_keep_38 : decode cX1_keep 38 = .ok (.isub, 1) := by decide +kernel
theorem dX1_keep_39 : decode cX1_keep 39 = .ok (.invokevirtual 33, 3) := by decide +kernel
theorem dX1_keep_42 : decode cX1_keep 42 = .ok (.iastore, 1) := by decide +kernel
theorem dX1_keep_43 : decode cX1_keep 43 = .ok (.aload_n 0, 1) := by decide +kernel
theorem dX1_keep_44 : decode cX1_keep 44 = .ok (.getfield 21, 3) := by decide +kernel
theorem dX1_keep_47 : decode cX1_keep 47 = .ok (.iload_n 1, 1) := by decide +kernel
theorem dX1_keep_48 : decode cX1_keep 48 = .ok (.aload_n 2, 1) := by decide +kernel
theorem dX1_keep_49 : decode cX1_keep 49 = .ok (.iload 4, 2) := by decide +kernel
theorem dX1_keep_51 : decode cX1_keep 51 = .ok (.invokevirtual 33, 3) := by decide +kernel
theorem dX1_keep_54 : decode cX1_keep 54 = .ok (.iastore, 1) := by decide +kernel
theorem dX1_keep_55 : decode cX1_keep 55 = .ok (.return_, 1) := by decide +kernel
theorem dX1_sizeOf_0 : decode cX1_sizeOf 0 = .ok (.aload_n 0, 1) := by decide +kernel
theorem dX1_sizeOf_1 : decode cX1_sizeOf 1 = .ok (.getfield 15, 3) := by decide +kernel
theorem dX1_sizeOf_4 : decode cX1_sizeOf 4 = .ok (.iload_n 1, 1) := by decide +kernel
theorem dX1_sizeOf_5 : decode cX1_sizeOf 5 = .ok (.iaload, 1) := by decide +kernel
theorem dX1_sizeOf_6 : decode cX1_sizeOf 6 = .ok (.ireturn, 1) := by decide +kernel
set_option maxRecDepth 20000 in
theorem ggX1_bestPlace_X1_standsAt : GoodIn wsX1_bestPlace wsX1_standsAt := goodIn_ca (goodIn_r _ [6, 1, 7, 27, 28, 29, 30, 24, 25, 26] (by decide +kernel) (by decide +kernel)) (goodIn_sub (fun _ h => List.mem_cons_of_mem _ (List.mem_append_right _ h)) (by decide +kernel))
set_option maxRecDepth 20000 in
theorem gX1_bestPlace_X1_standsAt : GoodIn wsX1_bestPlace (wsV RX1 41 RX1 yX1_standsAt wsX1_standsAt) := goodIn_app (goodIn_of _ (by decide +kernel)) ggX1_bestPlace_X1_standsAt
set_option maxRecDepth 20000 in
theorem ggX1_bestPlace_X1_fitAt : GoodIn wsX1_bestPlace wsX1_fitAt := goodIn_ca (goodIn_r _ [11, 1, 12, 13, 14, 15, 16, 17, 18, 19, 20, 21, 22, 23, 27, 28, 29, 30, 24, 25, 26] (by decide +kernel) (by decide +kernel)) (goodIn_sub (fun _ h => List.mem_cons_of_mem _ (List.mem_append_right _ h)) (by decide +kernel))
set_option maxRecDepth 20000 in
theorem gX1_bestPlace_X1_fitAt : GoodIn wsX1_bestPlace (wsV RX1 45 RX1 yX1_fitAt wsX1_fitAt) := goodIn_app (goodIn_of _ (by decide +kernel)) ggX1_bestPlace_X1_fitAt
theorem dX1_bestPlace_0 : decode cX1_bestPlace 0 = .ok (.iconst (-1), 1) := by decide +kernel
theorem dX1_bestPlace_1 : decode cX1_bestPlace 1 = .ok (.istore_n 3, 1) := by decide +kernel
theorem dX1_bestPlace_2 : decode cX1_bestPlace 2 = .ok (.iconst 0, 1) := by decide +kernel
theorem dX1_bestPlace_3 : decode cX1_bestPlace 3 = .ok (.istore 4, 2) := by decide +kernel
theorem dX1_bestPlace_5 : decode cX1_bestPlace 5 = .ok (.iconst 0, 1) := by decide +kernel
theorem dX1_bestPlace_6 : decode cX1_bestPlace 6 = .ok (.istore 5, 2) := by decide +kernel
theorem dX1_bestPlace_8 : decode cX1_bestPlace 8 = .ok (.iload 5, 2) := by decide +kernel
theorem dX1_bestPlace_10 : decode cX1_bestPlace 10 = .ok (.aload_n 2, 1) := by decide +kernel
theorem dX1_bestPlace_11 : decode cX1_bestPlace 11 = .ok (.getfield 37, 3) := by decide +kernel
theorem dX1_bestPlace_14 : decode cX1_bestPlace 14 = .ok (.aload_n 0, 1) := by decide +kernel
theorem dX1_bestPlace_15 : decode cX1_bestPlace 15 = .ok (.getfield 15, 3) := by decide +kernel
theorem dX1_bestPlace_18 : decode cX1_bestPlace 18 = .ok (.iload_n 1, 1) := by decide +kernel
theorem dX1_bestPlace_19 : decode cX1_bestPlace 19 = .ok (.iaload, 1) := by decide +kernel
theorem dX1_bestPlace_20 : decode cX1_bestPlace 20 = .ok (.isub, 1) := by decide +kernel
theorem dX1_bestPlace_21 : decode cX1_bestPlace 21 = .ok (.if_icmp .gt 49, 3) := by decide +kernel
theorem dX1_bestPlace_24 : decode cX1_bestPlace 24 = .ok (.aload_n 0, 1) := by decide +kernel
theorem dX1_bestPlace_25 : decode cX1_bestPlace 25 = .ok (.iload_n 1, 1) := by decide +kernel
theorem dX1_bestPlace_26 : decode cX1_bestPlace 26 = .ok (.aload_n 2, 1) := by decide +kernel
theorem dX1_bestPlace_27 : decode cX1_bestPlace 27 = .ok (.iload 5, 2) := by decide +kernel
theorem dX1_bestPlace_29 : decode cX1_bestPlace 29 = .ok (.invokevirtual 41, 3) := by decide +kernel
theorem dX1_bestPlace_32 : decode cX1_bestPlace 32 = .ok (.ifCond .eq 32, 3) := by decide +kernel
theorem dX1_bestPlace_35 : decode cX1_bestPlace 35 = .ok (.aload_n 0, 1) := by decide +kernel
theorem dX1_bestPlace_36 : decode cX1_bestPlace 36 = .ok (.iload_n 1, 1) := by decide +kernel
theorem dX1_bestPlace_37 : decode cX1_bestPlace 37 = .ok (.aload_n 2, 1) := by decide +kernel
theorem dX1_bestPlace_38 : decode cX1_bestPlace 38 = .ok (.iload 5, 2) := by decide +kernel
theorem dX1_bestPlace_40 : decode cX1_bestPlace 40 = .ok (.invokevirtual 45, 3) := by decide +kernel
theorem dX1_bestPlace_43 : decode cX1_bestPlace 43 = .ok (.istore 6, 2) := by decide +kernel
theorem dX1_bestPlace_45 : decode cX1_bestPlace 45 = .ok (.iload_n 3, 1) := by decide +kernel
theorem dX1_bestPlace_46 : decode cX1_bestPlace 46 = .ok (.iconst (-1), 1) := by decide +kernel
theorem dX1_bestPlace_47 : decode cX1_bestPlace 47 = .ok (.if_icmp .eq 10, 3) := by decide +kernel
theorem dX1_bestPlace_50 : decode cX1_bestPlace 50 = .ok (.iload 6, 2) := by decide +kernel
theorem dX1_bestPlace_52 : decode cX1_bestPlace 52 = .ok (.iload 4, 2) := by decide +kernel
theorem dX1_bestPlace_54 : decode cX1_bestPlace 54 = .ok (.if_icmp .le 10, 3) := by decide +kernel
theorem dX1_bestPlace_57 : decode cX1_bestPlace 57 = .ok (.iload 5, 2) := by decide +kernel
theorem dX1_bestPlace_59 : decode cX1_bestPlace 59 = .ok (.istore_n 3, 1) := by decide +kernel
theorem dX1_bestPlace_60 : decode cX1_bestPlace 60 = .ok (.iload 6, 2) := by decide +kernel
theorem dX1_bestPlace_62 : decode cX1_bestPlace 62 = .ok (.istore 4, 2) := by decide +kernel
theorem dX1_bestPlace_64 : decode cX1_bestPlace 64 = .ok (.iinc 5 1, 3) := by decide +kernel
theorem dX1_bestPlace_67 : decode cX1_bestPlace 67 = .ok (.goto (-59), 3) := by decide +kernel
theorem dX1_bestPlace_70 : decode cX1_bestPlace 70 = .ok (.iload_n 3, 1) := by decide +kernel
theorem dX1_bestPlace_71 : decode cX1_bestPlace 71 = .ok (.ireturn, 1) := by decide +kernel
theorem dX1_standsAt_0 : decode cX1_standsAt 0 = .ok (.iconst 0, 1) := by decide +kernel
theorem dX1_standsAt_1 : decode cX1_standsAt 1 = .ok (.istore 4, 2) := by decide +kernel
theorem dX1_standsAt_3 : decode cX1_standsAt 3 = .ok (.iload 4, 2) := by decide +kernel
theorem dX1_standsAt_5 : decode cX1_standsAt 5 = .ok (.aload_n 0, 1) := by decide +kernel
theorem dX1_standsAt_6 : decode cX1_standsAt 6 = .ok (.getfield 15, 3) := by decide +kernel
theorem dX1_standsAt_9 : decode cX1_standsAt 9 = .ok (.iload_n 1, 1) := by decide +kernel
theorem dX1_standsAt_10 : decode cX1_standsAt 10 = .ok (.iaload, 1) := by decide +kernel
theorem dX1_standsAt_11 : decode cX1_standsAt 11 = .ok (.if_icmp .ge 35, 3) := by decide +kernel
theorem dX1_standsAt_14 : decode cX1_standsAt 14 = .ok (.aload_n 0, 1) := by decide +kernel
theorem dX1_standsAt_15 : decode cX1_standsAt 15 = .ok (.getfield 9, 3) := by decide +kernel
theorem dX1_standsAt_18 : decode cX1_standsAt 18 = .ok (.iload_n 1, 1) := by decide +kernel
theorem dX1_standsAt_19 : decode cX1_standsAt 19 = .ok (.bipush 60, 2) := by decide +kernel
theorem dX1_standsAt_21 : decode cX1_standsAt 21 = .ok (.imul, 1) := by decide +kernel
theorem dX1_standsAt_22 : decode cX1_standsAt 22 = .ok (.iload 4, 2) := by decide +kernel
theorem dX1_standsAt_24 : decode cX1_standsAt 24 = .ok (.iadd, 1) := by decide +kernel
theorem dX1_standsAt_25 : decode cX1_standsAt 25 = .ok (.iaload, 1) := by decide +kernel
theorem dX1_standsAt_26 : decode cX1_standsAt 26 = .ok (.aload_n 2, 1) := by decide +kernel
theorem dX1_standsAt_27 : decode cX1_standsAt 27 = .ok (.getfield 24, 3) := by decide +kernel
theorem dX1_standsAt_30 : decode cX1_standsAt 30 = .ok (.iload_n 3, 1) := by decide +kernel
theorem dX1_standsAt_31 : decode cX1_standsAt 31 = .ok (.iload 4, 2) := by decide +kernel
theorem dX1_standsAt_33 : decode cX1_standsAt 33 = .ok (.iadd, 1) := by decide +kernel
theorem dX1_standsAt_34 : decode cX1_standsAt 34 = .ok (.iaload, 1) := by decide +kernel
theorem dX1_standsAt_35 : decode cX1_standsAt 35 = .ok (.if_icmp .eq 5, 3) := by decide +kernel
theorem dX1_standsAt_38 : decode cX1_standsAt 38 = .ok (.iconst 0, 1) := by decide +kernel
theorem dX1_standsAt_39 : decode cX1_standsAt 39 = .ok (.ireturn, 1) := by decide +kernel
theorem dX1_standsAt_40 : decode cX1_standsAt 40 = .ok (.iinc 4 1, 3) := by decide +kernel
theorem dX1_standsAt_43 : decode cX1_standsAt 43 = .ok (.goto (-40), 3) := by decide +kernel
theorem dX1_standsAt_46 : decode cX1_standsAt 46 = .ok (.iconst 1, 1) := by decide +kernel
theorem dX1_standsAt_47 : decode cX1_standsAt 47 = .ok (.ireturn, 1) := by decide +kernel
set_option maxRecDepth 20000 in
theorem ggX1_fitAt_X3_letterBehind : GoodIn wsX1_fitAt wsX3_letterBehind := goodIn_ca (goodIn_r _ [7, 8, 9, 10, 11, 5, 12, 13, 18, 19, 20] (by decide +kernel) (by decide +kernel)) (goodIn_sub (fun _ h => List.mem_cons_of_mem _ (List.mem_append_right _ h)) (by decide +kernel))
set_option maxRecDepth 20000 in
theorem gX1_fitAt_X3_letterBehind_n33 : GoodIn wsX1_fitAt (wsX3_letterBehind) := ggX1_fitAt_X3_letterBehind
theorem dX1_fitAt_0 : decode cX1_fitAt 0 = .ok (.aload_n 2, 1) := by decide +kernel
theorem dX1_fitAt_1 : decode cX1_fitAt 1 = .ok (.iload_n 3, 1) := by decide +kernel
theorem dX1_fitAt_2 : decode cX1_fitAt 2 = .ok (.iconst 1, 1) := by decide +kernel
theorem dX1_fitAt_3 : decode cX1_fitAt 3 = .ok (.isub, 1) := by decide +kernel
theorem dX1_fitAt_4 : decode cX1_fitAt 4 = .ok (.invokevirtual 33, 3) := by decide +kernel
theorem dX1_fitAt_7 : decode cX1_fitAt 7 = .ok (.istore 4, 2) := by decide +kernel
theorem dX1_fitAt_9 : decode cX1_fitAt 9 = .ok (.aload_n 2, 1) := by decide +kernel
theorem dX1_fitAt_10 : decode cX1_fitAt 10 = .ok (.iload_n 3, 1) := by decide +kernel
theorem dX1_fitAt_11 : decode cX1_fitAt 11 = .ok (.aload_n 0, 1) := by decide +kernel
theorem dX1_fitAt_12 : decode cX1_fitAt 12 = .ok (.getfield 15, 3) := by decide +kernel
theorem dX1_fitAt_15 : decode cX1_fitAt 15 = .ok (.iload_n 1, 1) := by decide +kernel
theorem dX1_fitAt_16 : decode cX1_fitAt 16 = .ok (.iaload, 1) := by decide +kernel
theorem dX1_fitAt_17 : decode cX1_fitAt 17 = .ok (.iadd, 1) := by decide +kernel
theorem dX1_fitAt_18 : decode cX1_fitAt 18 = .ok (.invokevirtual 33, 3) := by decide +kernel
theorem dX1_fitAt_21 : decode cX1_fitAt 21 = .ok (.istore 5, 2) := by decide +kernel
theorem dX1_fitAt_23 : decode cX1_fitAt 23 = .ok (.iload 4, 2) := by decide +kernel
theorem dX1_fitAt_25 : decode cX1_fitAt 25 = .ok (.aload_n 0, 1) := by decide +kernel
theorem dX1_fitAt_26 : decode cX1_fitAt 26 = .ok (.getfield 18, 3) := by decide +kernel
theorem dX1_fitAt_29 : decode cX1_fitAt 29 = .ok (.iload_n 1, 1) := by decide +kernel
theorem dX1_fitAt_30 : decode cX1_fitAt 30 = .ok (.iaload, 1) := by decide +kernel
theorem dX1_fitAt_31 : decode cX1_fitAt 31 = .ok (.if_icmp .ne 7, 3) := by decide +kernel
theorem dX1_fitAt_34 : decode cX1_fitAt 34 = .ok (.iconst 1, 1) := by decide +kernel
theorem dX1_fitAt_35 : decode cX1_fitAt 35 = .ok (.goto 4, 3) := by decide +kernel
theorem dX1_fitAt_38 : decode cX1_fitAt 38 = .ok (.iconst 0, 1) := by decide +kernel
theorem dX1_fitAt_39 : decode cX1_fitAt 39 = .ok (.iload 5, 2) := by decide +kernel
theorem dX1_fitAt_41 : decode cX1_fitAt 41 = .ok (.aload_n 0, 1) := by decide +kernel
theorem dX1_fitAt_42 : decode cX1_fitAt 42 = .ok (.getfield 21, 3) := by decide +kernel
theorem dX1_fitAt_45 : decode cX1_fitAt 45 = .ok (.iload_n 1, 1) := by decide +kernel
theorem dX1_fitAt_46 : decode cX1_fitAt 46 = .ok (.iaload, 1) := by decide +kernel
theorem dX1_fitAt_47 : decode cX1_fitAt 47 = .ok (.if_icmp .ne 7, 3) := by decide +kernel
theorem dX1_fitAt_50 : decode cX1_fitAt 50 = .ok (.iconst 1, 1) := by decide +kernel
theorem dX1_fitAt_51 : decode cX1_fitAt 51 = .ok (.goto 4, 3) := by decide +kernel
theorem dX1_fitAt_54 : decode cX1_fitAt 54 = .ok (.iconst 0, 1) := by decide +kernel
theorem dX1_fitAt_55 : decode cX1_fitAt 55 = .ok (.iadd, 1) := by decide +kernel
theorem dX1_fitAt_56 : decode cX1_fitAt 56 = .ok (.ireturn, 1) := by decide +kernel
theorem dX2_init_0 : decode cX2_init 0 = .ok (.aload_n 0, 1) := by decide +kernel
theorem dX2_init_1 : decode cX2_init 1 = .ok (.invokespecial 3, 3) := by decide +kernel
theorem dX2_init_4 : decode cX2_init 4 = .ok (.aload_n 0, 1) := by decide +kernel
theorem dX2_init_5 : decode cX2_init 5 = .ok (.bipush 12, 2) := by decide +kernel
theorem dX2_init_7 : decode cX2_init 7 = .ok (.newarray .int, 2) := by decide +kernel
theorem dX2_init_9 : decode cX2_init 9 = .ok (.putfield 9, 3) := by decide +kernel
theorem dX2_init_12 : decode cX2_init 12 = .ok (.aload_n 0, 1) := by decide +kernel
theorem dX2_init_13 : decode cX2_init 13 = .ok (.bipush 12, 2) := by decide +kernel
theorem dX2_init_15 : decode cX2_init 15 = .ok (.newarray .int, 2) := by decide +kernel
theorem dX2_init_17 : decode cX2_init 17 = .ok (.putfield 15, 3) := by decide +kernel
theorem dX2_init_20 : decode cX2_init 20 = .ok (.aload_n 0, 1) := by decide +kernel
theorem dX2_init_21 : decode cX2_init 21 = .ok (.bipush 12, 2) := by decide +kernel
theorem dX2_init_23 : decode cX2_init 23 = .ok (.newarray .int, 2) := by decide +kernel
theorem dX2_init_25 : decode cX2_init 25 = .ok (.putfield 18, 3) := by decide +kernel
theorem dX2_init_28 : decode cX2_init 28 = .ok (.aload_n 0, 1) := by decide +kernel
theorem dX2_init_29 : decode cX2_init 29 = .ok (.iconst 0, 1) := by decide +kernel
theorem dX2_init_30 : decode cX2_init 30 = .ok (.putfield 21, 3) := by decide +kernel
theorem dX2_init_33 : decode cX2_init 33 = .ok (.return_, 1) := by decide +kernel
theorem dX2_add_0 : decode cX2_add 0 = .ok (.aload_n 0, 1) := by decide +kernel
theorem dX2_add_1 : decode cX2_add 1 = .ok (.getfield 21, 3) := by decide +kernel
theorem dX2_add_4 : decode cX2_add 4 = .ok (.istore 4, 2) := by decide +kernel
theorem dX2_add_6 : decode cX2_add 6 = .ok (.aload_n 0, 1) := by decide +kernel
theorem dX2_add_7 : decode cX2_add 7 = .ok (.getfield 9, 3) := by decide +kernel
theorem dX2_add_10 : decode cX2_add 10 = .ok (.iload 4, 2) := by decide +kernel
theorem dX2_add_12 : decode cX2_add 12 = .ok (.iload_n 1, 1) := by decide +kernel
theorem dX2_add_13 : decode cX2_add 13 = .ok (.iastore, 1) := by decide +kernel
theorem dX2_add_14 : decode cX2_add 14 = .ok (.aload_n 0, 1) := by decide +kernel
theorem dX2_add_15 : decode cX2_add 15 = .ok (.getfield 15, 3) := by decide +kernel
theorem dX2_add_18 : decode cX2_add 18 = .ok (.iload 4, 2) := by decide +kernel
theorem dX2_add_20 : decode cX2_add 20 = .ok (.iload_n 2, 1) := by decide +kernel
theorem dX2_add_21 : decode cX2_add 21 = .ok (.iastore, 1) := by decide +kernel
theorem dX2_add_22 : decode cX2_add 22 = .ok (.aload_n 0, 1) := by decide +kernel
theorem dX2_add_23 : decode cX2_add 23 = .ok (.getfield 18, 3) := by decide +kernel
theorem dX2_add_26 : decode cX2_add 26 = .ok (.iload 4, 2) := by decide +kernel
theorem dX2_add_28 : decode cX2_add 28 = .ok (.iload_n 3, 1) := by decide +kernel
theorem dX2_add_29 : decode cX2_add 29 = .ok (.iastore, 1) := by decide +kernel
theorem dX2_add_30 : decode cX2_add 30 = .ok (.aload_n 0, 1) := by decide +kernel
theorem dX2_add_31 : decode cX2_add 31 = .ok (.dup, 1) := by decide +kernel
theorem dX2_add_32 : decode cX2_add 32 = .ok (.getfield 21, 3) := by decide +kernel
theorem dX2_add_35 : decode cX2_add 35 = .ok (.iconst 1, 1) := by decide +kernel
theorem dX2_add_36 : decode cX2_add 36 = .ok (.iadd, 1) := by decide +kernel
theorem dX2_add_37 : decode cX2_add 37 = .ok (.putfield 21, 3) := by decide +kernel
theorem dX2_add_40 : decode cX2_add 40 = .ok (.iload 4, 2) := by decide +kernel
theorem dX2_add_42 : decode cX2_add 42 = .ok (.ireturn, 1) := by decide +kernel
theorem dX2_bringBack_0 : decode cX2_bringBack 0 = .ok (.aload_n 0, 1) := by decide +kernel
theorem dX2_bringBack_1 : decode cX2_bringBack 1 = .ok (.getfield 9, 3) := by decide +kernel
theorem dX2_bringBack_4 : decode cX2_bringBack 4 = .ok (.iload_n 1, 1) := by decide +kernel
theorem dX2_bringBack_5 : decode cX2_bringBack 5 = .ok (.iload_n 2, 1) := by decide +kernel
theorem dX2_bringBack_6 : decode cX2_bringBack 6 = .ok (.iastore, 1) := by decide +kernel
theorem dX2_bringBack_7 : decode cX2_bringBack 7 = .ok (.aload_n 0, 1) := by decide +kernel
theorem dX2_bringBack_8 : decode cX2_bringBack 8 = .ok (.getfield 15, 3) := by decide +kernel
theorem dX2_bringBack_11 : decode cX2_bringBack 11 = .ok (.iload_n 1, 1) := by decide +kernel
theorem dX2_bringBack_12 : decode cX2_bringBack 12 = .ok (.iload_n 3, 1) := by decide +kernel
theorem dX2_bringBack_13 : decode cX2_bringBack 13 = .ok (.iastore, 1) := by decide +kernel
theorem dX2_bringBack_14 : decode cX2_bringBack 14 = .ok (.return_, 1) := by decide +kernel
theorem dX2_isGone_0 : decode cX2_isGone 0 = .ok (.aload_n 0, 1) := by decide +kernel
theorem dX2_isGone_1 : decode cX2_isGone 1 = .ok (.getfield 9, 3) := by decide +kernel
theorem dX2_isGone_4 : decode cX2_isGone 4 = .ok (.iload_n 1, 1) := by decide +kernel
theorem dX2_isGone_5 : decode cX2_isGone 5 = .ok (.iaload, 1) := by decide +kernel
theorem dX2_isGone_6 : decode cX2_isGone 6 = .ok (.iconst (-1), 1) := by decide +kernel
theorem dX2_isGone_7 : decode cX2_isGone 7 = .ok (.if_icmp .ne 7, 3) := by decide +kernel
theorem dX2_isGone_10 : decode cX2_isGone 10 = .ok (.iconst 1, 1) := by decide +kernel
theorem dX2_isGone_11 : decode cX2_isGone 11 = .ok (.goto 4, 3) := by decide +kernel
theorem dX2_isGone_14 : decode cX2_isGone 14 = .ok (.iconst 0, 1) := by decide +kernel
theorem dX2_isGone_15 : decode cX2_isGone 15 = .ok (.ireturn, 1) := by decide +kernel
set_option maxRecDepth 20000 in
theorem ggX2_asNumber_X2_isGone : GoodIn wsX2_asNumber wsX2_isGone := goodIn_ca (goodIn_r _ [7, 1, 8, 9, 10, 11] (by decide +kernel) (by decide +kernel)) (goodIn_sub (fun _ h => List.mem_cons_of_mem _ (List.mem_append_right _ h)) (by decide +kernel))
set_option maxRecDepth 20000 in
theorem gX2_asNumber_X2_isGone : GoodIn wsX2_asNumber (wsV RX2 25 RX2 yX2_isGone wsX2_isGone) := goodIn_app (goodIn_of _ (by decide +kernel)) ggX2_asNumber_X2_isGone
theorem dX2_asNumber_0 : decode cX2_asNumber 0 = .ok (.aload_n 0, 1) := by decide +kernel
theorem dX2_asNumber_1 : decode cX2_asNumber 1 = .ok (.iload_n 1, 1) := by decide +kernel
theorem dX2_asNumber_2 : decode cX2_asNumber 2 = .ok (.invokevirtual 25, 3) := by decide +kernel
theorem dX2_asNumber_5 : decode cX2_asNumber 5 = .ok (.ifCond .eq 7, 3) := by decide +kernel
theorem dX2_asNumber_8 : decode cX2_asNumber 8 = .ok (.iconst (-1), 1) := by decide +kernel
theorem dX2_asNumber_9 : decode cX2_asNumber 9 = .ok (.goto 19, 3) := by decide +kernel
theorem dX2_asNumber_12 : decode cX2_asNumber 12 = .ok (.bipush 100, 2) := by decide +kernel
theorem dX2_asNumber_14 : decode cX2_asNumber 14 = .ok (.aload_n 0, 1) := by decide +kernel
theorem dX2_asNumber_15 : decode cX2_asNumber 15 = .ok (.getfield 9, 3) := by decide +kernel
theorem dX2_asNumber_18 : decode cX2_asNumber 18 = .ok (.iload_n 1, 1) := by decide +kernel
theorem dX2_asNumber_19 : decode cX2_asNumber 19 = .ok (.iaload, 1) := by decide +kernel
theorem dX2_asNumber_20 : decode cX2_asNumber 20 = .ok (.imul, 1) := by decide +kernel
theorem dX2_asNumber_21 : decode cX2_asNumber 21 = .ok (.aload_n 0, 1) := by decide +kernel
theorem dX2_asNumber_22 : decode cX2_asNumber 22 = .ok (.getfield 15, 3) := by decide +kernel
theorem dX2_asNumber_25 : decode cX2_asNumber 25 = .ok (.iload_n 1, 1) := by decide +kernel
theorem dX2_asNumber_26 : decode cX2_asNumber 26 = .ok (.iaload, 1) := by decide +kernel
theorem dX2_asNumber_27 : decode cX2_asNumber 27 = .ok (.iadd, 1) := by decide +kernel
theorem dX2_asNumber_28 : decode cX2_asNumber 28 = .ok (.ireturn, 1) := by decide +kernel
set_option maxRecDepth 20000 in
theorem ggX2_covering_X4_bit : GoodIn wsX2_covering wsX4_bit := goodIn_r _ [6] (by decide +kernel) (by decide +kernel)
set_option maxRecDepth 20000 in
theorem gX2_covering_X4_bit_n29 : GoodIn wsX2_covering (wsX4_bit) := ggX2_covering_X4_bit
theorem dX2_covering_0 : decode cX2_covering 0 = .ok (.iconst 0, 1) := by decide +kernel
theorem dX2_covering_1 : decode cX2_covering 1 = .ok (.istore_n 2, 1) := by decide +kernel
theorem dX2_covering_2 : decode cX2_covering 2 = .ok (.iconst 0, 1) := by decide +kernel
theorem dX2_covering_3 : decode cX2_covering 3 = .ok (.istore_n 3, 1) := by decide +kernel
theorem dX2_covering_4 : decode cX2_covering 4 = .ok (.iload_n 3, 1) := by decide +kernel
theorem dX2_covering_5 : decode cX2_covering 5 = .ok (.aload_n 0, 1) := by decide +kernel
theorem dX2_covering_6 : decode cX2_covering 6 = .ok (.getfield 21, 3) := by decide +kernel
theorem dX2_covering_9 : decode cX2_covering 9 = .ok (.if_icmp .ge 36, 3) := by decide +kernel
theorem dX2_covering_12 : decode cX2_covering 12 = .ok (.aload_n 0, 1) := by decide +kernel
theorem dX2_covering_13 : decode cX2_covering 13 = .ok (.getfield 9, 3) := by decide +kernel
theorem dX2_covering_16 : decode cX2_covering 16 = .ok (.iload_n 3, 1) := by decide +kernel
theorem dX2_covering_17 : decode cX2_covering 17 = .ok (.iaload, 1) := by decide +kernel
theorem dX2_covering_18 : decode cX2_covering 18 = .ok (.iload_n 1, 1) := by decide +kernel
theorem dX2_covering_19 : decode cX2_covering 19 = .ok (.if_icmp .gt 20, 3) := by decide +kernel
theorem dX2_covering_22 : decode cX2_covering 22 = .ok (.iload_n 1, 1) := by decide +kernel
theorem dX2_covering_23 : decode cX2_covering 23 = .ok (.aload_n 0, 1) := by decide +kernel
theorem dX2_covering_24 : decode cX2_covering 24 = .ok (.getfield 15, 3) := by decide +kernel
theorem dX2_covering_27 : decode cX2_covering 27 = .ok (.iload_n 3, 1) := by decide +kernel
theorem dX2_covering_28 : decode cX2_covering 28 = .ok (.iaload, 1) := by decide +kernel
theorem dX2_covering_29 : decode cX2_covering 29 = .ok (.if_icmp .ge 10, 3) := by decide +kernel
theorem dX2_covering_32 : decode cX2_covering 32 = .ok (.iload_n 2, 1) := by decide +kernel
theorem dX2_covering_33 : decode cX2_covering 33 = .ok (.iload_n 3, 1) := by decide +kernel
theorem dX2_covering_34 : decode cX2_covering 34 = .ok (.invokestatic 29, 3) := by decide +kernel
theorem dX2_covering_37 : decode cX2_covering 37 = .ok (.ior, 1) := by decide +kernel
theorem dX2_covering_38 : decode cX2_covering 38 = .ok (.istore_n 2, 1) := by decide +kernel
theorem dX2_covering_39 : decode cX2_covering 39 = .ok (.iinc 3 1, 3) := by decide +kernel
theorem dX2_covering_42 : decode cX2_covering 42 = .ok (.goto (-38), 3) := by decide +kernel
theorem dX2_covering_45 : decode cX2_covering 45 = .ok (.iload_n 2, 1) := by decide +kernel
theorem dX2_covering_46 : decode cX2_covering 46 = .ok (.ireturn, 1) := by decide +kernel
theorem dX2_share_0 : decode cX2_share 0 = .ok (.aload_n 0, 1) := by decide +kernel
theorem dX2_share_1 : decode cX2_share 1 = .ok (.getfield 9, 3) := by decide +kernel
theorem dX2_share_4 : decode cX2_share 4 = .ok (.iload_n 1, 1) := by decide +kernel
theorem dX2_share_5 : decode cX2_share 5 = .ok (.iaload, 1) := by decide +kernel
theorem dX2_share_6 : decode cX2_share 6 = .ok (.aload_n 0, 1) := by decide +kernel
theorem dX2_share_7 : decode cX2_share 7 = .ok (.getfield 9, 3) := by decide +kernel
theorem dX2_share_10 : decode cX2_share 10 = .ok (.iload_n 2, 1) := by decide +kernel
theorem dX2_share_11 : decode cX2_share 11 = .ok (.iaload, 1) := by decide +kernel
theorem dX2_share_12 : decode cX2_share 12 = .ok (.invokestatic 33, 3) := by decide +kernel
theorem dX2_share_15 : decode cX2_share 15 = .ok (.aload_n 0, 1) := by decide +kernel
theorem dX2_share_16 : decode cX2_share 16 = .ok (.getfield 15, 3) := by decide +kernel
theorem dX2_share_19 : decode cX2_share 19 = .ok (.iload_n 1, 1) := by decide +kernel
theorem dX2_share_20 : decode cX2_share 20 = .ok (.iaload, 1) := by decide +kernel
theorem dX2_share_21 : decode cX2_share 21 = .ok (.aload_n 0, 1) := by decide +kernel
theorem dX2_share_22 : decode cX2_share 22 = .ok (.getfield 15, 3) := by decide +kernel
theorem dX2_share_25 : decode cX2_share 25 = .ok (.iload_n 2, 1) := by decide +kernel
theorem dX2_share_26 : decode cX2_share 26 = .ok (.iaload, 1) := by decide +kernel
theorem dX2_share_27 : decode cX2_share 27 = .ok (.invokestatic 39, 3) := by decide +kernel
theorem dX2_share_30 : decode cX2_share 30 = .ok (.if_icmp .ge 7, 3) := by decide +kernel
theorem dX2_share_33 : decode cX2_share 33 = .ok (.iconst 1, 1) := by decide +kernel
theorem dX2_share_34 : decode cX2_share 34 = .ok (.goto 4, 3) := by decide +kernel
theorem dX2_share_37 : decode cX2_share 37 = .ok (.iconst 0, 1) := by decide +kernel
theorem dX2_share_38 : decode cX2_share 38 = .ok (.ireturn, 1) := by decide +kernel
set_option maxRecDepth 20000 in
theorem ggX2_moveByInsertion_X2_isGone : GoodIn wsX2_moveByInsertion wsX2_isGone := goodIn_ca (goodIn_r _ [9, 3, 13, 14, 15, 16] (by decide +kernel) (by decide +kernel)) (goodIn_sub (fun _ h => List.mem_cons_of_mem _ (List.mem_append_right _ h)) (by decide +kernel))
set_option maxRecDepth 20000 in
theorem gX2_moveByInsertion_X2_isGone : GoodIn wsX2_moveByInsertion (wsV RX2 25 RX2 yX2_isGone wsX2_isGone) := goodIn_app (goodIn_of _ (by decide +kernel)) ggX2_moveByInsertion_X2_isGone
set_option maxRecDepth 20000 in
theorem ggX2_moveByInsertion_X2_behindInsertion : GoodIn wsX2_moveByInsertion wsX2_behindInsertion := goodIn_r _ [12] (by decide +kernel) (by decide +kernel)
set_option maxRecDepth 20000 in
theorem gX2_moveByInsertion_X2_behindInsertion : GoodIn wsX2_moveByInsertion (va_wsS RX2 42 yX2_behindInsertion wsX2_behindInsertion) := goodIn_app (goodIn_of _ (by decide +kernel)) ggX2_moveByInsertion_X2_behindInsertion
theorem dX2_moveByInsertion_0 : decode cX2_moveByInsertion 0 = .ok (.iconst 0, 1) := by decide +kernel
theorem dX2_moveByInsertion_1 : decode cX2_moveByInsertion 1 = .ok (.istore_n 3, 1) := by decide +kernel
theorem dX2_moveByInsertion_2 : decode cX2_moveByInsertion 2 = .ok (.iload_n 3, 1) := by decide +kernel
theorem dX2_moveByInsertion_3 : decode cX2_moveByInsertion 3 = .ok (.aload_n 0, 1) := by decide +kernel
theorem dX2_moveByInsertion_4 : decode cX2_moveByInsertion 4 = .ok (.getfield 21, 3) := by decide +kernel
theorem dX2_moveByInsertion_7 : decode cX2_moveByInsertion 7 = .ok (.if_icmp .ge 91, 3) := by decide +kernel
theorem dX2_moveByInsertion_10 : decode cX2_moveByInsertion 10 = .ok (.aload_n 0, 1) := by decide +kernel
theorem dX2_moveByInsertion_11 : decode cX2_moveByInsertion 11 = .ok (.iload_n 3, 1) := by decide +kernel
theorem dX2_moveByInsertion_12 : decode cX2_moveByInsertion 12 = .ok (.invokevirtual 25, 3) := by decide +kernel
theorem dX2_moveByInsertion_15 : decode cX2_moveByInsertion 15 = .ok (.ifCond .ne 77, 3) := by decide +kernel
theorem dX2_moveByInsertion_18 : decode cX2_moveByInsertion 18 = .ok (.aload_n 0, 1) := by decide +kernel
theorem dX2_moveByInsertion_19 : decode cX2_moveByInsertion 19 = .ok (.getfield 18, 3) := by decide +kernel
theorem dX2_moveByInsertion_22 : decode cX2_moveByInsertion 22 = .ok (.iload_n 3, 1) := by decide +kernel
theorem dX2_moveByInsertion_23 : decode cX2_moveByInsertion 23 = .ok (.iaload, 1) := by decide +kernel
theorem dX2_moveByInsertion_24 : decode cX2_moveByInsertion 24 = .ok (.iconst 1, 1) := by decide +kernel
theorem dX2_moveByInsertion_25 : decode cX2_moveByInsertion 25 = .ok (.iand, 1) := by decide +kernel
theorem dX2_moveByInsertion_26 : decode cX2_moveByInsertion 26 = .ok (.ifCond .eq 7, 3) := by decide +kernel
theorem dX2_moveByInsertion_29 : decode cX2_moveByInsertion 29 = .ok (.iconst 1, 1) := by decide +kernel
theorem dX2_moveByInsertion_30 : decode cX2_moveByInsertion 30 = .ok (.goto 4, 3) := by decide +kernel
theorem dX2_moveByInsertion_33 : decode cX2_moveByInsertion 33 = .ok (.iconst 0, 1) := by decide +kernel
theorem dX2_moveByInsertion_34 : decode cX2_moveByInsertion 34 = .ok (.istore 4, 2) := by decide +kernel
theorem dX2_moveByInsertion_36 : decode cX2_moveByInsertion 36 = .ok (.aload_n 0, 1) := by decide +kernel
theorem dX2_moveByInsertion_37 : decode cX2_moveByInsertion 37 = .ok (.getfield 18, 3) := by decide +kernel
theorem dX2_moveByInsertion_40 : decode cX2_moveByInsertion 40 = .ok (.iload_n 3, 1) := by decide +kernel
theorem dX2_moveByInsertion_41 : decode cX2_moveByInsertion 41 = .ok (.iaload, 1) := by decide +kernel
theorem dX2_moveByInsertion_42 : decode cX2_moveByInsertion 42 = .ok (.iconst 2, 1) := by decide +kernel
theorem dX2_moveByInsertion_43 : decode cX2_moveByInsertion 43 = .ok (.iand, 1) := by decide +kernel
theorem dX2_moveByInsertion_44 : decode cX2_moveByInsertion 44 = .ok (.ifCond .ne 7, 3) := by decide +kernel
theorem dX2_moveByInsertion_47 : decode cX2_moveByInsertion 47 = .ok (.iconst 1, 1) := by decide +kernel
theorem dX2_moveByInsertion_48 : decode cX2_moveByInsertion 48 = .ok (.goto 4, 3) := by decide +kernel
theorem dX2_moveByInsertion_51 : decode cX2_moveByInsertion 51 = .ok (.iconst 0, 1) := by decide +kernel
theorem dX2_moveByInsertion_52 : decode cX2_moveByInsertion 52 = .ok (.istore 5, 2) := by decide +kernel
theorem dX2_moveByInsertion_54 : decode cX2_moveByInsertion 54 = .ok (.aload_n 0, 1) := by decide +kernel
theorem dX2_moveByInsertion_55 : decode cX2_moveByInsertion 55 = .ok (.getfield 9, 3) := by decide +kernel
theorem dX2_moveByInsertion_58 : decode cX2_moveByInsertion 58 = .ok (.iload_n 3, 1) := by decide +kernel
theorem dX2_moveByInsertion_59 : decode cX2_moveByInsertion 59 = .ok (.aload_n 0, 1) := by decide +kernel
theorem dX2_moveByInsertion_60 : decode cX2_moveByInsertion 60 = .ok (.getfield 9, 3) := by decide +kernel
theorem dX2_moveByInsertion_63 : decode cX2_moveByInsertion 63 = .ok (.iload_n 3, 1) := by decide +kernel
theorem dX2_moveByInsertion_64 : decode cX2_moveByInsertion 64 = .ok (.iaload, 1) := by decide +kernel
theorem dX2_moveByInsertion_65 : decode cX2_moveByInsertion 65 = .ok (.iload_n 1, 1) := by decide +kernel
theorem dX2_moveByInsertion_66 : decode cX2_moveByInsertion 66 = .ok (.iload_n 2, 1) := by decide +kernel
theorem dX2_moveByInsertion_67 : decode cX2_moveByInsertion 67 = .ok (.iload 4, 2) := by decide +kernel
theorem dX2_moveByInsertion_69 : decode cX2_moveByInsertion 69 = .ok (.invokestatic 42, 3) := by decide +kernel
theorem dX2_moveByInsertion_72 : decode cX2_moveByInsertion 72 = .ok (.iastore, 1) := by decide +kernel
theorem dX2_moveByInsertion_73 : decode cX2_moveByInsertion 73 = .ok (.aload_n 0, 1) := by decide +kernel
theorem dX2_moveByInsertion_74 : decode cX2_moveByInsertion 74 = .ok (.getfield 15, 3) := by decide +kernel
theorem dX2_moveByInsertion_77 : decode cX2_moveByInsertion 77 = .ok (.iload_n 3, 1) := by decide +kernel
theorem dX2_moveByInsertion_78 : decode cX2_moveByInsertion 78 = .ok (.aload_n 0, 1) := by decide +kernel
theorem dX2_moveByInsertion_79 : decode cX2_moveByInsertion 79 = .ok (.getfield 15, 3) := by decide +kernel
theorem dX2_moveByInsertion_82 : decode cX2_moveByInsertion 82 = .ok (.iload_n 3, 1) := by decide +kernel
theorem dX2_moveByInsertion_83 : decode cX2_moveByInsertion 83 = .ok (.iaload, 1) := by decide +kernel
theorem dX2_moveByInsertion_84 : decode cX2_moveByInsertion 84 = .ok (.iload_n 1, 1) := by decide +kernel
theorem dX2_moveByInsertion_85 : decode cX2_moveByInsertion 85 = .ok (.iload_n 2, 1) := by decide +kernel
theorem dX2_moveByInsertion_86 : decode cX2_moveByInsertion 86 = .ok (.iload 5, 2) := by decide +kernel
theorem dX2_moveByInsertion_88 : decode cX2_moveByInsertion 88 = .ok (.invokestatic 42, 3) := by decide +kernel
theorem dX2_moveByInsertion_91 : decode cX2_moveByInsertion 91 = .ok (.iastore, 1) := by decide +kernel
theorem dX2_moveByInsertion_92 : decode cX2_moveByInsertion 92 = .ok (.iinc 3 1, 3) := by decide +kernel
theorem dX2_moveByInsertion_95 : decode cX2_moveByInsertion 95 = .ok (.goto (-93), 3) := by decide +kernel
theorem dX2_moveByInsertion_98 : decode cX2_moveByInsertion 98 = .ok (.return_, 1) := by decide +kernel
theorem dX2_behindInsertion_0 : decode cX2_behindInsertion 0 = .ok (.iload_n 0, 1) := by decide +kernel
theorem dX2_behindInsertion_1 : decode cX2_behindInsertion 1 = .ok (.iload_n 1, 1) := by decide +kernel
theorem dX2_behindInsertion_2 : decode cX2_behindInsertion 2 = .ok (.if_icmp .gt 12, 3) := by decide +kernel
theorem dX2_behindInsertion_5 : decode cX2_behindInsertion 5 = .ok (.iload_n 0, 1) := by decide +kernel
theorem dX2_behindInsertion_6 : decode cX2_behindInsertion 6 = .ok (.iload_n 1, 1) := by decide +kernel
theorem dX2_behindInsertion_7 : decode cX2_behindInsertion 7 = .ok (.if_icmp .ne 11, 3) := by decide +kernel
theorem dX2_behindInsertion_10 : decode cX2_behindInsertion 10 = .ok (.iload_n 3, 1) := by decide +kernel
theorem dX2_behindInsertion_11 : decode cX2_behindInsertion 11 = .ok (.ifCond .ne 7, 3) := by decide +kernel
theorem dX2_behindInsertion_14 : decode cX2_behindInsertion 14 = .ok (.iconst 1, 1) := by decide +kernel
theorem dX2_behindInsertion_15 : decode cX2_behindInsertion 15 = .ok (.goto 4, 3) := by decide +kernel
theorem dX2_behindInsertion_18 : decode cX2_behindInsertion 18 = .ok (.iconst 0, 1) := by decide +kernel
theorem dX2_behindInsertion_19 : decode cX2_behindInsertion 19 = .ok (.istore 4, 2) := by decide +kernel
theorem dX2_behindInsertion_21 : decode cX2_behindInsertion 21 = .ok (.iload 4, 2) := by decide +kernel
theorem dX2_behindInsertion_23 : decode cX2_behindInsertion 23 = .ok (.ifCond .eq 9, 3) := by decide +kernel
theorem dX2_behindInsertion_26 : decode cX2_behindInsertion 26 = .ok (.iload_n 0, 1) := by decide +kernel
theorem dX2_behindInsertion_27 : decode cX2_behindInsertion 27 = .ok (.iload_n 2, 1) := by decide +kernel
theorem dX2_behindInsertion_28 : decode cX2_behindInsertion 28 = .ok (.iadd, 1) := by decide +kernel
theorem dX2_behindInsertion_29 : decode cX2_behindInsertion 29 = .ok (.goto 4, 3) := by decide +kernel
theorem dX2_behindInsertion_32 : decode cX2_behindInsertion 32 = .ok (.iload_n 0, 1) := by decide +kernel
theorem dX2_behindInsertion_33 : decode cX2_behindInsertion 33 = .ok (.ireturn, 1) := by decide +kernel
set_option maxRecDepth 20000 in
theorem ggX2_moveByRemoval_X2_isGone : GoodIn wsX2_moveByRemoval wsX2_isGone := goodIn_ca (goodIn_r _ [8, 2, 19, 20, 21, 22] (by decide +kernel) (by decide +kernel)) (goodIn_sub (fun _ h => List.mem_cons_of_mem _ (List.mem_append_right _ h)) (by decide +kernel))
set_option maxRecDepth 20000 in
theorem gX2_moveByRemoval_X2_isGone : GoodIn wsX2_moveByRemoval (wsV RX2 25 RX2 yX2_isGone wsX2_isGone) := goodIn_app (goodIn_of _ (by decide +kernel)) ggX2_moveByRemoval_X2_isGone
set_option maxRecDepth 20000 in
theorem ggX2_moveByRemoval_X2_behindRemoval : GoodIn wsX2_moveByRemoval wsX2_behindRemoval := goodIn_r _ [11, 12, 13, 14, 15] (by decide +kernel) (by decide +kernel)
set_option maxRecDepth 20000 in
theorem gX2_moveByRemoval_X2_behindRemoval : GoodIn wsX2_moveByRemoval (va_wsS RX2 46 yX2_behindRemoval wsX2_behindRemoval) := goodIn_app (goodIn_of _ (by decide +kernel)) ggX2_moveByRemoval_X2_behindRemoval
set_option maxRecDepth 20000 in
theorem ggX2_moveByRemoval_X4_bit : GoodIn wsX2_moveByRemoval wsX4_bit := goodIn_r _ [18] (by decide +kernel) (by decide +kernel)
set_option maxRecDepth 20000 in
theorem gX2_moveByRemoval_X4_bit_n29 : GoodIn wsX2_moveByRemoval (wsX4_bit) := ggX2_moveByRemoval_X4_bit
theorem dX2_moveByRemoval_0 : decode cX2_moveByRemoval 0 = .ok (.iconst 0, 1) := by decide +kernel
theorem dX2_moveByRemoval_1 : decode cX2_moveByRemoval 1 = .ok (.istore_n 3, 1) := by decide +kernel
theorem dX2_moveByRemoval_2 : decode cX2_moveByRemoval 2 = .ok (.iconst 0, 1) := by decide +kernel
theorem dX2_moveByRemoval_3 : decode cX2_moveByRemoval 3 = .ok (.istore 4, 2) := by decide +kernel
theorem dX2_moveByRemoval_5 : decode cX2_moveByRemoval 5 = .ok (.iload 4, 2) := by decide +kernel
theorem dX2_moveByRemoval_7 : decode cX2_moveByRemoval 7 = .ok (.aload_n 0, 1) := by decide +kernel
theorem dX2_moveByRemoval_8 : decode cX2_moveByRemoval 8 = .ok (.getfield 21, 3) := by decide +kernel
theorem dX2_moveByRemoval_11 : decode cX2_moveByRemoval 11 = .ok (.if_icmp .ge 97, 3) := by decide +kernel
theorem dX2_moveByRemoval_14 : decode cX2_moveByRemoval 14 = .ok (.aload_n 0, 1) := by decide +kernel
theorem dX2_moveByRemoval_15 : decode cX2_moveByRemoval 15 = .ok (.iload 4, 2) := by decide +kernel
theorem dX2_moveByRemoval_17 : decode cX2_moveByRemoval 17 = .ok (.invokevirtual 25, 3) := by decide +kernel
theorem dX2_moveByRemoval_20 : decode cX2_moveByRemoval 20 = .ok (.ifCond .ne 82, 3) := by decide +kernel
theorem dX2_moveByRemoval_23 : decode cX2_moveByRemoval 23 = .ok (.aload_n 0, 1) := by decide +kernel
theorem dX2_moveByRemoval_24 : decode cX2_moveByRemoval 24 = .ok (.getfield 9, 3) := by decide +kernel
theorem dX2_moveByRemoval_27 : decode cX2_moveByRemoval 27 = .ok (.iload 4, 2) := by decide +kernel
theorem dX2_moveByRemoval_29 : decode cX2_moveByRemoval 29 = .ok (.aload_n 0, 1) := by decide +kernel
theorem dX2_moveByRemoval_30 : decode cX2_moveByRemoval 30 = .ok (.getfield 9, 3) := by decide +kernel
theorem dX2_moveByRemoval_33 : decode cX2_moveByRemoval 33 = .ok (.iload 4, 2) := by decide +kernel
theorem dX2_moveByRemoval_35 : decode cX2_moveByRemoval 35 = .ok (.iaload, 1) := by decide +kernel
theorem dX2_moveByRemoval_36 : decode cX2_moveByRemoval 36 = .ok (.iload_n 1, 1) := by decide +kernel
theorem dX2_moveByRemoval_37 : decode cX2_moveByRemoval 37 = .ok (.iload_n 2, 1) := by decide +kernel
theorem dX2_moveByRemoval_38 : decode cX2_moveByRemoval 38 = .ok (.invokestatic 46, 3) := by decide +kernel
theorem dX2_moveByRemoval_41 : decode cX2_moveByRemoval 41 = .ok (.iastore, 1) := by decide +kernel
theorem dX2_moveByRemoval_42 : decode cX2_moveByRemoval 42 = .ok (.aload_n 0, 1) := by decide +kernel
theorem dX2_moveByRemoval_43 : decode cX2_moveByRemoval 43 = .ok (.getfield 15, 3) := by decide +kernel
theorem dX2_moveByRemoval_46 : decode cX2_moveByRemoval 46 = .ok (.iload 4, 2) := by decide +kernel
theorem dX2_moveByRemoval_48 : decode cX2_moveByRemoval 48 = .ok (.aload_n 0, 1) := by decide +kernel
theorem dX2_moveByRemoval_49 : decode cX2_moveByRemoval 49 = .ok (.getfield 15, 3) := by decide +kernel
theorem dX2_moveByRemoval_52 : decode cX2_moveByRemoval 52 = .ok (.iload 4, 2) := by decide +kernel
theorem dX2_moveByRemoval_54 : decode cX2_moveByRemoval 54 = .ok (.iaload, 1) := by decide +kernel
theorem dX2_moveByRemoval_55 : decode cX2_moveByRemoval 55 = .ok (.iload_n 1, 1) := by decide +kernel
theorem dX2_moveByRemoval_56 : decode cX2_moveByRemoval 56 = .ok (.iload_n 2, 1) := by decide +kernel
theorem dX2_moveByRemoval_57 : decode cX2_moveByRemoval 57 = .ok (.invokestatic 46, 3) := by decide +kernel
theorem dX2_moveByRemoval_60 : decode cX2_moveByRemoval 60 = .ok (.iastore, 1) := by decide +kernel
theorem dX2_moveByRemoval_61 : decode cX2_moveByRemoval 61 = .ok (.aload_n 0, 1) := by decide +kernel
theorem dX2_moveByRemoval_62 : decode cX2_moveByRemoval 62 = .ok (.getfield 9, 3) := by decide +kernel
theorem dX2_moveByRemoval_65 : decode cX2_moveByRemoval 65 = .ok (.iload 4, 2) := by decide +kernel
theorem dX2_moveByRemoval_67 : decode cX2_moveByRemoval 67 = .ok (.iaload, 1) := by decide +kernel
theorem dX2_moveByRemoval_68 : decode cX2_moveByRemoval 68 = .ok (.aload_n 0, 1) := by decide +kernel
theorem dX2_moveByRemoval_69 : decode cX2_moveByRemoval 69 = .ok (.getfield 15, 3) := by decide +kernel
theorem dX2_moveByRemoval_72 : decode cX2_moveByRemoval 72 = .ok (.iload 4, 2) := by decide +kernel
theorem dX2_moveByRemoval_74 : decode cX2_moveByRemoval 74 = .ok (.iaload, 1) := by decide +kernel
theorem dX2_moveByRemoval_75 : decode cX2_moveByRemoval 75 = .ok (.if_icmp .ne 27, 3) := by decide +kernel
theorem dX2_moveByRemoval_78 : decode cX2_moveByRemoval 78 = .ok (.aload_n 0, 1) := by decide +kernel
theorem dX2_moveByRemoval_79 : decode cX2_moveByRemoval 79 = .ok (.getfield 9, 3) := by decide +kernel
theorem dX2_moveByRemoval_82 : decode cX2_moveByRemoval 82 = .ok (.iload 4, 2) := by decide +kernel
theorem dX2_moveByRemoval_84 : decode cX2_moveByRemoval 84 = .ok (.iconst (-1), 1) := by decide +kernel
theorem dX2_moveByRemoval_85 : decode cX2_moveByRemoval 85 = .ok (.iastore, 1) := by decide +kernel
theorem dX2_moveByRemoval_86 : decode cX2_moveByRemoval 86 = .ok (.aload_n 0, 1) := by decide +kernel
theorem dX2_moveByRemoval_87 : decode cX2_moveByRemoval 87 = .ok (.getfield 15, 3) := by decide +kernel
theorem dX2_moveByRemoval_90 : decode cX2_moveByRemoval 90 = .ok (.iload 4, 2) := by decide +kernel
theorem dX2_moveByRemoval_92 : decode cX2_moveByRemoval 92 = .ok (.iconst (-1), 1) := by decide +kernel
theorem dX2_moveByRemoval_93 : decode cX2_moveByRemoval 93 = .ok (.iastore, 1) := by decide +kernel
theorem dX2_moveByRemoval_94 : decode cX2_moveByRemoval 94 = .ok (.iload_n 3, 1) := by decide +kernel
theorem dX2_moveByRemoval_95 : decode cX2_moveByRemoval 95 = .ok (.iload 4, 2) := by decide +kernel
theorem dX2_moveByRemoval_97 : decode cX2_moveByRemoval 97 = .ok (.invokestatic 29, 3) := by decide +kernel
theorem dX2_moveByRemoval_100 : decode cX2_moveByRemoval 100 = .ok (.ior, 1) := by decide +kernel
theorem dX2_moveByRemoval_101 : decode cX2_moveByRemoval 101 = .ok (.istore_n 3, 1) := by decide +kernel
theorem dX2_moveByRemoval_102 : decode cX2_moveByRemoval 102 = .ok (.iinc 4 1, 3) := by decide +kernel
theorem dX2_moveByRemoval_105 : decode cX2_moveByRemoval 105 = .ok (.goto (-100), 3) := by decide +kernel
theorem dX2_moveByRemoval_108 : decode cX2_moveByRemoval 108 = .ok (.iload_n 3, 1) := by decide +kernel
theorem dX2_moveByRemoval_109 : decode cX2_moveByRemoval 109 = .ok (.ireturn, 1) := by decide +kernel
theorem dX2_behindRemoval_0 : decode cX2_behindRemoval 0 = .ok (.iload_n 0, 1) := by decide +kernel
theorem dX2_behindRemoval_1 : decode cX2_behindRemoval 1 = .ok (.iload_n 1, 1) := by decide +kernel
theorem dX2_behindRemoval_2 : decode cX2_behindRemoval 2 = .ok (.if_icmp .le 13, 3) := by decide +kernel
theorem dX2_behindRemoval_5 : decode cX2_behindRemoval 5 = .ok (.iload_n 1, 1) := by decide +kernel
theorem dX2_behindRemoval_6 : decode cX2_behindRemoval 6 = .ok (.iload_n 0, 1) := by decide +kernel
theorem dX2_behindRemoval_7 : decode cX2_behindRemoval 7 = .ok (.iload_n 2, 1) := by decide +kernel
theorem dX2_behindRemoval_8 : decode cX2_behindRemoval 8 = .ok (.isub, 1) := by decide +kernel
theorem dX2_behindRemoval_9 : decode cX2_behindRemoval 9 = .ok (.invokestatic 33, 3) := by decide +kernel
theorem dX2_behindRemoval_12 : decode cX2_behindRemoval 12 = .ok (.goto 4, 3) := by decide +kernel
theorem dX2_behindRemoval_15 : decode cX2_behindRemoval 15 = .ok (.iload_n 0, 1) := by decide +kernel
theorem dX2_behindRemoval_16 : decode cX2_behindRemoval 16 = .ok (.ireturn, 1) := by decide +kernel
theorem dX3_init_0 : decode cX3_init 0 = .ok (.aload_n 0, 1) := by decide +kernel
theorem dX3_init_1 : decode cX3_init 1 = .ok (.invokespecial 3, 3) := by decide +kernel
theorem dX3_init_4 : decode cX3_init 4 = .ok (.aload_n 0, 1) := by decide +kernel
theorem dX3_init_5 : decode cX3_init 5 = .ok (.bipush 60, 2) := by decide +kernel
theorem dX3_init_7 : decode cX3_init 7 = .ok (.newarray .int, 2) := by decide +kernel
theorem dX3_init_9 : decode cX3_init 9 = .ok (.putfield 9, 3) := by decide +kernel
theorem dX3_init_12 : decode cX3_init 12 = .ok (.aload_n 0, 1) := by decide +kernel
theorem dX3_init_13 : decode cX3_init 13 = .ok (.bipush 60, 2) := by decide +kernel
theorem dX3_init_15 : decode cX3_init 15 = .ok (.newarray .int, 2) := by decide +kernel
theorem dX3_init_17 : decode cX3_init 17 = .ok (.putfield 15, 3) := by decide +kernel
theorem dX3_init_20 : decode cX3_init 20 = .ok (.aload_n 0, 1) := by decide +kernel
theorem dX3_init_21 : decode cX3_init 21 = .ok (.iconst 0, 1) := by decide +kernel
theorem dX3_init_22 : decode cX3_init 22 = .ok (.putfield 18, 3) := by decide +kernel
theorem dX3_init_25 : decode cX3_init 25 = .ok (.return_, 1) := by decide +kernel
theorem dX3_hasLetterBehind_0 : decode cX3_hasLetterBehind 0 = .ok (.iload_n 1, 1) := by decide +kernel
theorem dX3_hasLetterBehind_1 : decode cX3_hasLetterBehind 1 = .ok (.ifCond .lt 15, 3) := by decide +kernel
theorem dX3_hasLetterBehind_4 : decode cX3_hasLetterBehind 4 = .ok (.iload_n 1, 1) := by decide +kernel
theorem dX3_hasLetterBehind_5 : decode cX3_hasLetterBehind 5 = .ok (.aload_n 0, 1) := by decide +kernel
theorem dX3_hasLetterBehind_6 : decode cX3_hasLetterBehind 6 = .ok (.getfield 18, 3) := by decide +kernel
theorem dX3_hasLetterBehind_9 : decode cX3_hasLetterBehind 9 = .ok (.if_icmp .ge 7, 3) := by decide +kernel
theorem dX3_hasLetterBehind_12 : decode cX3_hasLetterBehind 12 = .ok (.iconst 1, 1) := by decide +kernel
theorem dX3_hasLetterBehind_13 : decode cX3_hasLetterBehind 13 = .ok (.goto 4, 3) := by decide +kernel
theorem dX3_hasLetterBehind_16 : decode cX3_hasLetterBehind 16 = .ok (.iconst 0, 1) := by decide +kernel
theorem dX3_hasLetterBehind_17 : decode cX3_hasLetterBehind 17 = .ok (.ireturn, 1) := by decide +kernel
set_option maxRecDepth 20000 in
theorem ggX3_letterBehind_X3_hasLetterBehind : GoodIn wsX3_letterBehind wsX3_hasLetterBehind := goodIn_r _ [6, 7, 8, 9, 10] (by decide +kernel) (by decide +kernel)
set_option maxRecDepth 20000 in
theorem gX3_letterBehind_X3_hasLetterBehind : GoodIn wsX3_letterBehind (wsV RX3 22 RX3 yX3_hasLetterBehind wsX3_hasLetterBehind) := goodIn_app (goodIn_of _ (by decide +kernel)) ggX3_letterBehind_X3_hasLetterBehind
theorem dX3_letterBehind_0 : decode cX3_letterBehind 0 = .ok (.aload_n 0, 1) := by decide +kernel
theorem dX3_letterBehind_1 : decode cX3_letterBehind 1 = .ok (.iload_n 1, 1) := by decide +kernel
theorem dX3_letterBehind_2 : decode cX3_letterBehind 2 = .ok (.invokevirtual 22, 3) := by decide +kernel
theorem dX3_letterBehind_5 : decode cX3_letterBehind 5 = .ok (.ifCond .eq 12, 3) := by decide +kernel
theorem dX3_letterBehind_8 : decode cX3_letterBehind 8 = .ok (.aload_n 0, 1) := by decide +kernel
theorem dX3_letterBehind_9 : decode cX3_letterBehind 9 = .ok (.getfield 9, 3) := by decide +kernel
theorem dX3_letterBehind_12 : decode cX3_letterBehind 12 = .ok (.iload_n 1, 1) := by decide +kernel
theorem dX3_letterBehind_13 : decode cX3_letterBehind 13 = .ok (.iaload, 1) := by decide +kernel
theorem dX3_letterBehind_14 : decode cX3_letterBehind 14 = .ok (.goto 4, 3) := by decide +kernel
theorem dX3_letterBehind_17 : decode cX3_letterBehind 17 = .ok (.iconst (-1), 1) := by decide +kernel
theorem dX3_letterBehind_18 : decode cX3_letterBehind 18 = .ok (.ireturn, 1) := by decide +kernel
set_option maxRecDepth 20000 in
theorem ggX3_marksBehind_X3_hasLetterBehind : GoodIn wsX3_marksBehind wsX3_hasLetterBehind := goodIn_r _ [6, 7, 8, 9, 10] (by decide +kernel) (by decide +kernel)
set_option maxRecDepth 20000 in
theorem gX3_marksBehind_X3_hasLetterBehind : GoodIn wsX3_marksBehind (wsV RX3 22 RX3 yX3_hasLetterBehind wsX3_hasLetterBehind) := goodIn_app (goodIn_of _ (by decide +kernel)) ggX3_marksBehind_X3_hasLetterBehind
theorem dX3_marksBehind_0 : decode cX3_marksBehind 0 = .ok (.aload_n 0, 1) := by decide +kernel
theorem dX3_marksBehind_1 : decode cX3_marksBehind 1 = .ok (.iload_n 1, 1) := by decide +kernel
theorem dX3_marksBehind_2 : decode cX3_marksBehind 2 = .ok (.invokevirtual 22, 3) := by decide +kernel
theorem dX3_marksBehind_5 : decode cX3_marksBehind 5 = .ok (.ifCond .eq 12, 3) := by decide +kernel
theorem dX3_marksBehind_8 : decode cX3_marksBehind 8 = .ok (.aload_n 0, 1) := by decide +kernel
theorem dX3_marksBehind_9 : decode cX3_marksBehind 9 = .ok (.getfield 15, 3) := by decide +kernel
theorem dX3_marksBehind_12 : decode cX3_marksBehind 12 = .ok (.iload_n 1, 1) := by decide +kernel
theorem dX3_marksBehind_13 : decode cX3_marksBehind 13 = .ok (.iaload, 1) := by decide +kernel
theorem dX3_marksBehind_14 : decode cX3_marksBehind 14 = .ok (.goto 4, 3) := by decide +kernel
theorem dX3_marksBehind_17 : decode cX3_marksBehind 17 = .ok (.iconst 0, 1) := by decide +kernel
theorem dX3_marksBehind_18 : decode cX3_marksBehind 18 = .ok (.ireturn, 1) := by decide +kernel
set_option maxRecDepth 20000 in
theorem ggX3_putIn_X3_moveTail : GoodIn wsX3_putIn wsX3_moveTail := goodIn_r _ [7, 8, 1, 9, 10, 11, 12, 2, 26, 27, 28] (by decide +kernel) (by decide +kernel)
set_option maxRecDepth 20000 in
theorem gX3_putIn_X3_moveTail : GoodIn wsX3_putIn (wsV RX3 26 RX3 yX3_moveTail wsX3_moveTail) := goodIn_app (goodIn_of _ (by decide +kernel)) ggX3_putIn_X3_moveTail
set_option maxRecDepth 20000 in
theorem ggX3_putIn_J7_fill_fda19 : GoodIn wsX3_putIn wsJ7_fill_fda19 := goodIn_r _ [16, 17, 18, 15, 19, 20, 21, 22, 23, 24, 25, 29, 30, 31, 32, 33, 34, 35, 36, 37, 38] (by decide +kernel) (by decide +kernel)
set_option maxRecDepth 20000 in
theorem gX3_putIn_J7_fill_fda19 : GoodIn wsX3_putIn (va_wsS RX3 30 yJ7_fill_fda19 wsJ7_fill_fda19) := goodIn_app (goodIn_of _ (by decide +kernel)) ggX3_putIn_J7_fill_fda19
theorem dX3_putIn_0 : decode cX3_putIn 0 = .ok (.aload_n 0, 1) := by decide +kernel
theorem dX3_putIn_1 : decode cX3_putIn 1 = .ok (.iload_n 1, 1) := by decide +kernel
theorem dX3_putIn_2 : decode cX3_putIn 2 = .ok (.iload_n 1, 1) := by decide +kernel
theorem dX3_putIn_3 : decode cX3_putIn 3 = .ok (.iload_n 3, 1) := by decide +kernel
theorem dX3_putIn_4 : decode cX3_putIn 4 = .ok (.iadd, 1) := by decide +kernel
theorem dX3_putIn_5 : decode cX3_putIn 5 = .ok (.invokevirtual 26, 3) := by decide +kernel
theorem dX3_putIn_8 : decode cX3_putIn 8 = .ok (.aload_n 0, 1) := by decide +kernel
theorem dX3_putIn_9 : decode cX3_putIn 9 = .ok (.getfield 9, 3) := by decide +kernel
theorem dX3_putIn_12 : decode cX3_putIn 12 = .ok (.iload_n 1, 1) := by decide +kernel
theorem dX3_putIn_13 : decode cX3_putIn 13 = .ok (.iload_n 1, 1) := by decide +kernel
theorem dX3_putIn_14 : decode cX3_putIn 14 = .ok (.iload_n 3, 1) := by decide +kernel
theorem dX3_putIn_15 : decode cX3_putIn 15 = .ok (.iadd, 1) := by decide +kernel
theorem dX3_putIn_16 : decode cX3_putIn 16 = .ok (.iload_n 2, 1) := by decide +kernel
theorem dX3_putIn_17 : decode cX3_putIn 17 = .ok (.invokestatic 30, 3) := by decide +kernel
theorem dX3_putIn_20 : decode cX3_putIn 20 = .ok (.aload_n 0, 1) := by decide +kernel
theorem dX3_putIn_21 : decode cX3_putIn 21 = .ok (.getfield 15, 3) := by decide +kernel
theorem dX3_putIn_24 : decode cX3_putIn 24 = .ok (.iload_n 1, 1) := by decide +kernel
theorem dX3_putIn_25 : decode cX3_putIn 25 = .ok (.iload_n 1, 1) := by decide +kernel
theorem dX3_putIn_26 : decode cX3_putIn 26 = .ok (.iload_n 3, 1) := by decide +kernel
theorem dX3_putIn_27 : decode cX3_putIn 27 = .ok (.iadd, 1) := by decide +kernel
theorem dX3_putIn_28 : decode cX3_putIn 28 = .ok (.iconst 0, 1) := by decide +kernel
theorem dX3_putIn_29 : decode cX3_putIn 29 = .ok (.invokestatic 30, 3) := by decide +kernel
theorem dX3_putIn_32 : decode cX3_putIn 32 = .ok (.return_, 1) := by decide +kernel
set_option maxRecDepth 20000 in
theorem ggX3_takeOut_X3_moveTail : GoodIn wsX3_takeOut wsX3_moveTail := goodIn_r _ [5, 6, 7, 8, 9, 10, 11, 12, 13, 14, 15] (by decide +kernel) (by decide +kernel)
set_option maxRecDepth 20000 in
theorem gX3_takeOut_X3_moveTail : GoodIn wsX3_takeOut (wsV RX3 26 RX3 yX3_moveTail wsX3_moveTail) := goodIn_app (goodIn_of _ (by decide +kernel)) ggX3_takeOut_X3_moveTail
theorem dX3_takeOut_0 : decode cX3_takeOut 0 = .ok (.aload_n 0, 1) := by decide +kernel
theorem dX3_takeOut_1 : decode cX3_takeOut 1 = .ok (.iload_n 1, 1) := by decide +kernel
theorem dX3_takeOut_2 : decode cX3_takeOut 2 = .ok (.iload_n 2, 1) := by decide +kernel
theorem dX3_takeOut_3 : decode cX3_takeOut 3 = .ok (.iadd, 1) := by decide +kernel
theorem dX3_takeOut_4 : decode cX3_takeOut 4 = .ok (.iload_n 1, 1) := by decide +kernel
theorem dX3_takeOut_5 : decode cX3_takeOut 5 = .ok (.invokevirtual 26, 3) := by decide +kernel
theorem dX3_takeOut_8 : decode cX3_takeOut 8 = .ok (.return_, 1) := by decide +kernel
theorem dX3_moveTail_0 : decode cX3_moveTail 0 = .ok (.aload_n 0, 1) := by decide +kernel
theorem dX3_moveTail_1 : decode cX3_moveTail 1 = .ok (.getfield 18, 3) := by decide +kernel
theorem dX3_moveTail_4 : decode cX3_moveTail 4 = .ok (.iload_n 1, 1) := by decide +kernel
theorem dX3_moveTail_5 : decode cX3_moveTail 5 = .ok (.isub, 1) := by decide +kernel
theorem dX3_moveTail_6 : decode cX3_moveTail 6 = .ok (.istore_n 3, 1) := by decide +kernel
theorem dX3_moveTail_7 : decode cX3_moveTail 7 = .ok (.aload_n 0, 1) := by decide +kernel
theorem dX3_moveTail_8 : decode cX3_moveTail 8 = .ok (.getfield 9, 3) := by decide +kernel
theorem dX3_moveTail_11 : decode cX3_moveTail 11 = .ok (.iload_n 1, 1) := by decide +kernel
theorem dX3_moveTail_12 : decode cX3_moveTail 12 = .ok (.aload_n 0, 1) := by decide +kernel
theorem dX3_moveTail_13 : decode cX3_moveTail 13 = .ok (.getfield 9, 3) := by decide +kernel
theorem dX3_moveTail_16 : decode cX3_moveTail 16 = .ok (.iload_n 2, 1) := by decide +kernel
theorem dX3_moveTail_17 : decode cX3_moveTail 17 = .ok (.iload_n 3, 1) := by decide +kernel
theorem dX3_moveTail_18 : decode cX3_moveTail 18 = .ok (.invokestatic 36, 3) := by decide +kernel
theorem dX3_moveTail_21 : decode cX3_moveTail 21 = .ok (.aload_n 0, 1) := by decide +kernel
theorem dX3_moveTail_22 : decode cX3_moveTail 22 = .ok (.getfield 15, 3) := by decide +kernel
theorem dX3_moveTail_25 : decode cX3_moveTail 25 = .ok (.iload_n 1, 1) := by decide +kernel
theorem dX3_moveTail_26 : decode cX3_moveTail 26 = .ok (.aload_n 0, 1) := by decide +kernel
theorem dX3_moveTail_27 : decode cX3_moveTail 27 = .ok (.getfield 15, 3) := by decide +kernel
theorem dX3_moveTail_30 : decode cX3_moveTail 30 = .ok (.iload_n 2, 1) := by decide +kernel
theorem dX3_moveTail_31 : decode cX3_moveTail 31 = .ok (.iload_n 3, 1) := by decide +kernel
theorem dX3_moveTail_32 : decode cX3_moveTail 32 = .ok (.invokestatic 36, 3) := by decide +kernel
theorem dX3_moveTail_35 : decode cX3_moveTail 35 = .ok (.aload_n 0, 1) := by decide +kernel
theorem dX3_moveTail_36 : decode cX3_moveTail 36 = .ok (.iload_n 2, 1) := by decide +kernel
theorem dX3_moveTail_37 : decode cX3_moveTail 37 = .ok (.iload_n 3, 1) := by decide +kernel
theorem dX3_moveTail_38 : decode cX3_moveTail 38 = .ok (.iadd, 1) := by decide +kernel
theorem dX3_moveTail_39 : decode cX3_moveTail 39 = .ok (.putfield 18, 3) := by decide +kernel
theorem dX3_moveTail_42 : decode cX3_moveTail 42 = .ok (.return_, 1) := by decide +kernel
theorem dX3_mark_0 : decode cX3_mark 0 = .ok (.iload_n 1, 1) := by decide +kernel
theorem dX3_mark_1 : decode cX3_mark 1 = .ok (.istore 4, 2) := by decide +kernel
theorem dX3_mark_3 : decode cX3_mark 3 = .ok (.iload 4, 2) := by decide +kernel
theorem dX3_mark_5 : decode cX3_mark 5 = .ok (.iload_n 2, 1) := by decide +kernel
theorem dX3_mark_6 : decode cX3_mark 6 = .ok (.if_icmp .ge 20, 3) := by decide +kernel
theorem dX3_mark_9 : decode cX3_mark 9 = .ok (.aload_n 0, 1) := by decide +kernel
theorem dX3_mark_10 : decode cX3_mark 10 = .ok (.getfield 15, 3) := by decide +kernel
theorem dX3_mark_13 : decode cX3_mark 13 = .ok (.iload 4, 2) := by decide +kernel
theorem dX3_mark_15 : decode cX3_mark 15 = .ok (.dup2, 1) := by decide +kernel
theorem dX3_mark_16 : decode cX3_mark 16 = .ok (.iaload, 1) := by decide +kernel
theorem dX3_mark_17 : decode cX3_mark 17 = .ok (.iload_n 3, 1) := by decide +kernel
theorem dX3_mark_18 : decode cX3_mark 18 = .ok (.ior, 1) := by decide +kernel
theorem dX3_mark_19 : decode cX3_mark 19 = .ok (.iastore, 1) := by decide +kernel
theorem dX3_mark_20 : decode cX3_mark 20 = .ok (.iinc 4 1, 3) := by decide +kernel
theorem dX3_mark_23 : decode cX3_mark 23 = .ok (.goto (-20), 3) := by decide +kernel
theorem dX3_mark_26 : decode cX3_mark 26 = .ok (.return_, 1) := by decide +kernel
end
section
set_option maxRecDepth 20000 in
theorem ggX4_init_X3_init : GoodIn wsX4_init wsX3_init := goodIn_r _ [29, 30, 2, 3, 20, 31, 32, 33, 52, 53, 54] (by decide +kernel) (by decide +kernel)
set_option maxRecDepth 20000 in
theorem gX4_init_X3_init_n9 : GoodIn wsX4_init (wsX3_init) := ggX4_init_X3_init
set_option maxRecDepth 20000 in
theorem ggX4_init_X2_init : GoodIn wsX4_init wsX2_init := goodIn_r _ [35, 36, 2, 3, 20, 37, 38, 39, 40, 66, 67, 68, 69] (by decide +kernel) (by decide +kernel)
set_option maxRecDepth 20000 in
theorem gX4_init_X2_init_n18 : GoodIn wsX4_init (wsX2_init) := ggX4_init_X2_init
set_option maxRecDepth 20000 in
theorem ggX4_init_X1_init : GoodIn wsX4_init wsX1_init := goodIn_r _ [42, 43, 2, 3, 20, 44, 45, 46, 47, 70, 71, 72, 73] (by decide +kernel) (by decide +kernel)
set_option maxRecDepth 20000 in
theorem gX4_init_X1_init_n25 : GoodIn wsX4_init (wsX1_init) := ggX4_init_X1_init
set_option maxRecDepth 20000 in
theorem ggX4_init_X0_init : GoodIn wsX4_init wsX0_init := goodIn_r _ [49, 50, 2, 3, 20, 51, 74] (by decide +kernel) (by decide +kernel)
set_option maxRecDepth 20000 in
theorem gX4_init_X0_init_n32 : GoodIn wsX4_init (wsX0_init) := ggX4_init_X0_init
theorem dX4_init_0 : decode cX4_init 0 = .ok (.aload_n 0, 1) := by decide +kernel
theorem dX4_init_1 : decode cX4_init 1 = .ok (.invokespecial 1, 3) := by decide +kernel
theorem dX4_init_4 : decode cX4_init 4 = .ok (.aload_n 0, 1) := by decide +kernel
theorem dX4_init_5 : decode cX4_init 5 = .ok (.new 7, 3) := by decide +kernel
theorem dX4_init_8 : decode cX4_init 8 = .ok (.dup, 1) := by decide +kernel
theorem dX4_init_9 : decode cX4_init 9 = .ok (.invokespecial 9, 3) := by decide +kernel
theorem dX4_init_12 : decode cX4_init 12 = .ok (.putfield 10, 3) := by decide +kernel
theorem dX4_init_15 : decode cX4_init 15 = .ok (.aload_n 0, 1) := by decide +kernel
theorem dX4_init_16 : decode cX4_init 16 = .ok (.new 16, 3) := by decide +kernel
theorem dX4_init_19 : decode cX4_init 19 = .ok (.dup, 1) := by decide +kernel
theorem dX4_init_20 : decode cX4_init 20 = .ok (.invokespecial 18, 3) := by decide +kernel
theorem dX4_init_23 : decode cX4_init 23 = .ok (.putfield 19, 3) := by decide +kernel
theorem dX4_init_26 : decode cX4_init 26 = .ok (.aload_n 0, 1) := by decide +kernel
theorem dX4_init_27 : decode cX4_init 27 = .ok (.new 23, 3) := by decide +kernel
theorem dX4_init_30 : decode cX4_init 30 = .ok (.dup, 1) := by decide +kernel
theorem dX4_init_31 : decode cX4_init 31 = .ok (.invokespecial 25, 3) := by decide +kernel
theorem dX4_init_34 : decode cX4_init 34 = .ok (.putfield 26, 3) := by decide +kernel
theorem dX4_init_37 : decode cX4_init 37 = .ok (.aload_n 0, 1) := by decide +kernel
theorem dX4_init_38 : decode cX4_init 38 = .ok (.new 30, 3) := by decide +kernel
theorem dX4_init_41 : decode cX4_init 41 = .ok (.dup, 1) := by decide +kernel
theorem dX4_init_42 : decode cX4_init 42 = .ok (.invokespecial 32, 3) := by decide +kernel
theorem dX4_init_45 : decode cX4_init 45 = .ok (.putfield 33, 3) := by decide +kernel
theorem dX4_init_48 : decode cX4_init 48 = .ok (.aload_n 0, 1) := by decide +kernel
theorem dX4_init_49 : decode cX4_init 49 = .ok (.bipush 12, 2) := by decide +kernel
theorem dX4_init_51 : decode cX4_init 51 = .ok (.newarray .int, 2) := by decide +kernel
theorem dX4_init_53 : decode cX4_init 53 = .ok (.putfield 37, 3) := by decide +kernel
theorem dX4_init_56 : decode cX4_init 56 = .ok (.aload_n 0, 1) := by decide +kernel
theorem dX4_init_57 : decode cX4_init 57 = .ok (.iconst 0, 1) := by decide +kernel
theorem dX4_init_58 : decode cX4_init 58 = .ok (.putfield 41, 3) := by decide +kernel
theorem dX4_init_61 : decode cX4_init 61 = .ok (.aload_n 0, 1) := by decide +kernel
theorem dX4_init_62 : decode cX4_init 62 = .ok (.iconst 0, 1) := by decide +kernel
theorem dX4_init_63 : decode cX4_init 63 = .ok (.putfield 45, 3) := by decide +kernel
theorem dX4_init_66 : decode cX4_init 66 = .ok (.aload_n 0, 1) := by decide +kernel
theorem dX4_init_67 : decode cX4_init 67 = .ok (.new 16, 3) := by decide +kernel
theorem dX4_init_70 : decode cX4_init 70 = .ok (.dup, 1) := by decide +kernel
theorem dX4_init_71 : decode cX4_init 71 = .ok (.invokespecial 18, 3) := by decide +kernel
theorem dX4_init_74 : decode cX4_init 74 = .ok (.putfield 48, 3) := by decide +kernel
theorem dX4_init_77 : decode cX4_init 77 = .ok (.aload_n 0, 1) := by decide +kernel
theorem dX4_init_78 : decode cX4_init 78 = .ok (.bipush 10, 2) := by decide +kernel
theorem dX4_init_80 : decode cX4_init 80 = .ok (.newarray .int, 2) := by decide +kernel
theorem dX4_init_82 : decode cX4_init 82 = .ok (.putfield 51, 3) := by decide +kernel
theorem dX4_init_85 : decode cX4_init 85 = .ok (.aload_n 0, 1) := by decide +kernel
theorem dX4_init_86 : decode cX4_init 86 = .ok (.bipush 10, 2) := by decide +kernel
theorem dX4_init_88 : decode cX4_init 88 = .ok (.newarray .int, 2) := by decide +kernel
theorem dX4_init_90 : decode cX4_init 90 = .ok (.putfield 54, 3) := by decide +kernel
theorem dX4_init_93 : decode cX4_init 93 = .ok (.aload_n 0, 1) := by decide +kernel
theorem dX4_init_94 : decode cX4_init 94 = .ok (.bipush 10, 2) := by decide +kernel
theorem dX4_init_96 : decode cX4_init 96 = .ok (.newarray .int, 2) := by decide +kernel
theorem dX4_init_98 : decode cX4_init 98 = .ok (.putfield 57, 3) := by decide +kernel
theorem dX4_init_101 : decode cX4_init 101 = .ok (.return_, 1) := by decide +kernel
set_option maxRecDepth 20000 in
theorem ggX4_insert_X4_checkPlace : GoodIn wsX4_insert wsX4_checkPlace := goodIn_ca (goodIn_r _ [6, 7, 8, 1, 96, 97, 98, 99, 100, 101, 102, 103, 104, 105, 106, 107, 108, 109] (by decide +kernel) (by decide +kernel)) (goodIn_sub (fun _ h => List.mem_cons_of_mem _ (List.mem_append_left _ (List.mem_append_left _ (List.mem_append_left _ (List.mem_append_right _ h))))) (by decide +kernel))
set_option maxRecDepth 20000 in
theorem gX4_insert_X4_checkPlace : GoodIn wsX4_insert (wsV RX4 60 RX4 yX4_checkPlace wsX4_checkPlace) := goodIn_app (goodIn_of _ (by decide +kernel)) ggX4_insert_X4_checkPlace
set_option maxRecDepth 20000 in
theorem ggX4_insert_X4_checkLetter : GoodIn wsX4_insert wsX4_checkLetter := goodIn_ca (goodIn_r _ [12, 13, 14, 15, 5, 16, 17, 18] (by decide +kernel) (by decide +kernel)) (goodIn_sub (fun _ h => List.mem_cons_of_mem _ (List.mem_append_left _ (List.mem_append_left _ (List.mem_append_right _ h)))) (by decide +kernel))
set_option maxRecDepth 20000 in
theorem gX4_insert_X4_checkLetter : GoodIn wsX4_insert (wsV RX4 64 RX4 yX4_checkLetter wsX4_checkLetter) := goodIn_app (goodIn_of _ (by decide +kernel)) ggX4_insert_X4_checkLetter
set_option maxRecDepth 20000 in
theorem ggX4_insert_X4_checkAmong : GoodIn wsX4_insert wsX4_checkAmong := goodIn_ca (goodIn_r _ [16, 17, 18] (by decide +kernel) (by decide +kernel)) (goodIn_sub (fun _ h => List.mem_cons_of_mem _ (List.mem_append_left _ (List.mem_append_left _ (List.mem_append_right _ h)))) (by decide +kernel))
set_option maxRecDepth 20000 in
theorem gX4_insert_X4_checkAmong : GoodIn wsX4_insert (wsV RX4 67 RX4 yX4_checkAmong wsX4_checkAmong) := goodIn_app (goodIn_of _ (by decide +kernel)) ggX4_insert_X4_checkAmong
set_option maxRecDepth 20000 in
theorem ggX4_insert_X4_checkRoom : GoodIn wsX4_insert wsX4_checkRoom := goodIn_ca (goodIn_r _ [22, 23, 24, 1, 25, 96, 97, 98, 99, 100, 101, 102, 103, 104, 105, 106, 107, 108, 109] (by decide +kernel) (by decide +kernel)) (goodIn_sub (fun _ h => List.mem_cons_of_mem _ (List.mem_append_left _ (List.mem_append_right _ h))) (by decide +kernel))
set_option maxRecDepth 20000 in
theorem gX4_insert_X4_checkRoom : GoodIn wsX4_insert (wsV RX4 71 RX4 yX4_checkRoom wsX4_checkRoom) := goodIn_app (goodIn_of _ (by decide +kernel)) ggX4_insert_X4_checkRoom
set_option maxRecDepth 20000 in
theorem ggX4_insert_X4_putLettersIn : GoodIn wsX4_insert wsX4_putLettersIn := goodIn_ca (goodIn_r _ [29, 30, 31, 1, 32, 33, 34, 5, 35, 36, 25, 37, 38, 39, 40, 41, 42, 43, 44, 45, 46, 47, 48, 49, 50, 51, 52, 53, 54, 55, 56, 57, 58, 59, 60, 61, 62, 63, 64, 65, 66, 67, 68, 69, 70, 71, 72, 73, 74, 75, 76, 77, 78, 79, 80, 81, 82, 83, 84, 85, 86, 87, 88, 89, 90, 91, 92, 93, 94, 95, 96, 97, 98, 99, 100, 101, 102, 103, 104, 105, 106, 110, 111, 112, 113, 114, 107, 108, 109, 115, 116, 117, 118, 119, 120, 121, 122, 123, 124] (by decide +kernel) (by decide +kernel)) (goodIn_sub (fun _ h => List.mem_cons_of_mem _ (List.mem_append_right _ h)) (by decide +kernel))
set_option maxRecDepth 20000 in
theorem gX4_insert_X4_putLettersIn : GoodIn wsX4_insert (wsV RX4 75 RX4 yX4_putLettersIn wsX4_putLettersIn) := goodIn_app (goodIn_of _ (by decide +kernel)) ggX4_insert_X4_putLettersIn
theorem dX4_insert_0 : decode cX4_insert 0 = .ok (.aload_n 0, 1) := by decide +kernel
theorem dX4_insert_1 : decode cX4_insert 1 = .ok (.iload_n 1, 1) := by decide +kernel
theorem dX4_insert_2 : decode cX4_insert 2 = .ok (.invokevirtual 60, 3) := by decide +kernel
theorem dX4_insert_5 : decode cX4_insert 5 = .ok (.aload_n 0, 1) := by decide +kernel
theorem dX4_insert_6 : decode cX4_insert 6 = .ok (.iload_n 2, 1) := by decide +kernel
theorem dX4_insert_7 : decode cX4_insert 7 = .ok (.invokevirtual 64, 3) := by decide +kernel
theorem dX4_insert_10 : decode cX4_insert 10 = .ok (.aload_n 0, 1) := by decide +kernel
theorem dX4_insert_11 : decode cX4_insert 11 = .ok (.iload_n 3, 1) := by decide +kernel
theorem dX4_insert_12 : decode cX4_insert 12 = .ok (.iconst 1, 1) := by decide +kernel
theorem dX4_insert_13 : decode cX4_insert 13 = .ok (.bipush 10, 2) := by decide +kernel
theorem dX4_insert_15 : decode cX4_insert 15 = .ok (.invokevirtual 67, 3) := by decide +kernel
theorem dX4_insert_18 : decode cX4_insert 18 = .ok (.aload_n 0, 1) := by decide +kernel
theorem dX4_insert_19 : decode cX4_insert 19 = .ok (.iload_n 3, 1) := by decide +kernel
theorem dX4_insert_20 : decode cX4_insert 20 = .ok (.iconst 1, 1) := by decide +kernel
theorem dX4_insert_21 : decode cX4_insert 21 = .ok (.invokevirtual 71, 3) := by decide +kernel
theorem dX4_insert_24 : decode cX4_insert 24 = .ok (.aload_n 0, 1) := by decide +kernel
theorem dX4_insert_25 : decode cX4_insert 25 = .ok (.iload_n 1, 1) := by decide +kernel
theorem dX4_insert_26 : decode cX4_insert 26 = .ok (.iload_n 2, 1) := by decide +kernel
theorem dX4_insert_27 : decode cX4_insert 27 = .ok (.iload_n 3, 1) := by decide +kernel
theorem dX4_insert_28 : decode cX4_insert 28 = .ok (.invokevirtual 75, 3) := by decide +kernel
theorem dX4_insert_31 : decode cX4_insert 31 = .ok (.aload_n 0, 1) := by decide +kernel
theorem dX4_insert_32 : decode cX4_insert 32 = .ok (.getfield 10, 3) := by decide +kernel
theorem dX4_insert_35 : decode cX4_insert 35 = .ok (.getfield 78, 3) := by decide +kernel
theorem dX4_insert_38 : decode cX4_insert 38 = .ok (.ireturn, 1) := by decide +kernel
set_option maxRecDepth 20000 in
theorem ggX4_remove_X4_checkPlace : GoodIn wsX4_remove wsX4_checkPlace := goodIn_ca (goodIn_r _ [6, 7, 8, 1, 89, 90, 91, 92, 93, 94, 95, 96, 97, 98, 99, 100, 101, 102] (by decide +kernel) (by decide +kernel)) (goodIn_sub (fun _ h => List.mem_cons_of_mem _ (List.mem_append_left _ (List.mem_append_left _ (List.mem_append_left _ (List.mem_append_right _ h))))) (by decide +kernel))
set_option maxRecDepth 20000 in
theorem gX4_remove_X4_checkPlace : GoodIn wsX4_remove (wsV RX4 60 RX4 yX4_checkPlace wsX4_checkPlace) := goodIn_app (goodIn_of _ (by decide +kernel)) ggX4_remove_X4_checkPlace
set_option maxRecDepth 20000 in
theorem ggX4_remove_X4_checkAmong : GoodIn wsX4_remove wsX4_checkAmong := goodIn_ca (goodIn_r _ [12, 13, 14] (by decide +kernel) (by decide +kernel)) (goodIn_sub (fun _ h => List.mem_cons_of_mem _ (List.mem_append_left _ (List.mem_append_left _ (List.mem_append_right _ h)))) (by decide +kernel))
set_option maxRecDepth 20000 in
theorem gX4_remove_X4_checkAmong : GoodIn wsX4_remove (wsV RX4 67 RX4 yX4_checkAmong wsX4_checkAmong) := goodIn_app (goodIn_of _ (by decide +kernel)) ggX4_remove_X4_checkAmong
set_option maxRecDepth 20000 in
theorem ggX4_remove_X4_checkRoom : GoodIn wsX4_remove wsX4_checkRoom := goodIn_ca (goodIn_r _ [18, 19, 20, 1, 21, 89, 90, 91, 92, 93, 94, 95, 96, 97, 98, 99, 100, 101, 102] (by decide +kernel) (by decide +kernel)) (goodIn_sub (fun _ h => List.mem_cons_of_mem _ (List.mem_append_left _ (List.mem_append_right _ h))) (by decide +kernel))
set_option maxRecDepth 20000 in
theorem gX4_remove_X4_checkRoom : GoodIn wsX4_remove (wsV RX4 71 RX4 yX4_checkRoom wsX4_checkRoom) := goodIn_app (goodIn_of _ (by decide +kernel)) ggX4_remove_X4_checkRoom
set_option maxRecDepth 20000 in
theorem ggX4_remove_X4_takeLettersOut : GoodIn wsX4_remove wsX4_takeLettersOut := goodIn_ca (goodIn_r _ [25, 26, 27, 1, 28, 29, 30, 5, 31, 32, 21, 33, 34, 35, 36, 37, 38, 39, 40, 41, 42, 43, 44, 45, 46, 47, 48, 49, 50, 51, 52, 53, 54, 55, 56, 57, 58, 59, 60, 61, 62, 63, 64, 65, 66, 67, 68, 69, 70, 71, 72, 73, 74, 75, 76, 77, 78, 79, 80, 81, 82, 83, 84, 85, 86, 87, 88, 89, 90, 91, 92, 93, 94, 95, 96, 97, 98, 99, 103, 104, 105, 106, 107, 100, 101, 102] (by decide +kernel) (by decide +kernel)) (goodIn_sub (fun _ h => List.mem_cons_of_mem _ (List.mem_append_right _ h)) (by decide +kernel))
set_option maxRecDepth 20000 in
theorem gX4_remove_X4_takeLettersOut : GoodIn wsX4_remove (wsV RX4 81 RX4 yX4_takeLettersOut wsX4_takeLettersOut) := goodIn_app (goodIn_of _ (by decide +kernel)) ggX4_remove_X4_takeLettersOut
theorem dX4_remove_0 : decode cX4_remove 0 = .ok (.aload_n 0, 1) := by decide +kernel
theorem dX4_remove_1 : decode cX4_remove 1 = .ok (.iload_n 1, 1) := by decide +kernel
theorem dX4_remove_2 : decode cX4_remove 2 = .ok (.invokevirtual 60, 3) := by decide +kernel
theorem dX4_remove_5 : decode cX4_remove 5 = .ok (.aload_n 0, 1) := by decide +kernel
theorem dX4_remove_6 : decode cX4_remove 6 = .ok (.iload_n 2, 1) := by decide +kernel
theorem dX4_remove_7 : decode cX4_remove 7 = .ok (.iconst 1, 1) := by decide +kernel
theorem dX4_remove_8 : decode cX4_remove 8 = .ok (.aload_n 0, 1) := by decide +kernel
theorem dX4_remove_9 : decode cX4_remove 9 = .ok (.getfield 10, 3) := by decide +kernel
theorem dX4_remove_12 : decode cX4_remove 12 = .ok (.getfield 78, 3) := by decide +kernel
theorem dX4_remove_15 : decode cX4_remove 15 = .ok (.iload_n 1, 1) := by decide +kernel
theorem dX4_remove_16 : decode cX4_remove 16 = .ok (.isub, 1) := by decide +kernel
theorem dX4_remove_17 : decode cX4_remove 17 = .ok (.invokevirtual 67, 3) := by decide +kernel
theorem dX4_remove_20 : decode cX4_remove 20 = .ok (.aload_n 0, 1) := by decide +kernel
theorem dX4_remove_21 : decode cX4_remove 21 = .ok (.iload_n 2, 1) := by decide +kernel
theorem dX4_remove_22 : decode cX4_remove 22 = .ok (.ineg, 1) := by decide +kernel
theorem dX4_remove_23 : decode cX4_remove 23 = .ok (.iconst 1, 1) := by decide +kernel
theorem dX4_remove_24 : decode cX4_remove 24 = .ok (.invokevirtual 71, 3) := by decide +kernel
theorem dX4_remove_27 : decode cX4_remove 27 = .ok (.aload_n 0, 1) := by decide +kernel
theorem dX4_remove_28 : decode cX4_remove 28 = .ok (.iload_n 1, 1) := by decide +kernel
theorem dX4_remove_29 : decode cX4_remove 29 = .ok (.iload_n 2, 1) := by decide +kernel
theorem dX4_remove_30 : decode cX4_remove 30 = .ok (.invokevirtual 81, 3) := by decide +kernel
theorem dX4_remove_33 : decode cX4_remove 33 = .ok (.ireturn, 1) := by decide +kernel
theorem dX4_length_0 : decode cX4_length 0 = .ok (.aload_n 0, 1) := by decide +kernel
theorem dX4_length_1 : decode cX4_length 1 = .ok (.getfield 10, 3) := by decide +kernel
theorem dX4_length_4 : decode cX4_length 4 = .ok (.getfield 78, 3) := by decide +kernel
theorem dX4_length_7 : decode cX4_length 7 = .ok (.ireturn, 1) := by decide +kernel
set_option maxRecDepth 20000 in
theorem ggX4_letterAt_X4_checkPlace : GoodIn wsX4_letterAt wsX4_checkPlace := goodIn_ca (goodIn_r _ [6, 7, 8, 1, 19, 20, 21, 22, 23, 24, 25, 26, 27, 28, 29, 30, 31, 32] (by decide +kernel) (by decide +kernel)) (goodIn_sub (fun _ h => List.mem_cons_of_mem _ (List.mem_append_left _ (List.mem_append_right _ h))) (by decide +kernel))
set_option maxRecDepth 20000 in
theorem gX4_letterAt_X4_checkPlace : GoodIn wsX4_letterAt (wsV RX4 60 RX4 yX4_checkPlace wsX4_checkPlace) := goodIn_app (goodIn_of _ (by decide +kernel)) ggX4_letterAt_X4_checkPlace
set_option maxRecDepth 20000 in
theorem ggX4_letterAt_X3_letterBehind : GoodIn wsX4_letterAt wsX3_letterBehind := goodIn_ca (goodIn_r _ [12, 13, 14, 15, 16, 10, 17, 18, 30, 31, 32] (by decide +kernel) (by decide +kernel)) (goodIn_sub (fun _ h => List.mem_cons_of_mem _ (List.mem_append_right _ h)) (by decide +kernel))
set_option maxRecDepth 20000 in
theorem gX4_letterAt_X3_letterBehind_n85 : GoodIn wsX4_letterAt (wsX3_letterBehind) := ggX4_letterAt_X3_letterBehind
theorem dX4_letterAt_0 : decode cX4_letterAt 0 = .ok (.aload_n 0, 1) := by decide +kernel
theorem dX4_letterAt_1 : decode cX4_letterAt 1 = .ok (.iload_n 1, 1) := by decide +kernel
theorem dX4_letterAt_2 : decode cX4_letterAt 2 = .ok (.invokevirtual 60, 3) := by decide +kernel
theorem dX4_letterAt_5 : decode cX4_letterAt 5 = .ok (.aload_n 0, 1) := by decide +kernel
theorem dX4_letterAt_6 : decode cX4_letterAt 6 = .ok (.getfield 10, 3) := by decide +kernel
theorem dX4_letterAt_9 : decode cX4_letterAt 9 = .ok (.iload_n 1, 1) := by decide +kernel
theorem dX4_letterAt_10 : decode cX4_letterAt 10 = .ok (.invokevirtual 85, 3) := by decide +kernel
theorem dX4_letterAt_13 : decode cX4_letterAt 13 = .ok (.ireturn, 1) := by decide +kernel
theorem dX4_version_0 : decode cX4_version 0 = .ok (.aload_n 0, 1) := by decide +kernel
theorem dX4_version_1 : decode cX4_version 1 = .ok (.getfield 45, 3) := by decide +kernel
theorem dX4_version_4 : decode cX4_version 4 = .ok (.ireturn, 1) := by decide +kernel
set_option maxRecDepth 20000 in
theorem ggX4_comment_X4_checkRange : GoodIn wsX4_comment wsX4_checkRange := goodIn_ca (goodIn_ca (goodIn_r _ [11, 12, 13, 14, 15, 16, 10, 17, 18, 19, 5, 61, 62, 63, 64, 65, 66, 67, 68, 69, 70, 71, 76, 77, 78] (by decide +kernel) (by decide +kernel)) (goodIn_sub (fun _ h => List.mem_cons_of_mem _ (List.mem_append_left _ (List.mem_append_left _ (List.mem_append_right _ h)))) (by decide +kernel))) (goodIn_sub (fun _ h => List.mem_cons_of_mem _ (List.mem_append_left _ (List.mem_append_right _ h))) (by decide +kernel))
set_option maxRecDepth 20000 in
theorem gX4_comment_X4_checkRange : GoodIn wsX4_comment (wsV RX4 89 RX4 yX4_checkRange wsX4_checkRange) := goodIn_app (goodIn_of _ (by decide +kernel)) ggX4_comment_X4_checkRange
set_option maxRecDepth 20000 in
theorem ggX4_comment_X4_checkAmong : GoodIn wsX4_comment wsX4_checkAmong := goodIn_ca (goodIn_r _ [23, 12, 13] (by decide +kernel) (by decide +kernel)) (goodIn_sub (fun _ h => List.mem_cons_of_mem _ (List.mem_append_left _ (List.mem_append_left _ (List.mem_append_right _ h)))) (by decide +kernel))
set_option maxRecDepth 20000 in
theorem gX4_comment_X4_checkAmong : GoodIn wsX4_comment (wsV RX4 67 RX4 yX4_checkAmong wsX4_checkAmong) := goodIn_app (goodIn_of _ (by decide +kernel)) ggX4_comment_X4_checkAmong
set_option maxRecDepth 20000 in
theorem ggX4_comment_X2_add : GoodIn wsX4_comment wsX2_add := goodIn_ca (goodIn_r _ [27, 28, 29, 30, 31, 72, 73, 74, 75] (by decide +kernel) (by decide +kernel)) (goodIn_sub (fun _ h => List.mem_cons_of_mem _ (List.mem_append_right _ h)) (by decide +kernel))
set_option maxRecDepth 20000 in
theorem gX4_comment_X2_add_n102 : GoodIn wsX4_comment (wsX2_add) := ggX4_comment_X2_add
set_option maxRecDepth 20000 in
theorem ggX4_comment_X1_keep : GoodIn wsX4_comment wsX1_keep := goodIn_ca (goodIn_r _ [35, 36, 37, 38, 39, 40, 41, 42, 43, 44, 45, 46, 47, 48, 49, 50, 51, 52, 53, 79, 80, 81, 82, 76, 77, 78] (by decide +kernel) (by decide +kernel)) (goodIn_sub (fun _ h => List.mem_cons_of_mem _ (List.mem_append_right _ h)) (by decide +kernel))
set_option maxRecDepth 20000 in
theorem gX4_comment_X1_keep_n106 : GoodIn wsX4_comment (wsX1_keep) := ggX4_comment_X1_keep
set_option maxRecDepth 20000 in
theorem ggX4_comment_X4_bit : GoodIn wsX4_comment wsX4_bit := goodIn_r _ [56] (by decide +kernel) (by decide +kernel)
set_option maxRecDepth 20000 in
theorem gX4_comment_X4_bit : GoodIn wsX4_comment (va_wsS RX4 110 yX4_bit wsX4_bit) := goodIn_app (goodIn_of _ (by decide +kernel)) ggX4_comment_X4_bit
set_option maxRecDepth 20000 in
theorem ggX4_comment_X3_mark : GoodIn wsX4_comment wsX3_mark := goodIn_ca (goodIn_r _ [59, 60, 76, 77, 78] (by decide +kernel) (by decide +kernel)) (goodIn_sub (fun _ h => List.mem_cons_of_mem _ (List.mem_append_right _ h)) (by decide +kernel))
set_option maxRecDepth 20000 in
theorem gX4_comment_X3_mark_n113 : GoodIn wsX4_comment (wsX3_mark) := ggX4_comment_X3_mark
theorem dX4_comment_0 : decode cX4_comment 0 = .ok (.aload_n 0, 1) := by decide +kernel
theorem dX4_comment_1 : decode cX4_comment 1 = .ok (.iload_n 1, 1) := by decide +kernel
theorem dX4_comment_2 : decode cX4_comment 2 = .ok (.iload_n 2, 1) := by decide +kernel
theorem dX4_comment_3 : decode cX4_comment 3 = .ok (.invokevirtual 89, 3) := by decide +kernel
theorem dX4_comment_6 : decode cX4_comment 6 = .ok (.aload_n 0, 1) := by decide +kernel
theorem dX4_comment_7 : decode cX4_comment 7 = .ok (.iload_n 3, 1) := by decide +kernel
theorem dX4_comment_8 : decode cX4_comment 8 = .ok (.iconst 0, 1) := by decide +kernel
theorem dX4_comment_9 : decode cX4_comment 9 = .ok (.iconst 3, 1) := by decide +kernel
theorem dX4_comment_10 : decode cX4_comment 10 = .ok (.invokevirtual 67, 3) := by decide +kernel
theorem dX4_comment_13 : decode cX4_comment 13 = .ok (.aload_n 0, 1) := by decide +kernel
theorem dX4_comment_14 : decode cX4_comment 14 = .ok (.getfield 19, 3) := by decide +kernel
theorem dX4_comment_17 : decode cX4_comment 17 = .ok (.getfield 92, 3) := by decide +kernel
theorem dX4_comment_20 : decode cX4_comment 20 = .ok (.bipush 12, 2) := by decide +kernel
theorem dX4_comment_22 : decode cX4_comment 22 = .ok (.if_icmp .lt 13, 3) := by decide +kernel
theorem dX4_comment_25 : decode cX4_comment 25 = .ok (.new 95, 3) := by decide +kernel
theorem dX4_comment_28 : decode cX4_comment 28 = .ok (.dup, 1) := by decide +kernel
theorem dX4_comment_29 : decode cX4_comment 29 = .ok (.ldc 97, 2) := by decide +kernel
theorem dX4_comment_31 : decode cX4_comment 31 = .ok (.invokespecial 99, 3) := by decide +kernel
theorem dX4_comment_34 : decode cX4_comment 34 = .ok (.athrow, 1) := by decide +kernel
theorem dX4_comment_35 : decode cX4_comment 35 = .ok (.aload_n 0, 1) := by decide +kernel
theorem dX4_comment_36 : decode cX4_comment 36 = .ok (.getfield 19, 3) := by decide +kernel
theorem dX4_comment_39 : decode cX4_comment 39 = .ok (.iload_n 1, 1) := by decide +kernel
theorem dX4_comment_40 : decode cX4_comment 40 = .ok (.iload_n 2, 1) := by decide +kernel
theorem dX4_comment_41 : decode cX4_comment 41 = .ok (.iload_n 3, 1) := by decide +kernel
theorem dX4_comment_42 : decode cX4_comment 42 = .ok (.invokevirtual 102, 3) := by decide +kernel
theorem dX4_comment_45 : decode cX4_comment 45 = .ok (.istore 4, 2) := by decide +kernel
theorem dX4_comment_47 : decode cX4_comment 47 = .ok (.aload_n 0, 1) := by decide +kernel
theorem dX4_comment_48 : decode cX4_comment 48 = .ok (.getfield 26, 3) := by decide +kernel
theorem dX4_comment_51 : decode cX4_comment 51 = .ok (.iload 4, 2) := by decide +kernel
theorem dX4_comment_53 : decode cX4_comment 53 = .ok (.aload_n 0, 1) := by decide +kernel
theorem dX4_comment_54 : decode cX4_comment 54 = .ok (.getfield 10, 3) := by decide +kernel
theorem dX4_comment_57 : decode cX4_comment 57 = .ok (.iload_n 1, 1) := by decide +kernel
theorem dX4_comment_58 : decode cX4_comment 58 = .ok (.iload_n 2, 1) := by decide +kernel
theorem dX4_comment_59 : decode cX4_comment 59 = .ok (.invokevirtual 106, 3) := by decide +kernel
theorem dX4_comment_62 : decode cX4_comment 62 = .ok (.aload_n 0, 1) := by decide +kernel
theorem dX4_comment_63 : decode cX4_comment 63 = .ok (.getfield 10, 3) := by decide +kernel
theorem dX4_comment_66 : decode cX4_comment 66 = .ok (.iload_n 1, 1) := by decide +kernel
theorem dX4_comment_67 : decode cX4_comment 67 = .ok (.iload_n 2, 1) := by decide +kernel
theorem dX4_comment_68 : decode cX4_comment 68 = .ok (.iload 4, 2) := by decide +kernel
theorem dX4_comment_70 : decode cX4_comment 70 = .ok (.invokestatic 110, 3) := by decide +kernel
theorem dX4_comment_73 : decode cX4_comment 73 = .ok (.invokevirtual 113, 3) := by decide +kernel
theorem dX4_comment_76 : decode cX4_comment 76 = .ok (.aload_n 0, 1) := by decide +kernel
theorem dX4_comment_77 : decode cX4_comment 77 = .ok (.dup, 1) := by decide +kernel
theorem dX4_comment_78 : decode cX4_comment 78 = .ok (.getfield 41, 3) := by decide +kernel
theorem dX4_comment_81 : decode cX4_comment 81 = .ok (.iload 4, 2) := by decide +kernel
theorem dX4_comment_83 : decode cX4_comment 83 = .ok (.invokestatic 110, 3) := by decide +kernel
theorem dX4_comment_86 : decode cX4_comment 86 = .ok (.ior, 1) := by decide +kernel
theorem dX4_comment_87 : decode cX4_comment 87 = .ok (.putfield 41, 3) := by decide +kernel
theorem dX4_comment_90 : decode cX4_comment 90 = .ok (.iload 4, 2) := by decide +kernel
theorem dX4_comment_92 : decode cX4_comment 92 = .ok (.ireturn, 1) := by decide +kernel
set_option maxRecDepth 20000 in
theorem ggX4_answer_X4_checkComment : GoodIn wsX4_answer wsX4_checkComment := goodIn_ca (goodIn_r _ [7, 8, 9, 10, 14, 15, 16, 17, 18, 19, 20, 21, 22, 23, 24, 25, 26, 27, 28] (by decide +kernel) (by decide +kernel)) (goodIn_sub (fun _ h => List.mem_cons_of_mem _ (List.mem_append_right _ h)) (by decide +kernel))
set_option maxRecDepth 20000 in
theorem gX4_answer_X4_checkComment : GoodIn wsX4_answer (wsV RX4 116 RX4 yX4_checkComment wsX4_checkComment) := goodIn_app (goodIn_of _ (by decide +kernel)) ggX4_answer_X4_checkComment
set_option maxRecDepth 20000 in
theorem ggX4_answer_X4_bit : GoodIn wsX4_answer wsX4_bit := goodIn_r _ [13] (by decide +kernel) (by decide +kernel)
set_option maxRecDepth 20000 in
theorem gX4_answer_X4_bit : GoodIn wsX4_answer (va_wsS RX4 110 yX4_bit wsX4_bit) := goodIn_app (goodIn_of _ (by decide +kernel)) ggX4_answer_X4_bit
theorem dX4_answer_0 : decode cX4_answer 0 = .ok (.aload_n 0, 1) := by decide +kernel
theorem dX4_answer_1 : decode cX4_answer 1 = .ok (.iload_n 1, 1) := by decide +kernel
theorem dX4_answer_2 : decode cX4_answer 2 = .ok (.invokevirtual 116, 3) := by decide +kernel
theorem dX4_answer_5 : decode cX4_answer 5 = .ok (.aload_n 0, 1) := by decide +kernel
theorem dX4_answer_6 : decode cX4_answer 6 = .ok (.dup, 1) := by decide +kernel
theorem dX4_answer_7 : decode cX4_answer 7 = .ok (.getfield 41, 3) := by decide +kernel
theorem dX4_answer_10 : decode cX4_answer 10 = .ok (.iload_n 1, 1) := by decide +kernel
theorem dX4_answer_11 : decode cX4_answer 11 = .ok (.invokestatic 110, 3) := by decide +kernel
theorem dX4_answer_14 : decode cX4_answer 14 = .ok (.ior, 1) := by decide +kernel
theorem dX4_answer_15 : decode cX4_answer 15 = .ok (.putfield 41, 3) := by decide +kernel
theorem dX4_answer_18 : decode cX4_answer 18 = .ok (.aload_n 0, 1) := by decide +kernel
theorem dX4_answer_19 : decode cX4_answer 19 = .ok (.getfield 37, 3) := by decide +kernel
theorem dX4_answer_22 : decode cX4_answer 22 = .ok (.iload_n 1, 1) := by decide +kernel
theorem dX4_answer_23 : decode cX4_answer 23 = .ok (.dup2, 1) := by decide +kernel
theorem dX4_answer_24 : decode cX4_answer 24 = .ok (.iaload, 1) := by decide +kernel
theorem dX4_answer_25 : decode cX4_answer 25 = .ok (.iconst 1, 1) := by decide +kernel
theorem dX4_answer_26 : decode cX4_answer 26 = .ok (.iadd, 1) := by decide +kernel
theorem dX4_answer_27 : decode cX4_answer 27 = .ok (.iastore, 1) := by decide +kernel
theorem dX4_answer_28 : decode cX4_answer 28 = .ok (.aload_n 0, 1) := by decide +kernel
theorem dX4_answer_29 : decode cX4_answer 29 = .ok (.getfield 37, 3) := by decide +kernel
theorem dX4_answer_32 : decode cX4_answer 32 = .ok (.iload_n 1, 1) := by decide +kernel
theorem dX4_answer_33 : decode cX4_answer 33 = .ok (.iaload, 1) := by decide +kernel
theorem dX4_answer_34 : decode cX4_answer 34 = .ok (.ireturn, 1) := by decide +kernel
set_option maxRecDepth 20000 in
theorem ggX4_resolve_X4_checkComment : GoodIn wsX4_resolve wsX4_checkComment := goodIn_ca (goodIn_r _ [6, 7, 8, 9, 13, 14, 15, 16, 17, 18, 19, 20, 21, 22, 23, 24, 25, 26, 27] (by decide +kernel) (by decide +kernel)) (goodIn_sub (fun _ h => List.mem_cons_of_mem _ (List.mem_append_right _ h)) (by decide +kernel))
set_option maxRecDepth 20000 in
theorem gX4_resolve_X4_checkComment : GoodIn wsX4_resolve (wsV RX4 116 RX4 yX4_checkComment wsX4_checkComment) := goodIn_app (goodIn_of _ (by decide +kernel)) ggX4_resolve_X4_checkComment
set_option maxRecDepth 20000 in
theorem ggX4_resolve_X4_bit : GoodIn wsX4_resolve wsX4_bit := goodIn_r _ [12] (by decide +kernel) (by decide +kernel)
set_option maxRecDepth 20000 in
theorem gX4_resolve_X4_bit : GoodIn wsX4_resolve (va_wsS RX4 110 yX4_bit wsX4_bit) := goodIn_app (goodIn_of _ (by decide +kernel)) ggX4_resolve_X4_bit
theorem dX4_resolve_0 : decode cX4_resolve 0 = .ok (.aload_n 0, 1) := by decide +kernel
theorem dX4_resolve_1 : decode cX4_resolve 1 = .ok (.iload_n 1, 1) := by decide +kernel
theorem dX4_resolve_2 : decode cX4_resolve 2 = .ok (.invokevirtual 116, 3) := by decide +kernel
theorem dX4_resolve_5 : decode cX4_resolve 5 = .ok (.aload_n 0, 1) := by decide +kernel
theorem dX4_resolve_6 : decode cX4_resolve 6 = .ok (.getfield 41, 3) := by decide +kernel
theorem dX4_resolve_9 : decode cX4_resolve 9 = .ok (.iload_n 1, 1) := by decide +kernel
theorem dX4_resolve_10 : decode cX4_resolve 10 = .ok (.invokestatic 110, 3) := by decide +kernel
theorem dX4_resolve_13 : decode cX4_resolve 13 = .ok (.iand, 1) := by decide +kernel
theorem dX4_resolve_14 : decode cX4_resolve 14 = .ok (.ifCond .eq 7, 3) := by decide +kernel
theorem dX4_resolve_17 : decode cX4_resolve 17 = .ok (.iconst 1, 1) := by decide +kernel
theorem dX4_resolve_18 : decode cX4_resolve 18 = .ok (.goto 4, 3) := by decide +kernel
theorem dX4_resolve_21 : decode cX4_resolve 21 = .ok (.iconst 0, 1) := by decide +kernel
theorem dX4_resolve_22 : decode cX4_resolve 22 = .ok (.istore_n 2, 1) := by decide +kernel
theorem dX4_resolve_23 : decode cX4_resolve 23 = .ok (.aload_n 0, 1) := by decide +kernel
theorem dX4_resolve_24 : decode cX4_resolve 24 = .ok (.dup, 1) := by decide +kernel
theorem dX4_resolve_25 : decode cX4_resolve 25 = .ok (.getfield 41, 3) := by decide +kernel
theorem dX4_resolve_28 : decode cX4_resolve 28 = .ok (.iload_n 1, 1) := by decide +kernel
theorem dX4_resolve_29 : decode cX4_resolve 29 = .ok (.invokestatic 110, 3) := by decide +kernel
theorem dX4_resolve_32 : decode cX4_resolve 32 = .ok (.iconst (-1), 1) := by decide +kernel
theorem dX4_resolve_33 : decode cX4_resolve 33 = .ok (.ixor, 1) := by decide +kernel
theorem dX4_resolve_34 : decode cX4_resolve 34 = .ok (.iand, 1) := by decide +kernel
theorem dX4_resolve_35 : decode cX4_resolve 35 = .ok (.putfield 41, 3) := by decide +kernel
theorem dX4_resolve_38 : decode cX4_resolve 38 = .ok (.iload_n 2, 1) := by decide +kernel
theorem dX4_resolve_39 : decode cX4_resolve 39 = .ok (.ireturn, 1) := by decide +kernel
set_option maxRecDepth 20000 in
theorem ggX4_find_X4_checkComment : GoodIn wsX4_find wsX4_checkComment := goodIn_ca (goodIn_r _ [10, 11, 12, 3, 58, 59, 60, 61, 62, 63, 64, 65, 66, 67, 68, 69, 70, 71, 72] (by decide +kernel) (by decide +kernel)) (goodIn_sub (fun _ h => List.mem_cons_of_mem _ (List.mem_append_left _ (List.mem_append_right _ h))) (by decide +kernel))
set_option maxRecDepth 20000 in
theorem gX4_find_X4_checkComment : GoodIn wsX4_find (wsV RX4 116 RX4 yX4_checkComment wsX4_checkComment) := goodIn_app (goodIn_of _ (by decide +kernel)) ggX4_find_X4_checkComment
set_option maxRecDepth 20000 in
theorem ggX4_find_X2_isGone : GoodIn wsX4_find wsX2_isGone := goodIn_ca (goodIn_r _ [16, 17, 69, 70, 71, 72] (by decide +kernel) (by decide +kernel)) (goodIn_sub (fun _ h => List.mem_cons_of_mem _ (List.mem_append_right _ h)) (by decide +kernel))
set_option maxRecDepth 20000 in
theorem gX4_find_X2_isGone_n119 : GoodIn wsX4_find (wsX2_isGone) := ggX4_find_X2_isGone
set_option maxRecDepth 20000 in
theorem ggX4_find_X1_bestPlace : GoodIn wsX4_find wsX1_bestPlace := goodIn_ca (goodIn_r _ [21, 22, 23, 24, 25, 19, 26, 27, 28, 29, 30, 31, 32, 33, 34, 35, 36, 37, 38, 39, 40, 41, 42, 43, 73, 74, 75, 76, 77, 78, 79] (by decide +kernel) (by decide +kernel)) (goodIn_sub (fun _ h => List.mem_cons_of_mem _ (List.mem_append_right _ h)) (by decide +kernel))
set_option maxRecDepth 20000 in
theorem gX4_find_X1_bestPlace_n125 : GoodIn wsX4_find (wsX1_bestPlace) := ggX4_find_X1_bestPlace
set_option maxRecDepth 20000 in
theorem ggX4_find_X1_sizeOf : GoodIn wsX4_find wsX1_sizeOf := goodIn_ca (goodIn_r _ [46, 22, 76, 77, 78, 79] (by decide +kernel) (by decide +kernel)) (goodIn_sub (fun _ h => List.mem_cons_of_mem _ (List.mem_append_right _ h)) (by decide +kernel))
set_option maxRecDepth 20000 in
theorem gX4_find_X1_sizeOf_n129 : GoodIn wsX4_find (wsX1_sizeOf) := ggX4_find_X1_sizeOf
set_option maxRecDepth 20000 in
theorem ggX4_find_X2_bringBack : GoodIn wsX4_find wsX2_bringBack := goodIn_ca (goodIn_r _ [49, 17, 50, 69, 70, 71, 72] (by decide +kernel) (by decide +kernel)) (goodIn_sub (fun _ h => List.mem_cons_of_mem _ (List.mem_append_right _ h)) (by decide +kernel))
set_option maxRecDepth 20000 in
theorem gX4_find_X2_bringBack_n132 : GoodIn wsX4_find (wsX2_bringBack) := ggX4_find_X2_bringBack
set_option maxRecDepth 20000 in
theorem ggX4_find_X4_bit : GoodIn wsX4_find wsX4_bit := goodIn_r _ [53] (by decide +kernel) (by decide +kernel)
set_option maxRecDepth 20000 in
theorem gX4_find_X4_bit : GoodIn wsX4_find (va_wsS RX4 110 yX4_bit wsX4_bit) := goodIn_app (goodIn_of _ (by decide +kernel)) ggX4_find_X4_bit
set_option maxRecDepth 20000 in
theorem ggX4_find_X3_mark : GoodIn wsX4_find wsX3_mark := goodIn_ca (goodIn_r _ [56, 57, 73, 74, 75] (by decide +kernel) (by decide +kernel)) (goodIn_sub (fun _ h => List.mem_cons_of_mem _ (List.mem_append_right _ h)) (by decide +kernel))
set_option maxRecDepth 20000 in
theorem gX4_find_X3_mark_n113 : GoodIn wsX4_find (wsX3_mark) := ggX4_find_X3_mark
theorem dX4_find_0 : decode cX4_find 0 = .ok (.aload_n 0, 1) := by decide +kernel
theorem dX4_find_1 : decode cX4_find 1 = .ok (.iload_n 1, 1) := by decide +kernel
theorem dX4_find_2 : decode cX4_find 2 = .ok (.invokevirtual 116, 3) := by decide +kernel
theorem dX4_find_5 : decode cX4_find 5 = .ok (.aload_n 0, 1) := by decide +kernel
theorem dX4_find_6 : decode cX4_find 6 = .ok (.getfield 19, 3) := by decide +kernel
theorem dX4_find_9 : decode cX4_find 9 = .ok (.iload_n 1, 1) := by decide +kernel
theorem dX4_find_10 : decode cX4_find 10 = .ok (.invokevirtual 119, 3) := by decide +kernel
theorem dX4_find_13 : decode cX4_find 13 = .ok (.ifCond .ne 13, 3) := by decide +kernel
theorem dX4_find_16 : decode cX4_find 16 = .ok (.new 95, 3) := by decide +kernel
theorem dX4_find_19 : decode cX4_find 19 = .ok (.dup, 1) := by decide +kernel
theorem dX4_find_20 : decode cX4_find 20 = .ok (.ldc 123, 2) := by decide +kernel
theorem dX4_find_22 : decode cX4_find 22 = .ok (.invokespecial 99, 3) := by decide +kernel
theorem dX4_find_25 : decode cX4_find 25 = .ok (.athrow, 1) := by decide +kernel
theorem dX4_find_26 : decode cX4_find 26 = .ok (.aload_n 0, 1) := by decide +kernel
theorem dX4_find_27 : decode cX4_find 27 = .ok (.getfield 26, 3) := by decide +kernel
theorem dX4_find_30 : decode cX4_find 30 = .ok (.iload_n 1, 1) := by decide +kernel
theorem dX4_find_31 : decode cX4_find 31 = .ok (.aload_n 0, 1) := by decide +kernel
theorem dX4_find_32 : decode cX4_find 32 = .ok (.getfield 10, 3) := by decide +kernel
theorem dX4_find_35 : decode cX4_find 35 = .ok (.invokevirtual 125, 3) := by decide +kernel
theorem dX4_find_38 : decode cX4_find 38 = .ok (.istore_n 2, 1) := by decide +kernel
theorem dX4_find_39 : decode cX4_find 39 = .ok (.iload_n 2, 1) := by decide +kernel
theorem dX4_find_40 : decode cX4_find 40 = .ok (.iconst (-1), 1) := by decide +kernel
theorem dX4_find_41 : decode cX4_find 41 = .ok (.if_icmp .eq 37, 3) := by decide +kernel
theorem dX4_find_44 : decode cX4_find 44 = .ok (.iload_n 2, 1) := by decide +kernel
theorem dX4_find_45 : decode cX4_find 45 = .ok (.aload_n 0, 1) := by decide +kernel
theorem dX4_find_46 : decode cX4_find 46 = .ok (.getfield 26, 3) := by decide +kernel
theorem dX4_find_49 : decode cX4_find 49 = .ok (.iload_n 1, 1) := by decide +kernel
theorem dX4_find_50 : decode cX4_find 50 = .ok (.invokevirtual 129, 3) := by decide +kernel
theorem dX4_find_53 : decode cX4_find 53 = .ok (.iadd, 1) := by decide +kernel
theorem dX4_find_54 : decode cX4_find 54 = .ok (.istore_n 3, 1) := by decide +kernel
theorem dX4_find_55 : decode cX4_find 55 = .ok (.aload_n 0, 1) := by decide +kernel
theorem dX4_find_56 : decode cX4_find 56 = .ok (.getfield 19, 3) := by decide +kernel
theorem dX4_find_59 : decode cX4_find 59 = .ok (.iload_n 1, 1) := by decide +kernel
theorem dX4_find_60 : decode cX4_find 60 = .ok (.iload_n 2, 1) := by decide +kernel
theorem dX4_find_61 : decode cX4_find 61 = .ok (.iload_n 3, 1) := by decide +kernel
theorem dX4_find_62 : decode cX4_find 62 = .ok (.invokevirtual 132, 3) := by decide +kernel
theorem dX4_find_65 : decode cX4_find 65 = .ok (.aload_n 0, 1) := by decide +kernel
theorem dX4_find_66 : decode cX4_find 66 = .ok (.getfield 10, 3) := by decide +kernel
theorem dX4_find_69 : decode cX4_find 69 = .ok (.iload_n 2, 1) := by decide +kernel
theorem dX4_find_70 : decode cX4_find 70 = .ok (.iload_n 3, 1) := by decide +kernel
theorem dX4_find_71 : decode cX4_find 71 = .ok (.iload_n 1, 1) := by decide +kernel
theorem dX4_find_72 : decode cX4_find 72 = .ok (.invokestatic 110, 3) := by decide +kernel
theorem dX4_find_75 : decode cX4_find 75 = .ok (.invokevirtual 113, 3) := by decide +kernel
theorem dX4_find_78 : decode cX4_find 78 = .ok (.iload_n 2, 1) := by decide +kernel
theorem dX4_find_79 : decode cX4_find 79 = .ok (.ireturn, 1) := by decide +kernel
theorem dX4_comments_0 : decode cX4_comments 0 = .ok (.aload_n 0, 1) := by decide +kernel
theorem dX4_comments_1 : decode cX4_comments 1 = .ok (.getfield 19, 3) := by decide +kernel
theorem dX4_comments_4 : decode cX4_comments 4 = .ok (.getfield 92, 3) := by decide +kernel
theorem dX4_comments_7 : decode cX4_comments 7 = .ok (.ireturn, 1) := by decide +kernel
set_option maxRecDepth 20000 in
theorem ggX4_rangeOf_X4_checkComment : GoodIn wsX4_rangeOf wsX4_checkComment := goodIn_ca (goodIn_r _ [6, 7, 8, 1, 19, 20, 21, 22, 23, 24, 25, 26, 27, 28, 29, 30, 31, 32, 33] (by decide +kernel) (by decide +kernel)) (goodIn_sub (fun _ h => List.mem_cons_of_mem _ (List.mem_append_left _ (List.mem_append_right _ h))) (by decide +kernel))
set_option maxRecDepth 20000 in
theorem gX4_rangeOf_X4_checkComment : GoodIn wsX4_rangeOf (wsV RX4 116 RX4 yX4_checkComment wsX4_checkComment) := goodIn_app (goodIn_of _ (by decide +kernel)) ggX4_rangeOf_X4_checkComment
set_option maxRecDepth 20000 in
theorem ggX4_rangeOf_X2_asNumber : GoodIn wsX4_rangeOf wsX2_asNumber := goodIn_ca (goodIn_r _ [12, 13, 14, 15, 16, 17, 10, 18, 30, 31, 32, 33] (by decide +kernel) (by decide +kernel)) (goodIn_sub (fun _ h => List.mem_cons_of_mem _ (List.mem_append_right _ h)) (by decide +kernel))
set_option maxRecDepth 20000 in
theorem gX4_rangeOf_X2_asNumber_n135 : GoodIn wsX4_rangeOf (wsX2_asNumber) := ggX4_rangeOf_X2_asNumber
theorem dX4_rangeOf_0 : decode cX4_rangeOf 0 = .ok (.aload_n 0, 1) := by decide +kernel
theorem dX4_rangeOf_1 : decode cX4_rangeOf 1 = .ok (.iload_n 1, 1) := by decide +kernel
theorem dX4_rangeOf_2 : decode cX4_rangeOf 2 = .ok (.invokevirtual 116, 3) := by decide +kernel
theorem dX4_rangeOf_5 : decode cX4_rangeOf 5 = .ok (.aload_n 0, 1) := by decide +kernel
theorem dX4_rangeOf_6 : decode cX4_rangeOf 6 = .ok (.getfield 19, 3) := by decide +kernel
theorem dX4_rangeOf_9 : decode cX4_rangeOf 9 = .ok (.iload_n 1, 1) := by decide +kernel
theorem dX4_rangeOf_10 : decode cX4_rangeOf 10 = .ok (.invokevirtual 135, 3) := by decide +kernel
theorem dX4_rangeOf_13 : decode cX4_rangeOf 13 = .ok (.ireturn, 1) := by decide +kernel
set_option maxRecDepth 20000 in
theorem ggX4_rangeThen_X4_checkComment : GoodIn wsX4_rangeThen wsX4_checkComment := goodIn_ca (goodIn_r _ [10, 1, 2, 4, 26, 27, 28, 29, 30, 31, 32, 33, 34, 35, 36, 37, 38, 39, 40] (by decide +kernel) (by decide +kernel)) (goodIn_sub (fun _ h => List.mem_cons_of_mem _ (List.mem_append_left _ (List.mem_append_right _ h))) (by decide +kernel))
set_option maxRecDepth 20000 in
theorem gX4_rangeThen_X4_checkComment : GoodIn wsX4_rangeThen (wsV RX4 116 RX4 yX4_checkComment wsX4_checkComment) := goodIn_app (goodIn_of _ (by decide +kernel)) ggX4_rangeThen_X4_checkComment
set_option maxRecDepth 20000 in
theorem ggX4_rangeThen_X2_asNumber : GoodIn wsX4_rangeThen wsX2_asNumber := goodIn_ca (goodIn_r _ [14, 15, 16, 17, 18, 19, 12, 20, 37, 38, 39, 40] (by decide +kernel) (by decide +kernel)) (goodIn_sub (fun _ h => List.mem_cons_of_mem _ (List.mem_append_right _ h)) (by decide +kernel))
set_option maxRecDepth 20000 in
theorem gX4_rangeThen_X2_asNumber_n135 : GoodIn wsX4_rangeThen (wsX2_asNumber) := ggX4_rangeThen_X2_asNumber
set_option maxRecDepth 20000 in
theorem ggX4_rangeThen_X0_rangeAt : GoodIn wsX4_rangeThen wsX0_rangeAt := goodIn_ca (goodIn_r _ [24, 25, 41] (by decide +kernel) (by decide +kernel)) (goodIn_sub (fun _ h => List.mem_cons_of_mem _ (List.mem_append_right _ h)) (by decide +kernel))
set_option maxRecDepth 20000 in
theorem gX4_rangeThen_X0_rangeAt_n143 : GoodIn wsX4_rangeThen (wsX0_rangeAt) := ggX4_rangeThen_X0_rangeAt
theorem dX4_rangeThen_0 : decode cX4_rangeThen 0 = .ok (.aload_n 0, 1) := by decide +kernel
theorem dX4_rangeThen_1 : decode cX4_rangeThen 1 = .ok (.iload_n 1, 1) := by decide +kernel
theorem dX4_rangeThen_2 : decode cX4_rangeThen 2 = .ok (.invokevirtual 116, 3) := by decide +kernel
theorem dX4_rangeThen_5 : decode cX4_rangeThen 5 = .ok (.iload_n 2, 1) := by decide +kernel
theorem dX4_rangeThen_6 : decode cX4_rangeThen 6 = .ok (.ifCond .lt 11, 3) := by decide +kernel
theorem dX4_rangeThen_9 : decode cX4_rangeThen 9 = .ok (.iload_n 2, 1) := by decide +kernel
theorem dX4_rangeThen_10 : decode cX4_rangeThen 10 = .ok (.aload_n 0, 1) := by decide +kernel
theorem dX4_rangeThen_11 : decode cX4_rangeThen 11 = .ok (.getfield 45, 3) := by decide +kernel
theorem dX4_rangeThen_14 : decode cX4_rangeThen 14 = .ok (.if_icmp .le 13, 3) := by decide +kernel
theorem dX4_rangeThen_17 : decode cX4_rangeThen 17 = .ok (.new 138, 3) := by decide +kernel
theorem dX4_rangeThen_20 : decode cX4_rangeThen 20 = .ok (.dup, 1) := by decide +kernel
theorem dX4_rangeThen_21 : decode cX4_rangeThen 21 = .ok (.ldc 140, 2) := by decide +kernel
theorem dX4_rangeThen_23 : decode cX4_rangeThen 23 = .ok (.invokespecial 142, 3) := by decide +kernel
theorem dX4_rangeThen_26 : decode cX4_rangeThen 26 = .ok (.athrow, 1) := by decide +kernel
theorem dX4_rangeThen_27 : decode cX4_rangeThen 27 = .ok (.iload_n 2, 1) := by decide +kernel
theorem dX4_rangeThen_28 : decode cX4_rangeThen 28 = .ok (.aload_n 0, 1) := by decide +kernel
theorem dX4_rangeThen_29 : decode cX4_rangeThen 29 = .ok (.getfield 45, 3) := by decide +kernel
theorem dX4_rangeThen_32 : decode cX4_rangeThen 32 = .ok (.if_icmp .ne 14, 3) := by decide +kernel
theorem dX4_rangeThen_35 : decode cX4_rangeThen 35 = .ok (.aload_n 0, 1) := by decide +kernel
theorem dX4_rangeThen_36 : decode cX4_rangeThen 36 = .ok (.getfield 19, 3) := by decide +kernel
theorem dX4_rangeThen_39 : decode cX4_rangeThen 39 = .ok (.iload_n 1, 1) := by decide +kernel
theorem dX4_rangeThen_40 : decode cX4_rangeThen 40 = .ok (.invokevirtual 135, 3) := by decide +kernel
theorem dX4_rangeThen_43 : decode cX4_rangeThen 43 = .ok (.goto 12, 3) := by decide +kernel
theorem dX4_rangeThen_46 : decode cX4_rangeThen 46 = .ok (.aload_n 0, 1) := by decide +kernel
theorem dX4_rangeThen_47 : decode cX4_rangeThen 47 = .ok (.getfield 33, 3) := by decide +kernel
theorem dX4_rangeThen_50 : decode cX4_rangeThen 50 = .ok (.iload_n 2, 1) := by decide +kernel
theorem dX4_rangeThen_51 : decode cX4_rangeThen 51 = .ok (.iload_n 1, 1) := by decide +kernel
theorem dX4_rangeThen_52 : decode cX4_rangeThen 52 = .ok (.invokevirtual 143, 3) := by decide +kernel
theorem dX4_rangeThen_55 : decode cX4_rangeThen 55 = .ok (.ireturn, 1) := by decide +kernel
theorem dX4_open_0 : decode cX4_open 0 = .ok (.aload_n 0, 1) := by decide +kernel
theorem dX4_open_1 : decode cX4_open 1 = .ok (.getfield 41, 3) := by decide +kernel
theorem dX4_open_4 : decode cX4_open 4 = .ok (.ireturn, 1) := by decide +kernel
set_option maxRecDepth 20000 in
theorem ggX4_orphans_X2_isGone : GoodIn wsX4_orphans wsX2_isGone := goodIn_ca (goodIn_r _ [5, 6, 22, 23, 24, 25] (by decide +kernel) (by decide +kernel)) (goodIn_sub (fun _ h => List.mem_cons_of_mem _ (List.mem_append_right _ h)) (by decide +kernel))
set_option maxRecDepth 20000 in
theorem gX4_orphans_X2_isGone_n119 : GoodIn wsX4_orphans (wsX2_isGone) := ggX4_orphans_X2_isGone
set_option maxRecDepth 20000 in
theorem ggX4_orphans_X4_bit : GoodIn wsX4_orphans wsX4_bit := goodIn_r _ [10] (by decide +kernel) (by decide +kernel)
set_option maxRecDepth 20000 in
theorem gX4_orphans_X4_bit : GoodIn wsX4_orphans (va_wsS RX4 110 yX4_bit wsX4_bit) := goodIn_app (goodIn_of _ (by decide +kernel)) ggX4_orphans_X4_bit
theorem dX4_orphans_0 : decode cX4_orphans 0 = .ok (.iconst 0, 1) := by decide +kernel
theorem dX4_orphans_1 : decode cX4_orphans 1 = .ok (.istore_n 1, 1) := by decide +kernel
theorem dX4_orphans_2 : decode cX4_orphans 2 = .ok (.iconst 0, 1) := by decide +kernel
theorem dX4_orphans_3 : decode cX4_orphans 3 = .ok (.istore_n 2, 1) := by decide +kernel
theorem dX4_orphans_4 : decode cX4_orphans 4 = .ok (.iload_n 2, 1) := by decide +kernel
theorem dX4_orphans_5 : decode cX4_orphans 5 = .ok (.aload_n 0, 1) := by decide +kernel
theorem dX4_orphans_6 : decode cX4_orphans 6 = .ok (.getfield 19, 3) := by decide +kernel
theorem dX4_orphans_9 : decode cX4_orphans 9 = .ok (.getfield 92, 3) := by decide +kernel
theorem dX4_orphans_12 : decode cX4_orphans 12 = .ok (.if_icmp .ge 27, 3) := by decide +kernel
theorem dX4_orphans_15 : decode cX4_orphans 15 = .ok (.aload_n 0, 1) := by decide +kernel
theorem dX4_orphans_16 : decode cX4_orphans 16 = .ok (.getfield 19, 3) := by decide +kernel
theorem dX4_orphans_19 : decode cX4_orphans 19 = .ok (.iload_n 2, 1) := by decide +kernel
theorem dX4_orphans_20 : decode cX4_orphans 20 = .ok (.invokevirtual 119, 3) := by decide +kernel
theorem dX4_orphans_23 : decode cX4_orphans 23 = .ok (.ifCond .eq 10, 3) := by decide +kernel
theorem dX4_orphans_26 : decode cX4_orphans 26 = .ok (.iload_n 1, 1) := by decide +kernel
theorem dX4_orphans_27 : decode cX4_orphans 27 = .ok (.iload_n 2, 1) := by decide +kernel
theorem dX4_orphans_28 : decode cX4_orphans 28 = .ok (.invokestatic 110, 3) := by decide +kernel
theorem dX4_orphans_31 : decode cX4_orphans 31 = .ok (.ior, 1) := by decide +kernel
theorem dX4_orphans_32 : decode cX4_orphans 32 = .ok (.istore_n 1, 1) := by decide +kernel
theorem dX4_orphans_33 : decode cX4_orphans 33 = .ok (.iinc 2 1, 3) := by decide +kernel
theorem dX4_orphans_36 : decode cX4_orphans 36 = .ok (.goto (-32), 3) := by decide +kernel
theorem dX4_orphans_39 : decode cX4_orphans 39 = .ok (.iload_n 1, 1) := by decide +kernel
theorem dX4_orphans_40 : decode cX4_orphans 40 = .ok (.ireturn, 1) := by decide +kernel
set_option maxRecDepth 20000 in
theorem ggX4_cover_X4_checkPlace : GoodIn wsX4_cover wsX4_checkPlace := goodIn_ca (goodIn_r _ [6, 7, 8, 9, 19, 20, 21, 22, 23, 24, 25, 26, 27, 28, 29, 30, 31, 32] (by decide +kernel) (by decide +kernel)) (goodIn_sub (fun _ h => List.mem_cons_of_mem _ (List.mem_append_left _ (List.mem_append_right _ h))) (by decide +kernel))
set_option maxRecDepth 20000 in
theorem gX4_cover_X4_checkPlace : GoodIn wsX4_cover (wsV RX4 60 RX4 yX4_checkPlace wsX4_checkPlace) := goodIn_app (goodIn_of _ (by decide +kernel)) ggX4_cover_X4_checkPlace
set_option maxRecDepth 20000 in
theorem ggX4_cover_X2_covering : GoodIn wsX4_cover wsX2_covering := goodIn_ca (goodIn_r _ [13, 14, 15, 16, 17, 5, 18, 33, 34, 35, 36] (by decide +kernel) (by decide +kernel)) (goodIn_sub (fun _ h => List.mem_cons_of_mem _ (List.mem_append_right _ h)) (by decide +kernel))
set_option maxRecDepth 20000 in
theorem gX4_cover_X2_covering_n146 : GoodIn wsX4_cover (wsX2_covering) := ggX4_cover_X2_covering
theorem dX4_cover_0 : decode cX4_cover 0 = .ok (.aload_n 0, 1) := by decide +kernel
theorem dX4_cover_1 : decode cX4_cover 1 = .ok (.iload_n 1, 1) := by decide +kernel
theorem dX4_cover_2 : decode cX4_cover 2 = .ok (.invokevirtual 60, 3) := by decide +kernel
theorem dX4_cover_5 : decode cX4_cover 5 = .ok (.aload_n 0, 1) := by decide +kernel
theorem dX4_cover_6 : decode cX4_cover 6 = .ok (.getfield 19, 3) := by decide +kernel
theorem dX4_cover_9 : decode cX4_cover 9 = .ok (.iload_n 1, 1) := by decide +kernel
theorem dX4_cover_10 : decode cX4_cover 10 = .ok (.invokevirtual 146, 3) := by decide +kernel
theorem dX4_cover_13 : decode cX4_cover 13 = .ok (.ireturn, 1) := by decide +kernel
set_option maxRecDepth 20000 in
theorem ggX4_coverByLetters_X4_checkPlace : GoodIn wsX4_coverByLetters wsX4_checkPlace := goodIn_ca (goodIn_r _ [6, 7, 8, 1, 19, 20, 21, 22, 23, 24, 25, 26, 27, 28, 29, 30, 31, 32] (by decide +kernel) (by decide +kernel)) (goodIn_sub (fun _ h => List.mem_cons_of_mem _ (List.mem_append_left _ (List.mem_append_right _ h))) (by decide +kernel))
set_option maxRecDepth 20000 in
theorem gX4_coverByLetters_X4_checkPlace : GoodIn wsX4_coverByLetters (wsV RX4 60 RX4 yX4_checkPlace wsX4_checkPlace) := goodIn_app (goodIn_of _ (by decide +kernel)) ggX4_coverByLetters_X4_checkPlace
set_option maxRecDepth 20000 in
theorem ggX4_coverByLetters_X3_marksBehind : GoodIn wsX4_coverByLetters wsX3_marksBehind := goodIn_ca (goodIn_r _ [12, 13, 14, 15, 16, 10, 17, 18, 30, 31, 32] (by decide +kernel) (by decide +kernel)) (goodIn_sub (fun _ h => List.mem_cons_of_mem _ (List.mem_append_right _ h)) (by decide +kernel))
set_option maxRecDepth 20000 in
theorem gX4_coverByLetters_X3_marksBehind_n149 : GoodIn wsX4_coverByLetters (wsX3_marksBehind) := ggX4_coverByLetters_X3_marksBehind
theorem dX4_coverByLetters_0 : decode cX4_coverByLetters 0 = .ok (.aload_n 0, 1) := by decide +kernel
theorem dX4_coverByLetters_1 : decode cX4_coverByLetters 1 = .ok (.iload_n 1, 1) := by decide +kernel
theorem dX4_coverByLetters_2 : decode cX4_coverByLetters 2 = .ok (.invokevirtual 60, 3) := by decide +kernel
theorem dX4_coverByLetters_5 : decode cX4_coverByLetters 5 = .ok (.aload_n 0, 1) := by decide +kernel
theorem dX4_coverByLetters_6 : decode cX4_coverByLetters 6 = .ok (.getfield 10, 3) := by decide +kernel
theorem dX4_coverByLetters_9 : decode cX4_coverByLetters 9 = .ok (.iload_n 1, 1) := by decide +kernel
theorem dX4_coverByLetters_10 : decode cX4_coverByLetters 10 = .ok (.invokevirtual 149, 3) := by decide +kernel
theorem dX4_coverByLetters_13 : decode cX4_coverByLetters 13 = .ok (.ireturn, 1) := by decide +kernel
set_option maxRecDepth 20000 in
theorem ggX4_pieces_X4_beginsPiece : GoodIn wsX4_pieces wsX4_beginsPiece := goodIn_ca (goodIn_r _ [6, 7, 8, 9, 10, 11, 12, 13, 14, 15, 5, 16, 17, 18, 19, 20, 21, 22, 23, 24, 25, 26, 27, 31, 32, 33, 34] (by decide +kernel) (by decide +kernel)) (goodIn_sub (fun _ h => List.mem_cons_of_mem _ (List.mem_append_right _ h)) (by decide +kernel))
set_option maxRecDepth 20000 in
theorem gX4_pieces_X4_beginsPiece : GoodIn wsX4_pieces (wsV RX4 152 RX4 yX4_beginsPiece wsX4_beginsPiece) := goodIn_app (goodIn_of _ (by decide +kernel)) ggX4_pieces_X4_beginsPiece
theorem dX4_pieces_0 : decode cX4_pieces 0 = .ok (.iconst 0, 1) := by decide +kernel
theorem dX4_pieces_1 : decode cX4_pieces 1 = .ok (.istore_n 1, 1) := by decide +kernel
theorem dX4_pieces_2 : decode cX4_pieces 2 = .ok (.iconst 0, 1) := by decide +kernel
theorem dX4_pieces_3 : decode cX4_pieces 3 = .ok (.istore_n 2, 1) := by decide +kernel
theorem dX4_pieces_4 : decode cX4_pieces 4 = .ok (.iload_n 2, 1) := by decide +kernel
theorem dX4_pieces_5 : decode cX4_pieces 5 = .ok (.aload_n 0, 1) := by decide +kernel
theorem dX4_pieces_6 : decode cX4_pieces 6 = .ok (.getfield 10, 3) := by decide +kernel
theorem dX4_pieces_9 : decode cX4_pieces 9 = .ok (.getfield 78, 3) := by decide +kernel
theorem dX4_pieces_12 : decode cX4_pieces 12 = .ok (.if_icmp .ge 20, 3) := by decide +kernel
theorem dX4_pieces_15 : decode cX4_pieces 15 = .ok (.aload_n 0, 1) := by decide +kernel
theorem dX4_pieces_16 : decode cX4_pieces 16 = .ok (.iload_n 2, 1) := by decide +kernel
theorem dX4_pieces_17 : decode cX4_pieces 17 = .ok (.invokevirtual 152, 3) := by decide +kernel
theorem dX4_pieces_20 : decode cX4_pieces 20 = .ok (.ifCond .eq 6, 3) := by decide +kernel
theorem dX4_pieces_23 : decode cX4_pieces 23 = .ok (.iinc 1 1, 3) := by decide +kernel
theorem dX4_pieces_26 : decode cX4_pieces 26 = .ok (.iinc 2 1, 3) := by decide +kernel
theorem dX4_pieces_29 : decode cX4_pieces 29 = .ok (.goto (-25), 3) := by decide +kernel
theorem dX4_pieces_32 : decode cX4_pieces 32 = .ok (.iload_n 1, 1) := by decide +kernel
theorem dX4_pieces_33 : decode cX4_pieces 33 = .ok (.ireturn, 1) := by decide +kernel
set_option maxRecDepth 20000 in
theorem ggX4_pieceAt_X4_beginsPiece : GoodIn wsX4_pieceAt wsX4_beginsPiece := goodIn_ca (goodIn_r _ [8, 9, 10, 11, 12, 13, 14, 15, 16, 17, 7, 18, 19, 20, 21, 22, 23, 24, 25, 26, 27, 28, 29, 33, 34, 35, 36] (by decide +kernel) (by decide +kernel)) (goodIn_sub (fun _ h => List.mem_cons_of_mem _ (List.mem_append_right _ h)) (by decide +kernel))
set_option maxRecDepth 20000 in
theorem gX4_pieceAt_X4_beginsPiece : GoodIn wsX4_pieceAt (wsV RX4 152 RX4 yX4_beginsPiece wsX4_beginsPiece) := goodIn_app (goodIn_of _ (by decide +kernel)) ggX4_pieceAt_X4_beginsPiece
theorem dX4_pieceAt_0 : decode cX4_pieceAt 0 = .ok (.iconst 0, 1) := by decide +kernel
theorem dX4_pieceAt_1 : decode cX4_pieceAt 1 = .ok (.istore_n 2, 1) := by decide +kernel
theorem dX4_pieceAt_2 : decode cX4_pieceAt 2 = .ok (.iconst 0, 1) := by decide +kernel
theorem dX4_pieceAt_3 : decode cX4_pieceAt 3 = .ok (.istore_n 3, 1) := by decide +kernel
theorem dX4_pieceAt_4 : decode cX4_pieceAt 4 = .ok (.iload_n 3, 1) := by decide +kernel
theorem dX4_pieceAt_5 : decode cX4_pieceAt 5 = .ok (.aload_n 0, 1) := by decide +kernel
theorem dX4_pieceAt_6 : decode cX4_pieceAt 6 = .ok (.getfield 10, 3) := by decide +kernel
theorem dX4_pieceAt_9 : decode cX4_pieceAt 9 = .ok (.getfield 78, 3) := by decide +kernel
theorem dX4_pieceAt_12 : decode cX4_pieceAt 12 = .ok (.if_icmp .ge 27, 3) := by decide +kernel
theorem dX4_pieceAt_15 : decode cX4_pieceAt 15 = .ok (.aload_n 0, 1) := by decide +kernel
theorem dX4_pieceAt_16 : decode cX4_pieceAt 16 = .ok (.iload_n 3, 1) := by decide +kernel
theorem dX4_pieceAt_17 : decode cX4_pieceAt 17 = .ok (.invokevirtual 152, 3) := by decide +kernel
theorem dX4_pieceAt_20 : decode cX4_pieceAt 20 = .ok (.ifCond .eq 13, 3) := by decide +kernel
theorem dX4_pieceAt_23 : decode cX4_pieceAt 23 = .ok (.iload_n 2, 1) := by decide +kernel
theorem dX4_pieceAt_24 : decode cX4_pieceAt 24 = .ok (.iload_n 1, 1) := by decide +kernel
theorem dX4_pieceAt_25 : decode cX4_pieceAt 25 = .ok (.if_icmp .ne 5, 3) := by decide +kernel
theorem dX4_pieceAt_28 : decode cX4_pieceAt 28 = .ok (.iload_n 3, 1) := by decide +kernel
theorem dX4_pieceAt_29 : decode cX4_pieceAt 29 = .ok (.ireturn, 1) := by decide +kernel
theorem dX4_pieceAt_30 : decode cX4_pieceAt 30 = .ok (.iinc 2 1, 3) := by decide +kernel
theorem dX4_pieceAt_33 : decode cX4_pieceAt 33 = .ok (.iinc 3 1, 3) := by decide +kernel
theorem dX4_pieceAt_36 : decode cX4_pieceAt 36 = .ok (.goto (-32), 3) := by decide +kernel
theorem dX4_pieceAt_39 : decode cX4_pieceAt 39 = .ok (.new 138, 3) := by decide +kernel
theorem dX4_pieceAt_42 : decode cX4_pieceAt 42 = .ok (.dup, 1) := by decide +kernel
theorem dX4_pieceAt_43 : decode cX4_pieceAt 43 = .ok (.ldc 155, 2) := by decide +kernel
theorem dX4_pieceAt_45 : decode cX4_pieceAt 45 = .ok (.invokespecial 142, 3) := by decide +kernel
theorem dX4_pieceAt_48 : decode cX4_pieceAt 48 = .ok (.athrow, 1) := by decide +kernel
set_option maxRecDepth 20000 in
theorem ggX4_suggest_X4_checkRange : GoodIn wsX4_suggest wsX4_checkRange := goodIn_ca (goodIn_ca (goodIn_r _ [11, 12, 13, 14, 15, 16, 10, 17, 18, 19, 20, 37, 38, 39, 40, 41, 42, 43, 44, 45, 46, 47, 52, 53, 54] (by decide +kernel) (by decide +kernel)) (goodIn_sub (fun _ h => List.mem_cons_of_mem _ (List.mem_append_left _ (List.mem_append_right _ h))) (by decide +kernel))) (goodIn_sub (fun _ h => List.mem_cons_of_mem _ (List.mem_append_right _ h)) (by decide +kernel))
set_option maxRecDepth 20000 in
theorem gX4_suggest_X4_checkRange : GoodIn wsX4_suggest (wsV RX4 89 RX4 yX4_checkRange wsX4_checkRange) := goodIn_app (goodIn_of _ (by decide +kernel)) ggX4_suggest_X4_checkRange
set_option maxRecDepth 20000 in
theorem ggX4_suggest_X4_checkLetter : GoodIn wsX4_suggest wsX4_checkLetter := goodIn_ca (goodIn_r _ [24, 25, 26, 27, 10, 28, 12, 13] (by decide +kernel) (by decide +kernel)) (goodIn_sub (fun _ h => List.mem_cons_of_mem _ (List.mem_append_left _ (List.mem_append_right _ h))) (by decide +kernel))
set_option maxRecDepth 20000 in
theorem gX4_suggest_X4_checkLetter : GoodIn wsX4_suggest (wsV RX4 64 RX4 yX4_checkLetter wsX4_checkLetter) := goodIn_app (goodIn_of _ (by decide +kernel)) ggX4_suggest_X4_checkLetter
set_option maxRecDepth 20000 in
theorem ggX4_suggest_X4_checkAmong : GoodIn wsX4_suggest wsX4_checkAmong := goodIn_ca (goodIn_r _ [28, 12, 13] (by decide +kernel) (by decide +kernel)) (goodIn_sub (fun _ h => List.mem_cons_of_mem _ (List.mem_append_left _ (List.mem_append_right _ h))) (by decide +kernel))
set_option maxRecDepth 20000 in
theorem gX4_suggest_X4_checkAmong : GoodIn wsX4_suggest (wsV RX4 67 RX4 yX4_checkAmong wsX4_checkAmong) := goodIn_app (goodIn_of _ (by decide +kernel)) ggX4_suggest_X4_checkAmong
set_option maxRecDepth 20000 in
theorem ggX4_suggest_X2_add : GoodIn wsX4_suggest wsX2_add := goodIn_ca (goodIn_r _ [32, 33, 34, 35, 36, 48, 49, 50, 51] (by decide +kernel) (by decide +kernel)) (goodIn_sub (fun _ h => List.mem_cons_of_mem _ (List.mem_append_left _ (List.mem_append_left _ (List.mem_append_right _ h)))) (by decide +kernel))
set_option maxRecDepth 20000 in
theorem gX4_suggest_X2_add_n102 : GoodIn wsX4_suggest (wsX2_add) := ggX4_suggest_X2_add
theorem dX4_suggest_0 : decode cX4_suggest 0 = .ok (.aload_n 0, 1) := by decide +kernel
theorem dX4_suggest_1 : decode cX4_suggest 1 = .ok (.iload_n 1, 1) := by decide +kernel
theorem dX4_suggest_2 : decode cX4_suggest 2 = .ok (.iload_n 2, 1) := by decide +kernel
theorem dX4_suggest_3 : decode cX4_suggest 3 = .ok (.invokevirtual 89, 3) := by decide +kernel
theorem dX4_suggest_6 : decode cX4_suggest 6 = .ok (.aload_n 0, 1) := by decide +kernel
theorem dX4_suggest_7 : decode cX4_suggest 7 = .ok (.iload_n 3, 1) := by decide +kernel
theorem dX4_suggest_8 : decode cX4_suggest 8 = .ok (.invokevirtual 64, 3) := by decide +kernel
theorem dX4_suggest_11 : decode cX4_suggest 11 = .ok (.aload_n 0, 1) := by decide +kernel
theorem dX4_suggest_12 : decode cX4_suggest 12 = .ok (.iload 4, 2) := by decide +kernel
theorem dX4_suggest_14 : decode cX4_suggest 14 = .ok (.iconst 0, 1) := by decide +kernel
theorem dX4_suggest_15 : decode cX4_suggest 15 = .ok (.iconst 5, 1) := by decide +kernel
theorem dX4_suggest_16 : decode cX4_suggest 16 = .ok (.invokevirtual 67, 3) := by decide +kernel
theorem dX4_suggest_19 : decode cX4_suggest 19 = .ok (.aload_n 0, 1) := by decide +kernel
theorem dX4_suggest_20 : decode cX4_suggest 20 = .ok (.getfield 48, 3) := by decide +kernel
theorem dX4_suggest_23 : decode cX4_suggest 23 = .ok (.getfield 92, 3) := by decide +kernel
theorem dX4_suggest_26 : decode cX4_suggest 26 = .ok (.bipush 10, 2) := by decide +kernel
theorem dX4_suggest_28 : decode cX4_suggest 28 = .ok (.if_icmp .lt 13, 3) := by decide +kernel
theorem dX4_suggest_31 : decode cX4_suggest 31 = .ok (.new 95, 3) := by decide +kernel
theorem dX4_suggest_34 : decode cX4_suggest 34 = .ok (.dup, 1) := by decide +kernel
theorem dX4_suggest_35 : decode cX4_suggest 35 = .ok (.ldc 157, 2) := by decide +kernel
theorem dX4_suggest_37 : decode cX4_suggest 37 = .ok (.invokespecial 99, 3) := by decide +kernel
theorem dX4_suggest_40 : decode cX4_suggest 40 = .ok (.athrow, 1) := by decide +kernel
theorem dX4_suggest_41 : decode cX4_suggest 41 = .ok (.aload_n 0, 1) := by decide +kernel
theorem dX4_suggest_42 : decode cX4_suggest 42 = .ok (.getfield 48, 3) := by decide +kernel
theorem dX4_suggest_45 : decode cX4_suggest 45 = .ok (.iload_n 1, 1) := by decide +kernel
theorem dX4_suggest_46 : decode cX4_suggest 46 = .ok (.iload_n 2, 1) := by decide +kernel
theorem dX4_suggest_47 : decode cX4_suggest 47 = .ok (.iconst 0, 1) := by decide +kernel
theorem dX4_suggest_48 : decode cX4_suggest 48 = .ok (.invokevirtual 102, 3) := by decide +kernel
theorem dX4_suggest_51 : decode cX4_suggest 51 = .ok (.istore 5, 2) := by decide +kernel
theorem dX4_suggest_53 : decode cX4_suggest 53 = .ok (.aload_n 0, 1) := by decide +kernel
theorem dX4_suggest_54 : decode cX4_suggest 54 = .ok (.getfield 51, 3) := by decide +kernel
theorem dX4_suggest_57 : decode cX4_suggest 57 = .ok (.iload 5, 2) := by decide +kernel
theorem dX4_suggest_59 : decode cX4_suggest 59 = .ok (.iload_n 3, 1) := by decide +kernel
theorem dX4_suggest_60 : decode cX4_suggest 60 = .ok (.iastore, 1) := by decide +kernel
theorem dX4_suggest_61 : decode cX4_suggest 61 = .ok (.aload_n 0, 1) := by decide +kernel
theorem dX4_suggest_62 : decode cX4_suggest 62 = .ok (.getfield 54, 3) := by decide +kernel
theorem dX4_suggest_65 : decode cX4_suggest 65 = .ok (.iload 5, 2) := by decide +kernel
theorem dX4_suggest_67 : decode cX4_suggest 67 = .ok (.iload 4, 2) := by decide +kernel
theorem dX4_suggest_69 : decode cX4_suggest 69 = .ok (.iastore, 1) := by decide +kernel
theorem dX4_suggest_70 : decode cX4_suggest 70 = .ok (.aload_n 0, 1) := by decide +kernel
theorem dX4_suggest_71 : decode cX4_suggest 71 = .ok (.getfield 57, 3) := by decide +kernel
theorem dX4_suggest_74 : decode cX4_suggest 74 = .ok (.iload 5, 2) := by decide +kernel
theorem dX4_suggest_76 : decode cX4_suggest 76 = .ok (.iconst 0, 1) := by decide +kernel
theorem dX4_suggest_77 : decode cX4_suggest 77 = .ok (.iastore, 1) := by decide +kernel
theorem dX4_suggest_78 : decode cX4_suggest 78 = .ok (.iload 5, 2) := by decide +kernel
theorem dX4_suggest_80 : decode cX4_suggest 80 = .ok (.ireturn, 1) := by decide +kernel
set_option maxRecDepth 20000 in
theorem ggX4_accept_X4_checkSuggestion : GoodIn wsX4_accept wsX4_checkSuggestion := goodIn_ca (goodIn_r _ [12, 13, 14, 3, 132, 133, 134, 135, 136, 137, 138, 139, 140, 141, 142, 143, 144, 145, 146] (by decide +kernel) (by decide +kernel)) (goodIn_sub (fun _ h => List.mem_cons_of_mem _ (List.mem_append_right _ h)) (by decide +kernel))
set_option maxRecDepth 20000 in
theorem gX4_accept_X4_checkSuggestion : GoodIn wsX4_accept (wsV RX4 159 RX4 yX4_checkSuggestion wsX4_checkSuggestion) := goodIn_app (goodIn_of _ (by decide +kernel)) ggX4_accept_X4_checkSuggestion
set_option maxRecDepth 20000 in
theorem ggX4_accept_X4_checkWaiting : GoodIn wsX4_accept wsX4_checkWaiting := goodIn_ca (goodIn_ca (goodIn_r _ [18, 1, 2, 5, 132, 133, 134, 135, 136, 137, 138, 139, 140, 141, 142] (by decide +kernel) (by decide +kernel)) (goodIn_sub (fun _ h => List.mem_cons_of_mem _ (List.mem_append_left _ (List.mem_append_right _ h))) (by decide +kernel))) (goodIn_sub (fun _ h => List.mem_cons_of_mem _ (List.mem_append_left _ (List.mem_append_left _ (List.mem_append_right _ h)))) (by decide +kernel))
set_option maxRecDepth 20000 in
theorem gX4_accept_X4_checkWaiting : GoodIn wsX4_accept (wsV RX4 162 RX4 yX4_checkWaiting wsX4_checkWaiting) := goodIn_app (goodIn_of _ (by decide +kernel)) ggX4_accept_X4_checkWaiting
set_option maxRecDepth 20000 in
theorem ggX4_accept_X4_overlapping : GoodIn wsX4_accept wsX4_overlapping := goodIn_ca (goodIn_r _ [22, 5, 3, 23, 24, 25, 26, 27, 28, 29, 30, 31, 32, 33, 34, 35, 36, 37, 11, 38, 132, 133, 134, 135, 136, 137, 138, 139, 140, 141, 142, 143, 144, 145, 146] (by decide +kernel) (by decide +kernel)) (goodIn_sub (fun _ h => List.mem_cons_of_mem _ (List.mem_append_left _ (List.mem_append_right _ h))) (by decide +kernel))
set_option maxRecDepth 20000 in
theorem gX4_accept_X4_overlapping : GoodIn wsX4_accept (wsV RX4 165 RX4 yX4_overlapping wsX4_overlapping) := goodIn_app (goodIn_of _ (by decide +kernel)) ggX4_accept_X4_overlapping
set_option maxRecDepth 20000 in
theorem ggX4_accept_X4_checkRoom : GoodIn wsX4_accept wsX4_checkRoom := goodIn_ca (goodIn_r _ [42, 1, 2, 7, 43, 132, 133, 134, 135, 136, 137, 138, 139, 140, 141, 142, 147, 148, 149] (by decide +kernel) (by decide +kernel)) (goodIn_sub (fun _ h => List.mem_cons_of_mem _ (List.mem_append_left _ (List.mem_append_left _ (List.mem_append_right _ h)))) (by decide +kernel))
set_option maxRecDepth 20000 in
theorem gX4_accept_X4_checkRoom : GoodIn wsX4_accept (wsV RX4 71 RX4 yX4_checkRoom wsX4_checkRoom) := goodIn_app (goodIn_of _ (by decide +kernel)) ggX4_accept_X4_checkRoom
set_option maxRecDepth 20000 in
theorem ggX4_accept_X4_takeLettersOut : GoodIn wsX4_accept wsX4_takeLettersOut := goodIn_ca (goodIn_r _ [47, 48, 3, 7, 49, 50, 51, 11, 52, 53, 43, 54, 55, 56, 57, 58, 59, 24, 60, 61, 27, 32, 62, 63, 64, 65, 66, 67, 68, 69, 70, 71, 72, 28, 29, 30, 31, 37, 38, 73, 74, 75, 76, 5, 36, 77, 78, 79, 80, 81, 82, 83, 84, 85, 86, 87, 88, 89, 90, 91, 92, 93, 94, 95, 96, 97, 98, 132, 133, 134, 135, 136, 137, 138, 139, 140, 141, 142, 143, 144, 145, 146, 150, 147, 148, 149] (by decide +kernel) (by decide +kernel)) (goodIn_sub (fun _ h => List.mem_cons_of_mem _ (List.mem_append_left _ (List.mem_append_right _ h))) (by decide +kernel))
set_option maxRecDepth 20000 in
theorem gX4_accept_X4_takeLettersOut : GoodIn wsX4_accept (wsV RX4 81 RX4 yX4_takeLettersOut wsX4_takeLettersOut) := goodIn_app (goodIn_of _ (by decide +kernel)) ggX4_accept_X4_takeLettersOut
set_option maxRecDepth 20000 in
theorem ggX4_accept_X4_putLettersIn : GoodIn wsX4_accept wsX4_putLettersIn := goodIn_ca (goodIn_r _ [102, 48, 3, 7, 49, 50, 51, 11, 52, 53, 43, 54, 55, 56, 57, 58, 59, 24, 60, 61, 27, 32, 62, 63, 64, 65, 103, 104, 105, 69, 106, 107, 108, 109, 110, 78, 111, 112, 86, 91, 81, 82, 83, 84, 85, 87, 88, 89, 90, 113, 114, 115, 116, 117, 118, 119, 120, 121, 122, 123, 124, 125, 126, 127, 128, 37, 38, 129, 130, 131, 132, 133, 134, 135, 136, 137, 138, 139, 140, 141, 142, 143, 144, 145, 146, 150, 147, 148, 149, 151, 152, 153, 154, 155, 156, 157, 158, 159, 160] (by decide +kernel) (by decide +kernel)) (goodIn_sub (fun _ h => List.mem_cons_of_mem _ (List.mem_append_left _ (List.mem_append_right _ h))) (by decide +kernel))
set_option maxRecDepth 20000 in
theorem gX4_accept_X4_putLettersIn : GoodIn wsX4_accept (wsV RX4 75 RX4 yX4_putLettersIn wsX4_putLettersIn) := goodIn_app (goodIn_of _ (by decide +kernel)) ggX4_accept_X4_putLettersIn
theorem dX4_accept_0 : decode cX4_accept 0 = .ok (.aload_n 0, 1) := by decide +kernel
theorem dX4_accept_1 : decode cX4_accept 1 = .ok (.iload_n 1, 1) := by decide +kernel
theorem dX4_accept_2 : decode cX4_accept 2 = .ok (.invokevirtual 159, 3) := by decide +kernel
theorem dX4_accept_5 : decode cX4_accept 5 = .ok (.aload_n 0, 1) := by decide +kernel
theorem dX4_accept_6 : decode cX4_accept 6 = .ok (.iload_n 1, 1) := by decide +kernel
theorem dX4_accept_7 : decode cX4_accept 7 = .ok (.invokevirtual 162, 3) := by decide +kernel
theorem dX4_accept_10 : decode cX4_accept 10 = .ok (.aload_n 0, 1) := by decide +kernel
theorem dX4_accept_11 : decode cX4_accept 11 = .ok (.iload_n 1, 1) := by decide +kernel
theorem dX4_accept_12 : decode cX4_accept 12 = .ok (.invokevirtual 165, 3) := by decide +kernel
theorem dX4_accept_15 : decode cX4_accept 15 = .ok (.ifCond .eq 13, 3) := by decide +kernel
theorem dX4_accept_18 : decode cX4_accept 18 = .ok (.new 95, 3) := by decide +kernel
theorem dX4_accept_21 : decode cX4_accept 21 = .ok (.dup, 1) := by decide +kernel
theorem dX4_accept_22 : decode cX4_accept 22 = .ok (.ldc 168, 2) := by decide +kernel
theorem dX4_accept_24 : decode cX4_accept 24 = .ok (.invokespecial 99, 3) := by decide +kernel
theorem dX4_accept_27 : decode cX4_accept 27 = .ok (.athrow, 1) := by decide +kernel
theorem dX4_accept_28 : decode cX4_accept 28 = .ok (.aload_n 0, 1) := by decide +kernel
theorem dX4_accept_29 : decode cX4_accept 29 = .ok (.getfield 48, 3) := by decide +kernel
theorem dX4_accept_32 : decode cX4_accept 32 = .ok (.getfield 170, 3) := by decide +kernel
theorem dX4_accept_35 : decode cX4_accept 35 = .ok (.iload_n 1, 1) := by decide +kernel
theorem dX4_accept_36 : decode cX4_accept 36 = .ok (.iaload, 1) := by decide +kernel
theorem dX4_accept_37 : decode cX4_accept 37 = .ok (.istore_n 2, 1) := by decide +kernel
theorem dX4_accept_38 : decode cX4_accept 38 = .ok (.aload_n 0, 1) := by decide +kernel
theorem dX4_accept_39 : decode cX4_accept 39 = .ok (.getfield 48, 3) := by decide +kernel
theorem dX4_accept_42 : decode cX4_accept 42 = .ok (.getfield 173, 3) := by decide +kernel
theorem dX4_accept_45 : decode cX4_accept 45 = .ok (.iload_n 1, 1) := by decide +kernel
theorem dX4_accept_46 : decode cX4_accept 46 = .ok (.iaload, 1) := by decide +kernel
theorem dX4_accept_47 : decode cX4_accept 47 = .ok (.iload_n 2, 1) := by decide +kernel
theorem dX4_accept_48 : decode cX4_accept 48 = .ok (.isub, 1) := by decide +kernel
theorem dX4_accept_49 : decode cX4_accept 49 = .ok (.istore_n 3, 1) := by decide +kernel
theorem dX4_accept_50 : decode cX4_accept 50 = .ok (.aload_n 0, 1) := by decide +kernel
theorem dX4_accept_51 : decode cX4_accept 51 = .ok (.getfield 54, 3) := by decide +kernel
theorem dX4_accept_54 : decode cX4_accept 54 = .ok (.iload_n 1, 1) := by decide +kernel
theorem dX4_accept_55 : decode cX4_accept 55 = .ok (.iaload, 1) := by decide +kernel
theorem dX4_accept_56 : decode cX4_accept 56 = .ok (.istore 4, 2) := by decide +kernel
theorem dX4_accept_58 : decode cX4_accept 58 = .ok (.aload_n 0, 1) := by decide +kernel
theorem dX4_accept_59 : decode cX4_accept 59 = .ok (.iload 4, 2) := by decide +kernel
theorem dX4_accept_61 : decode cX4_accept 61 = .ok (.iload_n 3, 1) := by decide +kernel
theorem dX4_accept_62 : decode cX4_accept 62 = .ok (.isub, 1) := by decide +kernel
theorem dX4_accept_63 : decode cX4_accept 63 = .ok (.iload 4, 2) := by decide +kernel
theorem dX4_accept_65 : decode cX4_accept 65 = .ok (.ifCond .ne 7, 3) := by decide +kernel
theorem dX4_accept_68 : decode cX4_accept 68 = .ok (.iconst 1, 1) := by decide +kernel
theorem dX4_accept_69 : decode cX4_accept 69 = .ok (.goto 4, 3) := by decide +kernel
theorem dX4_accept_72 : decode cX4_accept 72 = .ok (.iconst 2, 1) := by decide +kernel
theorem dX4_accept_73 : decode cX4_accept 73 = .ok (.invokevirtual 71, 3) := by decide +kernel
theorem dX4_accept_76 : decode cX4_accept 76 = .ok (.aload_n 0, 1) := by decide +kernel
theorem dX4_accept_77 : decode cX4_accept 77 = .ok (.getfield 57, 3) := by decide +kernel
theorem dX4_accept_80 : decode cX4_accept 80 = .ok (.iload_n 1, 1) := by decide +kernel
theorem dX4_accept_81 : decode cX4_accept 81 = .ok (.iconst 1, 1) := by decide +kernel
theorem dX4_accept_82 : decode cX4_accept 82 = .ok (.iastore, 1) := by decide +kernel
theorem dX4_accept_83 : decode cX4_accept 83 = .ok (.aload_n 0, 1) := by decide +kernel
theorem dX4_accept_84 : decode cX4_accept 84 = .ok (.iload_n 2, 1) := by decide +kernel
theorem dX4_accept_85 : decode cX4_accept 85 = .ok (.iload_n 3, 1) := by decide +kernel
theorem dX4_accept_86 : decode cX4_accept 86 = .ok (.invokevirtual 81, 3) := by decide +kernel
theorem dX4_accept_89 : decode cX4_accept 89 = .ok (.pop, 1) := by decide +kernel
theorem dX4_accept_90 : decode cX4_accept 90 = .ok (.iload 4, 2) := by decide +kernel
theorem dX4_accept_92 : decode cX4_accept 92 = .ok (.ifCond .le 16, 3) := by decide +kernel
theorem dX4_accept_95 : decode cX4_accept 95 = .ok (.aload_n 0, 1) := by decide +kernel
theorem dX4_accept_96 : decode cX4_accept 96 = .ok (.iload_n 2, 1) := by decide +kernel
theorem dX4_accept_97 : decode cX4_accept 97 = .ok (.aload_n 0, 1) := by decide +kernel
theorem dX4_accept_98 : decode cX4_accept 98 = .ok (.getfield 51, 3) := by decide +kernel
theorem dX4_accept_101 : decode cX4_accept 101 = .ok (.iload_n 1, 1) := by decide +kernel
theorem dX4_accept_102 : decode cX4_accept 102 = .ok (.iaload, 1) := by decide +kernel
theorem dX4_accept_103 : decode cX4_accept 103 = .ok (.iload 4, 2) := by decide +kernel
theorem dX4_accept_105 : decode cX4_accept 105 = .ok (.invokevirtual 75, 3) := by decide +kernel
theorem dX4_accept_108 : decode cX4_accept 108 = .ok (.aload_n 0, 1) := by decide +kernel
theorem dX4_accept_109 : decode cX4_accept 109 = .ok (.getfield 10, 3) := by decide +kernel
theorem dX4_accept_112 : decode cX4_accept 112 = .ok (.getfield 78, 3) := by decide +kernel
theorem dX4_accept_115 : decode cX4_accept 115 = .ok (.ireturn, 1) := by decide +kernel
set_option maxRecDepth 20000 in
theorem ggX4_reject_X4_checkSuggestion : GoodIn wsX4_reject wsX4_checkSuggestion := goodIn_ca (goodIn_r _ [6, 7, 8, 9, 20, 21, 22, 23, 24, 25, 26, 27, 28, 29, 30, 31, 32, 33, 34] (by decide +kernel) (by decide +kernel)) (goodIn_sub (fun _ h => List.mem_cons_of_mem _ (List.mem_append_left _ (List.mem_append_right _ h))) (by decide +kernel))
set_option maxRecDepth 20000 in
theorem gX4_reject_X4_checkSuggestion : GoodIn wsX4_reject (wsV RX4 159 RX4 yX4_checkSuggestion wsX4_checkSuggestion) := goodIn_app (goodIn_of _ (by decide +kernel)) ggX4_reject_X4_checkSuggestion
set_option maxRecDepth 20000 in
theorem ggX4_reject_X4_checkWaiting : GoodIn wsX4_reject wsX4_checkWaiting := goodIn_ca (goodIn_ca (goodIn_r _ [13, 14, 15, 1, 20, 21, 22, 23, 24, 25, 26, 27, 28, 29, 30] (by decide +kernel) (by decide +kernel)) (goodIn_sub (fun _ h => List.mem_cons_of_mem _ (List.mem_append_left _ (List.mem_append_left _ (List.mem_append_right _ h)))) (by decide +kernel))) (goodIn_sub (fun _ h => List.mem_cons_of_mem _ (List.mem_append_right _ h)) (by decide +kernel))
set_option maxRecDepth 20000 in
theorem gX4_reject_X4_checkWaiting : GoodIn wsX4_reject (wsV RX4 162 RX4 yX4_checkWaiting wsX4_checkWaiting) := goodIn_app (goodIn_of _ (by decide +kernel)) ggX4_reject_X4_checkWaiting
set_option maxRecDepth 20000 in
theorem ggX4_reject_X4_countWaiting : GoodIn wsX4_reject wsX4_countWaiting := goodIn_ca (goodIn_r _ [19, 9, 1, 20, 21, 22, 23, 24, 25, 26, 27, 28, 29, 30, 31, 32, 33, 34] (by decide +kernel) (by decide +kernel)) (goodIn_sub (fun _ h => List.mem_cons_of_mem _ (List.mem_append_left _ (List.mem_append_left _ (List.mem_append_right _ h)))) (by decide +kernel))
set_option maxRecDepth 20000 in
theorem gX4_reject_X4_countWaiting : GoodIn wsX4_reject (wsV RX4 176 RX4 yX4_countWaiting wsX4_countWaiting) := goodIn_app (goodIn_of _ (by decide +kernel)) ggX4_reject_X4_countWaiting
theorem dX4_reject_0 : decode cX4_reject 0 = .ok (.aload_n 0, 1) := by decide +kernel
theorem dX4_reject_1 : decode cX4_reject 1 = .ok (.iload_n 1, 1) := by decide +kernel
theorem dX4_reject_2 : decode cX4_reject 2 = .ok (.invokevirtual 159, 3) := by decide +kernel
theorem dX4_reject_5 : decode cX4_reject 5 = .ok (.aload_n 0, 1) := by decide +kernel
theorem dX4_reject_6 : decode cX4_reject 6 = .ok (.iload_n 1, 1) := by decide +kernel
theorem dX4_reject_7 : decode cX4_reject 7 = .ok (.invokevirtual 162, 3) := by decide +kernel
theorem dX4_reject_10 : decode cX4_reject 10 = .ok (.aload_n 0, 1) := by decide +kernel
theorem dX4_reject_11 : decode cX4_reject 11 = .ok (.getfield 57, 3) := by decide +kernel
theorem dX4_reject_14 : decode cX4_reject 14 = .ok (.iload_n 1, 1) := by decide +kernel
theorem dX4_reject_15 : decode cX4_reject 15 = .ok (.iconst 2, 1) := by decide +kernel
theorem dX4_reject_16 : decode cX4_reject 16 = .ok (.iastore, 1) := by decide +kernel
theorem dX4_reject_17 : decode cX4_reject 17 = .ok (.aload_n 0, 1) := by decide +kernel
theorem dX4_reject_18 : decode cX4_reject 18 = .ok (.invokevirtual 176, 3) := by decide +kernel
theorem dX4_reject_21 : decode cX4_reject 21 = .ok (.ireturn, 1) := by decide +kernel
set_option maxRecDepth 20000 in
theorem ggX4_stateOf_X4_checkSuggestion : GoodIn wsX4_stateOf wsX4_checkSuggestion := goodIn_ca (goodIn_r _ [6, 7, 8, 9, 10, 11, 12, 13, 14, 15, 16, 17, 18, 19, 20, 21, 22, 23, 24] (by decide +kernel) (by decide +kernel)) (goodIn_sub (fun _ h => List.mem_cons_of_mem _ (List.mem_append_right _ h)) (by decide +kernel))
set_option maxRecDepth 20000 in
theorem gX4_stateOf_X4_checkSuggestion : GoodIn wsX4_stateOf (wsV RX4 159 RX4 yX4_checkSuggestion wsX4_checkSuggestion) := goodIn_app (goodIn_of _ (by decide +kernel)) ggX4_stateOf_X4_checkSuggestion
theorem dX4_stateOf_0 : decode cX4_stateOf 0 = .ok (.aload_n 0, 1) := by decide +kernel
theorem dX4_stateOf_1 : decode cX4_stateOf 1 = .ok (.iload_n 1, 1) := by decide +kernel
theorem dX4_stateOf_2 : decode cX4_stateOf 2 = .ok (.invokevirtual 159, 3) := by decide +kernel
theorem dX4_stateOf_5 : decode cX4_stateOf 5 = .ok (.aload_n 0, 1) := by decide +kernel
theorem dX4_stateOf_6 : decode cX4_stateOf 6 = .ok (.getfield 57, 3) := by decide +kernel
theorem dX4_stateOf_9 : decode cX4_stateOf 9 = .ok (.iload_n 1, 1) := by decide +kernel
theorem dX4_stateOf_10 : decode cX4_stateOf 10 = .ok (.iaload, 1) := by decide +kernel
theorem dX4_stateOf_11 : decode cX4_stateOf 11 = .ok (.ireturn, 1) := by decide +kernel
set_option maxRecDepth 20000 in
theorem ggX4_overlaps_X4_checkSuggestion : GoodIn wsX4_overlaps wsX4_checkSuggestion := goodIn_ca (goodIn_r _ [5, 6, 7, 8, 30, 31, 32, 33, 34, 35, 36, 37, 38, 39, 40, 41, 42, 43, 44] (by decide +kernel) (by decide +kernel)) (goodIn_sub (fun _ h => List.mem_cons_of_mem _ (List.mem_append_left _ (List.mem_append_right _ h))) (by decide +kernel))
set_option maxRecDepth 20000 in
theorem gX4_overlaps_X4_checkSuggestion : GoodIn wsX4_overlaps (wsV RX4 159 RX4 yX4_checkSuggestion wsX4_checkSuggestion) := goodIn_app (goodIn_of _ (by decide +kernel)) ggX4_overlaps_X4_checkSuggestion
set_option maxRecDepth 20000 in
theorem ggX4_overlaps_X4_overlapping : GoodIn wsX4_overlaps wsX4_overlapping := goodIn_ca (goodIn_r _ [12, 13, 8, 14, 15, 16, 17, 18, 19, 20, 21, 22, 23, 24, 25, 26, 27, 28, 4, 29, 30, 31, 32, 33, 34, 35, 36, 37, 38, 39, 40, 41, 42, 43, 44] (by decide +kernel) (by decide +kernel)) (goodIn_sub (fun _ h => List.mem_cons_of_mem _ (List.mem_append_right _ h)) (by decide +kernel))
set_option maxRecDepth 20000 in
theorem gX4_overlaps_X4_overlapping : GoodIn wsX4_overlaps (wsV RX4 165 RX4 yX4_overlapping wsX4_overlapping) := goodIn_app (goodIn_of _ (by decide +kernel)) ggX4_overlaps_X4_overlapping
theorem dX4_overlaps_0 : decode cX4_overlaps 0 = .ok (.aload_n 0, 1) := by decide +kernel
theorem dX4_overlaps_1 : decode cX4_overlaps 1 = .ok (.iload_n 1, 1) := by decide +kernel
theorem dX4_overlaps_2 : decode cX4_overlaps 2 = .ok (.invokevirtual 159, 3) := by decide +kernel
theorem dX4_overlaps_5 : decode cX4_overlaps 5 = .ok (.aload_n 0, 1) := by decide +kernel
theorem dX4_overlaps_6 : decode cX4_overlaps 6 = .ok (.iload_n 1, 1) := by decide +kernel
theorem dX4_overlaps_7 : decode cX4_overlaps 7 = .ok (.invokevirtual 165, 3) := by decide +kernel
theorem dX4_overlaps_10 : decode cX4_overlaps 10 = .ok (.ireturn, 1) := by decide +kernel
theorem dX4_checkPlace_0 : decode cX4_checkPlace 0 = .ok (.iload_n 1, 1) := by decide +kernel
theorem dX4_checkPlace_1 : decode cX4_checkPlace 1 = .ok (.ifCond .lt 14, 3) := by decide +kernel
theorem dX4_checkPlace_4 : decode cX4_checkPlace 4 = .ok (.iload_n 1, 1) := by decide +kernel
theorem dX4_checkPlace_5 : decode cX4_checkPlace 5 = .ok (.aload_n 0, 1) := by decide +kernel
theorem dX4_checkPlace_6 : decode cX4_checkPlace 6 = .ok (.getfield 10, 3) := by decide +kernel
theorem dX4_checkPlace_9 : decode cX4_checkPlace 9 = .ok (.getfield 78, 3) := by decide +kernel
theorem dX4_checkPlace_12 : decode cX4_checkPlace 12 = .ok (.if_icmp .le 13, 3) := by decide +kernel
theorem dX4_checkPlace_15 : decode cX4_checkPlace 15 = .ok (.new 138, 3) := by decide +kernel
theorem dX4_checkPlace_18 : decode cX4_checkPlace 18 = .ok (.dup, 1) := by decide +kernel
theorem dX4_checkPlace_19 : decode cX4_checkPlace 19 = .ok (.ldc 180, 2) := by decide +kernel
theorem dX4_checkPlace_21 : decode cX4_checkPlace 21 = .ok (.invokespecial 142, 3) := by decide +kernel
theorem dX4_checkPlace_24 : decode cX4_checkPlace 24 = .ok (.athrow, 1) := by decide +kernel
theorem dX4_checkPlace_25 : decode cX4_checkPlace 25 = .ok (.return_, 1) := by decide +kernel
set_option maxRecDepth 20000 in
theorem ggX4_checkRange_X4_checkPlace : GoodIn wsX4_checkRange wsX4_checkPlace := goodIn_ca (goodIn_r _ [7, 8, 9, 10, 11, 12, 13, 14, 15, 16, 17, 18, 19, 20, 21, 22, 23, 24] (by decide +kernel) (by decide +kernel)) (goodIn_sub (fun _ h => List.mem_cons_of_mem _ (List.mem_append_right _ h)) (by decide +kernel))
set_option maxRecDepth 20000 in
theorem gX4_checkRange_X4_checkPlace : GoodIn wsX4_checkRange (wsV RX4 60 RX4 yX4_checkPlace wsX4_checkPlace) := goodIn_app (goodIn_of _ (by decide +kernel)) ggX4_checkRange_X4_checkPlace
theorem dX4_checkRange_0 : decode cX4_checkRange 0 = .ok (.aload_n 0, 1) := by decide +kernel
theorem dX4_checkRange_1 : decode cX4_checkRange 1 = .ok (.iload_n 1, 1) := by decide +kernel
theorem dX4_checkRange_2 : decode cX4_checkRange 2 = .ok (.invokevirtual 60, 3) := by decide +kernel
theorem dX4_checkRange_5 : decode cX4_checkRange 5 = .ok (.aload_n 0, 1) := by decide +kernel
theorem dX4_checkRange_6 : decode cX4_checkRange 6 = .ok (.iload_n 2, 1) := by decide +kernel
theorem dX4_checkRange_7 : decode cX4_checkRange 7 = .ok (.invokevirtual 60, 3) := by decide +kernel
theorem dX4_checkRange_10 : decode cX4_checkRange 10 = .ok (.iload_n 2, 1) := by decide +kernel
theorem dX4_checkRange_11 : decode cX4_checkRange 11 = .ok (.iload_n 1, 1) := by decide +kernel
theorem dX4_checkRange_12 : decode cX4_checkRange 12 = .ok (.if_icmp .gt 13, 3) := by decide +kernel
theorem dX4_checkRange_15 : decode cX4_checkRange 15 = .ok (.new 182, 3) := by decide +kernel
theorem dX4_checkRange_18 : decode cX4_checkRange 18 = .ok (.dup, 1) := by decide +kernel
theorem dX4_checkRange_19 : decode cX4_checkRange 19 = .ok (.ldc 184, 2) := by decide +kernel
theorem dX4_checkRange_21 : decode cX4_checkRange 21 = .ok (.invokespecial 186, 3) := by decide +kernel
theorem dX4_checkRange_24 : decode cX4_checkRange 24 = .ok (.athrow, 1) := by decide +kernel
theorem dX4_checkRange_25 : decode cX4_checkRange 25 = .ok (.return_, 1) := by decide +kernel
set_option maxRecDepth 20000 in
theorem ggX4_checkLetter_X4_checkAmong : GoodIn wsX4_checkLetter wsX4_checkAmong := goodIn_ca (goodIn_r _ [5, 6, 7] (by decide +kernel) (by decide +kernel)) (goodIn_sub (fun _ h => List.mem_cons_of_mem _ (List.mem_append_right _ h)) (by decide +kernel))
set_option maxRecDepth 20000 in
theorem gX4_checkLetter_X4_checkAmong : GoodIn wsX4_checkLetter (wsV RX4 67 RX4 yX4_checkAmong wsX4_checkAmong) := goodIn_app (goodIn_of _ (by decide +kernel)) ggX4_checkLetter_X4_checkAmong
theorem dX4_checkLetter_0 : decode cX4_checkLetter 0 = .ok (.aload_n 0, 1) := by decide +kernel
theorem dX4_checkLetter_1 : decode cX4_checkLetter 1 = .ok (.iload_n 1, 1) := by decide +kernel
theorem dX4_checkLetter_2 : decode cX4_checkLetter 2 = .ok (.iconst 0, 1) := by decide +kernel
theorem dX4_checkLetter_3 : decode cX4_checkLetter 3 = .ok (.bipush 25, 2) := by decide +kernel
theorem dX4_checkLetter_5 : decode cX4_checkLetter 5 = .ok (.invokevirtual 67, 3) := by decide +kernel
theorem dX4_checkLetter_8 : decode cX4_checkLetter 8 = .ok (.return_, 1) := by decide +kernel
theorem dX4_checkAmong_0 : decode cX4_checkAmong 0 = .ok (.iload_n 1, 1) := by decide +kernel
theorem dX4_checkAmong_1 : decode cX4_checkAmong 1 = .ok (.iload_n 2, 1) := by decide +kernel
theorem dX4_checkAmong_2 : decode cX4_checkAmong 2 = .ok (.if_icmp .lt 8, 3) := by decide +kernel
theorem dX4_checkAmong_5 : decode cX4_checkAmong 5 = .ok (.iload_n 1, 1) := by decide +kernel
theorem dX4_checkAmong_6 : decode cX4_checkAmong 6 = .ok (.iload_n 3, 1) := by decide +kernel
theorem dX4_checkAmong_7 : decode cX4_checkAmong 7 = .ok (.if_icmp .le 13, 3) := by decide +kernel
theorem dX4_checkAmong_10 : decode cX4_checkAmong 10 = .ok (.new 182, 3) := by decide +kernel
theorem dX4_checkAmong_13 : decode cX4_checkAmong 13 = .ok (.dup, 1) := by decide +kernel
theorem dX4_checkAmong_14 : decode cX4_checkAmong 14 = .ok (.ldc 187, 2) := by decide +kernel
theorem dX4_checkAmong_16 : decode cX4_checkAmong 16 = .ok (.invokespecial 186, 3) := by decide +kernel
theorem dX4_checkAmong_19 : decode cX4_checkAmong 19 = .ok (.athrow, 1) := by decide +kernel
theorem dX4_checkAmong_20 : decode cX4_checkAmong 20 = .ok (.return_, 1) := by decide +kernel
theorem dX4_checkComment_0 : decode cX4_checkComment 0 = .ok (.iload_n 1, 1) := by decide +kernel
theorem dX4_checkComment_1 : decode cX4_checkComment 1 = .ok (.ifCond .lt 14, 3) := by decide +kernel
theorem dX4_checkComment_4 : decode cX4_checkComment 4 = .ok (.iload_n 1, 1) := by decide +kernel
theorem dX4_checkComment_5 : decode cX4_checkComment 5 = .ok (.aload_n 0, 1) := by decide +kernel
theorem dX4_checkComment_6 : decode cX4_checkComment 6 = .ok (.getfield 19, 3) := by decide +kernel
theorem dX4_checkComment_9 : decode cX4_checkComment 9 = .ok (.getfield 92, 3) := by decide +kernel
theorem dX4_checkComment_12 : decode cX4_checkComment 12 = .ok (.if_icmp .lt 13, 3) := by decide +kernel
theorem dX4_checkComment_15 : decode cX4_checkComment 15 = .ok (.new 138, 3) := by decide +kernel
theorem dX4_checkComment_18 : decode cX4_checkComment 18 = .ok (.dup, 1) := by decide +kernel
theorem dX4_checkComment_19 : decode cX4_checkComment 19 = .ok (.ldc 189, 2) := by decide +kernel
theorem dX4_checkComment_21 : decode cX4_checkComment 21 = .ok (.invokespecial 142, 3) := by decide +kernel
theorem dX4_checkComment_24 : decode cX4_checkComment 24 = .ok (.athrow, 1) := by decide +kernel
theorem dX4_checkComment_25 : decode cX4_checkComment 25 = .ok (.return_, 1) := by decide +kernel
theorem dX4_checkSuggestion_0 : decode cX4_checkSuggestion 0 = .ok (.iload_n 1, 1) := by decide +kernel
theorem dX4_checkSuggestion_1 : decode cX4_checkSuggestion 1 = .ok (.ifCond .lt 14, 3) := by decide +kernel
theorem dX4_checkSuggestion_4 : decode cX4_checkSuggestion 4 = .ok (.iload_n 1, 1) := by decide +kernel
theorem dX4_checkSuggestion_5 : decode cX4_checkSuggestion 5 = .ok (.aload_n 0, 1) := by decide +kernel
theorem dX4_checkSuggestion_6 : decode cX4_checkSuggestion 6 = .ok (.getfield 48, 3) := by decide +kernel
theorem dX4_checkSuggestion_9 : decode cX4_checkSuggestion 9 = .ok (.getfield 92, 3) := by decide +kernel
theorem dX4_checkSuggestion_12 : decode cX4_checkSuggestion 12 = .ok (.if_icmp .lt 13, 3) := by decide +kernel
theorem dX4_checkSuggestion_15 : decode cX4_checkSuggestion 15 = .ok (.new 138, 3) := by decide +kernel
theorem dX4_checkSuggestion_18 : decode cX4_checkSuggestion 18 = .ok (.dup, 1) := by decide +kernel
theorem dX4_checkSuggestion_19 : decode cX4_checkSuggestion 19 = .ok (.ldc 191, 2) := by decide +kernel
theorem dX4_checkSuggestion_21 : decode cX4_checkSuggestion 21 = .ok (.invokespecial 142, 3) := by decide +kernel
theorem dX4_checkSuggestion_24 : decode cX4_checkSuggestion 24 = .ok (.athrow, 1) := by decide +kernel
theorem dX4_checkSuggestion_25 : decode cX4_checkSuggestion 25 = .ok (.return_, 1) := by decide +kernel
theorem dX4_checkWaiting_0 : decode cX4_checkWaiting 0 = .ok (.aload_n 0, 1) := by decide +kernel
theorem dX4_checkWaiting_1 : decode cX4_checkWaiting 1 = .ok (.getfield 57, 3) := by decide +kernel
theorem dX4_checkWaiting_4 : decode cX4_checkWaiting 4 = .ok (.iload_n 1, 1) := by decide +kernel
theorem dX4_checkWaiting_5 : decode cX4_checkWaiting 5 = .ok (.iaload, 1) := by decide +kernel
theorem dX4_checkWaiting_6 : decode cX4_checkWaiting 6 = .ok (.ifCond .eq 13, 3) := by decide +kernel
theorem dX4_checkWaiting_9 : decode cX4_checkWaiting 9 = .ok (.new 95, 3) := by decide +kernel
theorem dX4_checkWaiting_12 : decode cX4_checkWaiting 12 = .ok (.dup, 1) := by decide +kernel
theorem dX4_checkWaiting_13 : decode cX4_checkWaiting 13 = .ok (.ldc 193, 2) := by decide +kernel
theorem dX4_checkWaiting_15 : decode cX4_checkWaiting 15 = .ok (.invokespecial 99, 3) := by decide +kernel
theorem dX4_checkWaiting_18 : decode cX4_checkWaiting 18 = .ok (.athrow, 1) := by decide +kernel
theorem dX4_checkWaiting_19 : decode cX4_checkWaiting 19 = .ok (.return_, 1) := by decide +kernel
theorem dX4_checkRoom_0 : decode cX4_checkRoom 0 = .ok (.aload_n 0, 1) := by decide +kernel
theorem dX4_checkRoom_1 : decode cX4_checkRoom 1 = .ok (.getfield 10, 3) := by decide +kernel
theorem dX4_checkRoom_4 : decode cX4_checkRoom 4 = .ok (.getfield 78, 3) := by decide +kernel
theorem dX4_checkRoom_7 : decode cX4_checkRoom 7 = .ok (.iload_n 1, 1) := by decide +kernel
theorem dX4_checkRoom_8 : decode cX4_checkRoom 8 = .ok (.iadd, 1) := by decide +kernel
theorem dX4_checkRoom_9 : decode cX4_checkRoom 9 = .ok (.bipush 60, 2) := by decide +kernel
theorem dX4_checkRoom_11 : decode cX4_checkRoom 11 = .ok (.if_icmp .le 13, 3) := by decide +kernel
theorem dX4_checkRoom_14 : decode cX4_checkRoom 14 = .ok (.new 95, 3) := by decide +kernel
theorem dX4_checkRoom_17 : decode cX4_checkRoom 17 = .ok (.dup, 1) := by decide +kernel
theorem dX4_checkRoom_18 : decode cX4_checkRoom 18 = .ok (.ldc 195, 2) := by decide +kernel
theorem dX4_checkRoom_20 : decode cX4_checkRoom 20 = .ok (.invokespecial 99, 3) := by decide +kernel
theorem dX4_checkRoom_23 : decode cX4_checkRoom 23 = .ok (.athrow, 1) := by decide +kernel
theorem dX4_checkRoom_24 : decode cX4_checkRoom 24 = .ok (.aload_n 0, 1) := by decide +kernel
theorem dX4_checkRoom_25 : decode cX4_checkRoom 25 = .ok (.getfield 45, 3) := by decide +kernel
theorem dX4_checkRoom_28 : decode cX4_checkRoom 28 = .ok (.iload_n 2, 1) := by decide +kernel
theorem dX4_checkRoom_29 : decode cX4_checkRoom 29 = .ok (.iadd, 1) := by decide +kernel
theorem dX4_checkRoom_30 : decode cX4_checkRoom 30 = .ok (.sipush 300, 3) := by decide +kernel
theorem dX4_checkRoom_33 : decode cX4_checkRoom 33 = .ok (.if_icmp .le 13, 3) := by decide +kernel
theorem dX4_checkRoom_36 : decode cX4_checkRoom 36 = .ok (.new 95, 3) := by decide +kernel
theorem dX4_checkRoom_39 : decode cX4_checkRoom 39 = .ok (.dup, 1) := by decide +kernel
theorem dX4_checkRoom_40 : decode cX4_checkRoom 40 = .ok (.ldc 197, 2) := by decide +kernel
theorem dX4_checkRoom_42 : decode cX4_checkRoom 42 = .ok (.invokespecial 99, 3) := by decide +kernel
theorem dX4_checkRoom_45 : decode cX4_checkRoom 45 = .ok (.athrow, 1) := by decide +kernel
theorem dX4_checkRoom_46 : decode cX4_checkRoom 46 = .ok (.return_, 1) := by decide +kernel
set_option maxRecDepth 20000 in
theorem ggX4_putLettersIn_X4_leaveVersion : GoodIn wsX4_putLettersIn wsX4_leaveVersion := goodIn_ca (goodIn_r _ [8, 9, 10, 1, 11, 12, 13, 14, 15, 16, 17, 18, 19, 20, 21, 22, 23, 24, 25, 70, 71, 72, 73, 74, 75, 76, 77, 78, 79, 80, 81, 82, 83, 84, 85] (by decide +kernel) (by decide +kernel)) (goodIn_sub (fun _ h => List.mem_cons_of_mem _ (List.mem_append_right _ h)) (by decide +kernel))
set_option maxRecDepth 20000 in
theorem gX4_putLettersIn_X4_leaveVersion : GoodIn wsX4_putLettersIn (wsV RX4 199 RX4 yX4_leaveVersion wsX4_leaveVersion) := goodIn_app (goodIn_of _ (by decide +kernel)) ggX4_putLettersIn_X4_leaveVersion
set_option maxRecDepth 20000 in
theorem ggX4_putLettersIn_X2_moveByInsertion : GoodIn wsX4_putLettersIn wsX2_moveByInsertion := goodIn_ca (goodIn_r _ [28, 29, 30, 20, 21, 22, 23, 24, 17, 25, 31, 32, 33, 81, 82, 83, 84] (by decide +kernel) (by decide +kernel)) (goodIn_sub (fun _ h => List.mem_cons_of_mem _ (List.mem_append_right _ h)) (by decide +kernel))
set_option maxRecDepth 20000 in
theorem gX4_putLettersIn_X2_moveByInsertion_n202 : GoodIn wsX4_putLettersIn (wsX2_moveByInsertion) := ggX4_putLettersIn_X2_moveByInsertion
set_option maxRecDepth 20000 in
theorem ggX4_putLettersIn_X3_putIn : GoodIn wsX4_putLettersIn wsX3_putIn := goodIn_r _ [37, 38, 39, 40, 41, 42, 35, 43, 44, 45, 46, 47, 48, 49, 50, 51, 52, 53, 54, 55, 56, 57, 58, 59, 60, 61, 86, 87, 88, 89, 90, 91, 92, 93, 94, 95, 96, 97, 98] (by decide +kernel) (by decide +kernel)
set_option maxRecDepth 20000 in
theorem gX4_putLettersIn_X3_putIn_n205 : GoodIn wsX4_putLettersIn (wsX3_putIn) := ggX4_putLettersIn_X3_putIn
set_option maxRecDepth 20000 in
theorem ggX4_putLettersIn_X2_covering : GoodIn wsX4_putLettersIn wsX2_covering := goodIn_ca (goodIn_r _ [64, 29, 20, 21, 65, 7, 66, 81, 82, 83, 84] (by decide +kernel) (by decide +kernel)) (goodIn_sub (fun _ h => List.mem_cons_of_mem _ (List.mem_append_right _ h)) (by decide +kernel))
set_option maxRecDepth 20000 in
theorem gX4_putLettersIn_X2_covering_n146 : GoodIn wsX4_putLettersIn (wsX2_covering) := ggX4_putLettersIn_X2_covering
set_option maxRecDepth 20000 in
theorem ggX4_putLettersIn_X3_mark : GoodIn wsX4_putLettersIn wsX3_mark := goodIn_ca (goodIn_r _ [69, 39, 86, 87, 88] (by decide +kernel) (by decide +kernel)) (goodIn_sub (fun _ h => List.mem_cons_of_mem _ (List.mem_append_right _ h)) (by decide +kernel))
set_option maxRecDepth 20000 in
theorem gX4_putLettersIn_X3_mark_n113 : GoodIn wsX4_putLettersIn (wsX3_mark) := ggX4_putLettersIn_X3_mark
theorem dX4_putLettersIn_0 : decode cX4_putLettersIn 0 = .ok (.aload_n 0, 1) := by decide +kernel
theorem dX4_putLettersIn_1 : decode cX4_putLettersIn 1 = .ok (.invokevirtual 199, 3) := by decide +kernel
theorem dX4_putLettersIn_4 : decode cX4_putLettersIn 4 = .ok (.aload_n 0, 1) := by decide +kernel
theorem dX4_putLettersIn_5 : decode cX4_putLettersIn 5 = .ok (.getfield 19, 3) := by decide +kernel
theorem dX4_putLettersIn_8 : decode cX4_putLettersIn 8 = .ok (.iload_n 1, 1) := by decide +kernel
theorem dX4_putLettersIn_9 : decode cX4_putLettersIn 9 = .ok (.iload_n 3, 1) := by decide +kernel
theorem dX4_putLettersIn_10 : decode cX4_putLettersIn 10 = .ok (.invokevirtual 202, 3) := by decide +kernel
theorem dX4_putLettersIn_13 : decode cX4_putLettersIn 13 = .ok (.aload_n 0, 1) := by decide +kernel
theorem dX4_putLettersIn_14 : decode cX4_putLettersIn 14 = .ok (.getfield 48, 3) := by decide +kernel
theorem dX4_putLettersIn_17 : decode cX4_putLettersIn 17 = .ok (.iload_n 1, 1) := by decide +kernel
theorem dX4_putLettersIn_18 : decode cX4_putLettersIn 18 = .ok (.iload_n 3, 1) := by decide +kernel
theorem dX4_putLettersIn_19 : decode cX4_putLettersIn 19 = .ok (.invokevirtual 202, 3) := by decide +kernel
theorem dX4_putLettersIn_22 : decode cX4_putLettersIn 22 = .ok (.aload_n 0, 1) := by decide +kernel
theorem dX4_putLettersIn_23 : decode cX4_putLettersIn 23 = .ok (.getfield 10, 3) := by decide +kernel
theorem dX4_putLettersIn_26 : decode cX4_putLettersIn 26 = .ok (.iload_n 1, 1) := by decide +kernel
theorem dX4_putLettersIn_27 : decode cX4_putLettersIn 27 = .ok (.iload_n 2, 1) := by decide +kernel
theorem dX4_putLettersIn_28 : decode cX4_putLettersIn 28 = .ok (.iload_n 3, 1) := by decide +kernel
theorem dX4_putLettersIn_29 : decode cX4_putLettersIn 29 = .ok (.invokevirtual 205, 3) := by decide +kernel
theorem dX4_putLettersIn_32 : decode cX4_putLettersIn 32 = .ok (.aload_n 0, 1) := by decide +kernel
theorem dX4_putLettersIn_33 : decode cX4_putLettersIn 33 = .ok (.getfield 10, 3) := by decide +kernel
theorem dX4_putLettersIn_36 : decode cX4_putLettersIn 36 = .ok (.iload_n 1, 1) := by decide +kernel
theorem dX4_putLettersIn_37 : decode cX4_putLettersIn 37 = .ok (.iload_n 1, 1) := by decide +kernel
theorem dX4_putLettersIn_38 : decode cX4_putLettersIn 38 = .ok (.iload_n 3, 1) := by decide +kernel
theorem dX4_putLettersIn_39 : decode cX4_putLettersIn 39 = .ok (.iadd, 1) := by decide +kernel
theorem dX4_putLettersIn_40 : decode cX4_putLettersIn 40 = .ok (.aload_n 0, 1) := by decide +kernel
theorem dX4_putLettersIn_41 : decode cX4_putLettersIn 41 = .ok (.getfield 19, 3) := by decide +kernel
theorem dX4_putLettersIn_44 : decode cX4_putLettersIn 44 = .ok (.iload_n 1, 1) := by decide +kernel
theorem dX4_putLettersIn_45 : decode cX4_putLettersIn 45 = .ok (.invokevirtual 146, 3) := by decide +kernel
theorem dX4_putLettersIn_48 : decode cX4_putLettersIn 48 = .ok (.invokevirtual 113, 3) := by decide +kernel
theorem dX4_putLettersIn_51 : decode cX4_putLettersIn 51 = .ok (.return_, 1) := by decide +kernel
set_option maxRecDepth 20000 in
theorem ggX4_takeLettersOut_X4_leaveVersion : GoodIn wsX4_takeLettersOut wsX4_leaveVersion := goodIn_ca (goodIn_r _ [8, 9, 10, 1, 11, 12, 13, 14, 15, 16, 17, 18, 19, 20, 21, 22, 23, 24, 25, 67, 68, 69, 70, 71, 72, 73, 74, 75, 76, 77, 78, 79, 80, 81, 82] (by decide +kernel) (by decide +kernel)) (goodIn_sub (fun _ h => List.mem_cons_of_mem _ (List.mem_append_right _ h)) (by decide +kernel))
set_option maxRecDepth 20000 in
theorem gX4_takeLettersOut_X4_leaveVersion : GoodIn wsX4_takeLettersOut (wsV RX4 199 RX4 yX4_leaveVersion wsX4_leaveVersion) := goodIn_app (goodIn_of _ (by decide +kernel)) ggX4_takeLettersOut_X4_leaveVersion
set_option maxRecDepth 20000 in
theorem ggX4_takeLettersOut_X2_moveByRemoval : GoodIn wsX4_takeLettersOut wsX2_moveByRemoval := goodIn_ca (goodIn_r _ [28, 29, 20, 21, 22, 23, 24, 17, 25, 30, 31, 32, 33, 34, 35, 36, 37, 7, 38, 78, 79, 80, 81] (by decide +kernel) (by decide +kernel)) (goodIn_sub (fun _ h => List.mem_cons_of_mem _ (List.mem_append_right _ h)) (by decide +kernel))
set_option maxRecDepth 20000 in
theorem gX4_takeLettersOut_X2_moveByRemoval_n208 : GoodIn wsX4_takeLettersOut (wsX2_moveByRemoval) := ggX4_takeLettersOut_X2_moveByRemoval
set_option maxRecDepth 20000 in
theorem ggX4_takeLettersOut_X4_letGo : GoodIn wsX4_takeLettersOut wsX4_letGo := goodIn_ca (goodIn_r _ [42, 2, 43, 44, 37, 7, 38, 67, 68, 69, 70, 71, 72, 73, 74, 75, 76, 77, 78, 79, 80, 81] (by decide +kernel) (by decide +kernel)) (goodIn_sub (fun _ h => List.mem_cons_of_mem _ (List.mem_append_right _ h)) (by decide +kernel))
set_option maxRecDepth 20000 in
theorem gX4_takeLettersOut_X4_letGo : GoodIn wsX4_takeLettersOut (wsV RX4 211 RX4 yX4_letGo wsX4_letGo) := goodIn_app (goodIn_of _ (by decide +kernel)) ggX4_takeLettersOut_X4_letGo
set_option maxRecDepth 20000 in
theorem ggX4_takeLettersOut_X3_takeOut : GoodIn wsX4_takeLettersOut wsX3_takeOut := goodIn_r _ [48, 49, 50, 51, 46, 52, 53, 54, 55, 56, 57, 58, 59, 83, 84, 85] (by decide +kernel) (by decide +kernel)
set_option maxRecDepth 20000 in
theorem gX4_takeLettersOut_X3_takeOut_n214 : GoodIn wsX4_takeLettersOut (wsX3_takeOut) := ggX4_takeLettersOut_X3_takeOut
set_option maxRecDepth 20000 in
theorem ggX4_takeLettersOut_J6_bitCount_0f7a4 : GoodIn wsX4_takeLettersOut wsJ6_bitCount_0f7a4 := goodIn_r _ [63, 64, 65, 66] (by decide +kernel) (by decide +kernel)
set_option maxRecDepth 20000 in
theorem gX4_takeLettersOut_J6_bitCount_0f7a4 : GoodIn wsX4_takeLettersOut (va_wsS RX4 217 yJ6_bitCount_0f7a4 wsJ6_bitCount_0f7a4) := goodIn_app (goodIn_of _ (by decide +kernel)) ggX4_takeLettersOut_J6_bitCount_0f7a4
theorem dX4_takeLettersOut_0 : decode cX4_takeLettersOut 0 = .ok (.aload_n 0, 1) := by decide +kernel
theorem dX4_takeLettersOut_1 : decode cX4_takeLettersOut 1 = .ok (.invokevirtual 199, 3) := by decide +kernel
theorem dX4_takeLettersOut_4 : decode cX4_takeLettersOut 4 = .ok (.aload_n 0, 1) := by decide +kernel
theorem dX4_takeLettersOut_5 : decode cX4_takeLettersOut 5 = .ok (.getfield 19, 3) := by decide +kernel
theorem dX4_takeLettersOut_8 : decode cX4_takeLettersOut 8 = .ok (.iload_n 1, 1) := by decide +kernel
theorem dX4_takeLettersOut_9 : decode cX4_takeLettersOut 9 = .ok (.iload_n 2, 1) := by decide +kernel
theorem dX4_takeLettersOut_10 : decode cX4_takeLettersOut 10 = .ok (.invokevirtual 208, 3) := by decide +kernel
theorem dX4_takeLettersOut_13 : decode cX4_takeLettersOut 13 = .ok (.istore_n 3, 1) := by decide +kernel
theorem dX4_takeLettersOut_14 : decode cX4_takeLettersOut 14 = .ok (.aload_n 0, 1) := by decide +kernel
theorem dX4_takeLettersOut_15 : decode cX4_takeLettersOut 15 = .ok (.aload_n 0, 1) := by decide +kernel
theorem dX4_takeLettersOut_16 : decode cX4_takeLettersOut 16 = .ok (.getfield 48, 3) := by decide +kernel
theorem dX4_takeLettersOut_19 : decode cX4_takeLettersOut 19 = .ok (.iload_n 1, 1) := by decide +kernel
theorem dX4_takeLettersOut_20 : decode cX4_takeLettersOut 20 = .ok (.iload_n 2, 1) := by decide +kernel
theorem dX4_takeLettersOut_21 : decode cX4_takeLettersOut 21 = .ok (.invokevirtual 208, 3) := by decide +kernel
theorem dX4_takeLettersOut_24 : decode cX4_takeLettersOut 24 = .ok (.invokevirtual 211, 3) := by decide +kernel
theorem dX4_takeLettersOut_27 : decode cX4_takeLettersOut 27 = .ok (.aload_n 0, 1) := by decide +kernel
theorem dX4_takeLettersOut_28 : decode cX4_takeLettersOut 28 = .ok (.getfield 10, 3) := by decide +kernel
theorem dX4_takeLettersOut_31 : decode cX4_takeLettersOut 31 = .ok (.iload_n 1, 1) := by decide +kernel
theorem dX4_takeLettersOut_32 : decode cX4_takeLettersOut 32 = .ok (.iload_n 2, 1) := by decide +kernel
theorem dX4_takeLettersOut_33 : decode cX4_takeLettersOut 33 = .ok (.invokevirtual 214, 3) := by decide +kernel
theorem dX4_takeLettersOut_36 : decode cX4_takeLettersOut 36 = .ok (.iload_n 3, 1) := by decide +kernel
theorem dX4_takeLettersOut_37 : decode cX4_takeLettersOut 37 = .ok (.invokestatic 217, 3) := by decide +kernel
theorem dX4_takeLettersOut_40 : decode cX4_takeLettersOut 40 = .ok (.ireturn, 1) := by decide +kernel
set_option maxRecDepth 20000 in
theorem ggX4_leaveVersion_X0_write : GoodIn wsX4_leaveVersion wsX0_write := goodIn_ca (goodIn_r _ [7, 8, 9, 10, 11, 12, 13, 14, 15, 16, 17, 18, 30, 31, 32, 33, 34] (by decide +kernel) (by decide +kernel)) (goodIn_sub (fun _ h => List.mem_cons_of_mem _ (List.mem_append_right _ h)) (by decide +kernel))
set_option maxRecDepth 20000 in
theorem gX4_leaveVersion_X0_write_n222 : GoodIn wsX4_leaveVersion (wsX0_write) := ggX4_leaveVersion_X0_write
theorem dX4_leaveVersion_0 : decode cX4_leaveVersion 0 = .ok (.aload_n 0, 1) := by decide +kernel
theorem dX4_leaveVersion_1 : decode cX4_leaveVersion 1 = .ok (.getfield 33, 3) := by decide +kernel
theorem dX4_leaveVersion_4 : decode cX4_leaveVersion 4 = .ok (.aload_n 0, 1) := by decide +kernel
theorem dX4_leaveVersion_5 : decode cX4_leaveVersion 5 = .ok (.getfield 45, 3) := by decide +kernel
theorem dX4_leaveVersion_8 : decode cX4_leaveVersion 8 = .ok (.aload_n 0, 1) := by decide +kernel
theorem dX4_leaveVersion_9 : decode cX4_leaveVersion 9 = .ok (.getfield 19, 3) := by decide +kernel
theorem dX4_leaveVersion_12 : decode cX4_leaveVersion 12 = .ok (.invokevirtual 222, 3) := by decide +kernel
theorem dX4_leaveVersion_15 : decode cX4_leaveVersion 15 = .ok (.aload_n 0, 1) := by decide +kernel
theorem dX4_leaveVersion_16 : decode cX4_leaveVersion 16 = .ok (.dup, 1) := by decide +kernel
theorem dX4_leaveVersion_17 : decode cX4_leaveVersion 17 = .ok (.getfield 45, 3) := by decide +kernel
theorem dX4_leaveVersion_20 : decode cX4_leaveVersion 20 = .ok (.iconst 1, 1) := by decide +kernel
theorem dX4_leaveVersion_21 : decode cX4_leaveVersion 21 = .ok (.iadd, 1) := by decide +kernel
theorem dX4_leaveVersion_22 : decode cX4_leaveVersion 22 = .ok (.putfield 45, 3) := by decide +kernel
theorem dX4_leaveVersion_25 : decode cX4_leaveVersion 25 = .ok (.return_, 1) := by decide +kernel
set_option maxRecDepth 20000 in
theorem ggX4_letGo_X4_bit : GoodIn wsX4_letGo wsX4_bit := goodIn_r _ [6] (by decide +kernel) (by decide +kernel)
set_option maxRecDepth 20000 in
theorem gX4_letGo_X4_bit : GoodIn wsX4_letGo (va_wsS RX4 110 yX4_bit wsX4_bit) := goodIn_app (goodIn_of _ (by decide +kernel)) ggX4_letGo_X4_bit
theorem dX4_letGo_0 : decode cX4_letGo 0 = .ok (.iconst 0, 1) := by decide +kernel
theorem dX4_letGo_1 : decode cX4_letGo 1 = .ok (.istore_n 2, 1) := by decide +kernel
theorem dX4_letGo_2 : decode cX4_letGo 2 = .ok (.iload_n 2, 1) := by decide +kernel
theorem dX4_letGo_3 : decode cX4_letGo 3 = .ok (.aload_n 0, 1) := by decide +kernel
theorem dX4_letGo_4 : decode cX4_letGo 4 = .ok (.getfield 48, 3) := by decide +kernel
theorem dX4_letGo_7 : decode cX4_letGo 7 = .ok (.getfield 92, 3) := by decide +kernel
theorem dX4_letGo_10 : decode cX4_letGo 10 = .ok (.if_icmp .ge 34, 3) := by decide +kernel
theorem dX4_letGo_13 : decode cX4_letGo 13 = .ok (.iload_n 1, 1) := by decide +kernel
theorem dX4_letGo_14 : decode cX4_letGo 14 = .ok (.iload_n 2, 1) := by decide +kernel
theorem dX4_letGo_15 : decode cX4_letGo 15 = .ok (.invokestatic 110, 3) := by decide +kernel
theorem dX4_letGo_18 : decode cX4_letGo 18 = .ok (.iand, 1) := by decide +kernel
theorem dX4_letGo_19 : decode cX4_letGo 19 = .ok (.ifCond .eq 19, 3) := by decide +kernel
theorem dX4_letGo_22 : decode cX4_letGo 22 = .ok (.aload_n 0, 1) := by decide +kernel
theorem dX4_letGo_23 : decode cX4_letGo 23 = .ok (.getfield 57, 3) := by decide +kernel
theorem dX4_letGo_26 : decode cX4_letGo 26 = .ok (.iload_n 2, 1) := by decide +kernel
theorem dX4_letGo_27 : decode cX4_letGo 27 = .ok (.iaload, 1) := by decide +kernel
theorem dX4_letGo_28 : decode cX4_letGo 28 = .ok (.ifCond .ne 10, 3) := by decide +kernel
theorem dX4_letGo_31 : decode cX4_letGo 31 = .ok (.aload_n 0, 1) := by decide +kernel
theorem dX4_letGo_32 : decode cX4_letGo 32 = .ok (.getfield 57, 3) := by decide +kernel
theorem dX4_letGo_35 : decode cX4_letGo 35 = .ok (.iload_n 2, 1) := by decide +kernel
theorem dX4_letGo_36 : decode cX4_letGo 36 = .ok (.iconst 3, 1) := by decide +kernel
theorem dX4_letGo_37 : decode cX4_letGo 37 = .ok (.iastore, 1) := by decide +kernel
theorem dX4_letGo_38 : decode cX4_letGo 38 = .ok (.iinc 2 1, 3) := by decide +kernel
theorem dX4_letGo_41 : decode cX4_letGo 41 = .ok (.goto (-39), 3) := by decide +kernel
theorem dX4_letGo_44 : decode cX4_letGo 44 = .ok (.return_, 1) := by decide +kernel
theorem dX4_bit_0 : decode cX4_bit 0 = .ok (.iconst 1, 1) := by decide +kernel
theorem dX4_bit_1 : decode cX4_bit 1 = .ok (.iload_n 0, 1) := by decide +kernel
theorem dX4_bit_2 : decode cX4_bit 2 = .ok (.ishl, 1) := by decide +kernel
theorem dX4_bit_3 : decode cX4_bit 3 = .ok (.ireturn, 1) := by decide +kernel
set_option maxRecDepth 20000 in
theorem ggX4_beginsPiece_X2_covering : GoodIn wsX4_beginsPiece wsX2_covering := goodIn_ca (goodIn_r _ [5, 6, 7, 8, 9, 10, 11, 23, 24, 25, 26] (by decide +kernel) (by decide +kernel)) (goodIn_sub (fun _ h => List.mem_cons_of_mem _ (List.mem_append_right _ h)) (by decide +kernel))
set_option maxRecDepth 20000 in
theorem gX4_beginsPiece_X2_covering_n146 : GoodIn wsX4_beginsPiece (wsX2_covering) := ggX4_beginsPiece_X2_covering
theorem dX4_beginsPiece_0 : decode cX4_beginsPiece 0 = .ok (.iload_n 1, 1) := by decide +kernel
theorem dX4_beginsPiece_1 : decode cX4_beginsPiece 1 = .ok (.ifCond .eq 24, 3) := by decide +kernel
theorem dX4_beginsPiece_4 : decode cX4_beginsPiece 4 = .ok (.aload_n 0, 1) := by decide +kernel
theorem dX4_beginsPiece_5 : decode cX4_beginsPiece 5 = .ok (.getfield 19, 3) := by decide +kernel
theorem dX4_beginsPiece_8 : decode cX4_beginsPiece 8 = .ok (.iload_n 1, 1) := by decide +kernel
theorem dX4_beginsPiece_9 : decode cX4_beginsPiece 9 = .ok (.invokevirtual 146, 3) := by decide +kernel
theorem dX4_beginsPiece_12 : decode cX4_beginsPiece 12 = .ok (.aload_n 0, 1) := by decide +kernel
theorem dX4_beginsPiece_13 : decode cX4_beginsPiece 13 = .ok (.getfield 19, 3) := by decide +kernel
theorem dX4_beginsPiece_16 : decode cX4_beginsPiece 16 = .ok (.iload_n 1, 1) := by decide +kernel
theorem dX4_beginsPiece_17 : decode cX4_beginsPiece 17 = .ok (.iconst 1, 1) := by decide +kernel
theorem dX4_beginsPiece_18 : decode cX4_beginsPiece 18 = .ok (.isub, 1) := by decide +kernel
theorem dX4_beginsPiece_19 : decode cX4_beginsPiece 19 = .ok (.invokevirtual 146, 3) := by decide +kernel
theorem dX4_beginsPiece_22 : decode cX4_beginsPiece 22 = .ok (.if_icmp .eq 7, 3) := by decide +kernel
theorem dX4_beginsPiece_25 : decode cX4_beginsPiece 25 = .ok (.iconst 1, 1) := by decide +kernel
theorem dX4_beginsPiece_26 : decode cX4_beginsPiece 26 = .ok (.goto 4, 3) := by decide +kernel
theorem dX4_beginsPiece_29 : decode cX4_beginsPiece 29 = .ok (.iconst 0, 1) := by decide +kernel
theorem dX4_beginsPiece_30 : decode cX4_beginsPiece 30 = .ok (.ireturn, 1) := by decide +kernel
set_option maxRecDepth 20000 in
theorem ggX4_overlapping_X2_share : GoodIn wsX4_overlapping wsX2_share := goodIn_ca (goodIn_r _ [6, 7, 8, 9, 10, 11, 12, 13, 14, 15, 31, 32, 33, 34] (by decide +kernel) (by decide +kernel)) (goodIn_sub (fun _ h => List.mem_cons_of_mem _ (List.mem_append_right _ h)) (by decide +kernel))
set_option maxRecDepth 20000 in
theorem gX4_overlapping_X2_share_n226 : GoodIn wsX4_overlapping (wsX2_share) := ggX4_overlapping_X2_share
set_option maxRecDepth 20000 in
theorem ggX4_overlapping_X4_bit : GoodIn wsX4_overlapping wsX4_bit := goodIn_r _ [19] (by decide +kernel) (by decide +kernel)
set_option maxRecDepth 20000 in
theorem gX4_overlapping_X4_bit : GoodIn wsX4_overlapping (va_wsS RX4 110 yX4_bit wsX4_bit) := goodIn_app (goodIn_of _ (by decide +kernel)) ggX4_overlapping_X4_bit
theorem dX4_overlapping_0 : decode cX4_overlapping 0 = .ok (.aload_n 0, 1) := by decide +kernel
theorem dX4_overlapping_1 : decode cX4_overlapping 1 = .ok (.getfield 57, 3) := by decide +kernel
theorem dX4_overlapping_4 : decode cX4_overlapping 4 = .ok (.iload_n 1, 1) := by decide +kernel
theorem dX4_overlapping_5 : decode cX4_overlapping 5 = .ok (.iaload, 1) := by decide +kernel
theorem dX4_overlapping_6 : decode cX4_overlapping 6 = .ok (.ifCond .eq 5, 3) := by decide +kernel
theorem dX4_overlapping_9 : decode cX4_overlapping 9 = .ok (.iconst 0, 1) := by decide +kernel
theorem dX4_overlapping_10 : decode cX4_overlapping 10 = .ok (.ireturn, 1) := by decide +kernel
theorem dX4_overlapping_11 : decode cX4_overlapping 11 = .ok (.iconst 0, 1) := by decide +kernel
theorem dX4_overlapping_12 : decode cX4_overlapping 12 = .ok (.istore_n 2, 1) := by decide +kernel
theorem dX4_overlapping_13 : decode cX4_overlapping 13 = .ok (.iconst 0, 1) := by decide +kernel
theorem dX4_overlapping_14 : decode cX4_overlapping 14 = .ok (.istore_n 3, 1) := by decide +kernel
theorem dX4_overlapping_15 : decode cX4_overlapping 15 = .ok (.iload_n 3, 1) := by decide +kernel
theorem dX4_overlapping_16 : decode cX4_overlapping 16 = .ok (.aload_n 0, 1) := by decide +kernel
theorem dX4_overlapping_17 : decode cX4_overlapping 17 = .ok (.getfield 48, 3) := by decide +kernel
theorem dX4_overlapping_20 : decode cX4_overlapping 20 = .ok (.getfield 92, 3) := by decide +kernel
theorem dX4_overlapping_23 : decode cX4_overlapping 23 = .ok (.if_icmp .ge 42, 3) := by decide +kernel
theorem dX4_overlapping_26 : decode cX4_overlapping 26 = .ok (.iload_n 3, 1) := by decide +kernel
theorem dX4_overlapping_27 : decode cX4_overlapping 27 = .ok (.iload_n 1, 1) := by decide +kernel
theorem dX4_overlapping_28 : decode cX4_overlapping 28 = .ok (.if_icmp .eq 31, 3) := by decide +kernel
theorem dX4_overlapping_31 : decode cX4_overlapping 31 = .ok (.aload_n 0, 1) := by decide +kernel
theorem dX4_overlapping_32 : decode cX4_overlapping 32 = .ok (.getfield 57, 3) := by decide +kernel
theorem dX4_overlapping_35 : decode cX4_overlapping 35 = .ok (.iload_n 3, 1) := by decide +kernel
theorem dX4_overlapping_36 : decode cX4_overlapping 36 = .ok (.iaload, 1) := by decide +kernel
theorem dX4_overlapping_37 : decode cX4_overlapping 37 = .ok (.ifCond .ne 22, 3) := by decide +kernel
theorem dX4_overlapping_40 : decode cX4_overlapping 40 = .ok (.aload_n 0, 1) := by decide +kernel
theorem dX4_overlapping_41 : decode cX4_overlapping 41 = .ok (.getfield 48, 3) := by decide +kernel
theorem dX4_overlapping_44 : decode cX4_overlapping 44 = .ok (.iload_n 1, 1) := by decide +kernel
theorem dX4_overlapping_45 : decode cX4_overlapping 45 = .ok (.iload_n 3, 1) := by decide +kernel
theorem dX4_overlapping_46 : decode cX4_overlapping 46 = .ok (.invokevirtual 226, 3) := by decide +kernel
theorem dX4_overlapping_49 : decode cX4_overlapping 49 = .ok (.ifCond .eq 10, 3) := by decide +kernel
theorem dX4_overlapping_52 : decode cX4_overlapping 52 = .ok (.iload_n 2, 1) := by decide +kernel
theorem dX4_overlapping_53 : decode cX4_overlapping 53 = .ok (.iload_n 3, 1) := by decide +kernel
theorem dX4_overlapping_54 : decode cX4_overlapping 54 = .ok (.invokestatic 110, 3) := by decide +kernel
theorem dX4_overlapping_57 : decode cX4_overlapping 57 = .ok (.ior, 1) := by decide +kernel
theorem dX4_overlapping_58 : decode cX4_overlapping 58 = .ok (.istore_n 2, 1) := by decide +kernel
theorem dX4_overlapping_59 : decode cX4_overlapping 59 = .ok (.iinc 3 1, 3) := by decide +kernel
theorem dX4_overlapping_62 : decode cX4_overlapping 62 = .ok (.goto (-47), 3) := by decide +kernel
theorem dX4_overlapping_65 : decode cX4_overlapping 65 = .ok (.iload_n 2, 1) := by decide +kernel
theorem dX4_overlapping_66 : decode cX4_overlapping 66 = .ok (.ireturn, 1) := by decide +kernel
theorem dX4_countWaiting_0 : decode cX4_countWaiting 0 = .ok (.iconst 0, 1) := by decide +kernel
theorem dX4_countWaiting_1 : decode cX4_countWaiting 1 = .ok (.istore_n 1, 1) := by decide +kernel
theorem dX4_countWaiting_2 : decode cX4_countWaiting 2 = .ok (.iconst 0, 1) := by decide +kernel
theorem dX4_countWaiting_3 : decode cX4_countWaiting 3 = .ok (.istore_n 2, 1) := by decide +kernel
theorem dX4_countWaiting_4 : decode cX4_countWaiting 4 = .ok (.iload_n 2, 1) := by decide +kernel
theorem dX4_countWaiting_5 : decode cX4_countWaiting 5 = .ok (.aload_n 0, 1) := by decide +kernel
theorem dX4_countWaiting_6 : decode cX4_countWaiting 6 = .ok (.getfield 48, 3) := by decide +kernel
theorem dX4_countWaiting_9 : decode cX4_countWaiting 9 = .ok (.getfield 92, 3) := by decide +kernel
theorem dX4_countWaiting_12 : decode cX4_countWaiting 12 = .ok (.if_icmp .ge 21, 3) := by decide +kernel
theorem dX4_countWaiting_15 : decode cX4_countWaiting 15 = .ok (.aload_n 0, 1) := by decide +kernel
theorem dX4_countWaiting_16 : decode cX4_countWaiting 16 = .ok (.getfield 57, 3) := by decide +kernel
theorem dX4_countWaiting_19 : decode cX4_countWaiting 19 = .ok (.iload_n 2, 1) := by decide +kernel
theorem dX4_countWaiting_20 : decode cX4_countWaiting 20 = .ok (.iaload, 1) := by decide +kernel
theorem dX4_countWaiting_21 : decode cX4_countWaiting 21 = .ok (.ifCond .ne 6, 3) := by decide +kernel
theorem dX4_countWaiting_24 : decode cX4_countWaiting 24 = .ok (.iinc 1 1, 3) := by decide +kernel
theorem dX4_countWaiting_27 : decode cX4_countWaiting 27 = .ok (.iinc 2 1, 3) := by decide +kernel
theorem dX4_countWaiting_30 : decode cX4_countWaiting 30 = .ok (.goto (-26), 3) := by decide +kernel
theorem dX4_countWaiting_33 : decode cX4_countWaiting 33 = .ok (.iload_n 1, 1) := by decide +kernel
theorem dX4_countWaiting_34 : decode cX4_countWaiting 34 = .ok (.ireturn, 1) := by decide +kernel
end
section
theorem hs_X0_init : yX0_init.cls ≠ "java/lang/invoke/MethodHandle" ∧ yX0_init.cls ≠ "java/lang/invoke/VarHandle" ∧ (parseMethodDescriptor yX0_init.desc).map (fun d => d.parameters.length) = some 0 := by decide +kernel
theorem hd_X0_init : yX0_init.cls = RX0 ∧ yX0_init.cls ≠ "java/lang/invoke/MethodHandle" ∧ yX0_init.cls ≠ "java/lang/invoke/VarHandle" ∧ (parseMethodDescriptor yX0_init.desc).map (fun d => d.parameters.length) = some 0 := ⟨rfl, hs_X0_init⟩
theorem hs_X0_write : yX0_write.cls ≠ "java/lang/invoke/MethodHandle" ∧ yX0_write.cls ≠ "java/lang/invoke/VarHandle" ∧ (parseMethodDescriptor yX0_write.desc).map (fun d => d.parameters.length) = some 2 := by decide +kernel
theorem hd_X0_write : yX0_write.cls = RX0 ∧ yX0_write.cls ≠ "java/lang/invoke/MethodHandle" ∧ yX0_write.cls ≠ "java/lang/invoke/VarHandle" ∧ (parseMethodDescriptor yX0_write.desc).map (fun d => d.parameters.length) = some 2 := ⟨rfl, hs_X0_write⟩
theorem hs_X0_rangeAt : yX0_rangeAt.cls ≠ "java/lang/invoke/MethodHandle" ∧ yX0_rangeAt.cls ≠ "java/lang/invoke/VarHandle" ∧ (parseMethodDescriptor yX0_rangeAt.desc).map (fun d => d.parameters.length) = some 2 := by decide +kernel
theorem hd_X0_rangeAt : yX0_rangeAt.cls = RX0 ∧ yX0_rangeAt.cls ≠ "java/lang/invoke/MethodHandle" ∧ yX0_rangeAt.cls ≠ "java/lang/invoke/VarHandle" ∧ (parseMethodDescriptor yX0_rangeAt.desc).map (fun d => d.parameters.length) = some 2 := ⟨rfl, hs_X0_rangeAt⟩
theorem hs_X1_init : yX1_init.cls ≠ "java/lang/invoke/MethodHandle" ∧ yX1_init.cls ≠ "java/lang/invoke/VarHandle" ∧ (parseMethodDescriptor yX1_init.desc).map (fun d => d.parameters.length) = some 0 := by decide +kernel
theorem hd_X1_init : yX1_init.cls = RX1 ∧ yX1_init.cls ≠ "java/lang/invoke/MethodHandle" ∧ yX1_init.cls ≠ "java/lang/invoke/VarHandle" ∧ (parseMethodDescriptor yX1_init.desc).map (fun d => d.parameters.length) = some 0 := ⟨rfl, hs_X1_init⟩
theorem hs_X1_keep : yX1_keep.cls ≠ "java/lang/invoke/MethodHandle" ∧ yX1_keep.cls ≠ "java/lang/invoke/VarHandle" ∧ (parseMethodDescriptor yX1_keep.desc).map (fun d => d.parameters.length) = some 4 := by decide +kernel
theorem hd_X1_keep : yX1_keep.cls = RX1 ∧ yX1_keep.cls ≠ "java/lang/invoke/MethodHandle" ∧ yX1_keep.cls ≠ "java/lang/invoke/VarHandle" ∧ (parseMethodDescriptor yX1_keep.desc).map (fun d => d.parameters.length) = some 4 := ⟨rfl, hs_X1_keep⟩
theorem hs_X1_sizeOf : yX1_sizeOf.cls ≠ "java/lang/invoke/MethodHandle" ∧ yX1_sizeOf.cls ≠ "java/lang/invoke/VarHandle" ∧ (parseMethodDescriptor yX1_sizeOf.desc).map (fun d => d.parameters.length) = some 1 := by decide +kernel
theorem hd_X1_sizeOf : yX1_sizeOf.cls = RX1 ∧ yX1_sizeOf.cls ≠ "java/lang/invoke/MethodHandle" ∧ yX1_sizeOf.cls ≠ "java/lang/invoke/VarHandle" ∧ (parseMethodDescriptor yX1_sizeOf.desc).map (fun d => d.parameters.length) = some 1 := ⟨rfl, hs_X1_sizeOf⟩
theorem hs_X1_bestPlace : yX1_bestPlace.cls ≠ "java/lang/invoke/MethodHandle" ∧ yX1_bestPlace.cls ≠ "java/lang/invoke/VarHandle" ∧ (parseMethodDescriptor yX1_bestPlace.desc).map (fun d => d.parameters.length) = some 2 := by decide +kernel
theorem hd_X1_bestPlace : yX1_bestPlace.cls = RX1 ∧ yX1_bestPlace.cls ≠ "java/lang/invoke/MethodHandle" ∧ yX1_bestPlace.cls ≠ "java/lang/invoke/VarHandle" ∧ (parseMethodDescriptor yX1_bestPlace.desc).map (fun d => d.parameters.length) = some 2 := ⟨rfl, hs_X1_bestPlace⟩
theorem hs_X1_standsAt : yX1_standsAt.cls ≠ "java/lang/invoke/MethodHandle" ∧ yX1_standsAt.cls ≠ "java/lang/invoke/VarHandle" ∧ (parseMethodDescriptor yX1_standsAt.desc).map (fun d => d.parameters.length) = some 3 := by decide +kernel
theorem hd_X1_standsAt : yX1_standsAt.cls = RX1 ∧ yX1_standsAt.cls ≠ "java/lang/invoke/MethodHandle" ∧ yX1_standsAt.cls ≠ "java/lang/invoke/VarHandle" ∧ (parseMethodDescriptor yX1_standsAt.desc).map (fun d => d.parameters.length) = some 3 := ⟨rfl, hs_X1_standsAt⟩
theorem hs_X1_fitAt : yX1_fitAt.cls ≠ "java/lang/invoke/MethodHandle" ∧ yX1_fitAt.cls ≠ "java/lang/invoke/VarHandle" ∧ (parseMethodDescriptor yX1_fitAt.desc).map (fun d => d.parameters.length) = some 3 := by decide +kernel
theorem hd_X1_fitAt : yX1_fitAt.cls = RX1 ∧ yX1_fitAt.cls ≠ "java/lang/invoke/MethodHandle" ∧ yX1_fitAt.cls ≠ "java/lang/invoke/VarHandle" ∧ (parseMethodDescriptor yX1_fitAt.desc).map (fun d => d.parameters.length) = some 3 := ⟨rfl, hs_X1_fitAt⟩
theorem hs_X2_init : yX2_init.cls ≠ "java/lang/invoke/MethodHandle" ∧ yX2_init.cls ≠ "java/lang/invoke/VarHandle" ∧ (parseMethodDescriptor yX2_init.desc).map (fun d => d.parameters.length) = some 0 := by decide +kernel
theorem hd_X2_init : yX2_init.cls = RX2 ∧ yX2_init.cls ≠ "java/lang/invoke/MethodHandle" ∧ yX2_init.cls ≠ "java/lang/invoke/VarHandle" ∧ (parseMethodDescriptor yX2_init.desc).map (fun d => d.parameters.length) = some 0 := ⟨rfl, hs_X2_init⟩
theorem hs_X2_add : yX2_add.cls ≠ "java/lang/invoke/MethodHandle" ∧ yX2_add.cls ≠ "java/lang/invoke/VarHandle" ∧ (parseMethodDescriptor yX2_add.desc).map (fun d => d.parameters.length) = some 3 := by decide +kernel
theorem hd_X2_add : yX2_add.cls = RX2 ∧ yX2_add.cls ≠ "java/lang/invoke/MethodHandle" ∧ yX2_add.cls ≠ "java/lang/invoke/VarHandle" ∧ (parseMethodDescriptor yX2_add.desc).map (fun d => d.parameters.length) = some 3 := ⟨rfl, hs_X2_add⟩
theorem hs_X2_bringBack : yX2_bringBack.cls ≠ "java/lang/invoke/MethodHandle" ∧ yX2_bringBack.cls ≠ "java/lang/invoke/VarHandle" ∧ (parseMethodDescriptor yX2_bringBack.desc).map (fun d => d.parameters.length) = some 3 := by decide +kernel
theorem hd_X2_bringBack : yX2_bringBack.cls = RX2 ∧ yX2_bringBack.cls ≠ "java/lang/invoke/MethodHandle" ∧ yX2_bringBack.cls ≠ "java/lang/invoke/VarHandle" ∧ (parseMethodDescriptor yX2_bringBack.desc).map (fun d => d.parameters.length) = some 3 := ⟨rfl, hs_X2_bringBack⟩
theorem hs_X2_isGone : yX2_isGone.cls ≠ "java/lang/invoke/MethodHandle" ∧ yX2_isGone.cls ≠ "java/lang/invoke/VarHandle" ∧ (parseMethodDescriptor yX2_isGone.desc).map (fun d => d.parameters.length) = some 1 := by decide +kernel
theorem hd_X2_isGone : yX2_isGone.cls = RX2 ∧ yX2_isGone.cls ≠ "java/lang/invoke/MethodHandle" ∧ yX2_isGone.cls ≠ "java/lang/invoke/VarHandle" ∧ (parseMethodDescriptor yX2_isGone.desc).map (fun d => d.parameters.length) = some 1 := ⟨rfl, hs_X2_isGone⟩
theorem hs_X2_asNumber : yX2_asNumber.cls ≠ "java/lang/invoke/MethodHandle" ∧ yX2_asNumber.cls ≠ "java/lang/invoke/VarHandle" ∧ (parseMethodDescriptor yX2_asNumber.desc).map (fun d => d.parameters.length) = some 1 := by decide +kernel
theorem hd_X2_asNumber : yX2_asNumber.cls = RX2 ∧ yX2_asNumber.cls ≠ "java/lang/invoke/MethodHandle" ∧ yX2_asNumber.cls ≠ "java/lang/invoke/VarHandle" ∧ (parseMethodDescriptor yX2_asNumber.desc).map (fun d => d.parameters.length) = some 1 := ⟨rfl, hs_X2_asNumber⟩
theorem hs_X2_covering : yX2_covering.cls ≠ "java/lang/invoke/MethodHandle" ∧ yX2_covering.cls ≠ "java/lang/invoke/VarHandle" ∧ (parseMethodDescriptor yX2_covering.desc).map (fun d => d.parameters.length) = some 1 := by decide +kernel
theorem hd_X2_covering : yX2_covering.cls = RX2 ∧ yX2_covering.cls ≠ "java/lang/invoke/MethodHandle" ∧ yX2_covering.cls ≠ "java/lang/invoke/VarHandle" ∧ (parseMethodDescriptor yX2_covering.desc).map (fun d => d.parameters.length) = some 1 := ⟨rfl, hs_X2_covering⟩
theorem hs_X2_share : yX2_share.cls ≠ "java/lang/invoke/MethodHandle" ∧ yX2_share.cls ≠ "java/lang/invoke/VarHandle" ∧ (parseMethodDescriptor yX2_share.desc).map (fun d => d.parameters.length) = some 2 := by decide +kernel
theorem hd_X2_share : yX2_share.cls = RX2 ∧ yX2_share.cls ≠ "java/lang/invoke/MethodHandle" ∧ yX2_share.cls ≠ "java/lang/invoke/VarHandle" ∧ (parseMethodDescriptor yX2_share.desc).map (fun d => d.parameters.length) = some 2 := ⟨rfl, hs_X2_share⟩
theorem hs_X2_moveByInsertion : yX2_moveByInsertion.cls ≠ "java/lang/invoke/MethodHandle" ∧ yX2_moveByInsertion.cls ≠ "java/lang/invoke/VarHandle" ∧ (parseMethodDescriptor yX2_moveByInsertion.desc).map (fun d => d.parameters.length) = some 2 := by decide +kernel
theorem hd_X2_moveByInsertion : yX2_moveByInsertion.cls = RX2 ∧ yX2_moveByInsertion.cls ≠ "java/lang/invoke/MethodHandle" ∧ yX2_moveByInsertion.cls ≠ "java/lang/invoke/VarHandle" ∧ (parseMethodDescriptor yX2_moveByInsertion.desc).map (fun d => d.parameters.length) = some 2 := ⟨rfl, hs_X2_moveByInsertion⟩
theorem hs_X2_behindInsertion : yX2_behindInsertion.cls ≠ "java/lang/invoke/MethodHandle" ∧ yX2_behindInsertion.cls ≠ "java/lang/invoke/VarHandle" ∧ (parseMethodDescriptor yX2_behindInsertion.desc).map (fun d => d.parameters.length) = some 4 := by decide +kernel
theorem hd_X2_behindInsertion : yX2_behindInsertion.cls = RX2 ∧ yX2_behindInsertion.cls ≠ "java/lang/invoke/MethodHandle" ∧ yX2_behindInsertion.cls ≠ "java/lang/invoke/VarHandle" ∧ (parseMethodDescriptor yX2_behindInsertion.desc).map (fun d => d.parameters.length) = some 4 := ⟨rfl, hs_X2_behindInsertion⟩
theorem hs_X2_moveByRemoval : yX2_moveByRemoval.cls ≠ "java/lang/invoke/MethodHandle" ∧ yX2_moveByRemoval.cls ≠ "java/lang/invoke/VarHandle" ∧ (parseMethodDescriptor yX2_moveByRemoval.desc).map (fun d => d.parameters.length) = some 2 := by decide +kernel
theorem hd_X2_moveByRemoval : yX2_moveByRemoval.cls = RX2 ∧ yX2_moveByRemoval.cls ≠ "java/lang/invoke/MethodHandle" ∧ yX2_moveByRemoval.cls ≠ "java/lang/invoke/VarHandle" ∧ (parseMethodDescriptor yX2_moveByRemoval.desc).map (fun d => d.parameters.length) = some 2 := ⟨rfl, hs_X2_moveByRemoval⟩
theorem hs_X2_behindRemoval : yX2_behindRemoval.cls ≠ "java/lang/invoke/MethodHandle" ∧ yX2_behindRemoval.cls ≠ "java/lang/invoke/VarHandle" ∧ (parseMethodDescriptor yX2_behindRemoval.desc).map (fun d => d.parameters.length) = some 3 := by decide +kernel
theorem hd_X2_behindRemoval : yX2_behindRemoval.cls = RX2 ∧ yX2_behindRemoval.cls ≠ "java/lang/invoke/MethodHandle" ∧ yX2_behindRemoval.cls ≠ "java/lang/invoke/VarHandle" ∧ (parseMethodDescriptor yX2_behindRemoval.desc).map (fun d => d.parameters.length) = some 3 := ⟨rfl, hs_X2_behindRemoval⟩
theorem hs_X3_init : yX3_init.cls ≠ "java/lang/invoke/MethodHandle" ∧ yX3_init.cls ≠ "java/lang/invoke/VarHandle" ∧ (parseMethodDescriptor yX3_init.desc).map (fun d => d.parameters.length) = some 0 := by decide +kernel
theorem hd_X3_init : yX3_init.cls = RX3 ∧ yX3_init.cls ≠ "java/lang/invoke/MethodHandle" ∧ yX3_init.cls ≠ "java/lang/invoke/VarHandle" ∧ (parseMethodDescriptor yX3_init.desc).map (fun d => d.parameters.length) = some 0 := ⟨rfl, hs_X3_init⟩
theorem hs_X3_hasLetterBehind : yX3_hasLetterBehind.cls ≠ "java/lang/invoke/MethodHandle" ∧ yX3_hasLetterBehind.cls ≠ "java/lang/invoke/VarHandle" ∧ (parseMethodDescriptor yX3_hasLetterBehind.desc).map (fun d => d.parameters.length) = some 1 := by decide +kernel
theorem hd_X3_hasLetterBehind : yX3_hasLetterBehind.cls = RX3 ∧ yX3_hasLetterBehind.cls ≠ "java/lang/invoke/MethodHandle" ∧ yX3_hasLetterBehind.cls ≠ "java/lang/invoke/VarHandle" ∧ (parseMethodDescriptor yX3_hasLetterBehind.desc).map (fun d => d.parameters.length) = some 1 := ⟨rfl, hs_X3_hasLetterBehind⟩
theorem hs_X3_letterBehind : yX3_letterBehind.cls ≠ "java/lang/invoke/MethodHandle" ∧ yX3_letterBehind.cls ≠ "java/lang/invoke/VarHandle" ∧ (parseMethodDescriptor yX3_letterBehind.desc).map (fun d => d.parameters.length) = some 1 := by decide +kernel
theorem hd_X3_letterBehind : yX3_letterBehind.cls = RX3 ∧ yX3_letterBehind.cls ≠ "java/lang/invoke/MethodHandle" ∧ yX3_letterBehind.cls ≠ "java/lang/invoke/VarHandle" ∧ (parseMethodDescriptor yX3_letterBehind.desc).map (fun d => d.parameters.length) = some 1 := ⟨rfl, hs_X3_letterBehind⟩
theorem hs_X3_marksBehind : yX3_marksBehind.cls ≠ "java/lang/invoke/MethodHandle" ∧ yX3_marksBehind.cls ≠ "java/lang/invoke/VarHandle" ∧ (parseMethodDescriptor yX3_marksBehind.desc).map (fun d => d.parameters.length) = some 1 := by decide +kernel
theorem hd_X3_marksBehind : yX3_marksBehind.cls = RX3 ∧ yX3_marksBehind.cls ≠ "java/lang/invoke/MethodHandle" ∧ yX3_marksBehind.cls ≠ "java/lang/invoke/VarHandle" ∧ (parseMethodDescriptor yX3_marksBehind.desc).map (fun d => d.parameters.length) = some 1 := ⟨rfl, hs_X3_marksBehind⟩
theorem hs_X3_putIn : yX3_putIn.cls ≠ "java/lang/invoke/MethodHandle" ∧ yX3_putIn.cls ≠ "java/lang/invoke/VarHandle" ∧ (parseMethodDescriptor yX3_putIn.desc).map (fun d => d.parameters.length) = some 3 := by decide +kernel
theorem hd_X3_putIn : yX3_putIn.cls = RX3 ∧ yX3_putIn.cls ≠ "java/lang/invoke/MethodHandle" ∧ yX3_putIn.cls ≠ "java/lang/invoke/VarHandle" ∧ (parseMethodDescriptor yX3_putIn.desc).map (fun d => d.parameters.length) = some 3 := ⟨rfl, hs_X3_putIn⟩
theorem hs_X3_takeOut : yX3_takeOut.cls ≠ "java/lang/invoke/MethodHandle" ∧ yX3_takeOut.cls ≠ "java/lang/invoke/VarHandle" ∧ (parseMethodDescriptor yX3_takeOut.desc).map (fun d => d.parameters.length) = some 2 := by decide +kernel
theorem hd_X3_takeOut : yX3_takeOut.cls = RX3 ∧ yX3_takeOut.cls ≠ "java/lang/invoke/MethodHandle" ∧ yX3_takeOut.cls ≠ "java/lang/invoke/VarHandle" ∧ (parseMethodDescriptor yX3_takeOut.desc).map (fun d => d.parameters.length) = some 2 := ⟨rfl, hs_X3_takeOut⟩
theorem hs_X3_moveTail : yX3_moveTail.cls ≠ "java/lang/invoke/MethodHandle" ∧ yX3_moveTail.cls ≠ "java/lang/invoke/VarHandle" ∧ (parseMethodDescriptor yX3_moveTail.desc).map (fun d => d.parameters.length) = some 2 := by decide +kernel
theorem hd_X3_moveTail : yX3_moveTail.cls = RX3 ∧ yX3_moveTail.cls ≠ "java/lang/invoke/MethodHandle" ∧ yX3_moveTail.cls ≠ "java/lang/invoke/VarHandle" ∧ (parseMethodDescriptor yX3_moveTail.desc).map (fun d => d.parameters.length) = some 2 := ⟨rfl, hs_X3_moveTail⟩
theorem hs_X3_mark : yX3_mark.cls ≠ "java/lang/invoke/MethodHandle" ∧ yX3_mark.cls ≠ "java/lang/invoke/VarHandle" ∧ (parseMethodDescriptor yX3_mark.desc).map (fun d => d.parameters.length) = some 3 := by decide +kernel
theorem hd_X3_mark : yX3_mark.cls = RX3 ∧ yX3_mark.cls ≠ "java/lang/invoke/MethodHandle" ∧ yX3_mark.cls ≠ "java/lang/invoke/VarHandle" ∧ (parseMethodDescriptor yX3_mark.desc).map (fun d => d.parameters.length) = some 3 := ⟨rfl, hs_X3_mark⟩
theorem hs_X4_init : yX4_init.cls ≠ "java/lang/invoke/MethodHandle" ∧ yX4_init.cls ≠ "java/lang/invoke/VarHandle" ∧ (parseMethodDescriptor yX4_init.desc).map (fun d => d.parameters.length) = some 0 := by decide +kernel
theorem hd_X4_init : yX4_init.cls = RX4 ∧ yX4_init.cls ≠ "java/lang/invoke/MethodHandle" ∧ yX4_init.cls ≠ "java/lang/invoke/VarHandle" ∧ (parseMethodDescriptor yX4_init.desc).map (fun d => d.parameters.length) = some 0 := ⟨rfl, hs_X4_init⟩
theorem hs_X4_insert : yX4_insert.cls ≠ "java/lang/invoke/MethodHandle" ∧ yX4_insert.cls ≠ "java/lang/invoke/VarHandle" ∧ (parseMethodDescriptor yX4_insert.desc).map (fun d => d.parameters.length) = some 3 := by decide +kernel
theorem hd_X4_insert : yX4_insert.cls = RX4 ∧ yX4_insert.cls ≠ "java/lang/invoke/MethodHandle" ∧ yX4_insert.cls ≠ "java/lang/invoke/VarHandle" ∧ (parseMethodDescriptor yX4_insert.desc).map (fun d => d.parameters.length) = some 3 := ⟨rfl, hs_X4_insert⟩
theorem hs_X4_remove : yX4_remove.cls ≠ "java/lang/invoke/MethodHandle" ∧ yX4_remove.cls ≠ "java/lang/invoke/VarHandle" ∧ (parseMethodDescriptor yX4_remove.desc).map (fun d => d.parameters.length) = some 2 := by decide +kernel
theorem hd_X4_remove : yX4_remove.cls = RX4 ∧ yX4_remove.cls ≠ "java/lang/invoke/MethodHandle" ∧ yX4_remove.cls ≠ "java/lang/invoke/VarHandle" ∧ (parseMethodDescriptor yX4_remove.desc).map (fun d => d.parameters.length) = some 2 := ⟨rfl, hs_X4_remove⟩
theorem hs_X4_length : yX4_length.cls ≠ "java/lang/invoke/MethodHandle" ∧ yX4_length.cls ≠ "java/lang/invoke/VarHandle" ∧ (parseMethodDescriptor yX4_length.desc).map (fun d => d.parameters.length) = some 0 := by decide +kernel
theorem hd_X4_length : yX4_length.cls = RX4 ∧ yX4_length.cls ≠ "java/lang/invoke/MethodHandle" ∧ yX4_length.cls ≠ "java/lang/invoke/VarHandle" ∧ (parseMethodDescriptor yX4_length.desc).map (fun d => d.parameters.length) = some 0 := ⟨rfl, hs_X4_length⟩
theorem hs_X4_letterAt : yX4_letterAt.cls ≠ "java/lang/invoke/MethodHandle" ∧ yX4_letterAt.cls ≠ "java/lang/invoke/VarHandle" ∧ (parseMethodDescriptor yX4_letterAt.desc).map (fun d => d.parameters.length) = some 1 := by decide +kernel
theorem hd_X4_letterAt : yX4_letterAt.cls = RX4 ∧ yX4_letterAt.cls ≠ "java/lang/invoke/MethodHandle" ∧ yX4_letterAt.cls ≠ "java/lang/invoke/VarHandle" ∧ (parseMethodDescriptor yX4_letterAt.desc).map (fun d => d.parameters.length) = some 1 := ⟨rfl, hs_X4_letterAt⟩
theorem hs_X4_version : yX4_version.cls ≠ "java/lang/invoke/MethodHandle" ∧ yX4_version.cls ≠ "java/lang/invoke/VarHandle" ∧ (parseMethodDescriptor yX4_version.desc).map (fun d => d.parameters.length) = some 0 := by decide +kernel
theorem hd_X4_version : yX4_version.cls = RX4 ∧ yX4_version.cls ≠ "java/lang/invoke/MethodHandle" ∧ yX4_version.cls ≠ "java/lang/invoke/VarHandle" ∧ (parseMethodDescriptor yX4_version.desc).map (fun d => d.parameters.length) = some 0 := ⟨rfl, hs_X4_version⟩
theorem hs_X4_comment : yX4_comment.cls ≠ "java/lang/invoke/MethodHandle" ∧ yX4_comment.cls ≠ "java/lang/invoke/VarHandle" ∧ (parseMethodDescriptor yX4_comment.desc).map (fun d => d.parameters.length) = some 3 := by decide +kernel
theorem hd_X4_comment : yX4_comment.cls = RX4 ∧ yX4_comment.cls ≠ "java/lang/invoke/MethodHandle" ∧ yX4_comment.cls ≠ "java/lang/invoke/VarHandle" ∧ (parseMethodDescriptor yX4_comment.desc).map (fun d => d.parameters.length) = some 3 := ⟨rfl, hs_X4_comment⟩
theorem hs_X4_answer : yX4_answer.cls ≠ "java/lang/invoke/MethodHandle" ∧ yX4_answer.cls ≠ "java/lang/invoke/VarHandle" ∧ (parseMethodDescriptor yX4_answer.desc).map (fun d => d.parameters.length) = some 1 := by decide +kernel
theorem hd_X4_answer : yX4_answer.cls = RX4 ∧ yX4_answer.cls ≠ "java/lang/invoke/MethodHandle" ∧ yX4_answer.cls ≠ "java/lang/invoke/VarHandle" ∧ (parseMethodDescriptor yX4_answer.desc).map (fun d => d.parameters.length) = some 1 := ⟨rfl, hs_X4_answer⟩
theorem hs_X4_resolve : yX4_resolve.cls ≠ "java/lang/invoke/MethodHandle" ∧ yX4_resolve.cls ≠ "java/lang/invoke/VarHandle" ∧ (parseMethodDescriptor yX4_resolve.desc).map (fun d => d.parameters.length) = some 1 := by decide +kernel
theorem hd_X4_resolve : yX4_resolve.cls = RX4 ∧ yX4_resolve.cls ≠ "java/lang/invoke/MethodHandle" ∧ yX4_resolve.cls ≠ "java/lang/invoke/VarHandle" ∧ (parseMethodDescriptor yX4_resolve.desc).map (fun d => d.parameters.length) = some 1 := ⟨rfl, hs_X4_resolve⟩
theorem hs_X4_find : yX4_find.cls ≠ "java/lang/invoke/MethodHandle" ∧ yX4_find.cls ≠ "java/lang/invoke/VarHandle" ∧ (parseMethodDescriptor yX4_find.desc).map (fun d => d.parameters.length) = some 1 := by decide +kernel
theorem hd_X4_find : yX4_find.cls = RX4 ∧ yX4_find.cls ≠ "java/lang/invoke/MethodHandle" ∧ yX4_find.cls ≠ "java/lang/invoke/VarHandle" ∧ (parseMethodDescriptor yX4_find.desc).map (fun d => d.parameters.length) = some 1 := ⟨rfl, hs_X4_find⟩
theorem hs_X4_comments : yX4_comments.cls ≠ "java/lang/invoke/MethodHandle" ∧ yX4_comments.cls ≠ "java/lang/invoke/VarHandle" ∧ (parseMethodDescriptor yX4_comments.desc).map (fun d => d.parameters.length) = some 0 := by decide +kernel
theorem hd_X4_comments : yX4_comments.cls = RX4 ∧ yX4_comments.cls ≠ "java/lang/invoke/MethodHandle" ∧ yX4_comments.cls ≠ "java/lang/invoke/VarHandle" ∧ (parseMethodDescriptor yX4_comments.desc).map (fun d => d.parameters.length) = some 0 := ⟨rfl, hs_X4_comments⟩
theorem hs_X4_rangeOf : yX4_rangeOf.cls ≠ "java/lang/invoke/MethodHandle" ∧ yX4_rangeOf.cls ≠ "java/lang/invoke/VarHandle" ∧ (parseMethodDescriptor yX4_rangeOf.desc).map (fun d => d.parameters.length) = some 1 := by decide +kernel
theorem hd_X4_rangeOf : yX4_rangeOf.cls = RX4 ∧ yX4_rangeOf.cls ≠ "java/lang/invoke/MethodHandle" ∧ yX4_rangeOf.cls ≠ "java/lang/invoke/VarHandle" ∧ (parseMethodDescriptor yX4_rangeOf.desc).map (fun d => d.parameters.length) = some 1 := ⟨rfl, hs_X4_rangeOf⟩
theorem hs_X4_rangeThen : yX4_rangeThen.cls ≠ "java/lang/invoke/MethodHandle" ∧ yX4_rangeThen.cls ≠ "java/lang/invoke/VarHandle" ∧ (parseMethodDescriptor yX4_rangeThen.desc).map (fun d => d.parameters.length) = some 2 := by decide +kernel
theorem hd_X4_rangeThen : yX4_rangeThen.cls = RX4 ∧ yX4_rangeThen.cls ≠ "java/lang/invoke/MethodHandle" ∧ yX4_rangeThen.cls ≠ "java/lang/invoke/VarHandle" ∧ (parseMethodDescriptor yX4_rangeThen.desc).map (fun d => d.parameters.length) = some 2 := ⟨rfl, hs_X4_rangeThen⟩
theorem hs_X4_open : yX4_open.cls ≠ "java/lang/invoke/MethodHandle" ∧ yX4_open.cls ≠ "java/lang/invoke/VarHandle" ∧ (parseMethodDescriptor yX4_open.desc).map (fun d => d.parameters.length) = some 0 := by decide +kernel
theorem hd_X4_open : yX4_open.cls = RX4 ∧ yX4_open.cls ≠ "java/lang/invoke/MethodHandle" ∧ yX4_open.cls ≠ "java/lang/invoke/VarHandle" ∧ (parseMethodDescriptor yX4_open.desc).map (fun d => d.parameters.length) = some 0 := ⟨rfl, hs_X4_open⟩
theorem hs_X4_orphans : yX4_orphans.cls ≠ "java/lang/invoke/MethodHandle" ∧ yX4_orphans.cls ≠ "java/lang/invoke/VarHandle" ∧ (parseMethodDescriptor yX4_orphans.desc).map (fun d => d.parameters.length) = some 0 := by decide +kernel
theorem hd_X4_orphans : yX4_orphans.cls = RX4 ∧ yX4_orphans.cls ≠ "java/lang/invoke/MethodHandle" ∧ yX4_orphans.cls ≠ "java/lang/invoke/VarHandle" ∧ (parseMethodDescriptor yX4_orphans.desc).map (fun d => d.parameters.length) = some 0 := ⟨rfl, hs_X4_orphans⟩
theorem hs_X4_cover : yX4_cover.cls ≠ "java/lang/invoke/MethodHandle" ∧ yX4_cover.cls ≠ "java/lang/invoke/VarHandle" ∧ (parseMethodDescriptor yX4_cover.desc).map (fun d => d.parameters.length) = some 1 := by decide +kernel
theorem hd_X4_cover : yX4_cover.cls = RX4 ∧ yX4_cover.cls ≠ "java/lang/invoke/MethodHandle" ∧ yX4_cover.cls ≠ "java/lang/invoke/VarHandle" ∧ (parseMethodDescriptor yX4_cover.desc).map (fun d => d.parameters.length) = some 1 := ⟨rfl, hs_X4_cover⟩
theorem hs_X4_coverByLetters : yX4_coverByLetters.cls ≠ "java/lang/invoke/MethodHandle" ∧ yX4_coverByLetters.cls ≠ "java/lang/invoke/VarHandle" ∧ (parseMethodDescriptor yX4_coverByLetters.desc).map (fun d => d.parameters.length) = some 1 := by decide +kernel
theorem hd_X4_coverByLetters : yX4_coverByLetters.cls = RX4 ∧ yX4_coverByLetters.cls ≠ "java/lang/invoke/MethodHandle" ∧ yX4_coverByLetters.cls ≠ "java/lang/invoke/VarHandle" ∧ (parseMethodDescriptor yX4_coverByLetters.desc).map (fun d => d.parameters.length) = some 1 := ⟨rfl, hs_X4_coverByLetters⟩
theorem hs_X4_pieces : yX4_pieces.cls ≠ "java/lang/invoke/MethodHandle" ∧ yX4_pieces.cls ≠ "java/lang/invoke/VarHandle" ∧ (parseMethodDescriptor yX4_pieces.desc).map (fun d => d.parameters.length) = some 0 := by decide +kernel
theorem hd_X4_pieces : yX4_pieces.cls = RX4 ∧ yX4_pieces.cls ≠ "java/lang/invoke/MethodHandle" ∧ yX4_pieces.cls ≠ "java/lang/invoke/VarHandle" ∧ (parseMethodDescriptor yX4_pieces.desc).map (fun d => d.parameters.length) = some 0 := ⟨rfl, hs_X4_pieces⟩
theorem hs_X4_pieceAt : yX4_pieceAt.cls ≠ "java/lang/invoke/MethodHandle" ∧ yX4_pieceAt.cls ≠ "java/lang/invoke/VarHandle" ∧ (parseMethodDescriptor yX4_pieceAt.desc).map (fun d => d.parameters.length) = some 1 := by decide +kernel
theorem hd_X4_pieceAt : yX4_pieceAt.cls = RX4 ∧ yX4_pieceAt.cls ≠ "java/lang/invoke/MethodHandle" ∧ yX4_pieceAt.cls ≠ "java/lang/invoke/VarHandle" ∧ (parseMethodDescriptor yX4_pieceAt.desc).map (fun d => d.parameters.length) = some 1 := ⟨rfl, hs_X4_pieceAt⟩
theorem hs_X4_suggest : yX4_suggest.cls ≠ "java/lang/invoke/MethodHandle" ∧ yX4_suggest.cls ≠ "java/lang/invoke/VarHandle" ∧ (parseMethodDescriptor yX4_suggest.desc).map (fun d => d.parameters.length) = some 4 := by decide +kernel
theorem hd_X4_suggest : yX4_suggest.cls = RX4 ∧ yX4_suggest.cls ≠ "java/lang/invoke/MethodHandle" ∧ yX4_suggest.cls ≠ "java/lang/invoke/VarHandle" ∧ (parseMethodDescriptor yX4_suggest.desc).map (fun d => d.parameters.length) = some 4 := ⟨rfl, hs_X4_suggest⟩
theorem hs_X4_accept : yX4_accept.cls ≠ "java/lang/invoke/MethodHandle" ∧ yX4_accept.cls ≠ "java/lang/invoke/VarHandle" ∧ (parseMethodDescriptor yX4_accept.desc).map (fun d => d.parameters.length) = some 1 := by decide +kernel
theorem hd_X4_accept : yX4_accept.cls = RX4 ∧ yX4_accept.cls ≠ "java/lang/invoke/MethodHandle" ∧ yX4_accept.cls ≠ "java/lang/invoke/VarHandle" ∧ (parseMethodDescriptor yX4_accept.desc).map (fun d => d.parameters.length) = some 1 := ⟨rfl, hs_X4_accept⟩
theorem hs_X4_reject : yX4_reject.cls ≠ "java/lang/invoke/MethodHandle" ∧ yX4_reject.cls ≠ "java/lang/invoke/VarHandle" ∧ (parseMethodDescriptor yX4_reject.desc).map (fun d => d.parameters.length) = some 1 := by decide +kernel
theorem hd_X4_reject : yX4_reject.cls = RX4 ∧ yX4_reject.cls ≠ "java/lang/invoke/MethodHandle" ∧ yX4_reject.cls ≠ "java/lang/invoke/VarHandle" ∧ (parseMethodDescriptor yX4_reject.desc).map (fun d => d.parameters.length) = some 1 := ⟨rfl, hs_X4_reject⟩
theorem hs_X4_stateOf : yX4_stateOf.cls ≠ "java/lang/invoke/MethodHandle" ∧ yX4_stateOf.cls ≠ "java/lang/invoke/VarHandle" ∧ (parseMethodDescriptor yX4_stateOf.desc).map (fun d => d.parameters.length) = some 1 := by decide +kernel
theorem hd_X4_stateOf : yX4_stateOf.cls = RX4 ∧ yX4_stateOf.cls ≠ "java/lang/invoke/MethodHandle" ∧ yX4_stateOf.cls ≠ "java/lang/invoke/VarHandle" ∧ (parseMethodDescriptor yX4_stateOf.desc).map (fun d => d.parameters.length) = some 1 := ⟨rfl, hs_X4_stateOf⟩
theorem hs_X4_overlaps : yX4_overlaps.cls ≠ "java/lang/invoke/MethodHandle" ∧ yX4_overlaps.cls ≠ "java/lang/invoke/VarHandle" ∧ (parseMethodDescriptor yX4_overlaps.desc).map (fun d => d.parameters.length) = some 1 := by decide +kernel
theorem hd_X4_overlaps : yX4_overlaps.cls = RX4 ∧ yX4_overlaps.cls ≠ "java/lang/invoke/MethodHandle" ∧ yX4_overlaps.cls ≠ "java/lang/invoke/VarHandle" ∧ (parseMethodDescriptor yX4_overlaps.desc).map (fun d => d.parameters.length) = some 1 := ⟨rfl, hs_X4_overlaps⟩
theorem hs_X4_checkPlace : yX4_checkPlace.cls ≠ "java/lang/invoke/MethodHandle" ∧ yX4_checkPlace.cls ≠ "java/lang/invoke/VarHandle" ∧ (parseMethodDescriptor yX4_checkPlace.desc).map (fun d => d.parameters.length) = some 1 := by decide +kernel
theorem hd_X4_checkPlace : yX4_checkPlace.cls = RX4 ∧ yX4_checkPlace.cls ≠ "java/lang/invoke/MethodHandle" ∧ yX4_checkPlace.cls ≠ "java/lang/invoke/VarHandle" ∧ (parseMethodDescriptor yX4_checkPlace.desc).map (fun d => d.parameters.length) = some 1 := ⟨rfl, hs_X4_checkPlace⟩
theorem hs_X4_checkRange : yX4_checkRange.cls ≠ "java/lang/invoke/MethodHandle" ∧ yX4_checkRange.cls ≠ "java/lang/invoke/VarHandle" ∧ (parseMethodDescriptor yX4_checkRange.desc).map (fun d => d.parameters.length) = some 2 := by decide +kernel
theorem hd_X4_checkRange : yX4_checkRange.cls = RX4 ∧ yX4_checkRange.cls ≠ "java/lang/invoke/MethodHandle" ∧ yX4_checkRange.cls ≠ "java/lang/invoke/VarHandle" ∧ (parseMethodDescriptor yX4_checkRange.desc).map (fun d => d.parameters.length) = some 2 := ⟨rfl, hs_X4_checkRange⟩
theorem hs_X4_checkLetter : yX4_checkLetter.cls ≠ "java/lang/invoke/MethodHandle" ∧ yX4_checkLetter.cls ≠ "java/lang/invoke/VarHandle" ∧ (parseMethodDescriptor yX4_checkLetter.desc).map (fun d => d.parameters.length) = some 1 := by decide +kernel
theorem hd_X4_checkLetter : yX4_checkLetter.cls = RX4 ∧ yX4_checkLetter.cls ≠ "java/lang/invoke/MethodHandle" ∧ yX4_checkLetter.cls ≠ "java/lang/invoke/VarHandle" ∧ (parseMethodDescriptor yX4_checkLetter.desc).map (fun d => d.parameters.length) = some 1 := ⟨rfl, hs_X4_checkLetter⟩
theorem hs_X4_checkAmong : yX4_checkAmong.cls ≠ "java/lang/invoke/MethodHandle" ∧ yX4_checkAmong.cls ≠ "java/lang/invoke/VarHandle" ∧ (parseMethodDescriptor yX4_checkAmong.desc).map (fun d => d.parameters.length) = some 3 := by decide +kernel
theorem hd_X4_checkAmong : yX4_checkAmong.cls = RX4 ∧ yX4_checkAmong.cls ≠ "java/lang/invoke/MethodHandle" ∧ yX4_checkAmong.cls ≠ "java/lang/invoke/VarHandle" ∧ (parseMethodDescriptor yX4_checkAmong.desc).map (fun d => d.parameters.length) = some 3 := ⟨rfl, hs_X4_checkAmong⟩
theorem hs_X4_checkComment : yX4_checkComment.cls ≠ "java/lang/invoke/MethodHandle" ∧ yX4_checkComment.cls ≠ "java/lang/invoke/VarHandle" ∧ (parseMethodDescriptor yX4_checkComment.desc).map (fun d => d.parameters.length) = some 1 := by decide +kernel
theorem hd_X4_checkComment : yX4_checkComment.cls = RX4 ∧ yX4_checkComment.cls ≠ "java/lang/invoke/MethodHandle" ∧ yX4_checkComment.cls ≠ "java/lang/invoke/VarHandle" ∧ (parseMethodDescriptor yX4_checkComment.desc).map (fun d => d.parameters.length) = some 1 := ⟨rfl, hs_X4_checkComment⟩
theorem hs_X4_checkSuggestion : yX4_checkSuggestion.cls ≠ "java/lang/invoke/MethodHandle" ∧ yX4_checkSuggestion.cls ≠ "java/lang/invoke/VarHandle" ∧ (parseMethodDescriptor yX4_checkSuggestion.desc).map (fun d => d.parameters.length) = some 1 := by decide +kernel
theorem hd_X4_checkSuggestion : yX4_checkSuggestion.cls = RX4 ∧ yX4_checkSuggestion.cls ≠ "java/lang/invoke/MethodHandle" ∧ yX4_checkSuggestion.cls ≠ "java/lang/invoke/VarHandle" ∧ (parseMethodDescriptor yX4_checkSuggestion.desc).map (fun d => d.parameters.length) = some 1 := ⟨rfl, hs_X4_checkSuggestion⟩
theorem hs_X4_checkWaiting : yX4_checkWaiting.cls ≠ "java/lang/invoke/MethodHandle" ∧ yX4_checkWaiting.cls ≠ "java/lang/invoke/VarHandle" ∧ (parseMethodDescriptor yX4_checkWaiting.desc).map (fun d => d.parameters.length) = some 1 := by decide +kernel
theorem hd_X4_checkWaiting : yX4_checkWaiting.cls = RX4 ∧ yX4_checkWaiting.cls ≠ "java/lang/invoke/MethodHandle" ∧ yX4_checkWaiting.cls ≠ "java/lang/invoke/VarHandle" ∧ (parseMethodDescriptor yX4_checkWaiting.desc).map (fun d => d.parameters.length) = some 1 := ⟨rfl, hs_X4_checkWaiting⟩
theorem hs_X4_checkRoom : yX4_checkRoom.cls ≠ "java/lang/invoke/MethodHandle" ∧ yX4_checkRoom.cls ≠ "java/lang/invoke/VarHandle" ∧ (parseMethodDescriptor yX4_checkRoom.desc).map (fun d => d.parameters.length) = some 2 := by decide +kernel
theorem hd_X4_checkRoom : yX4_checkRoom.cls = RX4 ∧ yX4_checkRoom.cls ≠ "java/lang/invoke/MethodHandle" ∧ yX4_checkRoom.cls ≠ "java/lang/invoke/VarHandle" ∧ (parseMethodDescriptor yX4_checkRoom.desc).map (fun d => d.parameters.length) = some 2 := ⟨rfl, hs_X4_checkRoom⟩
theorem hs_X4_putLettersIn : yX4_putLettersIn.cls ≠ "java/lang/invoke/MethodHandle" ∧ yX4_putLettersIn.cls ≠ "java/lang/invoke/VarHandle" ∧ (parseMethodDescriptor yX4_putLettersIn.desc).map (fun d => d.parameters.length) = some 3 := by decide +kernel
theorem hd_X4_putLettersIn : yX4_putLettersIn.cls = RX4 ∧ yX4_putLettersIn.cls ≠ "java/lang/invoke/MethodHandle" ∧ yX4_putLettersIn.cls ≠ "java/lang/invoke/VarHandle" ∧ (parseMethodDescriptor yX4_putLettersIn.desc).map (fun d => d.parameters.length) = some 3 := ⟨rfl, hs_X4_putLettersIn⟩
theorem hs_X4_takeLettersOut : yX4_takeLettersOut.cls ≠ "java/lang/invoke/MethodHandle" ∧ yX4_takeLettersOut.cls ≠ "java/lang/invoke/VarHandle" ∧ (parseMethodDescriptor yX4_takeLettersOut.desc).map (fun d => d.parameters.length) = some 2 := by decide +kernel
theorem hd_X4_takeLettersOut : yX4_takeLettersOut.cls = RX4 ∧ yX4_takeLettersOut.cls ≠ "java/lang/invoke/MethodHandle" ∧ yX4_takeLettersOut.cls ≠ "java/lang/invoke/VarHandle" ∧ (parseMethodDescriptor yX4_takeLettersOut.desc).map (fun d => d.parameters.length) = some 2 := ⟨rfl, hs_X4_takeLettersOut⟩
theorem hs_X4_leaveVersion : yX4_leaveVersion.cls ≠ "java/lang/invoke/MethodHandle" ∧ yX4_leaveVersion.cls ≠ "java/lang/invoke/VarHandle" ∧ (parseMethodDescriptor yX4_leaveVersion.desc).map (fun d => d.parameters.length) = some 0 := by decide +kernel
theorem hd_X4_leaveVersion : yX4_leaveVersion.cls = RX4 ∧ yX4_leaveVersion.cls ≠ "java/lang/invoke/MethodHandle" ∧ yX4_leaveVersion.cls ≠ "java/lang/invoke/VarHandle" ∧ (parseMethodDescriptor yX4_leaveVersion.desc).map (fun d => d.parameters.length) = some 0 := ⟨rfl, hs_X4_leaveVersion⟩
theorem hs_X4_letGo : yX4_letGo.cls ≠ "java/lang/invoke/MethodHandle" ∧ yX4_letGo.cls ≠ "java/lang/invoke/VarHandle" ∧ (parseMethodDescriptor yX4_letGo.desc).map (fun d => d.parameters.length) = some 1 := by decide +kernel
theorem hd_X4_letGo : yX4_letGo.cls = RX4 ∧ yX4_letGo.cls ≠ "java/lang/invoke/MethodHandle" ∧ yX4_letGo.cls ≠ "java/lang/invoke/VarHandle" ∧ (parseMethodDescriptor yX4_letGo.desc).map (fun d => d.parameters.length) = some 1 := ⟨rfl, hs_X4_letGo⟩
theorem hs_X4_bit : yX4_bit.cls ≠ "java/lang/invoke/MethodHandle" ∧ yX4_bit.cls ≠ "java/lang/invoke/VarHandle" ∧ (parseMethodDescriptor yX4_bit.desc).map (fun d => d.parameters.length) = some 1 := by decide +kernel
theorem hd_X4_bit : yX4_bit.cls = RX4 ∧ yX4_bit.cls ≠ "java/lang/invoke/MethodHandle" ∧ yX4_bit.cls ≠ "java/lang/invoke/VarHandle" ∧ (parseMethodDescriptor yX4_bit.desc).map (fun d => d.parameters.length) = some 1 := ⟨rfl, hs_X4_bit⟩
theorem hs_X4_beginsPiece : yX4_beginsPiece.cls ≠ "java/lang/invoke/MethodHandle" ∧ yX4_beginsPiece.cls ≠ "java/lang/invoke/VarHandle" ∧ (parseMethodDescriptor yX4_beginsPiece.desc).map (fun d => d.parameters.length) = some 1 := by decide +kernel
theorem hd_X4_beginsPiece : yX4_beginsPiece.cls = RX4 ∧ yX4_beginsPiece.cls ≠ "java/lang/invoke/MethodHandle" ∧ yX4_beginsPiece.cls ≠ "java/lang/invoke/VarHandle" ∧ (parseMethodDescriptor yX4_beginsPiece.desc).map (fun d => d.parameters.length) = some 1 := ⟨rfl, hs_X4_beginsPiece⟩
theorem hs_X4_overlapping : yX4_overlapping.cls ≠ "java/lang/invoke/MethodHandle" ∧ yX4_overlapping.cls ≠ "java/lang/invoke/VarHandle" ∧ (parseMethodDescriptor yX4_overlapping.desc).map (fun d => d.parameters.length) = some 1 := by decide +kernel
theorem hd_X4_overlapping : yX4_overlapping.cls = RX4 ∧ yX4_overlapping.cls ≠ "java/lang/invoke/MethodHandle" ∧ yX4_overlapping.cls ≠ "java/lang/invoke/VarHandle" ∧ (parseMethodDescriptor yX4_overlapping.desc).map (fun d => d.parameters.length) = some 1 := ⟨rfl, hs_X4_overlapping⟩
theorem hs_X4_countWaiting : yX4_countWaiting.cls ≠ "java/lang/invoke/MethodHandle" ∧ yX4_countWaiting.cls ≠ "java/lang/invoke/VarHandle" ∧ (parseMethodDescriptor yX4_countWaiting.desc).map (fun d => d.parameters.length) = some 0 := by decide +kernel
theorem hd_X4_countWaiting : yX4_countWaiting.cls = RX4 ∧ yX4_countWaiting.cls ≠ "java/lang/invoke/MethodHandle" ∧ yX4_countWaiting.cls ≠ "java/lang/invoke/VarHandle" ∧ (parseMethodDescriptor yX4_countWaiting.desc).map (fun d => d.parameters.length) = some 0 := ⟨rfl, hs_X4_countWaiting⟩
theorem hs_X5_init : yX5_init.cls ≠ "java/lang/invoke/MethodHandle" ∧ yX5_init.cls ≠ "java/lang/invoke/VarHandle" ∧ (parseMethodDescriptor yX5_init.desc).map (fun d => d.parameters.length) = some 0 := by decide +kernel
theorem hd_X5_init : yX5_init.cls = RX5 ∧ yX5_init.cls ≠ "java/lang/invoke/MethodHandle" ∧ yX5_init.cls ≠ "java/lang/invoke/VarHandle" ∧ (parseMethodDescriptor yX5_init.desc).map (fun d => d.parameters.length) = some 0 := ⟨rfl, hs_X5_init⟩
theorem hs_X5_thrown : yX5_thrown.cls ≠ "java/lang/invoke/MethodHandle" ∧ yX5_thrown.cls ≠ "java/lang/invoke/VarHandle" ∧ (parseMethodDescriptor yX5_thrown.desc).map (fun d => d.parameters.length) = some 0 := by decide +kernel
theorem hd_X5_thrown : yX5_thrown.cls = RX5 ∧ yX5_thrown.cls ≠ "java/lang/invoke/MethodHandle" ∧ yX5_thrown.cls ≠ "java/lang/invoke/VarHandle" ∧ (parseMethodDescriptor yX5_thrown.desc).map (fun d => d.parameters.length) = some 0 := ⟨rfl, hs_X5_thrown⟩
theorem hs_X5_fails : yX5_fails.cls ≠ "java/lang/invoke/MethodHandle" ∧ yX5_fails.cls ≠ "java/lang/invoke/VarHandle" ∧ (parseMethodDescriptor yX5_fails.desc).map (fun d => d.parameters.length) = some 1 := by decide +kernel
theorem hd_X5_fails : yX5_fails.cls = RX5 ∧ yX5_fails.cls ≠ "java/lang/invoke/MethodHandle" ∧ yX5_fails.cls ≠ "java/lang/invoke/VarHandle" ∧ (parseMethodDescriptor yX5_fails.desc).map (fun d => d.parameters.length) = some 1 := ⟨rfl, hs_X5_fails⟩
theorem hs_X5_in : yX5_in.cls ≠ "java/lang/invoke/MethodHandle" ∧ yX5_in.cls ≠ "java/lang/invoke/VarHandle" ∧ (parseMethodDescriptor yX5_in.desc).map (fun d => d.parameters.length) = some 3 := by decide +kernel
theorem hd_X5_in : yX5_in.cls = RX5 ∧ yX5_in.cls ≠ "java/lang/invoke/MethodHandle" ∧ yX5_in.cls ≠ "java/lang/invoke/VarHandle" ∧ (parseMethodDescriptor yX5_in.desc).map (fun d => d.parameters.length) = some 3 := ⟨rfl, hs_X5_in⟩
theorem hs_X5_isPlace : yX5_isPlace.cls ≠ "java/lang/invoke/MethodHandle" ∧ yX5_isPlace.cls ≠ "java/lang/invoke/VarHandle" ∧ (parseMethodDescriptor yX5_isPlace.desc).map (fun d => d.parameters.length) = some 1 := by decide +kernel
theorem hd_X5_isPlace : yX5_isPlace.cls = RX5 ∧ yX5_isPlace.cls ≠ "java/lang/invoke/MethodHandle" ∧ yX5_isPlace.cls ≠ "java/lang/invoke/VarHandle" ∧ (parseMethodDescriptor yX5_isPlace.desc).map (fun d => d.parameters.length) = some 1 := ⟨rfl, hs_X5_isPlace⟩
theorem hs_X5_isComment : yX5_isComment.cls ≠ "java/lang/invoke/MethodHandle" ∧ yX5_isComment.cls ≠ "java/lang/invoke/VarHandle" ∧ (parseMethodDescriptor yX5_isComment.desc).map (fun d => d.parameters.length) = some 1 := by decide +kernel
theorem hd_X5_isComment : yX5_isComment.cls = RX5 ∧ yX5_isComment.cls ≠ "java/lang/invoke/MethodHandle" ∧ yX5_isComment.cls ≠ "java/lang/invoke/VarHandle" ∧ (parseMethodDescriptor yX5_isComment.desc).map (fun d => d.parameters.length) = some 1 := ⟨rfl, hs_X5_isComment⟩
theorem hs_X5_isSuggestion : yX5_isSuggestion.cls ≠ "java/lang/invoke/MethodHandle" ∧ yX5_isSuggestion.cls ≠ "java/lang/invoke/VarHandle" ∧ (parseMethodDescriptor yX5_isSuggestion.desc).map (fun d => d.parameters.length) = some 1 := by decide +kernel
theorem hd_X5_isSuggestion : yX5_isSuggestion.cls = RX5 ∧ yX5_isSuggestion.cls ≠ "java/lang/invoke/MethodHandle" ∧ yX5_isSuggestion.cls ≠ "java/lang/invoke/VarHandle" ∧ (parseMethodDescriptor yX5_isSuggestion.desc).map (fun d => d.parameters.length) = some 1 := ⟨rfl, hs_X5_isSuggestion⟩
theorem hs_X5_told : yX5_told.cls ≠ "java/lang/invoke/MethodHandle" ∧ yX5_told.cls ≠ "java/lang/invoke/VarHandle" ∧ (parseMethodDescriptor yX5_told.desc).map (fun d => d.parameters.length) = some 1 := by decide +kernel
theorem hd_X5_told : yX5_told.cls = RX5 ∧ yX5_told.cls ≠ "java/lang/invoke/MethodHandle" ∧ yX5_told.cls ≠ "java/lang/invoke/VarHandle" ∧ (parseMethodDescriptor yX5_told.desc).map (fun d => d.parameters.length) = some 1 := ⟨rfl, hs_X5_told⟩
theorem hs_X5_keeps : yX5_keeps.cls ≠ "java/lang/invoke/MethodHandle" ∧ yX5_keeps.cls ≠ "java/lang/invoke/VarHandle" ∧ (parseMethodDescriptor yX5_keeps.desc).map (fun d => d.parameters.length) = some 0 := by decide +kernel
theorem hd_X5_keeps : yX5_keeps.cls = RX5 ∧ yX5_keeps.cls ≠ "java/lang/invoke/MethodHandle" ∧ yX5_keeps.cls ≠ "java/lang/invoke/VarHandle" ∧ (parseMethodDescriptor yX5_keeps.desc).map (fun d => d.parameters.length) = some 0 := ⟨rfl, hs_X5_keeps⟩
theorem hs_X5_letterOf : yX5_letterOf.cls ≠ "java/lang/invoke/MethodHandle" ∧ yX5_letterOf.cls ≠ "java/lang/invoke/VarHandle" ∧ (parseMethodDescriptor yX5_letterOf.desc).map (fun d => d.parameters.length) = some 1 := by decide +kernel
theorem hd_X5_letterOf : yX5_letterOf.cls = RX5 ∧ yX5_letterOf.cls ≠ "java/lang/invoke/MethodHandle" ∧ yX5_letterOf.cls ≠ "java/lang/invoke/VarHandle" ∧ (parseMethodDescriptor yX5_letterOf.desc).map (fun d => d.parameters.length) = some 1 := ⟨rfl, hs_X5_letterOf⟩
theorem hs_X5_inserts : yX5_inserts.cls ≠ "java/lang/invoke/MethodHandle" ∧ yX5_inserts.cls ≠ "java/lang/invoke/VarHandle" ∧ (parseMethodDescriptor yX5_inserts.desc).map (fun d => d.parameters.length) = some 3 := by decide +kernel
theorem hd_X5_inserts : yX5_inserts.cls = RX5 ∧ yX5_inserts.cls ≠ "java/lang/invoke/MethodHandle" ∧ yX5_inserts.cls ≠ "java/lang/invoke/VarHandle" ∧ (parseMethodDescriptor yX5_inserts.desc).map (fun d => d.parameters.length) = some 3 := ⟨rfl, hs_X5_inserts⟩
theorem hs_X5_less : yX5_less.cls ≠ "java/lang/invoke/MethodHandle" ∧ yX5_less.cls ≠ "java/lang/invoke/VarHandle" ∧ (parseMethodDescriptor yX5_less.desc).map (fun d => d.parameters.length) = some 3 := by decide +kernel
theorem hd_X5_less : yX5_less.cls = RX5 ∧ yX5_less.cls ≠ "java/lang/invoke/MethodHandle" ∧ yX5_less.cls ≠ "java/lang/invoke/VarHandle" ∧ (parseMethodDescriptor yX5_less.desc).map (fun d => d.parameters.length) = some 3 := ⟨rfl, hs_X5_less⟩
theorem hs_X5_removes : yX5_removes.cls ≠ "java/lang/invoke/MethodHandle" ∧ yX5_removes.cls ≠ "java/lang/invoke/VarHandle" ∧ (parseMethodDescriptor yX5_removes.desc).map (fun d => d.parameters.length) = some 3 := by decide +kernel
theorem hd_X5_removes : yX5_removes.cls = RX5 ∧ yX5_removes.cls ≠ "java/lang/invoke/MethodHandle" ∧ yX5_removes.cls ≠ "java/lang/invoke/VarHandle" ∧ (parseMethodDescriptor yX5_removes.desc).map (fun d => d.parameters.length) = some 3 := ⟨rfl, hs_X5_removes⟩
theorem hs_X5_insert : yX5_insert.cls ≠ "java/lang/invoke/MethodHandle" ∧ yX5_insert.cls ≠ "java/lang/invoke/VarHandle" ∧ (parseMethodDescriptor yX5_insert.desc).map (fun d => d.parameters.length) = some 3 := by decide +kernel
theorem hd_X5_insert : yX5_insert.cls = RX5 ∧ yX5_insert.cls ≠ "java/lang/invoke/MethodHandle" ∧ yX5_insert.cls ≠ "java/lang/invoke/VarHandle" ∧ (parseMethodDescriptor yX5_insert.desc).map (fun d => d.parameters.length) = some 3 := ⟨rfl, hs_X5_insert⟩
theorem hs_X5_remove : yX5_remove.cls ≠ "java/lang/invoke/MethodHandle" ∧ yX5_remove.cls ≠ "java/lang/invoke/VarHandle" ∧ (parseMethodDescriptor yX5_remove.desc).map (fun d => d.parameters.length) = some 2 := by decide +kernel
theorem hd_X5_remove : yX5_remove.cls = RX5 ∧ yX5_remove.cls ≠ "java/lang/invoke/MethodHandle" ∧ yX5_remove.cls ≠ "java/lang/invoke/VarHandle" ∧ (parseMethodDescriptor yX5_remove.desc).map (fun d => d.parameters.length) = some 2 := ⟨rfl, hs_X5_remove⟩
theorem hs_X5_length : yX5_length.cls ≠ "java/lang/invoke/MethodHandle" ∧ yX5_length.cls ≠ "java/lang/invoke/VarHandle" ∧ (parseMethodDescriptor yX5_length.desc).map (fun d => d.parameters.length) = some 0 := by decide +kernel
theorem hd_X5_length : yX5_length.cls = RX5 ∧ yX5_length.cls ≠ "java/lang/invoke/MethodHandle" ∧ yX5_length.cls ≠ "java/lang/invoke/VarHandle" ∧ (parseMethodDescriptor yX5_length.desc).map (fun d => d.parameters.length) = some 0 := ⟨rfl, hs_X5_length⟩
theorem hs_X5_letterAt : yX5_letterAt.cls ≠ "java/lang/invoke/MethodHandle" ∧ yX5_letterAt.cls ≠ "java/lang/invoke/VarHandle" ∧ (parseMethodDescriptor yX5_letterAt.desc).map (fun d => d.parameters.length) = some 1 := by decide +kernel
theorem hd_X5_letterAt : yX5_letterAt.cls = RX5 ∧ yX5_letterAt.cls ≠ "java/lang/invoke/MethodHandle" ∧ yX5_letterAt.cls ≠ "java/lang/invoke/VarHandle" ∧ (parseMethodDescriptor yX5_letterAt.desc).map (fun d => d.parameters.length) = some 1 := ⟨rfl, hs_X5_letterAt⟩
theorem hs_X5_version : yX5_version.cls ≠ "java/lang/invoke/MethodHandle" ∧ yX5_version.cls ≠ "java/lang/invoke/VarHandle" ∧ (parseMethodDescriptor yX5_version.desc).map (fun d => d.parameters.length) = some 0 := by decide +kernel
theorem hd_X5_version : yX5_version.cls = RX5 ∧ yX5_version.cls ≠ "java/lang/invoke/MethodHandle" ∧ yX5_version.cls ≠ "java/lang/invoke/VarHandle" ∧ (parseMethodDescriptor yX5_version.desc).map (fun d => d.parameters.length) = some 0 := ⟨rfl, hs_X5_version⟩
theorem hs_X5_comment : yX5_comment.cls ≠ "java/lang/invoke/MethodHandle" ∧ yX5_comment.cls ≠ "java/lang/invoke/VarHandle" ∧ (parseMethodDescriptor yX5_comment.desc).map (fun d => d.parameters.length) = some 3 := by decide +kernel
theorem hd_X5_comment : yX5_comment.cls = RX5 ∧ yX5_comment.cls ≠ "java/lang/invoke/MethodHandle" ∧ yX5_comment.cls ≠ "java/lang/invoke/VarHandle" ∧ (parseMethodDescriptor yX5_comment.desc).map (fun d => d.parameters.length) = some 3 := ⟨rfl, hs_X5_comment⟩
theorem hs_X5_answer : yX5_answer.cls ≠ "java/lang/invoke/MethodHandle" ∧ yX5_answer.cls ≠ "java/lang/invoke/VarHandle" ∧ (parseMethodDescriptor yX5_answer.desc).map (fun d => d.parameters.length) = some 1 := by decide +kernel
theorem hd_X5_answer : yX5_answer.cls = RX5 ∧ yX5_answer.cls ≠ "java/lang/invoke/MethodHandle" ∧ yX5_answer.cls ≠ "java/lang/invoke/VarHandle" ∧ (parseMethodDescriptor yX5_answer.desc).map (fun d => d.parameters.length) = some 1 := ⟨rfl, hs_X5_answer⟩
theorem hs_X5_resolve : yX5_resolve.cls ≠ "java/lang/invoke/MethodHandle" ∧ yX5_resolve.cls ≠ "java/lang/invoke/VarHandle" ∧ (parseMethodDescriptor yX5_resolve.desc).map (fun d => d.parameters.length) = some 1 := by decide +kernel
theorem hd_X5_resolve : yX5_resolve.cls = RX5 ∧ yX5_resolve.cls ≠ "java/lang/invoke/MethodHandle" ∧ yX5_resolve.cls ≠ "java/lang/invoke/VarHandle" ∧ (parseMethodDescriptor yX5_resolve.desc).map (fun d => d.parameters.length) = some 1 := ⟨rfl, hs_X5_resolve⟩
theorem hs_X5_fit : yX5_fit.cls ≠ "java/lang/invoke/MethodHandle" ∧ yX5_fit.cls ≠ "java/lang/invoke/VarHandle" ∧ (parseMethodDescriptor yX5_fit.desc).map (fun d => d.parameters.length) = some 2 := by decide +kernel
theorem hd_X5_fit : yX5_fit.cls = RX5 ∧ yX5_fit.cls ≠ "java/lang/invoke/MethodHandle" ∧ yX5_fit.cls ≠ "java/lang/invoke/VarHandle" ∧ (parseMethodDescriptor yX5_fit.desc).map (fun d => d.parameters.length) = some 2 := ⟨rfl, hs_X5_fit⟩
theorem hs_X5_find : yX5_find.cls ≠ "java/lang/invoke/MethodHandle" ∧ yX5_find.cls ≠ "java/lang/invoke/VarHandle" ∧ (parseMethodDescriptor yX5_find.desc).map (fun d => d.parameters.length) = some 1 := by decide +kernel
theorem hd_X5_find : yX5_find.cls = RX5 ∧ yX5_find.cls ≠ "java/lang/invoke/MethodHandle" ∧ yX5_find.cls ≠ "java/lang/invoke/VarHandle" ∧ (parseMethodDescriptor yX5_find.desc).map (fun d => d.parameters.length) = some 1 := ⟨rfl, hs_X5_find⟩
theorem hs_X5_comments : yX5_comments.cls ≠ "java/lang/invoke/MethodHandle" ∧ yX5_comments.cls ≠ "java/lang/invoke/VarHandle" ∧ (parseMethodDescriptor yX5_comments.desc).map (fun d => d.parameters.length) = some 0 := by decide +kernel
theorem hd_X5_comments : yX5_comments.cls = RX5 ∧ yX5_comments.cls ≠ "java/lang/invoke/MethodHandle" ∧ yX5_comments.cls ≠ "java/lang/invoke/VarHandle" ∧ (parseMethodDescriptor yX5_comments.desc).map (fun d => d.parameters.length) = some 0 := ⟨rfl, hs_X5_comments⟩
theorem hs_X5_rangeOf : yX5_rangeOf.cls ≠ "java/lang/invoke/MethodHandle" ∧ yX5_rangeOf.cls ≠ "java/lang/invoke/VarHandle" ∧ (parseMethodDescriptor yX5_rangeOf.desc).map (fun d => d.parameters.length) = some 1 := by decide +kernel
theorem hd_X5_rangeOf : yX5_rangeOf.cls = RX5 ∧ yX5_rangeOf.cls ≠ "java/lang/invoke/MethodHandle" ∧ yX5_rangeOf.cls ≠ "java/lang/invoke/VarHandle" ∧ (parseMethodDescriptor yX5_rangeOf.desc).map (fun d => d.parameters.length) = some 1 := ⟨rfl, hs_X5_rangeOf⟩
theorem hs_X5_rangeThen : yX5_rangeThen.cls ≠ "java/lang/invoke/MethodHandle" ∧ yX5_rangeThen.cls ≠ "java/lang/invoke/VarHandle" ∧ (parseMethodDescriptor yX5_rangeThen.desc).map (fun d => d.parameters.length) = some 2 := by decide +kernel
theorem hd_X5_rangeThen : yX5_rangeThen.cls = RX5 ∧ yX5_rangeThen.cls ≠ "java/lang/invoke/MethodHandle" ∧ yX5_rangeThen.cls ≠ "java/lang/invoke/VarHandle" ∧ (parseMethodDescriptor yX5_rangeThen.desc).map (fun d => d.parameters.length) = some 2 := ⟨rfl, hs_X5_rangeThen⟩
theorem hs_X5_open : yX5_open.cls ≠ "java/lang/invoke/MethodHandle" ∧ yX5_open.cls ≠ "java/lang/invoke/VarHandle" ∧ (parseMethodDescriptor yX5_open.desc).map (fun d => d.parameters.length) = some 0 := by decide +kernel
theorem hd_X5_open : yX5_open.cls = RX5 ∧ yX5_open.cls ≠ "java/lang/invoke/MethodHandle" ∧ yX5_open.cls ≠ "java/lang/invoke/VarHandle" ∧ (parseMethodDescriptor yX5_open.desc).map (fun d => d.parameters.length) = some 0 := ⟨rfl, hs_X5_open⟩
theorem hs_X5_orphans : yX5_orphans.cls ≠ "java/lang/invoke/MethodHandle" ∧ yX5_orphans.cls ≠ "java/lang/invoke/VarHandle" ∧ (parseMethodDescriptor yX5_orphans.desc).map (fun d => d.parameters.length) = some 0 := by decide +kernel
theorem hd_X5_orphans : yX5_orphans.cls = RX5 ∧ yX5_orphans.cls ≠ "java/lang/invoke/MethodHandle" ∧ yX5_orphans.cls ≠ "java/lang/invoke/VarHandle" ∧ (parseMethodDescriptor yX5_orphans.desc).map (fun d => d.parameters.length) = some 0 := ⟨rfl, hs_X5_orphans⟩
theorem hs_X5_coverOf : yX5_coverOf.cls ≠ "java/lang/invoke/MethodHandle" ∧ yX5_coverOf.cls ≠ "java/lang/invoke/VarHandle" ∧ (parseMethodDescriptor yX5_coverOf.desc).map (fun d => d.parameters.length) = some 1 := by decide +kernel
theorem hd_X5_coverOf : yX5_coverOf.cls = RX5 ∧ yX5_coverOf.cls ≠ "java/lang/invoke/MethodHandle" ∧ yX5_coverOf.cls ≠ "java/lang/invoke/VarHandle" ∧ (parseMethodDescriptor yX5_coverOf.desc).map (fun d => d.parameters.length) = some 1 := ⟨rfl, hs_X5_coverOf⟩
theorem hs_X5_cover : yX5_cover.cls ≠ "java/lang/invoke/MethodHandle" ∧ yX5_cover.cls ≠ "java/lang/invoke/VarHandle" ∧ (parseMethodDescriptor yX5_cover.desc).map (fun d => d.parameters.length) = some 1 := by decide +kernel
theorem hd_X5_cover : yX5_cover.cls = RX5 ∧ yX5_cover.cls ≠ "java/lang/invoke/MethodHandle" ∧ yX5_cover.cls ≠ "java/lang/invoke/VarHandle" ∧ (parseMethodDescriptor yX5_cover.desc).map (fun d => d.parameters.length) = some 1 := ⟨rfl, hs_X5_cover⟩
theorem hs_X5_coverByLetters : yX5_coverByLetters.cls ≠ "java/lang/invoke/MethodHandle" ∧ yX5_coverByLetters.cls ≠ "java/lang/invoke/VarHandle" ∧ (parseMethodDescriptor yX5_coverByLetters.desc).map (fun d => d.parameters.length) = some 1 := by decide +kernel
theorem hd_X5_coverByLetters : yX5_coverByLetters.cls = RX5 ∧ yX5_coverByLetters.cls ≠ "java/lang/invoke/MethodHandle" ∧ yX5_coverByLetters.cls ≠ "java/lang/invoke/VarHandle" ∧ (parseMethodDescriptor yX5_coverByLetters.desc).map (fun d => d.parameters.length) = some 1 := ⟨rfl, hs_X5_coverByLetters⟩
theorem hs_X5_pieceOf : yX5_pieceOf.cls ≠ "java/lang/invoke/MethodHandle" ∧ yX5_pieceOf.cls ≠ "java/lang/invoke/VarHandle" ∧ (parseMethodDescriptor yX5_pieceOf.desc).map (fun d => d.parameters.length) = some 1 := by decide +kernel
theorem hd_X5_pieceOf : yX5_pieceOf.cls = RX5 ∧ yX5_pieceOf.cls ≠ "java/lang/invoke/MethodHandle" ∧ yX5_pieceOf.cls ≠ "java/lang/invoke/VarHandle" ∧ (parseMethodDescriptor yX5_pieceOf.desc).map (fun d => d.parameters.length) = some 1 := ⟨rfl, hs_X5_pieceOf⟩
theorem hs_X5_pieces : yX5_pieces.cls ≠ "java/lang/invoke/MethodHandle" ∧ yX5_pieces.cls ≠ "java/lang/invoke/VarHandle" ∧ (parseMethodDescriptor yX5_pieces.desc).map (fun d => d.parameters.length) = some 0 := by decide +kernel
theorem hd_X5_pieces : yX5_pieces.cls = RX5 ∧ yX5_pieces.cls ≠ "java/lang/invoke/MethodHandle" ∧ yX5_pieces.cls ≠ "java/lang/invoke/VarHandle" ∧ (parseMethodDescriptor yX5_pieces.desc).map (fun d => d.parameters.length) = some 0 := ⟨rfl, hs_X5_pieces⟩
theorem hs_X5_pieceAt : yX5_pieceAt.cls ≠ "java/lang/invoke/MethodHandle" ∧ yX5_pieceAt.cls ≠ "java/lang/invoke/VarHandle" ∧ (parseMethodDescriptor yX5_pieceAt.desc).map (fun d => d.parameters.length) = some 1 := by decide +kernel
theorem hd_X5_pieceAt : yX5_pieceAt.cls = RX5 ∧ yX5_pieceAt.cls ≠ "java/lang/invoke/MethodHandle" ∧ yX5_pieceAt.cls ≠ "java/lang/invoke/VarHandle" ∧ (parseMethodDescriptor yX5_pieceAt.desc).map (fun d => d.parameters.length) = some 1 := ⟨rfl, hs_X5_pieceAt⟩
theorem hs_X5_suggest : yX5_suggest.cls ≠ "java/lang/invoke/MethodHandle" ∧ yX5_suggest.cls ≠ "java/lang/invoke/VarHandle" ∧ (parseMethodDescriptor yX5_suggest.desc).map (fun d => d.parameters.length) = some 4 := by decide +kernel
theorem hd_X5_suggest : yX5_suggest.cls = RX5 ∧ yX5_suggest.cls ≠ "java/lang/invoke/MethodHandle" ∧ yX5_suggest.cls ≠ "java/lang/invoke/VarHandle" ∧ (parseMethodDescriptor yX5_suggest.desc).map (fun d => d.parameters.length) = some 4 := ⟨rfl, hs_X5_suggest⟩
theorem hs_X5_overlapsOf : yX5_overlapsOf.cls ≠ "java/lang/invoke/MethodHandle" ∧ yX5_overlapsOf.cls ≠ "java/lang/invoke/VarHandle" ∧ (parseMethodDescriptor yX5_overlapsOf.desc).map (fun d => d.parameters.length) = some 1 := by decide +kernel
theorem hd_X5_overlapsOf : yX5_overlapsOf.cls = RX5 ∧ yX5_overlapsOf.cls ≠ "java/lang/invoke/MethodHandle" ∧ yX5_overlapsOf.cls ≠ "java/lang/invoke/VarHandle" ∧ (parseMethodDescriptor yX5_overlapsOf.desc).map (fun d => d.parameters.length) = some 1 := ⟨rfl, hs_X5_overlapsOf⟩
theorem hs_X5_accept : yX5_accept.cls ≠ "java/lang/invoke/MethodHandle" ∧ yX5_accept.cls ≠ "java/lang/invoke/VarHandle" ∧ (parseMethodDescriptor yX5_accept.desc).map (fun d => d.parameters.length) = some 1 := by decide +kernel
theorem hd_X5_accept : yX5_accept.cls = RX5 ∧ yX5_accept.cls ≠ "java/lang/invoke/MethodHandle" ∧ yX5_accept.cls ≠ "java/lang/invoke/VarHandle" ∧ (parseMethodDescriptor yX5_accept.desc).map (fun d => d.parameters.length) = some 1 := ⟨rfl, hs_X5_accept⟩
theorem hs_X5_reject : yX5_reject.cls ≠ "java/lang/invoke/MethodHandle" ∧ yX5_reject.cls ≠ "java/lang/invoke/VarHandle" ∧ (parseMethodDescriptor yX5_reject.desc).map (fun d => d.parameters.length) = some 1 := by decide +kernel
theorem hd_X5_reject : yX5_reject.cls = RX5 ∧ yX5_reject.cls ≠ "java/lang/invoke/MethodHandle" ∧ yX5_reject.cls ≠ "java/lang/invoke/VarHandle" ∧ (parseMethodDescriptor yX5_reject.desc).map (fun d => d.parameters.length) = some 1 := ⟨rfl, hs_X5_reject⟩
theorem hs_X5_stateOf : yX5_stateOf.cls ≠ "java/lang/invoke/MethodHandle" ∧ yX5_stateOf.cls ≠ "java/lang/invoke/VarHandle" ∧ (parseMethodDescriptor yX5_stateOf.desc).map (fun d => d.parameters.length) = some 1 := by decide +kernel
theorem hd_X5_stateOf : yX5_stateOf.cls = RX5 ∧ yX5_stateOf.cls ≠ "java/lang/invoke/MethodHandle" ∧ yX5_stateOf.cls ≠ "java/lang/invoke/VarHandle" ∧ (parseMethodDescriptor yX5_stateOf.desc).map (fun d => d.parameters.length) = some 1 := ⟨rfl, hs_X5_stateOf⟩
theorem hs_X5_overlaps : yX5_overlaps.cls ≠ "java/lang/invoke/MethodHandle" ∧ yX5_overlaps.cls ≠ "java/lang/invoke/VarHandle" ∧ (parseMethodDescriptor yX5_overlaps.desc).map (fun d => d.parameters.length) = some 1 := by decide +kernel
theorem hd_X5_overlaps : yX5_overlaps.cls = RX5 ∧ yX5_overlaps.cls ≠ "java/lang/invoke/MethodHandle" ∧ yX5_overlaps.cls ≠ "java/lang/invoke/VarHandle" ∧ (parseMethodDescriptor yX5_overlaps.desc).map (fun d => d.parameters.length) = some 1 := ⟨rfl, hs_X5_overlaps⟩
theorem hs_J7_rangeCheck_23922 : yJ7_rangeCheck_23922.cls ≠ "java/lang/invoke/MethodHandle" ∧ yJ7_rangeCheck_23922.cls ≠ "java/lang/invoke/VarHandle" ∧ (parseMethodDescriptor yJ7_rangeCheck_23922.desc).map (fun d => d.parameters.length) = some 3 := by decide +kernel
theorem hd_J7_rangeCheck_23922 : yJ7_rangeCheck_23922.cls = RJ7 ∧ yJ7_rangeCheck_23922.cls ≠ "java/lang/invoke/MethodHandle" ∧ yJ7_rangeCheck_23922.cls ≠ "java/lang/invoke/VarHandle" ∧ (parseMethodDescriptor yJ7_rangeCheck_23922.desc).map (fun d => d.parameters.length) = some 3 := ⟨rfl, hs_J7_rangeCheck_23922⟩
theorem hs_J7_fill_fda19 : yJ7_fill_fda19.cls ≠ "java/lang/invoke/MethodHandle" ∧ yJ7_fill_fda19.cls ≠ "java/lang/invoke/VarHandle" ∧ (parseMethodDescriptor yJ7_fill_fda19.desc).map (fun d => d.parameters.length) = some 4 := by decide +kernel
theorem hd_J7_fill_fda19 : yJ7_fill_fda19.cls = RJ7 ∧ yJ7_fill_fda19.cls ≠ "java/lang/invoke/MethodHandle" ∧ yJ7_fill_fda19.cls ≠ "java/lang/invoke/VarHandle" ∧ (parseMethodDescriptor yJ7_fill_fda19.desc).map (fun d => d.parameters.length) = some 4 := ⟨rfl, hs_J7_fill_fda19⟩
theorem hs_J6_bitCount_0f7a4 : yJ6_bitCount_0f7a4.cls ≠ "java/lang/invoke/MethodHandle" ∧ yJ6_bitCount_0f7a4.cls ≠ "java/lang/invoke/VarHandle" ∧ (parseMethodDescriptor yJ6_bitCount_0f7a4.desc).map (fun d => d.parameters.length) = some 1 := by decide +kernel
theorem hd_J6_bitCount_0f7a4 : yJ6_bitCount_0f7a4.cls = RJ6 ∧ yJ6_bitCount_0f7a4.cls ≠ "java/lang/invoke/MethodHandle" ∧ yJ6_bitCount_0f7a4.cls ≠ "java/lang/invoke/VarHandle" ∧ (parseMethodDescriptor yJ6_bitCount_0f7a4.desc).map (fun d => d.parameters.length) = some 1 := ⟨rfl, hs_J6_bitCount_0f7a4⟩
end
section
set_option maxHeartbeats 4000000 in
set_option maxRecDepth 100000 in
theorem c_J7_rangeCheck_23922 (G : zG) (n a b : Nat) (hab : a ≤ b) (hbn : b ≤ n) (hn : n < 2 ^ 31) : zM G yJ7_rangeCheck_23922 wsJ7_rangeCheck_23922 ({ frames := 0, cells := 0, slots := 0, locals := 12 }) [.int (nI n), .int (nI a), .int (nI b)] [] [] none 0 0 := by
  refine zM.ofV (own := RJ7) (cc := cJ7_rangeCheck_23922) (maxL := 3) rfl (by decide) rfl (by simp [Value.category]) (Nat.le_of_ble_eq_true rfl) ?_
  intro X hF hR
  refine z_lv (lv' := [some (.int (nI n)), some (.int (nI a)), some (.int (nI b))]) rfl ?_
  refine z_iload_n hF dJ7_rangeCheck_23922_0 rfl ?_
  refine z_iload_n hF dJ7_rangeCheck_23922_1 rfl ?_
  refine z_icn_le (tgt := 46) hF (by omega) (by omega) dJ7_rangeCheck_23922_2 (by decide) (fun c_1 => ?_) (fun c_1 => absurd c_1 (Nat.not_lt.mpr hab))
  refine z_iload_n hF dJ7_rangeCheck_23922_46 rfl ?_
  refine z_if_ge (tgt := 59) hF dJ7_rangeCheck_23922_47 (by decide) (fun c_2 => ?_) (fun c_2 => absurd c_2 (fun z => z (nI_pos' (by omega))))
  refine z_iload_n hF dJ7_rangeCheck_23922_59 rfl ?_
  refine z_iload_n hF dJ7_rangeCheck_23922_60 rfl ?_
  refine z_icn_le (tgt := 73) hF (by omega) (by omega) dJ7_rangeCheck_23922_61 (by decide) (fun c_3 => ?_) (fun c_3 => absurd c_3 (Nat.not_lt.mpr hbn))
  exact hR.v dJ7_rangeCheck_23922_73 (Nat.le_of_ble_eq_true rfl) (Nat.le_of_ble_eq_true rfl) (rfl)
set_option maxHeartbeats 4000000 in
set_option maxRecDepth 100000 in
theorem c_J7_fill_fda19 (G : zG) (a0 a b : Nat) (f : Nat → Int32) (x : Int32) (hab : a ≤ b) (hb : b ≤ 60) : zM G yJ7_fill_fda19 wsJ7_fill_fda19 ({ frames := 1, cells := 0, slots := 0, locals := 34 }) [.ref a0, .int (nI a), .int (nI b), .int x] [(a0, eI G 60 f)] [(a0, eI G 60 (filF f a b x))] none 0 0 := by
  refine zM.ofV (own := RJ7) (cc := cJ7_fill_fda19) (maxL := 5) rfl (by decide) rfl (by simp [Value.category]) (Nat.le_of_ble_eq_true rfl) ?_
  intro X hF hR
  refine z_lv (lv' := [some (.ref a0), some (.int (nI a)), some (.int (nI b)), some (.int x), none]) rfl ?_
  refine z_aload_n hF dJ7_fill_fda19_0 rfl ?_
  refine z_alen (n := 60) hF 0 rfl dJ7_fill_fda19_1 ?_
  refine z_iload_n hF dJ7_fill_fda19_2 rfl ?_
  refine z_iload_n hF dJ7_fill_fda19_3 rfl ?_
  refine z_S (As := [.int (nI 60), .int (nI a), .int (nI b)]) (rest := []) (ws' := [(a0, eI G 60 f)]) (st2 := []) (c2 := 0) (s2 := 0) hF (c_J7_rangeCheck_23922 G 60 a b (by first | assumption | omega) (by first | assumption | omega) (by first | assumption | omega)) gJ7_fill_fda19_J7_rangeCheck_23922 rfl rfl rfl hs_J7_rangeCheck_23922 ⟨⟨Nat.le_of_ble_eq_true rfl, Nat.le_of_ble_eq_true rfl⟩, ⟨Nat.le_of_ble_eq_true rfl, Nat.le_of_ble_eq_true rfl⟩, Nat.le_of_ble_eq_true rfl⟩ [] rfl rfl rfl rfl rfl rfl rfl rfl rfl rfl dJ7_fill_fda19_4 ?_
  refine z_iload_n hF dJ7_fill_fda19_7 rfl ?_
  refine z_istore (lv' := [some (.ref a0), some (.int (nI a)), some (.int (nI b)), some (.int x), some (.int (nI a))]) hF dJ7_fill_fda19_8 rfl rfl ?_
  refine z_ws (ws' := [(a0, eI G 60 (filF f a a x))]) (by rw [filF_0 f x (Nat.le_refl a)]) ?_
  have J_10 : ∀ (n9 : Nat) (i : Nat), b - i < n9 → (a ≤ i) → (i ≤ b) → zJ G X 10 [(a0, eI G 60 (filF f a i x))] [some (.ref a0), some (.int (nI a)), some (.int (nI b)), some (.int x), some (.int (nI i))] [] 0 0 := by
    intro n9
    induction n9 with
    | zero => intro i hmu; exact absurd hmu (Nat.not_lt_zero _)
    | succ n9 ih =>
      intro i hmu h1 h2
      refine z_iload hF dJ7_fill_fda19_10 rfl ?_
      refine z_iload_n hF dJ7_fill_fda19_12 rfl ?_
      refine z_icn_ge (tgt := 27) hF (by omega) (by omega) dJ7_fill_fda19_13 (by decide) (fun c_1 => ?_) (fun c_1 => ?_)
      · exact hR.v dJ7_fill_fda19_27 (Nat.le_of_ble_eq_true rfl) (Nat.le_of_ble_eq_true rfl) (by rw [show i = b by omega])
      · refine z_aload_n hF dJ7_fill_fda19_16 rfl ?_
        refine z_iload hF dJ7_fill_fda19_17 rfl ?_
        refine z_iload_n hF dJ7_fill_fda19_19 rfl ?_
        refine z_iast (k := i) (ws' := [(a0, eI G 60 (upd (filF f a i x) i x))]) hF 0 rfl (rfl) (by omega) rfl rfl dJ7_fill_fda19_20 ?_
        refine z_ws (ws' := [(a0, eI G 60 (filF f a (i + 1) x))]) (by rw [filF_up f x (by omega)]) ?_
        refine z_iinc (v := nI (i + 1)) (lv' := [some (.ref a0), some (.int (nI a)), some (.int (nI b)), some (.int x), some (.int (nI (i + 1)))]) hF dJ7_fill_fda19_21 rfl (nI_1 i) rfl rfl ?_
        refine z_goto (tgt := 10) hF dJ7_fill_fda19_24 (by decide) ?_
        exact ih (i + 1) (by omega) (by omega) (by omega)
  exact J_10 ((b - a) + 1) a (Nat.lt_succ_self _) (by omega) (by omega)
set_option maxHeartbeats 4000000 in
set_option maxRecDepth 100000 in
theorem c_J6_bitCount_0f7a4 (G : zG) (x : Int32)  : zM G yJ6_bitCount_0f7a4 wsJ6_bitCount_0f7a4 ({ frames := 0, cells := 0, slots := 0, locals := 12 }) [.int x] [] [] (some (.int (bcF x))) 0 0 := by
  refine zM.ofI (own := RJ6) (cc := cJ6_bitCount_0f7a4) (maxL := 1) rfl (by decide) rfl rfl (by simp [Value.category]) (Nat.le_of_ble_eq_true rfl) ?_
  intro X hF hR
  have k_0 : zH X (.constant RJ6 265 (1431655765)) := hF.w (by decide +kernel)
  have k_1 : zH X (.constant RJ6 266 (858993459)) := hF.w (by decide +kernel)
  have k_2 : zH X (.constant RJ6 267 (252645135)) := hF.w (by decide +kernel)
  refine z_lv (lv' := [some (.int x)]) rfl ?_
  refine z_iload_n hF dJ6_bitCount_0f7a4_0 rfl ?_
  refine z_iload_n hF dJ6_bitCount_0f7a4_1 rfl ?_
  refine z_iconst (v := nI 1) hF dJ6_bitCount_0f7a4_2 (by decide) ?_
  refine z_iushr hF dJ6_bitCount_0f7a4_3 ?_
  refine z_ldcw (v := 1431655765) hF dJ6_bitCount_0f7a4_4 k_0 ?_
  refine z_iand hF dJ6_bitCount_0f7a4_7 ?_
  refine z_isub hF dJ6_bitCount_0f7a4_8 ?_
  refine z_nm (fun x1 e1 => ?_)
  refine z_istore_n (lv' := [some (.int x1)]) hF dJ6_bitCount_0f7a4_9 rfl rfl ?_
  refine z_iload_n hF dJ6_bitCount_0f7a4_10 rfl ?_
  refine z_ldcw (v := 858993459) hF dJ6_bitCount_0f7a4_11 k_1 ?_
  refine z_iand hF dJ6_bitCount_0f7a4_14 ?_
  refine z_iload_n hF dJ6_bitCount_0f7a4_15 rfl ?_
  refine z_iconst (v := nI 2) hF dJ6_bitCount_0f7a4_16 (by decide) ?_
  refine z_iushr hF dJ6_bitCount_0f7a4_17 ?_
  refine z_ldcw (v := 858993459) hF dJ6_bitCount_0f7a4_18 k_1 ?_
  refine z_iand hF dJ6_bitCount_0f7a4_21 ?_
  refine z_iadd hF dJ6_bitCount_0f7a4_22 ?_
  refine z_nm (fun x2 e2 => ?_)
  refine z_istore_n (lv' := [some (.int x2)]) hF dJ6_bitCount_0f7a4_23 rfl rfl ?_
  refine z_iload_n hF dJ6_bitCount_0f7a4_24 rfl ?_
  refine z_iload_n hF dJ6_bitCount_0f7a4_25 rfl ?_
  refine z_iconst (v := nI 4) hF dJ6_bitCount_0f7a4_26 (by decide) ?_
  refine z_iushr hF dJ6_bitCount_0f7a4_27 ?_
  refine z_iadd hF dJ6_bitCount_0f7a4_28 ?_
  refine z_ldcw (v := 252645135) hF dJ6_bitCount_0f7a4_29 k_2 ?_
  refine z_iand hF dJ6_bitCount_0f7a4_32 ?_
  refine z_nm (fun x3 e3 => ?_)
  refine z_istore_n (lv' := [some (.int x3)]) hF dJ6_bitCount_0f7a4_33 rfl rfl ?_
  refine z_iload_n hF dJ6_bitCount_0f7a4_34 rfl ?_
  refine z_iload_n hF dJ6_bitCount_0f7a4_35 rfl ?_
  refine z_bipush (v := nI 8) hF dJ6_bitCount_0f7a4_36 (by decide) ?_
  refine z_iushr hF dJ6_bitCount_0f7a4_38 ?_
  refine z_iadd hF dJ6_bitCount_0f7a4_39 ?_
  refine z_nm (fun x4 e4 => ?_)
  refine z_istore_n (lv' := [some (.int x4)]) hF dJ6_bitCount_0f7a4_40 rfl rfl ?_
  refine z_iload_n hF dJ6_bitCount_0f7a4_41 rfl ?_
  refine z_iload_n hF dJ6_bitCount_0f7a4_42 rfl ?_
  refine z_bipush (v := nI 16) hF dJ6_bitCount_0f7a4_43 (by decide) ?_
  refine z_iushr hF dJ6_bitCount_0f7a4_45 ?_
  refine z_iadd hF dJ6_bitCount_0f7a4_46 ?_
  refine z_istore_n (lv' := [some (.int (x4 + ((x4.toUInt32 >>> ((nI 16).toUInt32 &&& Int32.toUInt32 31)).toInt32)))]) hF dJ6_bitCount_0f7a4_47 rfl rfl ?_
  refine z_iload_n hF dJ6_bitCount_0f7a4_48 rfl ?_
  refine z_bipush (v := nI 63) hF dJ6_bitCount_0f7a4_49 (by decide) ?_
  refine z_iand hF dJ6_bitCount_0f7a4_51 ?_
  exact hR.i dJ6_bitCount_0f7a4_52 (Nat.le_of_ble_eq_true rfl) (Nat.le_of_ble_eq_true rfl) (rfl) (by rw [e4, e3, e2, e1]; rfl)
end
section
set_option maxHeartbeats 4000000 in
set_option maxRecDepth 100000 in
theorem c_X3_hasLetterBehind (G : zG) (t0 t1 t2 n : Nat) (p : Int32) (hn : n ≤ 60) : zM G yX3_hasLetterBehind wsX3_hasLetterBehind ({ frames := 0, cells := 0, slots := 0, locals := 12 }) [.ref t0, .int p] [(t0, .inr (3, [.ref t1, .ref t2, .int (nI n)]))] [(t0, .inr (3, [.ref t1, .ref t2, .int (nI n)]))] (some (.int (zb (0 ≤ p ∧ p < nI n)))) 0 0 := by
  refine zM.ofI (own := RX3) (cc := cX3_hasLetterBehind) (maxL := 2) rfl (by decide) rfl zb_nar (by simp [Value.category]) (Nat.le_of_ble_eq_true rfl) ?_
  intro X hF hR
  have k_0 : ∀ w ∈ wsX30, w ∈ wsX3_hasLetterBehind := by decide +kernel
  have k_1 : zH X (.fieldLink RX3 18 "MarginDesk$Text" "size" "I") := hF.w (by decide +kernel)
  refine z_lv (lv' := [some (.ref t0), some (.int p)]) rfl ?_
  refine z_iload_n hF dX3_hasLetterBehind_0 rfl ?_
  refine z_if_lt (tgt := 16) hF dX3_hasLetterBehind_1 (by decide) (fun c_1 => ?_) (fun c_1 => ?_)
  · refine z_iconst (v := nI 0) hF dX3_hasLetterBehind_16 (by decide) ?_
    exact hR.i dX3_hasLetterBehind_17 (Nat.le_of_ble_eq_true rfl) (Nat.le_of_ble_eq_true rfl) (rfl) (by first | exact zb1 (by grind) | exact zb0 (by grind))
  · refine z_iload_n hF dX3_hasLetterBehind_4 rfl ?_
    refine z_aload_n hF dX3_hasLetterBehind_5 rfl ?_
    refine z_get (C := RX3) (T := TX3) (N := 3) (ci := 3) (v := .int (nI n)) hF k_0 2 (by decide) rfl k_1 rfl 0 rfl rfl dX3_hasLetterBehind_6 ?_
    refine z_ic_ge (tgt := 16) hF dX3_hasLetterBehind_9 (by decide) (fun c_2 => ?_) (fun c_2 => ?_)
    · refine z_iconst (v := nI 0) hF dX3_hasLetterBehind_16 (by decide) ?_
      exact hR.i dX3_hasLetterBehind_17 (Nat.le_of_ble_eq_true rfl) (Nat.le_of_ble_eq_true rfl) (rfl) (by first | exact zb1 (by grind) | exact zb0 (by grind))
    · refine z_iconst (v := nI 1) hF dX3_hasLetterBehind_12 (by decide) ?_
      refine z_goto (tgt := 17) hF dX3_hasLetterBehind_13 (by decide) ?_
      exact hR.i dX3_hasLetterBehind_17 (Nat.le_of_ble_eq_true rfl) (Nat.le_of_ble_eq_true rfl) (rfl) (by first | exact zb1 (by grind) | exact zb0 (by grind))
set_option maxHeartbeats 4000000 in
set_option maxRecDepth 100000 in
theorem c_X3_letterBehind (G : zG) (t0 t1 t2 n : Nat) (f : Nat → Int32) (p : Int32) (hn : n ≤ 60) : zM G yX3_letterBehind wsX3_letterBehind ({ frames := 1, cells := 0, slots := 0, locals := 33 }) [.ref t0, .int p] [(t0, .inr (3, [.ref t1, .ref t2, .int (nI n)])), (t1, eI G 60 f)] [(t0, .inr (3, [.ref t1, .ref t2, .int (nI n)])), (t1, eI G 60 f)] (some (.int (letF n f p))) 0 0 := by
  refine zM.ofI (own := RX3) (cc := cX3_letterBehind) (maxL := 2) rfl (by decide) rfl rfl (by simp [Value.category]) (Nat.le_of_ble_eq_true rfl) ?_
  intro X hF hR
  have k_0 : ∀ w ∈ wsX30, w ∈ wsX3_letterBehind := by decide +kernel
  have k_1 : zH X (.fieldLink RX3 9 "MarginDesk$Text" "letters" "[I") := hF.w (by decide +kernel)
  refine z_lv (lv' := [some (.ref t0), some (.int p)]) rfl ?_
  refine z_aload_n hF dX3_letterBehind_0 rfl ?_
  refine z_iload_n hF dX3_letterBehind_1 rfl ?_
  refine z_V (As := [.int p]) (rest := []) (ws' := [(t0, .inr (3, [.ref t1, .ref t2, .int (nI n)])), (t1, eI G 60 f)]) (st2 := [.int (zb (0 ≤ p ∧ p < nI n))]) (c2 := 0) (s2 := 0) hF (c_X3_hasLetterBehind G t0 t1 t2 n p (by first | assumption | omega)) gX3_letterBehind_X3_hasLetterBehind rfl rfl rfl hd_X3_hasLetterBehind ⟨⟨Nat.le_of_ble_eq_true rfl, Nat.le_of_ble_eq_true rfl⟩, ⟨Nat.le_of_ble_eq_true rfl, Nat.le_of_ble_eq_true rfl⟩, Nat.le_of_ble_eq_true rfl⟩ [0] rfl rfl 0 rfl rfl rfl rfl rfl rfl rfl rfl rfl rfl dX3_letterBehind_2 ?_
  refine z_if_eq_b (tgt := 17) hF dX3_letterBehind_5 (by decide) (fun hc => ?_) (fun hc => ?_)
  · refine z_iconst (v := -1) hF dX3_letterBehind_17 (by decide) ?_
    exact hR.i dX3_letterBehind_18 (Nat.le_of_ble_eq_true rfl) (Nat.le_of_ble_eq_true rfl) (rfl) (by simp [letF, hc])
  · refine z_aload_n hF dX3_letterBehind_8 rfl ?_
    refine z_get (C := RX3) (T := TX3) (N := 3) (ci := 3) (v := .ref t1) hF k_0 0 (by decide) rfl k_1 rfl 0 rfl rfl dX3_letterBehind_9 ?_
    refine z_iload_n hF dX3_letterBehind_12 rfl ?_
    refine z_iald (k := p.toNatClampNeg) hF 1 rfl ((zix (by grind) hc.2 (by omega)).1) (Nat.lt_of_lt_of_le (zix (by grind) hc.2 (by omega)).2 hn) rfl dX3_letterBehind_13 ?_
    refine z_goto (tgt := 18) hF dX3_letterBehind_14 (by decide) ?_
    exact hR.i dX3_letterBehind_18 (Nat.le_of_ble_eq_true rfl) (Nat.le_of_ble_eq_true rfl) (rfl) (by simp [letF, hc])
set_option maxHeartbeats 4000000 in
set_option maxRecDepth 100000 in
theorem c_X3_marksBehind (G : zG) (t0 t1 t2 n : Nat) (g : Nat → Int32) (p : Int32) (hn : n ≤ 60) : zM G yX3_marksBehind wsX3_marksBehind ({ frames := 1, cells := 0, slots := 0, locals := 33 }) [.ref t0, .int p] [(t0, .inr (3, [.ref t1, .ref t2, .int (nI n)])), (t2, eI G 60 g)] [(t0, .inr (3, [.ref t1, .ref t2, .int (nI n)])), (t2, eI G 60 g)] (some (.int (marF n g p))) 0 0 := by
  refine zM.ofI (own := RX3) (cc := cX3_marksBehind) (maxL := 2) rfl (by decide) rfl rfl (by simp [Value.category]) (Nat.le_of_ble_eq_true rfl) ?_
  intro X hF hR
  have k_0 : ∀ w ∈ wsX30, w ∈ wsX3_marksBehind := by decide +kernel
  have k_1 : zH X (.fieldLink RX3 15 "MarginDesk$Text" "marks" "[I") := hF.w (by decide +kernel)
  refine z_lv (lv' := [some (.ref t0), some (.int p)]) rfl ?_
  refine z_aload_n hF dX3_marksBehind_0 rfl ?_
  refine z_iload_n hF dX3_marksBehind_1 rfl ?_
  refine z_V (As := [.int p]) (rest := []) (ws' := [(t0, .inr (3, [.ref t1, .ref t2, .int (nI n)])), (t2, eI G 60 g)]) (st2 := [.int (zb (0 ≤ p ∧ p < nI n))]) (c2 := 0) (s2 := 0) hF (c_X3_hasLetterBehind G t0 t1 t2 n p (by first | assumption | omega)) gX3_marksBehind_X3_hasLetterBehind rfl rfl rfl hd_X3_hasLetterBehind ⟨⟨Nat.le_of_ble_eq_true rfl, Nat.le_of_ble_eq_true rfl⟩, ⟨Nat.le_of_ble_eq_true rfl, Nat.le_of_ble_eq_true rfl⟩, Nat.le_of_ble_eq_true rfl⟩ [0] rfl rfl 0 rfl rfl rfl rfl rfl rfl rfl rfl rfl rfl dX3_marksBehind_2 ?_
  refine z_if_eq_b (tgt := 17) hF dX3_marksBehind_5 (by decide) (fun hc => ?_) (fun hc => ?_)
  · refine z_iconst (v := nI 0) hF dX3_marksBehind_17 (by decide) ?_
    exact hR.i dX3_marksBehind_18 (Nat.le_of_ble_eq_true rfl) (Nat.le_of_ble_eq_true rfl) (rfl) (by simp [marF, hc, nI_0])
  · refine z_aload_n hF dX3_marksBehind_8 rfl ?_
    refine z_get (C := RX3) (T := TX3) (N := 3) (ci := 3) (v := .ref t2) hF k_0 1 (by decide) rfl k_1 rfl 0 rfl rfl dX3_marksBehind_9 ?_
    refine z_iload_n hF dX3_marksBehind_12 rfl ?_
    refine z_iald (k := p.toNatClampNeg) hF 1 rfl ((zix (by grind) hc.2 (by omega)).1) (Nat.lt_of_lt_of_le (zix (by grind) hc.2 (by omega)).2 hn) rfl dX3_marksBehind_13 ?_
    refine z_goto (tgt := 18) hF dX3_marksBehind_14 (by decide) ?_
    exact hR.i dX3_marksBehind_18 (Nat.le_of_ble_eq_true rfl) (Nat.le_of_ble_eq_true rfl) (rfl) (by simp [marF, hc, nI_0])
set_option maxHeartbeats 4000000 in
set_option maxRecDepth 100000 in
theorem c_X3_moveTail (G : zG) (t0 t1 t2 n : Nat) (a b : Nat) (f g : Nat → Int32) (hn : n ≤ 60) (ha : a ≤ n) (hb : b + (n - a) ≤ 60) : zM G yX3_moveTail wsX3_moveTail ({ frames := 1, cells := 0, slots := 0, locals := 40 }) [.ref t0, .int (nI a), .int (nI b)] [(t0, .inr (3, [.ref t1, .ref t2, .int (nI n)])), (t1, eI G 60 f), (t2, eI G 60 g)] [(t0, .inr (3, [.ref t1, .ref t2, .int (nI (b + (n - a)))])), (t1, eI G 60 (va_cpy f f a b (n - a))), (t2, eI G 60 (va_cpy g g a b (n - a)))] none 0 0 := by
  refine zM.ofV (own := RX3) (cc := cX3_moveTail) (maxL := 4) rfl (by decide) rfl (by simp [Value.category]) (Nat.le_of_ble_eq_true rfl) ?_
  intro X hF hR
  have k_0 : ∀ w ∈ wsX30, w ∈ wsX3_moveTail := by decide +kernel
  have k_1 : zH X (.fieldLink RX3 18 "MarginDesk$Text" "size" "I") := hF.w (by decide +kernel)
  have k_2 : zH X (.fieldLink RX3 9 "MarginDesk$Text" "letters" "[I") := hF.w (by decide +kernel)
  have k_3 : zH X (.methodLink RX3 36 arraycopyName) := hF.w (by decide +kernel)
  have k_4 : zH X (.native arraycopyName) := hF.w (by decide +kernel)
  have k_5 : zH X (.static arraycopyName) := hF.w (by decide +kernel)
  have k_6 : zH X (.initialized "java/lang/System") := hF.w (by decide +kernel)
  have k_7 : zH X (.fieldLink RX3 15 "MarginDesk$Text" "marks" "[I") := hF.w (by decide +kernel)
  refine z_lv (lv' := [some (.ref t0), some (.int (nI a)), some (.int (nI b)), none]) rfl ?_
  refine z_aload_n hF dX3_moveTail_0 rfl ?_
  refine z_get (C := RX3) (T := TX3) (N := 3) (ci := 3) (v := .int (nI n)) hF k_0 2 (by decide) rfl k_1 rfl 0 rfl rfl dX3_moveTail_1 ?_
  refine z_iload_n hF dX3_moveTail_4 rfl ?_
  refine z_isub hF dX3_moveTail_5 ?_
  refine z_top (pk_sub (by omega)) ?_
  refine z_istore_n (lv' := [some (.ref t0), some (.int (nI a)), some (.int (nI b)), some (.int (nI (n - a)))]) hF dX3_moveTail_6 rfl rfl ?_
  refine z_aload_n hF dX3_moveTail_7 rfl ?_
  refine z_get (C := RX3) (T := TX3) (N := 3) (ci := 3) (v := .ref t1) hF k_0 0 (by decide) rfl k_2 rfl 0 rfl rfl dX3_moveTail_8 ?_
  refine z_iload_n hF dX3_moveTail_11 rfl ?_
  refine z_aload_n hF dX3_moveTail_12 rfl ?_
  refine z_get (C := RX3) (T := TX3) (N := 3) (ci := 3) (v := .ref t1) hF k_0 0 (by decide) rfl k_2 rfl 0 rfl rfl dX3_moveTail_13 ?_
  refine z_iload_n hF dX3_moveTail_16 rfl ?_
  refine z_iload_n hF dX3_moveTail_17 rfl ?_
  refine z_copy (sp := a) (dp := b) (n := n - a) (ws' := [(t0, .inr (3, [.ref t1, .ref t2, .int (nI n)])), (t1, eI G 60 (va_cpy f f a b (n - a))), (t2, eI G 60 g)]) hF 1 1 k_3 k_4 k_5 k_6 rfl rfl (rfl) (rfl) (rfl) (by omega) (by omega) rfl rfl rfl rfl dX3_moveTail_18 ?_
  refine z_aload_n hF dX3_moveTail_21 rfl ?_
  refine z_get (C := RX3) (T := TX3) (N := 3) (ci := 3) (v := .ref t2) hF k_0 1 (by decide) rfl k_7 rfl 0 rfl rfl dX3_moveTail_22 ?_
  refine z_iload_n hF dX3_moveTail_25 rfl ?_
  refine z_aload_n hF dX3_moveTail_26 rfl ?_
  refine z_get (C := RX3) (T := TX3) (N := 3) (ci := 3) (v := .ref t2) hF k_0 1 (by decide) rfl k_7 rfl 0 rfl rfl dX3_moveTail_27 ?_
  refine z_iload_n hF dX3_moveTail_30 rfl ?_
  refine z_iload_n hF dX3_moveTail_31 rfl ?_
  refine z_copy (sp := a) (dp := b) (n := n - a) (ws' := [(t0, .inr (3, [.ref t1, .ref t2, .int (nI n)])), (t1, eI G 60 (va_cpy f f a b (n - a))), (t2, eI G 60 (va_cpy g g a b (n - a)))]) hF 2 2 k_3 k_4 k_5 k_6 rfl rfl (rfl) (rfl) (rfl) (by omega) (by omega) rfl rfl rfl rfl dX3_moveTail_32 ?_
  refine z_aload_n hF dX3_moveTail_35 rfl ?_
  refine z_iload_n hF dX3_moveTail_36 rfl ?_
  refine z_iload_n hF dX3_moveTail_37 rfl ?_
  refine z_iadd hF dX3_moveTail_38 ?_
  refine z_top (nI_add b (n - a)) ?_
  refine z_put (C := RX3) (T := TX3) (N := 3) (ci := 3) (ws' := [(t0, .inr (3, [.ref t1, .ref t2, .int (nI (b + (n - a)))])), (t1, eI G 60 (va_cpy f f a b (n - a))), (t2, eI G 60 (va_cpy g g a b (n - a)))]) hF k_0 tyX3 tyX3_ok nmX3 2 (by decide) rfl k_1 rfl rfl rfl rfl 0 rfl rfl rfl dX3_moveTail_39 ?_
  exact hR.v dX3_moveTail_42 (Nat.le_of_ble_eq_true rfl) (Nat.le_of_ble_eq_true rfl) (rfl)
set_option maxHeartbeats 4000000 in
set_option maxRecDepth 100000 in
theorem c_X3_putIn (G : zG) (t0 t1 t2 n : Nat) (p k : Nat) (f g : Nat → Int32) (x : Int32) (hp : p ≤ n) (hk : n + k ≤ 60) : zM G yX3_putIn wsX3_putIn ({ frames := 2, cells := 0, slots := 0, locals := 63 }) [.ref t0, .int (nI p), .int x, .int (nI k)] [(t0, .inr (3, [.ref t1, .ref t2, .int (nI n)])), (t1, eI G 60 f), (t2, eI G 60 g)] [(t0, .inr (3, [.ref t1, .ref t2, .int (nI (n + k))])), (t1, eI G 60 (filF (va_cpy f f p (p + k) (n - p)) p (p + k) x)), (t2, eI G 60 (filF (va_cpy g g p (p + k) (n - p)) p (p + k) (nI 0)))] none 0 0 := by
  refine zM.ofV (own := RX3) (cc := cX3_putIn) (maxL := 4) rfl (by decide) rfl (by simp [Value.category]) (Nat.le_of_ble_eq_true rfl) ?_
  intro X hF hR
  have k_0 : ∀ w ∈ wsX30, w ∈ wsX3_putIn := by decide +kernel
  have k_1 : zH X (.fieldLink RX3 9 "MarginDesk$Text" "letters" "[I") := hF.w (by decide +kernel)
  have k_2 : zH X (.fieldLink RX3 15 "MarginDesk$Text" "marks" "[I") := hF.w (by decide +kernel)
  refine z_lv (lv' := [some (.ref t0), some (.int (nI p)), some (.int x), some (.int (nI k))]) rfl ?_
  refine z_aload_n hF dX3_putIn_0 rfl ?_
  refine z_iload_n hF dX3_putIn_1 rfl ?_
  refine z_iload_n hF dX3_putIn_2 rfl ?_
  refine z_iload_n hF dX3_putIn_3 rfl ?_
  refine z_iadd hF dX3_putIn_4 ?_
  refine z_top (nI_add p k) ?_
  refine z_V (As := [.int (nI p), .int (nI (p + k))]) (rest := []) (ws' := [(t0, .inr (3, [.ref t1, .ref t2, .int (nI ((p + k) + (n - p)))])), (t1, eI G 60 (va_cpy f f p (p + k) (n - p))), (t2, eI G 60 (va_cpy g g p (p + k) (n - p)))]) (st2 := []) (c2 := 0) (s2 := 0) hF (c_X3_moveTail G t0 t1 t2 n p (p + k) f g (by first | assumption | omega) (by first | assumption | omega) (by first | assumption | omega)) gX3_putIn_X3_moveTail rfl rfl rfl hd_X3_moveTail ⟨⟨Nat.le_of_ble_eq_true rfl, Nat.le_of_ble_eq_true rfl⟩, ⟨Nat.le_of_ble_eq_true rfl, Nat.le_of_ble_eq_true rfl⟩, Nat.le_of_ble_eq_true rfl⟩ [0, 1, 2] rfl rfl 0 rfl rfl rfl rfl rfl rfl rfl rfl rfl rfl dX3_putIn_5 ?_
  refine z_ws (ws' := [(t0, .inr (3, [.ref t1, .ref t2, .int (nI (n + k))])), (t1, eI G 60 (va_cpy f f p (p + k) (n - p))), (t2, eI G 60 (va_cpy g g p (p + k) (n - p)))]) (by rw [show p + k + (n - p) = n + k by omega]) ?_
  refine z_aload_n hF dX3_putIn_8 rfl ?_
  refine z_get (C := RX3) (T := TX3) (N := 3) (ci := 3) (v := .ref t1) hF k_0 0 (by decide) rfl k_1 rfl 0 rfl rfl dX3_putIn_9 ?_
  refine z_iload_n hF dX3_putIn_12 rfl ?_
  refine z_iload_n hF dX3_putIn_13 rfl ?_
  refine z_iload_n hF dX3_putIn_14 rfl ?_
  refine z_iadd hF dX3_putIn_15 ?_
  refine z_top (nI_add p k) ?_
  refine z_iload_n hF dX3_putIn_16 rfl ?_
  refine z_S (As := [.ref t1, .int (nI p), .int (nI (p + k)), .int x]) (rest := []) (ws' := [(t0, .inr (3, [.ref t1, .ref t2, .int (nI (n + k))])), (t1, eI G 60 (filF (va_cpy f f p (p + k) (n - p)) p (p + k) x)), (t2, eI G 60 (va_cpy g g p (p + k) (n - p)))]) (st2 := []) (c2 := 0) (s2 := 0) hF (c_J7_fill_fda19 G t1 p (p + k) (va_cpy f f p (p + k) (n - p)) x (by first | assumption | omega) (by first | assumption | omega)) gX3_putIn_J7_fill_fda19 rfl rfl rfl hs_J7_fill_fda19 ⟨⟨Nat.le_of_ble_eq_true rfl, Nat.le_of_ble_eq_true rfl⟩, ⟨Nat.le_of_ble_eq_true rfl, Nat.le_of_ble_eq_true rfl⟩, Nat.le_of_ble_eq_true rfl⟩ [1] rfl rfl rfl rfl rfl rfl rfl rfl rfl rfl dX3_putIn_17 ?_
  refine z_aload_n hF dX3_putIn_20 rfl ?_
  refine z_get (C := RX3) (T := TX3) (N := 3) (ci := 3) (v := .ref t2) hF k_0 1 (by decide) rfl k_2 rfl 0 rfl rfl dX3_putIn_21 ?_
  refine z_iload_n hF dX3_putIn_24 rfl ?_
  refine z_iload_n hF dX3_putIn_25 rfl ?_
  refine z_iload_n hF dX3_putIn_26 rfl ?_
  refine z_iadd hF dX3_putIn_27 ?_
  refine z_top (nI_add p k) ?_
  refine z_iconst (v := nI 0) hF dX3_putIn_28 (by decide) ?_
  refine z_S (As := [.ref t2, .int (nI p), .int (nI (p + k)), .int (nI 0)]) (rest := []) (ws' := [(t0, .inr (3, [.ref t1, .ref t2, .int (nI (n + k))])), (t1, eI G 60 (filF (va_cpy f f p (p + k) (n - p)) p (p + k) x)), (t2, eI G 60 (filF (va_cpy g g p (p + k) (n - p)) p (p + k) (nI 0)))]) (st2 := []) (c2 := 0) (s2 := 0) hF (c_J7_fill_fda19 G t2 p (p + k) (va_cpy g g p (p + k) (n - p)) (nI 0) (by first | assumption | omega) (by first | assumption | omega)) gX3_putIn_J7_fill_fda19 rfl rfl rfl hs_J7_fill_fda19 ⟨⟨Nat.le_of_ble_eq_true rfl, Nat.le_of_ble_eq_true rfl⟩, ⟨Nat.le_of_ble_eq_true rfl, Nat.le_of_ble_eq_true rfl⟩, Nat.le_of_ble_eq_true rfl⟩ [2] rfl rfl rfl rfl rfl rfl rfl rfl rfl rfl dX3_putIn_29 ?_
  exact hR.v dX3_putIn_32 (Nat.le_of_ble_eq_true rfl) (Nat.le_of_ble_eq_true rfl) (rfl)
set_option maxHeartbeats 4000000 in
set_option maxRecDepth 100000 in
theorem c_X3_takeOut (G : zG) (t0 t1 t2 n : Nat) (p k : Nat) (f g : Nat → Int32) (hn : n ≤ 60) (hp : p + k ≤ n) : zM G yX3_takeOut wsX3_takeOut ({ frames := 2, cells := 0, slots := 0, locals := 63 }) [.ref t0, .int (nI p), .int (nI k)] [(t0, .inr (3, [.ref t1, .ref t2, .int (nI n)])), (t1, eI G 60 f), (t2, eI G 60 g)] [(t0, .inr (3, [.ref t1, .ref t2, .int (nI (n - k))])), (t1, eI G 60 (va_cpy f f (p + k) p (n - (p + k)))), (t2, eI G 60 (va_cpy g g (p + k) p (n - (p + k))))] none 0 0 := by
  refine zM.ofV (own := RX3) (cc := cX3_takeOut) (maxL := 3) rfl (by decide) rfl (by simp [Value.category]) (Nat.le_of_ble_eq_true rfl) ?_
  intro X hF hR
  refine z_lv (lv' := [some (.ref t0), some (.int (nI p)), some (.int (nI k))]) rfl ?_
  refine z_aload_n hF dX3_takeOut_0 rfl ?_
  refine z_iload_n hF dX3_takeOut_1 rfl ?_
  refine z_iload_n hF dX3_takeOut_2 rfl ?_
  refine z_iadd hF dX3_takeOut_3 ?_
  refine z_top (nI_add p k) ?_
  refine z_iload_n hF dX3_takeOut_4 rfl ?_
  refine z_V (As := [.int (nI (p + k)), .int (nI p)]) (rest := []) (ws' := [(t0, .inr (3, [.ref t1, .ref t2, .int (nI (p + (n - (p + k))))])), (t1, eI G 60 (va_cpy f f (p + k) p (n - (p + k)))), (t2, eI G 60 (va_cpy g g (p + k) p (n - (p + k))))]) (st2 := []) (c2 := 0) (s2 := 0) hF (c_X3_moveTail G t0 t1 t2 n (p + k) p f g (by first | assumption | omega) (by first | assumption | omega) (by first | assumption | omega)) gX3_takeOut_X3_moveTail rfl rfl rfl hd_X3_moveTail ⟨⟨Nat.le_of_ble_eq_true rfl, Nat.le_of_ble_eq_true rfl⟩, ⟨Nat.le_of_ble_eq_true rfl, Nat.le_of_ble_eq_true rfl⟩, Nat.le_of_ble_eq_true rfl⟩ [0, 1, 2] rfl rfl 0 rfl rfl rfl rfl rfl rfl rfl rfl rfl rfl dX3_takeOut_5 ?_
  refine z_ws (ws' := [(t0, .inr (3, [.ref t1, .ref t2, .int (nI (n - k))])), (t1, eI G 60 (va_cpy f f (p + k) p (n - (p + k)))), (t2, eI G 60 (va_cpy g g (p + k) p (n - (p + k))))]) (by rw [show p + (n - (p + k)) = n - k by omega]) ?_
  exact hR.v dX3_takeOut_8 (Nat.le_of_ble_eq_true rfl) (Nat.le_of_ble_eq_true rfl) (rfl)
set_option maxHeartbeats 4000000 in
set_option maxRecDepth 100000 in
theorem c_X3_mark (G : zG) (t0 t1 t2 n : Nat) (a b : Nat) (g : Nat → Int32) (x : Int32) (hab : a ≤ b) (hb : b ≤ 60) : zM G yX3_mark wsX3_mark ({ frames := 0, cells := 0, slots := 0, locals := 12 }) [.ref t0, .int (nI a), .int (nI b), .int x] [(t0, .inr (3, [.ref t1, .ref t2, .int (nI n)])), (t2, eI G 60 g)] [(t0, .inr (3, [.ref t1, .ref t2, .int (nI n)])), (t2, eI G 60 (mrkF g a b x))] none 0 0 := by
  refine zM.ofV (own := RX3) (cc := cX3_mark) (maxL := 5) rfl (by decide) rfl (by simp [Value.category]) (Nat.le_of_ble_eq_true rfl) ?_
  intro X hF hR
  have k_0 : ∀ w ∈ wsX30, w ∈ wsX3_mark := by decide +kernel
  have k_1 : zH X (.fieldLink RX3 15 "MarginDesk$Text" "marks" "[I") := hF.w (by decide +kernel)
  refine z_lv (lv' := [some (.ref t0), some (.int (nI a)), some (.int (nI b)), some (.int x), none]) rfl ?_
  refine z_iload_n hF dX3_mark_0 rfl ?_
  refine z_istore (lv' := [some (.ref t0), some (.int (nI a)), some (.int (nI b)), some (.int x), some (.int (nI a))]) hF dX3_mark_1 rfl rfl ?_
  refine z_ws (ws' := [(t0, .inr (3, [.ref t1, .ref t2, .int (nI n)])), (t2, eI G 60 (mrkF g a a x))]) (by rw [mrkF_0 g x (Nat.le_refl a)]) ?_
  have J_3 : ∀ (n9 : Nat) (i : Nat), b - i < n9 → (a ≤ i) → (i ≤ b) → zJ G X 3 [(t0, .inr (3, [.ref t1, .ref t2, .int (nI n)])), (t2, eI G 60 (mrkF g a i x))] [some (.ref t0), some (.int (nI a)), some (.int (nI b)), some (.int x), some (.int (nI i))] [] 0 0 := by
    intro n9
    induction n9 with
    | zero => intro i hmu; exact absurd hmu (Nat.not_lt_zero _)
    | succ n9 ih =>
      intro i hmu h1 h2
      refine z_iload hF dX3_mark_3 rfl ?_
      refine z_iload_n hF dX3_mark_5 rfl ?_
      refine z_icn_ge (tgt := 26) hF (by omega) (by omega) dX3_mark_6 (by decide) (fun c_1 => ?_) (fun c_1 => ?_)
      · exact hR.v dX3_mark_26 (Nat.le_of_ble_eq_true rfl) (Nat.le_of_ble_eq_true rfl) (by rw [show i = b by omega])
      · refine z_aload_n hF dX3_mark_9 rfl ?_
        refine z_get (C := RX3) (T := TX3) (N := 3) (ci := 3) (v := .ref t2) hF k_0 1 (by decide) rfl k_1 rfl 0 rfl rfl dX3_mark_10 ?_
        refine z_iload hF dX3_mark_13 rfl ?_
        refine z_dup2 hF dX3_mark_15 rfl rfl ?_
        refine z_iald (k := i) hF 1 rfl (rfl) (by omega) rfl dX3_mark_16 ?_
        refine z_top (y := g i) (mrkF_at g a i x) ?_
        refine z_iload_n hF dX3_mark_17 rfl ?_
        refine z_ior hF dX3_mark_18 ?_
        refine z_iast (k := i) (ws' := [(t0, .inr (3, [.ref t1, .ref t2, .int (nI n)])), (t2, eI G 60 (upd (mrkF g a i x) i ((g i) ||| x)))]) hF 1 rfl (rfl) (by omega) rfl rfl dX3_mark_19 ?_
        refine z_ws (ws' := [(t0, .inr (3, [.ref t1, .ref t2, .int (nI n)])), (t2, eI G 60 (mrkF g a (i + 1) x))]) (by rw [mrkF_up g x (by omega)]) ?_
        refine z_iinc (v := nI (i + 1)) (lv' := [some (.ref t0), some (.int (nI a)), some (.int (nI b)), some (.int x), some (.int (nI (i + 1)))]) hF dX3_mark_20 rfl (nI_1 i) rfl rfl ?_
        refine z_goto (tgt := 3) hF dX3_mark_23 (by decide) ?_
        exact ih (i + 1) (by omega) (by omega) (by omega)
  exact J_3 ((b - a) + 1) a (Nat.lt_succ_self _) (by omega) (by omega)
end
section
set_option maxHeartbeats 4000000 in
set_option maxRecDepth 100000 in
theorem c_X4_bit (G : zG) (k : Int32)  : zM G yX4_bit wsX4_bit ({ frames := 0, cells := 0, slots := 0, locals := 12 }) [.int k] [] [] (some (.int (bitF k))) 0 0 := by
  refine zM.ofI (own := RX4) (cc := cX4_bit) (maxL := 1) rfl (by decide) rfl rfl (by simp [Value.category]) (Nat.le_of_ble_eq_true rfl) ?_
  intro X hF hR
  refine z_lv (lv' := [some (.int k)]) rfl ?_
  refine z_iconst (v := nI 1) hF dX4_bit_0 (by decide) ?_
  refine z_iload_n hF dX4_bit_1 rfl ?_
  refine z_ishl hF dX4_bit_2 ?_
  exact hR.i dX4_bit_3 (Nat.le_of_ble_eq_true rfl) (Nat.le_of_ble_eq_true rfl) (rfl) (rfl)
set_option maxHeartbeats 4000000 in
set_option maxRecDepth 100000 in
theorem c_X2_isGone (G : zG) (r0 r1 r2 r3 m : Nat) (i : Nat) (b : Nat → Int32) (hi : i < 12) : zM G yX2_isGone wsX2_isGone ({ frames := 0, cells := 0, slots := 0, locals := 12 }) [.ref r0, .int (nI i)] [(r0, .inr (2, [.ref r1, .ref r2, .ref r3, .int (nI m)])), (r1, eI G 12 b)] [(r0, .inr (2, [.ref r1, .ref r2, .ref r3, .int (nI m)])), (r1, eI G 12 b)] (some (.int (zb (b i = -1)))) 0 0 := by
  refine zM.ofI (own := RX2) (cc := cX2_isGone) (maxL := 2) rfl (by decide) rfl zb_nar (by simp [Value.category]) (Nat.le_of_ble_eq_true rfl) ?_
  intro X hF hR
  have k_0 : ∀ w ∈ wsX20, w ∈ wsX2_isGone := by decide +kernel
  have k_1 : zH X (.fieldLink RX2 9 "MarginDesk$Ranges" "begins" "[I") := hF.w (by decide +kernel)
  refine z_lv (lv' := [some (.ref r0), some (.int (nI i))]) rfl ?_
  refine z_aload_n hF dX2_isGone_0 rfl ?_
  refine z_get (C := RX2) (T := TX2) (N := 4) (ci := 2) (v := .ref r1) hF k_0 0 (by decide) rfl k_1 rfl 0 rfl rfl dX2_isGone_1 ?_
  refine z_iload_n hF dX2_isGone_4 rfl ?_
  refine z_iald (k := i) hF 1 rfl (rfl) (by omega) rfl dX2_isGone_5 ?_
  refine z_iconst (v := -1) hF dX2_isGone_6 (by decide) ?_
  refine z_ic_ne (tgt := 14) hF dX2_isGone_7 (by decide) (fun c_1 => ?_) (fun c_1 => ?_)
  · refine z_iconst (v := nI 0) hF dX2_isGone_14 (by decide) ?_
    exact hR.i dX2_isGone_15 (Nat.le_of_ble_eq_true rfl) (Nat.le_of_ble_eq_true rfl) (rfl) (by first | exact zb1 (by assumption) | exact zb0 (by assumption))
  · refine z_iconst (v := nI 1) hF dX2_isGone_10 (by decide) ?_
    refine z_goto (tgt := 15) hF dX2_isGone_11 (by decide) ?_
    exact hR.i dX2_isGone_15 (Nat.le_of_ble_eq_true rfl) (Nat.le_of_ble_eq_true rfl) (rfl) (by first | exact zb1 (by assumption) | exact zb0 (by assumption))
set_option maxHeartbeats 4000000 in
set_option maxRecDepth 100000 in
theorem c_X2_asNumber (G : zG) (r0 r1 r2 r3 m : Nat) (i : Nat) (b e : Nat → Int32) (hi : i < 12) : zM G yX2_asNumber wsX2_asNumber ({ frames := 1, cells := 0, slots := 0, locals := 33 }) [.ref r0, .int (nI i)] [(r0, .inr (2, [.ref r1, .ref r2, .ref r3, .int (nI m)])), (r1, eI G 12 b), (r2, eI G 12 e)] [(r0, .inr (2, [.ref r1, .ref r2, .ref r3, .int (nI m)])), (r1, eI G 12 b), (r2, eI G 12 e)] (some (.int (numF (b i) (e i)))) 0 0 := by
  refine zM.ofI (own := RX2) (cc := cX2_asNumber) (maxL := 2) rfl (by decide) rfl rfl (by simp [Value.category]) (Nat.le_of_ble_eq_true rfl) ?_
  intro X hF hR
  have k_0 : ∀ w ∈ wsX20, w ∈ wsX2_asNumber := by decide +kernel
  have k_1 : zH X (.fieldLink RX2 9 "MarginDesk$Ranges" "begins" "[I") := hF.w (by decide +kernel)
  have k_2 : zH X (.fieldLink RX2 15 "MarginDesk$Ranges" "ends" "[I") := hF.w (by decide +kernel)
  refine z_lv (lv' := [some (.ref r0), some (.int (nI i))]) rfl ?_
  refine z_aload_n hF dX2_asNumber_0 rfl ?_
  refine z_iload_n hF dX2_asNumber_1 rfl ?_
  refine z_V (As := [.int (nI i)]) (rest := []) (ws' := [(r0, .inr (2, [.ref r1, .ref r2, .ref r3, .int (nI m)])), (r1, eI G 12 b), (r2, eI G 12 e)]) (st2 := [.int (zb (b i = -1))]) (c2 := 0) (s2 := 0) hF (c_X2_isGone G r0 r1 r2 r3 m i b (by first | assumption | omega)) gX2_asNumber_X2_isGone rfl rfl rfl hd_X2_isGone ⟨⟨Nat.le_of_ble_eq_true rfl, Nat.le_of_ble_eq_true rfl⟩, ⟨Nat.le_of_ble_eq_true rfl, Nat.le_of_ble_eq_true rfl⟩, Nat.le_of_ble_eq_true rfl⟩ [0, 1] rfl rfl 0 rfl rfl rfl rfl rfl rfl rfl rfl rfl rfl dX2_asNumber_2 ?_
  refine z_if_eq_b (tgt := 12) hF dX2_asNumber_5 (by decide) (fun hc => ?_) (fun hc => ?_)
  · refine z_bipush (v := nI 100) hF dX2_asNumber_12 (by decide) ?_
    refine z_aload_n hF dX2_asNumber_14 rfl ?_
    refine z_get (C := RX2) (T := TX2) (N := 4) (ci := 2) (v := .ref r1) hF k_0 0 (by decide) rfl k_1 rfl 0 rfl rfl dX2_asNumber_15 ?_
    refine z_iload_n hF dX2_asNumber_18 rfl ?_
    refine z_iald (k := i) hF 1 rfl (rfl) (by omega) rfl dX2_asNumber_19 ?_
    refine z_imul hF dX2_asNumber_20 ?_
    refine z_aload_n hF dX2_asNumber_21 rfl ?_
    refine z_get (C := RX2) (T := TX2) (N := 4) (ci := 2) (v := .ref r2) hF k_0 1 (by decide) rfl k_2 rfl 0 rfl rfl dX2_asNumber_22 ?_
    refine z_iload_n hF dX2_asNumber_25 rfl ?_
    refine z_iald (k := i) hF 2 rfl (rfl) (by omega) rfl dX2_asNumber_26 ?_
    refine z_iadd hF dX2_asNumber_27 ?_
    exact hR.i dX2_asNumber_28 (Nat.le_of_ble_eq_true rfl) (Nat.le_of_ble_eq_true rfl) (rfl) (by simp [numF, hc])
  · refine z_iconst (v := -1) hF dX2_asNumber_8 (by decide) ?_
    refine z_goto (tgt := 28) hF dX2_asNumber_9 (by decide) ?_
    exact hR.i dX2_asNumber_28 (Nat.le_of_ble_eq_true rfl) (Nat.le_of_ble_eq_true rfl) (rfl) (by simp [numF, hc])
set_option maxHeartbeats 4000000 in
set_option maxRecDepth 100000 in
theorem c_X2_covering (G : zG) (r0 r1 r2 r3 m : Nat) (p : Int32) (b e : Nat → Int32) (hm : m ≤ 12) : zM G yX2_covering wsX2_covering ({ frames := 1, cells := 0, slots := 0, locals := 32 }) [.ref r0, .int p] [(r0, .inr (2, [.ref r1, .ref r2, .ref r3, .int (nI m)])), (r1, eI G 12 b), (r2, eI G 12 e)] [(r0, .inr (2, [.ref r1, .ref r2, .ref r3, .int (nI m)])), (r1, eI G 12 b), (r2, eI G 12 e)] (some (.int (cov (fun kk => b kk ≤ p ∧ p < e kk) m))) 0 0 := by
  refine zM.ofI (own := RX2) (cc := cX2_covering) (maxL := 4) rfl (by decide) rfl rfl (by simp [Value.category]) (Nat.le_of_ble_eq_true rfl) ?_
  intro X hF hR
  have k_0 : ∀ w ∈ wsX20, w ∈ wsX2_covering := by decide +kernel
  have k_1 : zH X (.fieldLink RX2 21 "MarginDesk$Ranges" "count" "I") := hF.w (by decide +kernel)
  have k_2 : zH X (.fieldLink RX2 9 "MarginDesk$Ranges" "begins" "[I") := hF.w (by decide +kernel)
  have k_3 : zH X (.fieldLink RX2 15 "MarginDesk$Ranges" "ends" "[I") := hF.w (by decide +kernel)
  have k_4 : zH X (.initialized RX4) := hF.w (by decide +kernel)
  have k_5 : zH X (.static yX4_bit) := hF.w (by decide +kernel)
  refine z_lv (lv' := [some (.ref r0), some (.int p), none, none]) rfl ?_
  refine z_iconst (v := nI 0) hF dX2_covering_0 (by decide) ?_
  refine z_istore_n (lv' := [some (.ref r0), some (.int p), some (.int (nI 0)), none]) hF dX2_covering_1 rfl rfl ?_
  refine z_iconst (v := nI 0) hF dX2_covering_2 (by decide) ?_
  refine z_istore_n (lv' := [some (.ref r0), some (.int p), some (.int (nI 0)), some (.int (nI 0))]) hF dX2_covering_3 rfl rfl ?_
  refine z_lv (lv' := [some (.ref r0), some (.int p), some (.int (cov (fun kk => b kk ≤ p ∧ p < e kk) 0)), some (.int (nI 0))]) (by rfl) ?_
  have J_4 : ∀ (n9 : Nat) (i : Nat), m - i < n9 → (i ≤ m) → zJ G X 4 [(r0, .inr (2, [.ref r1, .ref r2, .ref r3, .int (nI m)])), (r1, eI G 12 b), (r2, eI G 12 e)] [some (.ref r0), some (.int p), some (.int (cov (fun kk => b kk ≤ p ∧ p < e kk) i)), some (.int (nI i))] [] 0 0 := by
    intro n9
    induction n9 with
    | zero => intro i hmu; exact absurd hmu (Nat.not_lt_zero _)
    | succ n9 ih =>
      intro i hmu h2
      refine z_iload_n hF dX2_covering_4 rfl ?_
      refine z_aload_n hF dX2_covering_5 rfl ?_
      refine z_get (C := RX2) (T := TX2) (N := 4) (ci := 2) (v := .int (nI m)) hF k_0 3 (by decide) rfl k_1 rfl 0 rfl rfl dX2_covering_6 ?_
      refine z_icn_ge (tgt := 45) hF (by omega) (by omega) dX2_covering_9 (by decide) (fun c_1 => ?_) (fun c_1 => ?_)
      · refine z_iload_n hF dX2_covering_45 rfl ?_
        exact hR.i dX2_covering_46 (Nat.le_of_ble_eq_true rfl) (Nat.le_of_ble_eq_true rfl) (rfl) (by rw [show i = m by omega])
      · refine z_aload_n hF dX2_covering_12 rfl ?_
        refine z_get (C := RX2) (T := TX2) (N := 4) (ci := 2) (v := .ref r1) hF k_0 0 (by decide) rfl k_2 rfl 0 rfl rfl dX2_covering_13 ?_
        refine z_iload_n hF dX2_covering_16 rfl ?_
        refine z_iald (k := i) hF 1 rfl (rfl) (by omega) rfl dX2_covering_17 ?_
        refine z_iload_n hF dX2_covering_18 rfl ?_
        refine z_ic_gt (tgt := 39) hF dX2_covering_19 (by decide) (fun c_2 => ?_) (fun c_2 => ?_)
        · refine z_iinc (v := nI (i + 1)) (lv' := [some (.ref r0), some (.int p), some (.int (cov (fun kk => b kk ≤ p ∧ p < e kk) i)), some (.int (nI (i + 1)))]) hF dX2_covering_39 rfl (nI_1 i) rfl rfl ?_
          refine z_goto (tgt := 4) hF dX2_covering_42 (by decide) ?_
          refine z_lv (lv' := [some (.ref r0), some (.int p), some (.int (cov (fun kk => b kk ≤ p ∧ p < e kk) (i + 1))), some (.int (nI (i + 1)))]) (by rw [cov_f (k := i) (by grind)]) ?_
          exact ih (i + 1) (by omega) (by omega)
        · refine z_iload_n hF dX2_covering_22 rfl ?_
          refine z_aload_n hF dX2_covering_23 rfl ?_
          refine z_get (C := RX2) (T := TX2) (N := 4) (ci := 2) (v := .ref r2) hF k_0 1 (by decide) rfl k_3 rfl 0 rfl rfl dX2_covering_24 ?_
          refine z_iload_n hF dX2_covering_27 rfl ?_
          refine z_iald (k := i) hF 2 rfl (rfl) (by omega) rfl dX2_covering_28 ?_
          refine z_ic_ge (tgt := 39) hF dX2_covering_29 (by decide) (fun c_3 => ?_) (fun c_3 => ?_)
          · refine z_iinc (v := nI (i + 1)) (lv' := [some (.ref r0), some (.int p), some (.int (cov (fun kk => b kk ≤ p ∧ p < e kk) i)), some (.int (nI (i + 1)))]) hF dX2_covering_39 rfl (nI_1 i) rfl rfl ?_
            refine z_goto (tgt := 4) hF dX2_covering_42 (by decide) ?_
            refine z_lv (lv' := [some (.ref r0), some (.int p), some (.int (cov (fun kk => b kk ≤ p ∧ p < e kk) (i + 1))), some (.int (nI (i + 1)))]) (by rw [cov_f (k := i) (by grind)]) ?_
            exact ih (i + 1) (by omega) (by omega)
          · refine z_iload_n hF dX2_covering_32 rfl ?_
            refine z_iload_n hF dX2_covering_33 rfl ?_
            refine z_SN (As := [.int (nI i)]) (rest := [.int (cov (fun kk => b kk ≤ p ∧ p < e kk) i)]) (ws' := [(r0, .inr (2, [.ref r1, .ref r2, .ref r3, .int (nI m)])), (r1, eI G 12 b), (r2, eI G 12 e)]) (st2 := [.int (bitF (nI i)), .int (cov (fun kk => b kk ≤ p ∧ p < e kk) i)]) (c2 := 0) (s2 := 0) hF (c_X4_bit G (nI i)) ggX2_covering_X4_bit (List.mem_of_getElem? (i := 6) rfl) k_4 k_5 rfl rfl rfl hs_X4_bit ⟨⟨Nat.le_of_ble_eq_true rfl, Nat.le_of_ble_eq_true rfl⟩, ⟨Nat.le_of_ble_eq_true rfl, Nat.le_of_ble_eq_true rfl⟩, Nat.le_of_ble_eq_true rfl⟩ [] rfl rfl rfl rfl rfl rfl rfl rfl rfl rfl dX2_covering_34 ?_
            refine z_ior hF dX2_covering_37 ?_
            refine z_top (y := cov (fun kk => b kk ≤ p ∧ p < e kk) (i + 1)) (cov_t (P := fun kk => b kk ≤ p ∧ p < e kk) ⟨by grind, by grind⟩) ?_
            refine z_istore_n (lv' := [some (.ref r0), some (.int p), some (.int (cov (fun kk => b kk ≤ p ∧ p < e kk) (i + 1))), some (.int (nI i))]) hF dX2_covering_38 rfl rfl ?_
            refine z_iinc (v := nI (i + 1)) (lv' := [some (.ref r0), some (.int p), some (.int (cov (fun kk => b kk ≤ p ∧ p < e kk) (i + 1))), some (.int (nI (i + 1)))]) hF dX2_covering_39 rfl (nI_1 i) rfl rfl ?_
            refine z_goto (tgt := 4) hF dX2_covering_42 (by decide) ?_
            exact ih (i + 1) (by omega) (by omega)
  exact J_4 ((m - 0) + 1) 0 (Nat.lt_succ_self _) (by omega)
set_option maxHeartbeats 4000000 in
set_option maxRecDepth 100000 in
theorem c_X2_share (G : zG) (r0 r1 r2 r3 m : Nat) (i j : Nat) (b e : Nat → Int32) (hi : i < 12) (hj : j < 12) : zM G yX2_share wsX2_share ({ frames := 1, cells := 0, slots := 0, locals := 20 }) [.ref r0, .int (nI i), .int (nI j)] [(r0, .inr (2, [.ref r1, .ref r2, .ref r3, .int (nI m)])), (r1, eI G 12 b), (r2, eI G 12 e)] [(r0, .inr (2, [.ref r1, .ref r2, .ref r3, .int (nI m)])), (r1, eI G 12 b), (r2, eI G 12 e)] (some (.int (zb ((if b i < b j then b j else b i) < (if e j < e i then e j else e i))))) 0 0 := by
  refine zM.ofI (own := RX2) (cc := cX2_share) (maxL := 3) rfl (by decide) rfl zb_nar (by simp [Value.category]) (Nat.le_of_ble_eq_true rfl) ?_
  intro X hF hR
  have k_0 : ∀ w ∈ wsX20, w ∈ wsX2_share := by decide +kernel
  have k_1 : zH X (.fieldLink RX2 9 "MarginDesk$Ranges" "begins" "[I") := hF.w (by decide +kernel)
  have k_2 : zH X (.methodLink RX2 33 Lib.Math.max.name) := hF.w (by decide +kernel)
  have k_3 : zH X (.static Lib.Math.max.name) := hF.w (by decide +kernel)
  have k_4 : zH X (.initialized "java/lang/Math") := hF.w (by decide +kernel)
  have k_5 : zH X (.code Lib.Math.max.name Lib.Math.max.code 2 (some .int)) := hF.w (by decide +kernel)
  have k_6 : zH X (.fieldLink RX2 15 "MarginDesk$Ranges" "ends" "[I") := hF.w (by decide +kernel)
  have k_7 : zH X (.methodLink RX2 39 Lib.Math.min.name) := hF.w (by decide +kernel)
  have k_8 : zH X (.static Lib.Math.min.name) := hF.w (by decide +kernel)
  have k_9 : zH X (.code Lib.Math.min.name Lib.Math.min.code 2 (some .int)) := hF.w (by decide +kernel)
  refine z_lv (lv' := [some (.ref r0), some (.int (nI i)), some (.int (nI j))]) rfl ?_
  refine z_aload_n hF dX2_share_0 rfl ?_
  refine z_get (C := RX2) (T := TX2) (N := 4) (ci := 2) (v := .ref r1) hF k_0 0 (by decide) rfl k_1 rfl 0 rfl rfl dX2_share_1 ?_
  refine z_iload_n hF dX2_share_4 rfl ?_
  refine z_iald (k := i) hF 1 rfl (rfl) (by omega) rfl dX2_share_5 ?_
  refine z_aload_n hF dX2_share_6 rfl ?_
  refine z_get (C := RX2) (T := TX2) (N := 4) (ci := 2) (v := .ref r1) hF k_0 0 (by decide) rfl k_1 rfl 0 rfl rfl dX2_share_7 ?_
  refine z_iload_n hF dX2_share_10 rfl ?_
  refine z_iald (k := j) hF 1 rfl (rfl) (by omega) rfl dX2_share_11 ?_
  refine z_max hF k_2 k_3 k_4 k_5 rfl dX2_share_12 ?_
  refine z_aload_n hF dX2_share_15 rfl ?_
  refine z_get (C := RX2) (T := TX2) (N := 4) (ci := 2) (v := .ref r2) hF k_0 1 (by decide) rfl k_6 rfl 0 rfl rfl dX2_share_16 ?_
  refine z_iload_n hF dX2_share_19 rfl ?_
  refine z_iald (k := i) hF 2 rfl (rfl) (by omega) rfl dX2_share_20 ?_
  refine z_aload_n hF dX2_share_21 rfl ?_
  refine z_get (C := RX2) (T := TX2) (N := 4) (ci := 2) (v := .ref r2) hF k_0 1 (by decide) rfl k_6 rfl 0 rfl rfl dX2_share_22 ?_
  refine z_iload_n hF dX2_share_25 rfl ?_
  refine z_iald (k := j) hF 2 rfl (rfl) (by omega) rfl dX2_share_26 ?_
  refine z_min hF k_7 k_8 k_4 k_9 rfl dX2_share_27 ?_
  refine z_ic_ge (tgt := 37) hF dX2_share_30 (by decide) (fun c_1 => ?_) (fun c_1 => ?_)
  · refine z_iconst (v := nI 0) hF dX2_share_37 (by decide) ?_
    exact hR.i dX2_share_38 (Nat.le_of_ble_eq_true rfl) (Nat.le_of_ble_eq_true rfl) (rfl) (by first | exact zb1 (by grind) | exact zb0 (by grind))
  · refine z_iconst (v := nI 1) hF dX2_share_33 (by decide) ?_
    refine z_goto (tgt := 38) hF dX2_share_34 (by decide) ?_
    exact hR.i dX2_share_38 (Nat.le_of_ble_eq_true rfl) (Nat.le_of_ble_eq_true rfl) (rfl) (by first | exact zb1 (by grind) | exact zb0 (by grind))
set_option maxHeartbeats 4000000 in
set_option maxRecDepth 100000 in
theorem c_X2_behindInsertion (G : zG) (x p n r : Int32)  : zM G yX2_behindInsertion wsX2_behindInsertion ({ frames := 0, cells := 0, slots := 0, locals := 12 }) [.int x, .int p, .int n, .int r] [] [] (some (.int (bInsF x p n r))) 0 0 := by
  refine zM.ofI (own := RX2) (cc := cX2_behindInsertion) (maxL := 5) rfl (by decide) rfl rfl (by simp [Value.category]) (Nat.le_of_ble_eq_true rfl) ?_
  intro X hF hR
  refine z_lv (lv' := [some (.int x), some (.int p), some (.int n), some (.int r), none]) rfl ?_
  refine z_iload_n hF dX2_behindInsertion_0 rfl ?_
  refine z_iload_n hF dX2_behindInsertion_1 rfl ?_
  refine z_ic_gt (tgt := 14) hF dX2_behindInsertion_2 (by decide) (fun c_1 => ?_) (fun c_1 => ?_)
  · refine z_iconst (v := nI 1) hF dX2_behindInsertion_14 (by decide) ?_
    refine z_goto (tgt := 19) hF dX2_behindInsertion_15 (by decide) ?_
    refine z_istore (lv' := [some (.int x), some (.int p), some (.int n), some (.int r), some (.int (nI 1))]) hF dX2_behindInsertion_19 rfl rfl ?_
    refine z_iload hF dX2_behindInsertion_21 rfl ?_
    refine z_if_eq (tgt := 32) hF dX2_behindInsertion_23 (by decide) (fun c_2 => absurd c_2 (by decide)) (fun c_2 => ?_)
    refine z_iload_n hF dX2_behindInsertion_26 rfl ?_
    refine z_iload_n hF dX2_behindInsertion_27 rfl ?_
    refine z_iadd hF dX2_behindInsertion_28 ?_
    refine z_goto (tgt := 33) hF dX2_behindInsertion_29 (by decide) ?_
    exact hR.i dX2_behindInsertion_33 (Nat.le_of_ble_eq_true rfl) (Nat.le_of_ble_eq_true rfl) (rfl) (by unfold bInsF; grind)
  · refine z_iload_n hF dX2_behindInsertion_5 rfl ?_
    refine z_iload_n hF dX2_behindInsertion_6 rfl ?_
    refine z_ic_ne (tgt := 18) hF dX2_behindInsertion_7 (by decide) (fun c_3 => ?_) (fun c_3 => ?_)
    · refine z_iconst (v := nI 0) hF dX2_behindInsertion_18 (by decide) ?_
      refine z_istore (lv' := [some (.int x), some (.int p), some (.int n), some (.int r), some (.int (nI 0))]) hF dX2_behindInsertion_19 rfl rfl ?_
      refine z_iload hF dX2_behindInsertion_21 rfl ?_
      refine z_if_eq (tgt := 32) hF dX2_behindInsertion_23 (by decide) (fun c_4 => ?_) (fun c_4 => absurd c_4 (by decide))
      refine z_iload_n hF dX2_behindInsertion_32 rfl ?_
      exact hR.i dX2_behindInsertion_33 (Nat.le_of_ble_eq_true rfl) (Nat.le_of_ble_eq_true rfl) (rfl) (by unfold bInsF; grind)
    · refine z_iload_n hF dX2_behindInsertion_10 rfl ?_
      refine z_if_ne (tgt := 18) hF dX2_behindInsertion_11 (by decide) (fun c_5 => ?_) (fun c_5 => ?_)
      · refine z_iconst (v := nI 0) hF dX2_behindInsertion_18 (by decide) ?_
        refine z_istore (lv' := [some (.int x), some (.int p), some (.int n), some (.int r), some (.int (nI 0))]) hF dX2_behindInsertion_19 rfl rfl ?_
        refine z_iload hF dX2_behindInsertion_21 rfl ?_
        refine z_if_eq (tgt := 32) hF dX2_behindInsertion_23 (by decide) (fun c_6 => ?_) (fun c_6 => absurd c_6 (by decide))
        refine z_iload_n hF dX2_behindInsertion_32 rfl ?_
        exact hR.i dX2_behindInsertion_33 (Nat.le_of_ble_eq_true rfl) (Nat.le_of_ble_eq_true rfl) (rfl) (by unfold bInsF; grind)
      · refine z_iconst (v := nI 1) hF dX2_behindInsertion_14 (by decide) ?_
        refine z_goto (tgt := 19) hF dX2_behindInsertion_15 (by decide) ?_
        refine z_istore (lv' := [some (.int x), some (.int p), some (.int n), some (.int r), some (.int (nI 1))]) hF dX2_behindInsertion_19 rfl rfl ?_
        refine z_iload hF dX2_behindInsertion_21 rfl ?_
        refine z_if_eq (tgt := 32) hF dX2_behindInsertion_23 (by decide) (fun c_7 => absurd c_7 (by decide)) (fun c_7 => ?_)
        refine z_iload_n hF dX2_behindInsertion_26 rfl ?_
        refine z_iload_n hF dX2_behindInsertion_27 rfl ?_
        refine z_iadd hF dX2_behindInsertion_28 ?_
        refine z_goto (tgt := 33) hF dX2_behindInsertion_29 (by decide) ?_
        exact hR.i dX2_behindInsertion_33 (Nat.le_of_ble_eq_true rfl) (Nat.le_of_ble_eq_true rfl) (rfl) (by unfold bInsF; grind)
set_option maxHeartbeats 4000000 in
set_option maxRecDepth 100000 in
theorem c_X2_behindRemoval (G : zG) (x p n : Int32)  : zM G yX2_behindRemoval wsX2_behindRemoval ({ frames := 1, cells := 0, slots := 0, locals := 20 }) [.int x, .int p, .int n] [] [] (some (.int (behF x p n))) 0 0 := by
  refine zM.ofI (own := RX2) (cc := cX2_behindRemoval) (maxL := 3) rfl (by decide) rfl rfl (by simp [Value.category]) (Nat.le_of_ble_eq_true rfl) ?_
  intro X hF hR
  have k_0 : zH X (.methodLink RX2 33 Lib.Math.max.name) := hF.w (by decide +kernel)
  have k_1 : zH X (.static Lib.Math.max.name) := hF.w (by decide +kernel)
  have k_2 : zH X (.initialized "java/lang/Math") := hF.w (by decide +kernel)
  have k_3 : zH X (.code Lib.Math.max.name Lib.Math.max.code 2 (some .int)) := hF.w (by decide +kernel)
  refine z_lv (lv' := [some (.int x), some (.int p), some (.int n)]) rfl ?_
  refine z_iload_n hF dX2_behindRemoval_0 rfl ?_
  refine z_iload_n hF dX2_behindRemoval_1 rfl ?_
  refine z_ic_le (tgt := 15) hF dX2_behindRemoval_2 (by decide) (fun c_1 => ?_) (fun c_1 => ?_)
  · refine z_iload_n hF dX2_behindRemoval_15 rfl ?_
    exact hR.i dX2_behindRemoval_16 (Nat.le_of_ble_eq_true rfl) (Nat.le_of_ble_eq_true rfl) (rfl) (by unfold behF; grind)
  · refine z_iload_n hF dX2_behindRemoval_5 rfl ?_
    refine z_iload_n hF dX2_behindRemoval_6 rfl ?_
    refine z_iload_n hF dX2_behindRemoval_7 rfl ?_
    refine z_isub hF dX2_behindRemoval_8 ?_
    refine z_max hF k_0 k_1 k_2 k_3 rfl dX2_behindRemoval_9 ?_
    refine z_goto (tgt := 16) hF dX2_behindRemoval_12 (by decide) ?_
    exact hR.i dX2_behindRemoval_16 (Nat.le_of_ble_eq_true rfl) (Nat.le_of_ble_eq_true rfl) (rfl) (by unfold behF; grind)
set_option maxHeartbeats 4000000 in
set_option maxRecDepth 100000 in
theorem c_X2_add (G : zG) (r0 r1 r2 r3 m : Nat) (b0 e0 s0 : Int32) (b e s : Nat → Int32) (hm : m < 12) : zM G yX2_add wsX2_add ({ frames := 0, cells := 0, slots := 0, locals := 12 }) [.ref r0, .int b0, .int e0, .int s0] [(r0, .inr (2, [.ref r1, .ref r2, .ref r3, .int (nI m)])), (r1, eI G 12 b), (r2, eI G 12 e), (r3, eI G 12 s)] [(r0, .inr (2, [.ref r1, .ref r2, .ref r3, .int (nI (m + 1))])), (r1, eI G 12 (upd b m b0)), (r2, eI G 12 (upd e m e0)), (r3, eI G 12 (upd s m s0))] (some (.int (nI m))) 0 0 := by
  refine zM.ofI (own := RX2) (cc := cX2_add) (maxL := 5) rfl (by decide) rfl rfl (by simp [Value.category]) (Nat.le_of_ble_eq_true rfl) ?_
  intro X hF hR
  have k_0 : ∀ w ∈ wsX20, w ∈ wsX2_add := by decide +kernel
  have k_1 : zH X (.fieldLink RX2 21 "MarginDesk$Ranges" "count" "I") := hF.w (by decide +kernel)
  have k_2 : zH X (.fieldLink RX2 9 "MarginDesk$Ranges" "begins" "[I") := hF.w (by decide +kernel)
  have k_3 : zH X (.fieldLink RX2 15 "MarginDesk$Ranges" "ends" "[I") := hF.w (by decide +kernel)
  have k_4 : zH X (.fieldLink RX2 18 "MarginDesk$Ranges" "stickiness" "[I") := hF.w (by decide +kernel)
  refine z_lv (lv' := [some (.ref r0), some (.int b0), some (.int e0), some (.int s0), none]) rfl ?_
  refine z_aload_n hF dX2_add_0 rfl ?_
  refine z_get (C := RX2) (T := TX2) (N := 4) (ci := 2) (v := .int (nI m)) hF k_0 3 (by decide) rfl k_1 rfl 0 rfl rfl dX2_add_1 ?_
  refine z_istore (lv' := [some (.ref r0), some (.int b0), some (.int e0), some (.int s0), some (.int (nI m))]) hF dX2_add_4 rfl rfl ?_
  refine z_aload_n hF dX2_add_6 rfl ?_
  refine z_get (C := RX2) (T := TX2) (N := 4) (ci := 2) (v := .ref r1) hF k_0 0 (by decide) rfl k_2 rfl 0 rfl rfl dX2_add_7 ?_
  refine z_iload hF dX2_add_10 rfl ?_
  refine z_iload_n hF dX2_add_12 rfl ?_
  refine z_iast (k := m) (ws' := [(r0, .inr (2, [.ref r1, .ref r2, .ref r3, .int (nI m)])), (r1, eI G 12 (upd b m b0)), (r2, eI G 12 e), (r3, eI G 12 s)]) hF 1 rfl (rfl) (by omega) rfl rfl dX2_add_13 ?_
  refine z_aload_n hF dX2_add_14 rfl ?_
  refine z_get (C := RX2) (T := TX2) (N := 4) (ci := 2) (v := .ref r2) hF k_0 1 (by decide) rfl k_3 rfl 0 rfl rfl dX2_add_15 ?_
  refine z_iload hF dX2_add_18 rfl ?_
  refine z_iload_n hF dX2_add_20 rfl ?_
  refine z_iast (k := m) (ws' := [(r0, .inr (2, [.ref r1, .ref r2, .ref r3, .int (nI m)])), (r1, eI G 12 (upd b m b0)), (r2, eI G 12 (upd e m e0)), (r3, eI G 12 s)]) hF 2 rfl (rfl) (by omega) rfl rfl dX2_add_21 ?_
  refine z_aload_n hF dX2_add_22 rfl ?_
  refine z_get (C := RX2) (T := TX2) (N := 4) (ci := 2) (v := .ref r3) hF k_0 2 (by decide) rfl k_4 rfl 0 rfl rfl dX2_add_23 ?_
  refine z_iload hF dX2_add_26 rfl ?_
  refine z_iload_n hF dX2_add_28 rfl ?_
  refine z_iast (k := m) (ws' := [(r0, .inr (2, [.ref r1, .ref r2, .ref r3, .int (nI m)])), (r1, eI G 12 (upd b m b0)), (r2, eI G 12 (upd e m e0)), (r3, eI G 12 (upd s m s0))]) hF 3 rfl (rfl) (by omega) rfl rfl dX2_add_29 ?_
  refine z_aload_n hF dX2_add_30 rfl ?_
  refine z_dup hF dX2_add_31 rfl ?_
  refine z_get (C := RX2) (T := TX2) (N := 4) (ci := 2) (v := .int (nI m)) hF k_0 3 (by decide) rfl k_1 rfl 0 rfl rfl dX2_add_32 ?_
  refine z_iconst (v := nI 1) hF dX2_add_35 (by decide) ?_
  refine z_iadd hF dX2_add_36 ?_
  refine z_top (nI_add m 1) ?_
  refine z_put (C := RX2) (T := TX2) (N := 4) (ci := 2) (ws' := [(r0, .inr (2, [.ref r1, .ref r2, .ref r3, .int (nI (m + 1))])), (r1, eI G 12 (upd b m b0)), (r2, eI G 12 (upd e m e0)), (r3, eI G 12 (upd s m s0))]) hF k_0 tyX2 tyX2_ok nmX2 3 (by decide) rfl k_1 rfl rfl rfl rfl 0 rfl rfl rfl dX2_add_37 ?_
  refine z_iload hF dX2_add_40 rfl ?_
  exact hR.i dX2_add_42 (Nat.le_of_ble_eq_true rfl) (Nat.le_of_ble_eq_true rfl) (rfl) (rfl)
set_option maxHeartbeats 4000000 in
set_option maxRecDepth 100000 in
theorem c_X2_bringBack (G : zG) (r0 r1 r2 r3 m : Nat) (i : Nat) (x y : Int32) (b e : Nat → Int32) (hi : i < 12) : zM G yX2_bringBack wsX2_bringBack ({ frames := 0, cells := 0, slots := 0, locals := 12 }) [.ref r0, .int (nI i), .int x, .int y] [(r0, .inr (2, [.ref r1, .ref r2, .ref r3, .int (nI m)])), (r1, eI G 12 b), (r2, eI G 12 e)] [(r0, .inr (2, [.ref r1, .ref r2, .ref r3, .int (nI m)])), (r1, eI G 12 (upd b i x)), (r2, eI G 12 (upd e i y))] none 0 0 := by
  refine zM.ofV (own := RX2) (cc := cX2_bringBack) (maxL := 4) rfl (by decide) rfl (by simp [Value.category]) (Nat.le_of_ble_eq_true rfl) ?_
  intro X hF hR
  have k_0 : ∀ w ∈ wsX20, w ∈ wsX2_bringBack := by decide +kernel
  have k_1 : zH X (.fieldLink RX2 9 "MarginDesk$Ranges" "begins" "[I") := hF.w (by decide +kernel)
  have k_2 : zH X (.fieldLink RX2 15 "MarginDesk$Ranges" "ends" "[I") := hF.w (by decide +kernel)
  refine z_lv (lv' := [some (.ref r0), some (.int (nI i)), some (.int x), some (.int y)]) rfl ?_
  refine z_aload_n hF dX2_bringBack_0 rfl ?_
  refine z_get (C := RX2) (T := TX2) (N := 4) (ci := 2) (v := .ref r1) hF k_0 0 (by decide) rfl k_1 rfl 0 rfl rfl dX2_bringBack_1 ?_
  refine z_iload_n hF dX2_bringBack_4 rfl ?_
  refine z_iload_n hF dX2_bringBack_5 rfl ?_
  refine z_iast (k := i) (ws' := [(r0, .inr (2, [.ref r1, .ref r2, .ref r3, .int (nI m)])), (r1, eI G 12 (upd b i x)), (r2, eI G 12 e)]) hF 1 rfl (rfl) (by omega) rfl rfl dX2_bringBack_6 ?_
  refine z_aload_n hF dX2_bringBack_7 rfl ?_
  refine z_get (C := RX2) (T := TX2) (N := 4) (ci := 2) (v := .ref r2) hF k_0 1 (by decide) rfl k_2 rfl 0 rfl rfl dX2_bringBack_8 ?_
  refine z_iload_n hF dX2_bringBack_11 rfl ?_
  refine z_iload_n hF dX2_bringBack_12 rfl ?_
  refine z_iast (k := i) (ws' := [(r0, .inr (2, [.ref r1, .ref r2, .ref r3, .int (nI m)])), (r1, eI G 12 (upd b i x)), (r2, eI G 12 (upd e i y))]) hF 2 rfl (rfl) (by omega) rfl rfl dX2_bringBack_13 ?_
  exact hR.v dX2_bringBack_14 (Nat.le_of_ble_eq_true rfl) (Nat.le_of_ble_eq_true rfl) (rfl)
set_option maxHeartbeats 4000000 in
set_option maxRecDepth 100000 in
theorem c_X2_moveByInsertion (G : zG) (r0 r1 r2 r3 m : Nat) (p n : Int32) (b e s : Nat → Int32) (hm : m ≤ 12) : zM G yX2_moveByInsertion wsX2_moveByInsertion ({ frames := 1, cells := 0, slots := 0, locals := 36 }) [.ref r0, .int p, .int n] [(r0, .inr (2, [.ref r1, .ref r2, .ref r3, .int (nI m)])), (r1, eI G 12 b), (r2, eI G 12 e), (r3, eI G 12 s)] [(r0, .inr (2, [.ref r1, .ref r2, .ref r3, .int (nI m)])), (r1, eI G 12 (mpF m (insB p n b s) b)), (r2, eI G 12 (mpF m (insE p n b e s) e)), (r3, eI G 12 s)] none 0 0 := by
  refine zM.ofV (own := RX2) (cc := cX2_moveByInsertion) (maxL := 6) rfl (by decide) rfl (by simp [Value.category]) (Nat.le_of_ble_eq_true rfl) ?_
  intro X hF hR
  have k_0 : ∀ w ∈ wsX20, w ∈ wsX2_moveByInsertion := by decide +kernel
  have k_1 : zH X (.fieldLink RX2 21 "MarginDesk$Ranges" "count" "I") := hF.w (by decide +kernel)
  have k_2 : zH X (.fieldLink RX2 9 "MarginDesk$Ranges" "begins" "[I") := hF.w (by decide +kernel)
  have k_3 : zH X (.fieldLink RX2 15 "MarginDesk$Ranges" "ends" "[I") := hF.w (by decide +kernel)
  have k_4 : zH X (.fieldLink RX2 18 "MarginDesk$Ranges" "stickiness" "[I") := hF.w (by decide +kernel)
  refine z_lv (lv' := [some (.ref r0), some (.int p), some (.int n), none, none, none]) rfl ?_
  refine z_iconst (v := nI 0) hF dX2_moveByInsertion_0 (by decide) ?_
  refine z_istore_n (lv' := [some (.ref r0), some (.int p), some (.int n), some (.int (nI 0)), none, none]) hF dX2_moveByInsertion_1 rfl rfl ?_
  refine z_ws (ws' := [(r0, .inr (2, [.ref r1, .ref r2, .ref r3, .int (nI m)])), (r1, eI G 12 (mpF 0 (insB p n b s) b)), (r2, eI G 12 e), (r3, eI G 12 s)]) (by simp only [mpF_0]) ?_
  refine z_ws (ws' := [(r0, .inr (2, [.ref r1, .ref r2, .ref r3, .int (nI m)])), (r1, eI G 12 (mpF 0 (insB p n b s) b)), (r2, eI G 12 (mpF 0 (insE p n b e s) e)), (r3, eI G 12 s)]) (by simp only [mpF_0]) ?_
  have J_2 : ∀ (n9 : Nat) (i : Nat), m - i < n9 → (i ≤ m) → zJ G X 2 [(r0, .inr (2, [.ref r1, .ref r2, .ref r3, .int (nI m)])), (r1, eI G 12 (mpF i (insB p n b s) b)), (r2, eI G 12 (mpF i (insE p n b e s) e)), (r3, eI G 12 s)] [some (.ref r0), some (.int p), some (.int n), some (.int (nI i)), none, none] [] 0 0 := by
    intro n9
    induction n9 with
    | zero => intro i hmu; exact absurd hmu (Nat.not_lt_zero _)
    | succ n9 ih =>
      intro i hmu h2
      refine z_iload_n hF dX2_moveByInsertion_2 rfl ?_
      refine z_aload_n hF dX2_moveByInsertion_3 rfl ?_
      refine z_get (C := RX2) (T := TX2) (N := 4) (ci := 2) (v := .int (nI m)) hF k_0 3 (by decide) rfl k_1 rfl 0 rfl rfl dX2_moveByInsertion_4 ?_
      refine z_icn_ge (tgt := 98) hF (by omega) (by omega) dX2_moveByInsertion_7 (by decide) (fun c_1 => ?_) (fun c_1 => ?_)
      · exact hR.v dX2_moveByInsertion_98 (Nat.le_of_ble_eq_true rfl) (Nat.le_of_ble_eq_true rfl) (by rw [show i = m by omega])
      · refine z_aload_n hF dX2_moveByInsertion_10 rfl ?_
        refine z_iload_n hF dX2_moveByInsertion_11 rfl ?_
        refine z_V (As := [.int (nI i)]) (rest := []) (ws' := [(r0, .inr (2, [.ref r1, .ref r2, .ref r3, .int (nI m)])), (r1, eI G 12 (mpF i (insB p n b s) b)), (r2, eI G 12 (mpF i (insE p n b e s) e)), (r3, eI G 12 s)]) (st2 := [.int (zb ((mpF i (insB p n b s) b) i = -1))]) (c2 := 0) (s2 := 0) hF (c_X2_isGone G r0 r1 r2 r3 m i (mpF i (insB p n b s) b) (by first | assumption | omega)) gX2_moveByInsertion_X2_isGone rfl rfl rfl hd_X2_isGone ⟨⟨Nat.le_of_ble_eq_true rfl, Nat.le_of_ble_eq_true rfl⟩, ⟨Nat.le_of_ble_eq_true rfl, Nat.le_of_ble_eq_true rfl⟩, Nat.le_of_ble_eq_true rfl⟩ [0, 1] rfl rfl 0 rfl rfl rfl rfl rfl rfl rfl rfl rfl rfl dX2_moveByInsertion_12 ?_
        refine z_top (y := zb (b i = -1)) (by rw [mpF_at _ _ (Nat.le_refl i)]) ?_
        refine z_if_ne_b (tgt := 92) hF dX2_moveByInsertion_15 (by decide) (fun hc => ?_) (fun hc => ?_)
        · refine z_iinc (v := nI (i + 1)) (lv' := [some (.ref r0), some (.int p), some (.int n), some (.int (nI (i + 1))), none, none]) hF dX2_moveByInsertion_92 rfl (nI_1 i) rfl rfl ?_
          refine z_goto (tgt := 2) hF dX2_moveByInsertion_95 (by decide) ?_
          refine z_ws (ws' := [(r0, .inr (2, [.ref r1, .ref r2, .ref r3, .int (nI m)])), (r1, eI G 12 (mpF (i + 1) (insB p n b s) b)), (r2, eI G 12 (mpF i (insE p n b e s) e)), (r3, eI G 12 s)]) (by rw [mpF_skip (insB p n b s) b (by simp [insB, hc])]) ?_
          refine z_ws (ws' := [(r0, .inr (2, [.ref r1, .ref r2, .ref r3, .int (nI m)])), (r1, eI G 12 (mpF (i + 1) (insB p n b s) b)), (r2, eI G 12 (mpF (i + 1) (insE p n b e s) e)), (r3, eI G 12 s)]) (by rw [mpF_skip (insE p n b e s) e (by simp [insE, hc])]) ?_
          exact ih (i + 1) (by omega) (by omega)
        · have J_34 : zJ G X 34 [(r0, .inr (2, [.ref r1, .ref r2, .ref r3, .int (nI m)])), (r1, eI G 12 (mpF i (insB p n b s) b)), (r2, eI G 12 (mpF i (insE p n b e s) e)), (r3, eI G 12 s)] [some (.ref r0), some (.int p), some (.int n), some (.int (nI i)), none, none] [.int (zb (¬ s i &&& nI 1 = 0))] 0 0 := by
            refine z_istore (lv' := [some (.ref r0), some (.int p), some (.int n), some (.int (nI i)), some (.int (zb (¬ s i &&& nI 1 = 0))), none]) hF dX2_moveByInsertion_34 rfl rfl ?_
            have J_52 : zJ G X 52 [(r0, .inr (2, [.ref r1, .ref r2, .ref r3, .int (nI m)])), (r1, eI G 12 (mpF i (insB p n b s) b)), (r2, eI G 12 (mpF i (insE p n b e s) e)), (r3, eI G 12 s)] [some (.ref r0), some (.int p), some (.int n), some (.int (nI i)), some (.int (zb (¬ s i &&& nI 1 = 0))), none] [.int (zb (s i &&& nI 2 = 0))] 0 0 := by
              refine z_istore (lv' := [some (.ref r0), some (.int p), some (.int n), some (.int (nI i)), some (.int (zb (¬ s i &&& nI 1 = 0))), some (.int (zb (s i &&& nI 2 = 0)))]) hF dX2_moveByInsertion_52 rfl rfl ?_
              refine z_aload_n hF dX2_moveByInsertion_54 rfl ?_
              refine z_get (C := RX2) (T := TX2) (N := 4) (ci := 2) (v := .ref r1) hF k_0 0 (by decide) rfl k_2 rfl 0 rfl rfl dX2_moveByInsertion_55 ?_
              refine z_iload_n hF dX2_moveByInsertion_58 rfl ?_
              refine z_aload_n hF dX2_moveByInsertion_59 rfl ?_
              refine z_get (C := RX2) (T := TX2) (N := 4) (ci := 2) (v := .ref r1) hF k_0 0 (by decide) rfl k_2 rfl 0 rfl rfl dX2_moveByInsertion_60 ?_
              refine z_iload_n hF dX2_moveByInsertion_63 rfl ?_
              refine z_iald (k := i) hF 1 rfl (rfl) (by omega) rfl dX2_moveByInsertion_64 ?_
              refine z_top (y := b i) (mpF_at _ _ (Nat.le_refl i)) ?_
              refine z_iload_n hF dX2_moveByInsertion_65 rfl ?_
              refine z_iload_n hF dX2_moveByInsertion_66 rfl ?_
              refine z_iload hF dX2_moveByInsertion_67 rfl ?_
              refine z_S (As := [.int (b i), .int p, .int n, .int (zb (¬ s i &&& nI 1 = 0))]) (rest := [.int (nI i), .ref r1]) (ws' := [(r0, .inr (2, [.ref r1, .ref r2, .ref r3, .int (nI m)])), (r1, eI G 12 (mpF i (insB p n b s) b)), (r2, eI G 12 (mpF i (insE p n b e s) e)), (r3, eI G 12 s)]) (st2 := [.int (bInsF (b i) p n (zb (¬ s i &&& nI 1 = 0))), .int (nI i), .ref r1]) (c2 := 0) (s2 := 0) hF (c_X2_behindInsertion G (b i) p n (zb (¬ s i &&& nI 1 = 0))) gX2_moveByInsertion_X2_behindInsertion rfl rfl rfl hs_X2_behindInsertion ⟨⟨Nat.le_of_ble_eq_true rfl, Nat.le_of_ble_eq_true rfl⟩, ⟨Nat.le_of_ble_eq_true rfl, Nat.le_of_ble_eq_true rfl⟩, Nat.le_of_ble_eq_true rfl⟩ [] rfl rfl rfl rfl rfl rfl rfl rfl rfl rfl dX2_moveByInsertion_69 ?_
              refine z_iast (k := i) (ws' := [(r0, .inr (2, [.ref r1, .ref r2, .ref r3, .int (nI m)])), (r1, eI G 12 (upd (mpF i (insB p n b s) b) i (bInsF (b i) p n (zb (¬ s i &&& nI 1 = 0))))), (r2, eI G 12 (mpF i (insE p n b e s) e)), (r3, eI G 12 s)]) hF 1 rfl (rfl) (by omega) rfl rfl dX2_moveByInsertion_72 ?_
              refine z_ws (ws' := [(r0, .inr (2, [.ref r1, .ref r2, .ref r3, .int (nI m)])), (r1, eI G 12 (mpF (i + 1) (insB p n b s) b)), (r2, eI G 12 (mpF i (insE p n b e s) e)), (r3, eI G 12 s)]) (by rw [← mpF_up]; simp [insB, hc]) ?_
              refine z_aload_n hF dX2_moveByInsertion_73 rfl ?_
              refine z_get (C := RX2) (T := TX2) (N := 4) (ci := 2) (v := .ref r2) hF k_0 1 (by decide) rfl k_3 rfl 0 rfl rfl dX2_moveByInsertion_74 ?_
              refine z_iload_n hF dX2_moveByInsertion_77 rfl ?_
              refine z_aload_n hF dX2_moveByInsertion_78 rfl ?_
              refine z_get (C := RX2) (T := TX2) (N := 4) (ci := 2) (v := .ref r2) hF k_0 1 (by decide) rfl k_3 rfl 0 rfl rfl dX2_moveByInsertion_79 ?_
              refine z_iload_n hF dX2_moveByInsertion_82 rfl ?_
              refine z_iald (k := i) hF 2 rfl (rfl) (by omega) rfl dX2_moveByInsertion_83 ?_
              refine z_top (y := e i) (mpF_at _ _ (Nat.le_refl i)) ?_
              refine z_iload_n hF dX2_moveByInsertion_84 rfl ?_
              refine z_iload_n hF dX2_moveByInsertion_85 rfl ?_
              refine z_iload hF dX2_moveByInsertion_86 rfl ?_
              refine z_S (As := [.int (e i), .int p, .int n, .int (zb (s i &&& nI 2 = 0))]) (rest := [.int (nI i), .ref r2]) (ws' := [(r0, .inr (2, [.ref r1, .ref r2, .ref r3, .int (nI m)])), (r1, eI G 12 (mpF (i + 1) (insB p n b s) b)), (r2, eI G 12 (mpF i (insE p n b e s) e)), (r3, eI G 12 s)]) (st2 := [.int (bInsF (e i) p n (zb (s i &&& nI 2 = 0))), .int (nI i), .ref r2]) (c2 := 0) (s2 := 0) hF (c_X2_behindInsertion G (e i) p n (zb (s i &&& nI 2 = 0))) gX2_moveByInsertion_X2_behindInsertion rfl rfl rfl hs_X2_behindInsertion ⟨⟨Nat.le_of_ble_eq_true rfl, Nat.le_of_ble_eq_true rfl⟩, ⟨Nat.le_of_ble_eq_true rfl, Nat.le_of_ble_eq_true rfl⟩, Nat.le_of_ble_eq_true rfl⟩ [] rfl rfl rfl rfl rfl rfl rfl rfl rfl rfl dX2_moveByInsertion_88 ?_
              refine z_iast (k := i) (ws' := [(r0, .inr (2, [.ref r1, .ref r2, .ref r3, .int (nI m)])), (r1, eI G 12 (mpF (i + 1) (insB p n b s) b)), (r2, eI G 12 (upd (mpF i (insE p n b e s) e) i (bInsF (e i) p n (zb (s i &&& nI 2 = 0))))), (r3, eI G 12 s)]) hF 2 rfl (rfl) (by omega) rfl rfl dX2_moveByInsertion_91 ?_
              refine z_ws (ws' := [(r0, .inr (2, [.ref r1, .ref r2, .ref r3, .int (nI m)])), (r1, eI G 12 (mpF (i + 1) (insB p n b s) b)), (r2, eI G 12 (mpF (i + 1) (insE p n b e s) e)), (r3, eI G 12 s)]) (by rw [← mpF_up (insE p n b e s)]; simp [insE, hc]) ?_
              refine z_iinc (v := nI (i + 1)) (lv' := [some (.ref r0), some (.int p), some (.int n), some (.int (nI (i + 1))), some (.int (zb (¬ s i &&& nI 1 = 0))), some (.int (zb (s i &&& nI 2 = 0)))]) hF dX2_moveByInsertion_92 rfl (nI_1 i) rfl rfl ?_
              refine z_goto (tgt := 2) hF dX2_moveByInsertion_95 (by decide) ?_
              refine z_forget (lv' := [some (.ref r0), some (.int p), some (.int n), some (.int (nI (i + 1))), none, none]) ⟨rfl, ⟨rfl, ⟨rfl, ⟨rfl, trivial⟩⟩⟩⟩ ?_
              exact ih (i + 1) (by omega) (by omega)
            refine z_aload_n hF dX2_moveByInsertion_36 rfl ?_
            refine z_get (C := RX2) (T := TX2) (N := 4) (ci := 2) (v := .ref r3) hF k_0 2 (by decide) rfl k_4 rfl 0 rfl rfl dX2_moveByInsertion_37 ?_
            refine z_iload_n hF dX2_moveByInsertion_40 rfl ?_
            refine z_iald (k := i) hF 3 rfl (rfl) (by omega) rfl dX2_moveByInsertion_41 ?_
            refine z_iconst (v := nI 2) hF dX2_moveByInsertion_42 (by decide) ?_
            refine z_iand hF dX2_moveByInsertion_43 ?_
            refine z_if_ne (tgt := 51) hF dX2_moveByInsertion_44 (by decide) (fun c_2 => ?_) (fun c_2 => ?_)
            · refine z_iconst (v := nI 0) hF dX2_moveByInsertion_51 (by decide) ?_
              refine z_top (y := zb (s i &&& nI 2 = 0)) (zb0 (by first | assumption | grind)) ?_
              exact J_52  
            · refine z_iconst (v := nI 1) hF dX2_moveByInsertion_47 (by decide) ?_
              refine z_goto (tgt := 52) hF dX2_moveByInsertion_48 (by decide) ?_
              refine z_top (y := zb (s i &&& nI 2 = 0)) (zb1 (by first | assumption | grind)) ?_
              exact J_52  
          refine z_aload_n hF dX2_moveByInsertion_18 rfl ?_
          refine z_get (C := RX2) (T := TX2) (N := 4) (ci := 2) (v := .ref r3) hF k_0 2 (by decide) rfl k_4 rfl 0 rfl rfl dX2_moveByInsertion_19 ?_
          refine z_iload_n hF dX2_moveByInsertion_22 rfl ?_
          refine z_iald (k := i) hF 3 rfl (rfl) (by omega) rfl dX2_moveByInsertion_23 ?_
          refine z_iconst (v := nI 1) hF dX2_moveByInsertion_24 (by decide) ?_
          refine z_iand hF dX2_moveByInsertion_25 ?_
          refine z_if_eq (tgt := 33) hF dX2_moveByInsertion_26 (by decide) (fun c_3 => ?_) (fun c_3 => ?_)
          · refine z_iconst (v := nI 0) hF dX2_moveByInsertion_33 (by decide) ?_
            refine z_top (y := zb (¬ s i &&& nI 1 = 0)) (zb0 (by first | assumption | grind)) ?_
            exact J_34  
          · refine z_iconst (v := nI 1) hF dX2_moveByInsertion_29 (by decide) ?_
            refine z_goto (tgt := 34) hF dX2_moveByInsertion_30 (by decide) ?_
            refine z_top (y := zb (¬ s i &&& nI 1 = 0)) (zb1 (by first | assumption | grind)) ?_
            exact J_34  
  exact J_2 ((m - 0) + 1) 0 (Nat.lt_succ_self _) (by omega)
set_option maxHeartbeats 4000000 in
set_option maxRecDepth 100000 in
theorem c_X2_moveByRemoval (G : zG) (r0 r1 r2 r3 m : Nat) (p n : Int32) (b e : Nat → Int32) (hm : m ≤ 12) : zM G yX2_moveByRemoval wsX2_moveByRemoval ({ frames := 2, cells := 0, slots := 0, locals := 42 }) [.ref r0, .int p, .int n] [(r0, .inr (2, [.ref r1, .ref r2, .ref r3, .int (nI m)])), (r1, eI G 12 b), (r2, eI G 12 e)] [(r0, .inr (2, [.ref r1, .ref r2, .ref r3, .int (nI m)])), (r1, eI G 12 (mpF m (remB p n b e) b)), (r2, eI G 12 (mpF m (remE p n b e) e))] (some (.int (cov (fun kk => ¬ b kk = -1 ∧ behF (b kk) p n = behF (e kk) p n) m))) 0 0 := by
  refine zM.ofI (own := RX2) (cc := cX2_moveByRemoval) (maxL := 5) rfl (by decide) rfl rfl (by simp [Value.category]) (Nat.le_of_ble_eq_true rfl) ?_
  intro X hF hR
  have k_0 : ∀ w ∈ wsX20, w ∈ wsX2_moveByRemoval := by decide +kernel
  have k_1 : zH X (.fieldLink RX2 21 "MarginDesk$Ranges" "count" "I") := hF.w (by decide +kernel)
  have k_2 : zH X (.fieldLink RX2 9 "MarginDesk$Ranges" "begins" "[I") := hF.w (by decide +kernel)
  have k_3 : zH X (.fieldLink RX2 15 "MarginDesk$Ranges" "ends" "[I") := hF.w (by decide +kernel)
  have k_4 : zH X (.initialized RX4) := hF.w (by decide +kernel)
  have k_5 : zH X (.static yX4_bit) := hF.w (by decide +kernel)
  refine z_lv (lv' := [some (.ref r0), some (.int p), some (.int n), none, none]) rfl ?_
  refine z_iconst (v := nI 0) hF dX2_moveByRemoval_0 (by decide) ?_
  refine z_istore_n (lv' := [some (.ref r0), some (.int p), some (.int n), some (.int (nI 0)), none]) hF dX2_moveByRemoval_1 rfl rfl ?_
  refine z_iconst (v := nI 0) hF dX2_moveByRemoval_2 (by decide) ?_
  refine z_istore (lv' := [some (.ref r0), some (.int p), some (.int n), some (.int (nI 0)), some (.int (nI 0))]) hF dX2_moveByRemoval_3 rfl rfl ?_
  refine z_ws (ws' := [(r0, .inr (2, [.ref r1, .ref r2, .ref r3, .int (nI m)])), (r1, eI G 12 (mpF 0 (remB p n b e) b)), (r2, eI G 12 e)]) (by simp only [mpF_0]) ?_
  refine z_ws (ws' := [(r0, .inr (2, [.ref r1, .ref r2, .ref r3, .int (nI m)])), (r1, eI G 12 (mpF 0 (remB p n b e) b)), (r2, eI G 12 (mpF 0 (remE p n b e) e))]) (by simp only [mpF_0]) ?_
  refine z_lv (lv' := [some (.ref r0), some (.int p), some (.int n), some (.int (cov (fun kk => ¬ b kk = -1 ∧ behF (b kk) p n = behF (e kk) p n) 0)), some (.int (nI 0))]) (by rfl) ?_
  have J_5 : ∀ (n9 : Nat) (i : Nat), m - i < n9 → (i ≤ m) → zJ G X 5 [(r0, .inr (2, [.ref r1, .ref r2, .ref r3, .int (nI m)])), (r1, eI G 12 (mpF i (remB p n b e) b)), (r2, eI G 12 (mpF i (remE p n b e) e))] [some (.ref r0), some (.int p), some (.int n), some (.int (cov (fun kk => ¬ b kk = -1 ∧ behF (b kk) p n = behF (e kk) p n) i)), some (.int (nI i))] [] 0 0 := by
    intro n9
    induction n9 with
    | zero => intro i hmu; exact absurd hmu (Nat.not_lt_zero _)
    | succ n9 ih =>
      intro i hmu h2
      refine z_iload hF dX2_moveByRemoval_5 rfl ?_
      refine z_aload_n hF dX2_moveByRemoval_7 rfl ?_
      refine z_get (C := RX2) (T := TX2) (N := 4) (ci := 2) (v := .int (nI m)) hF k_0 3 (by decide) rfl k_1 rfl 0 rfl rfl dX2_moveByRemoval_8 ?_
      refine z_icn_ge (tgt := 108) hF (by omega) (by omega) dX2_moveByRemoval_11 (by decide) (fun c_1 => ?_) (fun c_1 => ?_)
      · refine z_iload_n hF dX2_moveByRemoval_108 rfl ?_
        exact hR.i dX2_moveByRemoval_109 (Nat.le_of_ble_eq_true rfl) (Nat.le_of_ble_eq_true rfl) (by rw [show i = m by omega]) (by rw [show i = m by omega])
      · refine z_aload_n hF dX2_moveByRemoval_14 rfl ?_
        refine z_iload hF dX2_moveByRemoval_15 rfl ?_
        refine z_V (As := [.int (nI i)]) (rest := []) (ws' := [(r0, .inr (2, [.ref r1, .ref r2, .ref r3, .int (nI m)])), (r1, eI G 12 (mpF i (remB p n b e) b)), (r2, eI G 12 (mpF i (remE p n b e) e))]) (st2 := [.int (zb ((mpF i (remB p n b e) b) i = -1))]) (c2 := 0) (s2 := 0) hF (c_X2_isGone G r0 r1 r2 r3 m i (mpF i (remB p n b e) b) (by first | assumption | omega)) gX2_moveByRemoval_X2_isGone rfl rfl rfl hd_X2_isGone ⟨⟨Nat.le_of_ble_eq_true rfl, Nat.le_of_ble_eq_true rfl⟩, ⟨Nat.le_of_ble_eq_true rfl, Nat.le_of_ble_eq_true rfl⟩, Nat.le_of_ble_eq_true rfl⟩ [0, 1] rfl rfl 0 rfl rfl rfl rfl rfl rfl rfl rfl rfl rfl dX2_moveByRemoval_17 ?_
        refine z_top (y := zb (b i = -1)) (by rw [mpF_at _ _ (Nat.le_refl i)]) ?_
        refine z_if_ne_b (tgt := 102) hF dX2_moveByRemoval_20 (by decide) (fun hc => ?_) (fun hc => ?_)
        · refine z_iinc (v := nI (i + 1)) (lv' := [some (.ref r0), some (.int p), some (.int n), some (.int (cov (fun kk => ¬ b kk = -1 ∧ behF (b kk) p n = behF (e kk) p n) i)), some (.int (nI (i + 1)))]) hF dX2_moveByRemoval_102 rfl (nI_1 i) rfl rfl ?_
          refine z_goto (tgt := 5) hF dX2_moveByRemoval_105 (by decide) ?_
          refine z_ws (ws' := [(r0, .inr (2, [.ref r1, .ref r2, .ref r3, .int (nI m)])), (r1, eI G 12 (mpF (i + 1) (remB p n b e) b)), (r2, eI G 12 (mpF i (remE p n b e) e))]) (by rw [mpF_skip (remB p n b e) b (by simp [remB, hc])]) ?_
          refine z_ws (ws' := [(r0, .inr (2, [.ref r1, .ref r2, .ref r3, .int (nI m)])), (r1, eI G 12 (mpF (i + 1) (remB p n b e) b)), (r2, eI G 12 (mpF (i + 1) (remE p n b e) e))]) (by rw [mpF_skip (remE p n b e) e (by simp [remE, hc])]) ?_
          refine z_lv (lv' := [some (.ref r0), some (.int p), some (.int n), some (.int (cov (fun kk => ¬ b kk = -1 ∧ behF (b kk) p n = behF (e kk) p n) (i + 1))), some (.int (nI (i + 1)))]) (by rw [cov_f (k := i) (by grind)]) ?_
          exact ih (i + 1) (by omega) (by omega)
        · refine z_aload_n hF dX2_moveByRemoval_23 rfl ?_
          refine z_get (C := RX2) (T := TX2) (N := 4) (ci := 2) (v := .ref r1) hF k_0 0 (by decide) rfl k_2 rfl 0 rfl rfl dX2_moveByRemoval_24 ?_
          refine z_iload hF dX2_moveByRemoval_27 rfl ?_
          refine z_aload_n hF dX2_moveByRemoval_29 rfl ?_
          refine z_get (C := RX2) (T := TX2) (N := 4) (ci := 2) (v := .ref r1) hF k_0 0 (by decide) rfl k_2 rfl 0 rfl rfl dX2_moveByRemoval_30 ?_
          refine z_iload hF dX2_moveByRemoval_33 rfl ?_
          refine z_iald (k := i) hF 1 rfl (rfl) (by omega) rfl dX2_moveByRemoval_35 ?_
          refine z_top (y := b i) (mpF_at _ _ (Nat.le_refl i)) ?_
          refine z_iload_n hF dX2_moveByRemoval_36 rfl ?_
          refine z_iload_n hF dX2_moveByRemoval_37 rfl ?_
          refine z_S (As := [.int (b i), .int p, .int n]) (rest := [.int (nI i), .ref r1]) (ws' := [(r0, .inr (2, [.ref r1, .ref r2, .ref r3, .int (nI m)])), (r1, eI G 12 (mpF i (remB p n b e) b)), (r2, eI G 12 (mpF i (remE p n b e) e))]) (st2 := [.int (behF (b i) p n), .int (nI i), .ref r1]) (c2 := 0) (s2 := 0) hF (c_X2_behindRemoval G (b i) p n) gX2_moveByRemoval_X2_behindRemoval rfl rfl rfl hs_X2_behindRemoval ⟨⟨Nat.le_of_ble_eq_true rfl, Nat.le_of_ble_eq_true rfl⟩, ⟨Nat.le_of_ble_eq_true rfl, Nat.le_of_ble_eq_true rfl⟩, Nat.le_of_ble_eq_true rfl⟩ [] rfl rfl rfl rfl rfl rfl rfl rfl rfl rfl dX2_moveByRemoval_38 ?_
          refine z_iast (k := i) (ws' := [(r0, .inr (2, [.ref r1, .ref r2, .ref r3, .int (nI m)])), (r1, eI G 12 (upd (mpF i (remB p n b e) b) i (behF (b i) p n))), (r2, eI G 12 (mpF i (remE p n b e) e))]) hF 1 rfl (rfl) (by omega) rfl rfl dX2_moveByRemoval_41 ?_
          refine z_aload_n hF dX2_moveByRemoval_42 rfl ?_
          refine z_get (C := RX2) (T := TX2) (N := 4) (ci := 2) (v := .ref r2) hF k_0 1 (by decide) rfl k_3 rfl 0 rfl rfl dX2_moveByRemoval_43 ?_
          refine z_iload hF dX2_moveByRemoval_46 rfl ?_
          refine z_aload_n hF dX2_moveByRemoval_48 rfl ?_
          refine z_get (C := RX2) (T := TX2) (N := 4) (ci := 2) (v := .ref r2) hF k_0 1 (by decide) rfl k_3 rfl 0 rfl rfl dX2_moveByRemoval_49 ?_
          refine z_iload hF dX2_moveByRemoval_52 rfl ?_
          refine z_iald (k := i) hF 2 rfl (rfl) (by omega) rfl dX2_moveByRemoval_54 ?_
          refine z_top (y := e i) (mpF_at _ _ (Nat.le_refl i)) ?_
          refine z_iload_n hF dX2_moveByRemoval_55 rfl ?_
          refine z_iload_n hF dX2_moveByRemoval_56 rfl ?_
          refine z_S (As := [.int (e i), .int p, .int n]) (rest := [.int (nI i), .ref r2]) (ws' := [(r0, .inr (2, [.ref r1, .ref r2, .ref r3, .int (nI m)])), (r1, eI G 12 (upd (mpF i (remB p n b e) b) i (behF (b i) p n))), (r2, eI G 12 (mpF i (remE p n b e) e))]) (st2 := [.int (behF (e i) p n), .int (nI i), .ref r2]) (c2 := 0) (s2 := 0) hF (c_X2_behindRemoval G (e i) p n) gX2_moveByRemoval_X2_behindRemoval rfl rfl rfl hs_X2_behindRemoval ⟨⟨Nat.le_of_ble_eq_true rfl, Nat.le_of_ble_eq_true rfl⟩, ⟨Nat.le_of_ble_eq_true rfl, Nat.le_of_ble_eq_true rfl⟩, Nat.le_of_ble_eq_true rfl⟩ [] rfl rfl rfl rfl rfl rfl rfl rfl rfl rfl dX2_moveByRemoval_57 ?_
          refine z_iast (k := i) (ws' := [(r0, .inr (2, [.ref r1, .ref r2, .ref r3, .int (nI m)])), (r1, eI G 12 (upd (mpF i (remB p n b e) b) i (behF (b i) p n))), (r2, eI G 12 (upd (mpF i (remE p n b e) e) i (behF (e i) p n)))]) hF 2 rfl (rfl) (by omega) rfl rfl dX2_moveByRemoval_60 ?_
          refine z_aload_n hF dX2_moveByRemoval_61 rfl ?_
          refine z_get (C := RX2) (T := TX2) (N := 4) (ci := 2) (v := .ref r1) hF k_0 0 (by decide) rfl k_2 rfl 0 rfl rfl dX2_moveByRemoval_62 ?_
          refine z_iload hF dX2_moveByRemoval_65 rfl ?_
          refine z_iald (k := i) hF 1 rfl (rfl) (by omega) rfl dX2_moveByRemoval_67 ?_
          refine z_top (y := behF (b i) p n) (pk_us) ?_
          refine z_aload_n hF dX2_moveByRemoval_68 rfl ?_
          refine z_get (C := RX2) (T := TX2) (N := 4) (ci := 2) (v := .ref r2) hF k_0 1 (by decide) rfl k_3 rfl 0 rfl rfl dX2_moveByRemoval_69 ?_
          refine z_iload hF dX2_moveByRemoval_72 rfl ?_
          refine z_iald (k := i) hF 2 rfl (rfl) (by omega) rfl dX2_moveByRemoval_74 ?_
          refine z_top (y := behF (e i) p n) (pk_us) ?_
          refine z_ic_ne (tgt := 102) hF dX2_moveByRemoval_75 (by decide) (fun hq => ?_) (fun hq => ?_)
          · refine z_iinc (v := nI (i + 1)) (lv' := [some (.ref r0), some (.int p), some (.int n), some (.int (cov (fun kk => ¬ b kk = -1 ∧ behF (b kk) p n = behF (e kk) p n) i)), some (.int (nI (i + 1)))]) hF dX2_moveByRemoval_102 rfl (nI_1 i) rfl rfl ?_
            refine z_goto (tgt := 5) hF dX2_moveByRemoval_105 (by decide) ?_
            refine z_ws (ws' := [(r0, .inr (2, [.ref r1, .ref r2, .ref r3, .int (nI m)])), (r1, eI G 12 (mpF (i + 1) (remB p n b e) b)), (r2, eI G 12 (upd (mpF i (remE p n b e) e) i (behF (e i) p n)))]) (by rw [← mpF_up (remB p n b e)]; simp [remB, hc, hq]) ?_
            refine z_ws (ws' := [(r0, .inr (2, [.ref r1, .ref r2, .ref r3, .int (nI m)])), (r1, eI G 12 (mpF (i + 1) (remB p n b e) b)), (r2, eI G 12 (mpF (i + 1) (remE p n b e) e))]) (by rw [← mpF_up (remE p n b e)]; simp [remE, hc, hq]) ?_
            refine z_lv (lv' := [some (.ref r0), some (.int p), some (.int n), some (.int (cov (fun kk => ¬ b kk = -1 ∧ behF (b kk) p n = behF (e kk) p n) (i + 1))), some (.int (nI (i + 1)))]) (by rw [cov_f (k := i) (by grind)]) ?_
            exact ih (i + 1) (by omega) (by omega)
          · refine z_aload_n hF dX2_moveByRemoval_78 rfl ?_
            refine z_get (C := RX2) (T := TX2) (N := 4) (ci := 2) (v := .ref r1) hF k_0 0 (by decide) rfl k_2 rfl 0 rfl rfl dX2_moveByRemoval_79 ?_
            refine z_iload hF dX2_moveByRemoval_82 rfl ?_
            refine z_iconst (v := -1) hF dX2_moveByRemoval_84 (by decide) ?_
            refine z_iast (k := i) (ws' := [(r0, .inr (2, [.ref r1, .ref r2, .ref r3, .int (nI m)])), (r1, eI G 12 (upd (upd (mpF i (remB p n b e) b) i (behF (b i) p n)) i (-1))), (r2, eI G 12 (upd (mpF i (remE p n b e) e) i (behF (e i) p n)))]) hF 1 rfl (rfl) (by omega) rfl rfl dX2_moveByRemoval_85 ?_
            refine z_ws (ws' := [(r0, .inr (2, [.ref r1, .ref r2, .ref r3, .int (nI m)])), (r1, eI G 12 (mpF (i + 1) (remB p n b e) b)), (r2, eI G 12 (upd (mpF i (remE p n b e) e) i (behF (e i) p n)))]) (by rw [upd_upd, ← mpF_up (remB p n b e)]; simp [remB, hc, hq]) ?_
            refine z_aload_n hF dX2_moveByRemoval_86 rfl ?_
            refine z_get (C := RX2) (T := TX2) (N := 4) (ci := 2) (v := .ref r2) hF k_0 1 (by decide) rfl k_3 rfl 0 rfl rfl dX2_moveByRemoval_87 ?_
            refine z_iload hF dX2_moveByRemoval_90 rfl ?_
            refine z_iconst (v := -1) hF dX2_moveByRemoval_92 (by decide) ?_
            refine z_iast (k := i) (ws' := [(r0, .inr (2, [.ref r1, .ref r2, .ref r3, .int (nI m)])), (r1, eI G 12 (mpF (i + 1) (remB p n b e) b)), (r2, eI G 12 (upd (upd (mpF i (remE p n b e) e) i (behF (e i) p n)) i (-1)))]) hF 2 rfl (rfl) (by omega) rfl rfl dX2_moveByRemoval_93 ?_
            refine z_ws (ws' := [(r0, .inr (2, [.ref r1, .ref r2, .ref r3, .int (nI m)])), (r1, eI G 12 (mpF (i + 1) (remB p n b e) b)), (r2, eI G 12 (mpF (i + 1) (remE p n b e) e))]) (by rw [upd_upd, ← mpF_up (remE p n b e)]; simp [remE, hc, hq]) ?_
            refine z_iload_n hF dX2_moveByRemoval_94 rfl ?_
            refine z_iload hF dX2_moveByRemoval_95 rfl ?_
            refine z_SN (As := [.int (nI i)]) (rest := [.int (cov (fun kk => ¬ b kk = -1 ∧ behF (b kk) p n = behF (e kk) p n) i)]) (ws' := [(r0, .inr (2, [.ref r1, .ref r2, .ref r3, .int (nI m)])), (r1, eI G 12 (mpF (i + 1) (remB p n b e) b)), (r2, eI G 12 (mpF (i + 1) (remE p n b e) e))]) (st2 := [.int (bitF (nI i)), .int (cov (fun kk => ¬ b kk = -1 ∧ behF (b kk) p n = behF (e kk) p n) i)]) (c2 := 0) (s2 := 0) hF (c_X4_bit G (nI i)) ggX2_moveByRemoval_X4_bit (List.mem_of_getElem? (i := 6) rfl) k_4 k_5 rfl rfl rfl hs_X4_bit ⟨⟨Nat.le_of_ble_eq_true rfl, Nat.le_of_ble_eq_true rfl⟩, ⟨Nat.le_of_ble_eq_true rfl, Nat.le_of_ble_eq_true rfl⟩, Nat.le_of_ble_eq_true rfl⟩ [] rfl rfl rfl rfl rfl rfl rfl rfl rfl rfl dX2_moveByRemoval_97 ?_
            refine z_ior hF dX2_moveByRemoval_100 ?_
            refine z_top (y := cov (fun kk => ¬ b kk = -1 ∧ behF (b kk) p n = behF (e kk) p n) (i + 1)) (cov_t (P := fun kk => ¬ b kk = -1 ∧ behF (b kk) p n = behF (e kk) p n) ⟨hc, hq⟩) ?_
            refine z_istore_n (lv' := [some (.ref r0), some (.int p), some (.int n), some (.int (cov (fun kk => ¬ b kk = -1 ∧ behF (b kk) p n = behF (e kk) p n) (i + 1))), some (.int (nI i))]) hF dX2_moveByRemoval_101 rfl rfl ?_
            refine z_iinc (v := nI (i + 1)) (lv' := [some (.ref r0), some (.int p), some (.int n), some (.int (cov (fun kk => ¬ b kk = -1 ∧ behF (b kk) p n = behF (e kk) p n) (i + 1))), some (.int (nI (i + 1)))]) hF dX2_moveByRemoval_102 rfl (nI_1 i) rfl rfl ?_
            refine z_goto (tgt := 5) hF dX2_moveByRemoval_105 (by decide) ?_
            exact ih (i + 1) (by omega) (by omega)
  exact J_5 ((m - 0) + 1) 0 (Nat.lt_succ_self _) (by omega)
end
section
set_option maxHeartbeats 4000000 in
set_option maxRecDepth 100000 in
theorem c_X0_rangeAt (G : zG) (y0 y1 : Nat) (v c : Nat) (h : Nat → Int32) (hv : v < 300) (hc : c < 12) : zM G yX0_rangeAt wsX0_rangeAt ({ frames := 0, cells := 0, slots := 0, locals := 12 }) [.ref y0, .int (nI v), .int (nI c)] [(y0, .inr (0, [.ref y1])), (y1, eI G 3600 h)] [(y0, .inr (0, [.ref y1])), (y1, eI G 3600 h)] (some (.int (h (v * 12 + c)))) 0 0 := by
  refine zM.ofI (own := RX0) (cc := cX0_rangeAt) (maxL := 3) rfl (by decide) rfl rfl (by simp [Value.category]) (Nat.le_of_ble_eq_true rfl) ?_
  intro X hF hR
  have k_0 : ∀ w ∈ wsX00, w ∈ wsX0_rangeAt := by decide +kernel
  have k_1 : zH X (.fieldLink RX0 9 "MarginDesk$History" "ranges" "[I") := hF.w (by decide +kernel)
  refine z_lv (lv' := [some (.ref y0), some (.int (nI v)), some (.int (nI c))]) rfl ?_
  refine z_aload_n hF dX0_rangeAt_0 rfl ?_
  refine z_get (C := RX0) (T := TX0) (N := 1) (ci := 0) (v := .ref y1) hF k_0 0 (by decide) rfl k_1 rfl 0 rfl rfl dX0_rangeAt_1 ?_
  refine z_iload_n hF dX0_rangeAt_4 rfl ?_
  refine z_bipush (v := nI 12) hF dX0_rangeAt_5 (by decide) ?_
  refine z_imul hF dX0_rangeAt_7 ?_
  refine z_top (pk_mul v 12) ?_
  refine z_iload_n hF dX0_rangeAt_8 rfl ?_
  refine z_iadd hF dX0_rangeAt_9 ?_
  refine z_top (nI_add (v * 12) c) ?_
  refine z_iald (k := v * 12 + c) hF 1 rfl (rfl) (by omega) rfl dX0_rangeAt_10 ?_
  exact hR.i dX0_rangeAt_11 (Nat.le_of_ble_eq_true rfl) (Nat.le_of_ble_eq_true rfl) (rfl) (rfl)
set_option maxHeartbeats 4000000 in
set_option maxRecDepth 100000 in
theorem c_X0_write (G : zG) (y0 y1 : Nat) (r0 r1 r2 r3 m : Nat) (v : Nat) (h b e : Nat → Int32) (hv : v < 300) (hm : m ≤ 12) : zM G yX0_write wsX0_write ({ frames := 2, cells := 0, slots := 0, locals := 54 }) [.ref y0, .int (nI v), .ref r0] [(y0, .inr (0, [.ref y1])), (y1, eI G 3600 h), (r0, .inr (2, [.ref r1, .ref r2, .ref r3, .int (nI m)])), (r1, eI G 12 b), (r2, eI G 12 e)] [(y0, .inr (0, [.ref y1])), (y1, eI G 3600 (wrF h (v * 12) 12 (fun kk => if kk < m then numF (b kk) (e kk) else -1))), (r0, .inr (2, [.ref r1, .ref r2, .ref r3, .int (nI m)])), (r1, eI G 12 b), (r2, eI G 12 e)] none 0 0 := by
  refine zM.ofV (own := RX0) (cc := cX0_write) (maxL := 5) rfl (by decide) rfl (by simp [Value.category]) (Nat.le_of_ble_eq_true rfl) ?_
  intro X hF hR
  have k_0 : ∀ w ∈ wsX00, w ∈ wsX0_write := by decide +kernel
  have k_1 : zH X (.fieldLink RX0 9 "MarginDesk$History" "ranges" "[I") := hF.w (by decide +kernel)
  have k_2 : zH X (.initialized RX2) := hF.w (by decide +kernel)
  have k_3 : zH X (.instanceMethod yX2_asNumber) := hF.w (by decide +kernel)
  have k_4 : zH X (.selects RX2 yX2_asNumber yX2_asNumber) := hF.w (by decide +kernel)
  have k_5 : ∀ w ∈ wsX20, w ∈ wsX0_write := by decide +kernel
  have k_6 : zH X (.fieldLinkNest RX0 15 "MarginDesk$Ranges" "count" "I" RX4) := hF.nf (List.mem_of_getElem? (i := 4) rfl)
  refine z_lv (lv' := [some (.ref y0), some (.int (nI v)), some (.ref r0), none, none]) rfl ?_
  refine z_iconst (v := nI 0) hF dX0_write_0 (by decide) ?_
  refine z_istore_n (lv' := [some (.ref y0), some (.int (nI v)), some (.ref r0), some (.int (nI 0)), none]) hF dX0_write_1 rfl rfl ?_
  refine z_ws (ws' := [(y0, .inr (0, [.ref y1])), (y1, eI G 3600 (wrF h (v * 12) 0 (fun kk => if kk < m then numF (b kk) (e kk) else -1))), (r0, .inr (2, [.ref r1, .ref r2, .ref r3, .int (nI m)])), (r1, eI G 12 b), (r2, eI G 12 e)]) (by rw [wrF_0]) ?_
  have J_2 : ∀ (n9 : Nat) (i : Nat), 12 - i < n9 → (i ≤ 12) → zJ G X 2 [(y0, .inr (0, [.ref y1])), (y1, eI G 3600 (wrF h (v * 12) i (fun kk => if kk < m then numF (b kk) (e kk) else -1))), (r0, .inr (2, [.ref r1, .ref r2, .ref r3, .int (nI m)])), (r1, eI G 12 b), (r2, eI G 12 e)] [some (.ref y0), some (.int (nI v)), some (.ref r0), some (.int (nI i)), none] [] 0 0 := by
    intro n9
    induction n9 with
    | zero => intro i hmu; exact absurd hmu (Nat.not_lt_zero _)
    | succ n9 ih =>
      intro i hmu h2
      refine z_iload_n hF dX0_write_2 rfl ?_
      refine z_bipush (v := nI 12) hF dX0_write_3 (by decide) ?_
      refine z_icn_ge (tgt := 54) hF (by omega) (by omega) dX0_write_5 (by decide) (fun c_1 => ?_) (fun c_1 => ?_)
      · exact hR.v dX0_write_54 (Nat.le_of_ble_eq_true rfl) (Nat.le_of_ble_eq_true rfl) (by rw [show i = 12 by omega])
      · have J_21 : zJ G X 21 [(y0, .inr (0, [.ref y1])), (y1, eI G 3600 (wrF h (v * 12) i (fun kk => if kk < m then numF (b kk) (e kk) else -1))), (r0, .inr (2, [.ref r1, .ref r2, .ref r3, .int (nI m)])), (r1, eI G 12 b), (r2, eI G 12 e)] [some (.ref y0), some (.int (nI v)), some (.ref r0), some (.int (nI i)), none] [.int (zb (i < m))] 0 0 := by
          refine z_istore (lv' := [some (.ref y0), some (.int (nI v)), some (.ref r0), some (.int (nI i)), some (.int (zb (i < m)))]) hF dX0_write_21 rfl rfl ?_
          refine z_aload_n hF dX0_write_23 rfl ?_
          refine z_get (C := RX0) (T := TX0) (N := 1) (ci := 0) (v := .ref y1) hF k_0 0 (by decide) rfl k_1 rfl 0 rfl rfl dX0_write_24 ?_
          refine z_iload_n hF dX0_write_27 rfl ?_
          refine z_bipush (v := nI 12) hF dX0_write_28 (by decide) ?_
          refine z_imul hF dX0_write_30 ?_
          refine z_top (pk_mul v 12) ?_
          refine z_iload_n hF dX0_write_31 rfl ?_
          refine z_iadd hF dX0_write_32 ?_
          refine z_top (nI_add (v * 12) i) ?_
          refine z_iload hF dX0_write_33 rfl ?_
          refine z_if_eq_b (tgt := 46) hF dX0_write_35 (by decide) (fun hc => ?_) (fun hc => ?_)
          · refine z_iconst (v := -1) hF dX0_write_46 (by decide) ?_
            refine z_iast (k := v * 12 + i) (ws' := [(y0, .inr (0, [.ref y1])), (y1, eI G 3600 (upd (wrF h (v * 12) i (fun kk => if kk < m then numF (b kk) (e kk) else -1)) (v * 12 + i) (-1))), (r0, .inr (2, [.ref r1, .ref r2, .ref r3, .int (nI m)])), (r1, eI G 12 b), (r2, eI G 12 e)]) hF 1 rfl (rfl) (by omega) rfl rfl dX0_write_47 ?_
            refine z_ws (ws' := [(y0, .inr (0, [.ref y1])), (y1, eI G 3600 (wrF h (v * 12) (i + 1) (fun kk => if kk < m then numF (b kk) (e kk) else -1))), (r0, .inr (2, [.ref r1, .ref r2, .ref r3, .int (nI m)])), (r1, eI G 12 b), (r2, eI G 12 e)]) (by rw [← wrF_up]; simp [hc]) ?_
            refine z_iinc (v := nI (i + 1)) (lv' := [some (.ref y0), some (.int (nI v)), some (.ref r0), some (.int (nI (i + 1))), some (.int (zb (i < m)))]) hF dX0_write_48 rfl (nI_1 i) rfl rfl ?_
            refine z_goto (tgt := 2) hF dX0_write_51 (by decide) ?_
            refine z_forget (lv' := [some (.ref y0), some (.int (nI v)), some (.ref r0), some (.int (nI (i + 1))), none]) ⟨rfl, ⟨rfl, ⟨rfl, ⟨rfl, trivial⟩⟩⟩⟩ ?_
            exact ih (i + 1) (by omega) (by omega)
          · refine z_aload_n hF dX0_write_38 rfl ?_
            refine z_iload_n hF dX0_write_39 rfl ?_
            refine z_VN (As := [.int (nI i)]) (rest := [.int (nI (v * 12 + i)), .ref y1]) (ws' := [(y0, .inr (0, [.ref y1])), (y1, eI G 3600 (wrF h (v * 12) i (fun kk => if kk < m then numF (b kk) (e kk) else -1))), (r0, .inr (2, [.ref r1, .ref r2, .ref r3, .int (nI m)])), (r1, eI G 12 b), (r2, eI G 12 e)]) (st2 := [.int (numF (b i) (e i)), .int (nI (v * 12 + i)), .ref y1]) (c2 := 0) (s2 := 0) hF (c_X2_asNumber G r0 r1 r2 r3 m i b e (by first | assumption | omega)) ggX0_write_X2_asNumber (List.mem_of_getElem? (i := 8) rfl) k_2 k_3 k_4 rfl rfl rfl hs_X2_asNumber ⟨⟨Nat.le_of_ble_eq_true rfl, Nat.le_of_ble_eq_true rfl⟩, ⟨Nat.le_of_ble_eq_true rfl, Nat.le_of_ble_eq_true rfl⟩, Nat.le_of_ble_eq_true rfl⟩ [2, 3, 4] rfl rfl 0 rfl rfl rfl rfl rfl rfl rfl rfl rfl rfl dX0_write_40 ?_
            refine z_goto (tgt := 47) hF dX0_write_43 (by decide) ?_
            refine z_iast (k := v * 12 + i) (ws' := [(y0, .inr (0, [.ref y1])), (y1, eI G 3600 (upd (wrF h (v * 12) i (fun kk => if kk < m then numF (b kk) (e kk) else -1)) (v * 12 + i) (numF (b i) (e i)))), (r0, .inr (2, [.ref r1, .ref r2, .ref r3, .int (nI m)])), (r1, eI G 12 b), (r2, eI G 12 e)]) hF 1 rfl (rfl) (by omega) rfl rfl dX0_write_47 ?_
            refine z_ws (ws' := [(y0, .inr (0, [.ref y1])), (y1, eI G 3600 (wrF h (v * 12) (i + 1) (fun kk => if kk < m then numF (b kk) (e kk) else -1))), (r0, .inr (2, [.ref r1, .ref r2, .ref r3, .int (nI m)])), (r1, eI G 12 b), (r2, eI G 12 e)]) (by rw [← wrF_up]; simp [hc]) ?_
            refine z_iinc (v := nI (i + 1)) (lv' := [some (.ref y0), some (.int (nI v)), some (.ref r0), some (.int (nI (i + 1))), some (.int (zb (i < m)))]) hF dX0_write_48 rfl (nI_1 i) rfl rfl ?_
            refine z_goto (tgt := 2) hF dX0_write_51 (by decide) ?_
            refine z_forget (lv' := [some (.ref y0), some (.int (nI v)), some (.ref r0), some (.int (nI (i + 1))), none]) ⟨rfl, ⟨rfl, ⟨rfl, ⟨rfl, trivial⟩⟩⟩⟩ ?_
            exact ih (i + 1) (by omega) (by omega)
        refine z_iload_n hF dX0_write_8 rfl ?_
        refine z_aload_n hF dX0_write_9 rfl ?_
        refine z_getN (C := RX2) (T := TX2) (N := 4) (ci := 2) (v := .int (nI m)) hF k_5 3 (by decide) rfl k_6 rfl 2 rfl rfl dX0_write_10 ?_
        refine z_icn_ge (tgt := 20) hF (by omega) (by omega) dX0_write_13 (by decide) (fun c_2 => ?_) (fun c_2 => ?_)
        · refine z_iconst (v := nI 0) hF dX0_write_20 (by decide) ?_
          refine z_top (y := zb (i < m)) (zb0 (by first | assumption | grind)) ?_
          exact J_21  
        · refine z_iconst (v := nI 1) hF dX0_write_16 (by decide) ?_
          refine z_goto (tgt := 21) hF dX0_write_17 (by decide) ?_
          refine z_top (y := zb (i < m)) (zb1 (by first | assumption | grind)) ?_
          exact J_21  
  exact J_2 ((12 - 0) + 1) 0 (Nat.lt_succ_self _) (by omega)
end
section
set_option maxHeartbeats 4000000 in
set_option maxRecDepth 100000 in
theorem c_X1_sizeOf (G : zG) (q0 q1 q2 q3 q4 : Nat) (c : Nat) (qs : Nat → Int32) (hc : c < 12) : zM G yX1_sizeOf wsX1_sizeOf ({ frames := 0, cells := 0, slots := 0, locals := 12 }) [.ref q0, .int (nI c)] [(q0, .inr (1, [.ref q1, .ref q2, .ref q3, .ref q4])), (q2, eI G 12 qs)] [(q0, .inr (1, [.ref q1, .ref q2, .ref q3, .ref q4])), (q2, eI G 12 qs)] (some (.int (qs c))) 0 0 := by
  refine zM.ofI (own := RX1) (cc := cX1_sizeOf) (maxL := 2) rfl (by decide) rfl rfl (by simp [Value.category]) (Nat.le_of_ble_eq_true rfl) ?_
  intro X hF hR
  have k_0 : ∀ w ∈ wsX10, w ∈ wsX1_sizeOf := by decide +kernel
  have k_1 : zH X (.fieldLink RX1 15 "MarginDesk$Quotes" "sizes" "[I") := hF.w (by decide +kernel)
  refine z_lv (lv' := [some (.ref q0), some (.int (nI c))]) rfl ?_
  refine z_aload_n hF dX1_sizeOf_0 rfl ?_
  refine z_get (C := RX1) (T := TX1) (N := 4) (ci := 1) (v := .ref q2) hF k_0 1 (by decide) rfl k_1 rfl 0 rfl rfl dX1_sizeOf_1 ?_
  refine z_iload_n hF dX1_sizeOf_4 rfl ?_
  refine z_iald (k := c) hF 1 rfl (rfl) (by omega) rfl dX1_sizeOf_5 ?_
  exact hR.i dX1_sizeOf_6 (Nat.le_of_ble_eq_true rfl) (Nat.le_of_ble_eq_true rfl) (rfl) (rfl)
set_option maxHeartbeats 4000000 in
set_option maxRecDepth 100000 in
theorem c_X1_keep (G : zG) (q0 q1 q2 q3 q4 : Nat) (t0 t1 t2 n : Nat) (c a b : Nat) (ql qs qa qb f : Nat → Int32) (hc : c < 12) (hab : a < b) (hb : b ≤ n) (hn : n ≤ 60) : zM G yX1_keep wsX1_keep ({ frames := 2, cells := 0, slots := 0, locals := 54 }) [.ref q0, .int (nI c), .ref t0, .int (nI a), .int (nI b)] [(q0, .inr (1, [.ref q1, .ref q2, .ref q3, .ref q4])), (q1, eI G 720 ql), (q2, eI G 12 qs), (q3, eI G 12 qa), (q4, eI G 12 qb), (t0, .inr (3, [.ref t1, .ref t2, .int (nI n)])), (t1, eI G 60 f)] [(q0, .inr (1, [.ref q1, .ref q2, .ref q3, .ref q4])), (q1, eI G 720 (va_cpy f ql a (c * 60) (b - a))), (q2, eI G 12 (upd qs c (nI (b - a)))), (q3, eI G 12 (upd qa c (letF n f (nI a - nI 1)))), (q4, eI G 12 (upd qb c (letF n f (nI b)))), (t0, .inr (3, [.ref t1, .ref t2, .int (nI n)])), (t1, eI G 60 f)] none 0 0 := by
  refine zM.ofV (own := RX1) (cc := cX1_keep) (maxL := 5) rfl (by decide) rfl (by simp [Value.category]) (Nat.le_of_ble_eq_true rfl) ?_
  intro X hF hR
  have k_0 : ∀ w ∈ wsX10, w ∈ wsX1_keep := by decide +kernel
  have k_1 : zH X (.fieldLink RX1 15 "MarginDesk$Quotes" "sizes" "[I") := hF.w (by decide +kernel)
  have k_2 : ∀ w ∈ wsX30, w ∈ wsX1_keep := by decide +kernel
  have k_3 : zH X (.fieldLinkNest RX1 24 "MarginDesk$Text" "letters" "[I" RX4) := hF.nf (List.mem_of_getElem? (i := 5) rfl)
  have k_4 : zH X (.fieldLink RX1 9 "MarginDesk$Quotes" "letters" "[I") := hF.w (by decide +kernel)
  have k_5 : zH X (.methodLink RX1 27 arraycopyName) := hF.w (by decide +kernel)
  have k_6 : zH X (.native arraycopyName) := hF.w (by decide +kernel)
  have k_7 : zH X (.static arraycopyName) := hF.w (by decide +kernel)
  have k_8 : zH X (.initialized "java/lang/System") := hF.w (by decide +kernel)
  have k_9 : zH X (.fieldLink RX1 18 "MarginDesk$Quotes" "aheads" "[I") := hF.w (by decide +kernel)
  have k_10 : zH X (.initialized RX3) := hF.w (by decide +kernel)
  have k_11 : zH X (.instanceMethod yX3_letterBehind) := hF.w (by decide +kernel)
  have k_12 : zH X (.selects RX3 yX3_letterBehind yX3_letterBehind) := hF.w (by decide +kernel)
  have k_13 : zH X (.fieldLink RX1 21 "MarginDesk$Quotes" "behinds" "[I") := hF.w (by decide +kernel)
  refine z_lv (lv' := [some (.ref q0), some (.int (nI c)), some (.ref t0), some (.int (nI a)), some (.int (nI b))]) rfl ?_
  refine z_aload_n hF dX1_keep_0 rfl ?_
  refine z_get (C := RX1) (T := TX1) (N := 4) (ci := 1) (v := .ref q2) hF k_0 1 (by decide) rfl k_1 rfl 0 rfl rfl dX1_keep_1 ?_
  refine z_iload_n hF dX1_keep_4 rfl ?_
  refine z_iload hF dX1_keep_5 rfl ?_
  refine z_iload_n hF dX1_keep_7 rfl ?_
  refine z_isub hF dX1_keep_8 ?_
  refine z_top (pk_sub (by omega)) ?_
  refine z_iast (k := c) (ws' := [(q0, .inr (1, [.ref q1, .ref q2, .ref q3, .ref q4])), (q1, eI G 720 ql), (q2, eI G 12 (upd qs c (nI (b - a)))), (q3, eI G 12 qa), (q4, eI G 12 qb), (t0, .inr (3, [.ref t1, .ref t2, .int (nI n)])), (t1, eI G 60 f)]) hF 2 rfl (rfl) (by omega) rfl rfl dX1_keep_9 ?_
  refine z_aload_n hF dX1_keep_10 rfl ?_
  refine z_getN (C := RX3) (T := TX3) (N := 3) (ci := 3) (v := .ref t1) hF k_2 0 (by decide) rfl k_3 rfl 5 rfl rfl dX1_keep_11 ?_
  refine z_iload_n hF dX1_keep_14 rfl ?_
  refine z_aload_n hF dX1_keep_15 rfl ?_
  refine z_get (C := RX1) (T := TX1) (N := 4) (ci := 1) (v := .ref q1) hF k_0 0 (by decide) rfl k_4 rfl 0 rfl rfl dX1_keep_16 ?_
  refine z_iload_n hF dX1_keep_19 rfl ?_
  refine z_bipush (v := nI 60) hF dX1_keep_20 (by decide) ?_
  refine z_imul hF dX1_keep_22 ?_
  refine z_top (pk_mul c 60) ?_
  refine z_iload hF dX1_keep_23 rfl ?_
  refine z_iload_n hF dX1_keep_25 rfl ?_
  refine z_isub hF dX1_keep_26 ?_
  refine z_top (pk_sub (by omega)) ?_
  refine z_copy (sp := a) (dp := c * 60) (n := b - a) (ws' := [(q0, .inr (1, [.ref q1, .ref q2, .ref q3, .ref q4])), (q1, eI G 720 (va_cpy f ql a (c * 60) (b - a))), (q2, eI G 12 (upd qs c (nI (b - a)))), (q3, eI G 12 qa), (q4, eI G 12 qb), (t0, .inr (3, [.ref t1, .ref t2, .int (nI n)])), (t1, eI G 60 f)]) hF 6 1 k_5 k_6 k_7 k_8 rfl rfl (rfl) (rfl) (rfl) (by omega) (by omega) rfl rfl rfl rfl dX1_keep_27 ?_
  refine z_aload_n hF dX1_keep_30 rfl ?_
  refine z_get (C := RX1) (T := TX1) (N := 4) (ci := 1) (v := .ref q3) hF k_0 2 (by decide) rfl k_9 rfl 0 rfl rfl dX1_keep_31 ?_
  refine z_iload_n hF dX1_keep_34 rfl ?_
  refine z_aload_n hF dX1_keep_35 rfl ?_
  refine z_iload_n hF dX1_keep_36 rfl ?_
  refine z_iconst (v := nI 1) hF dX1_keep_37 (by decide) ?_
  refine z_isub hF dX1_keep_38 ?_
  refine z_VN (As := [.int ((nI a) - (nI 1))]) (rest := [.int (nI c), .ref q3]) (ws' := [(q0, .inr (1, [.ref q1, .ref q2, .ref q3, .ref q4])), (q1, eI G 720 (va_cpy f ql a (c * 60) (b - a))), (q2, eI G 12 (upd qs c (nI (b - a)))), (q3, eI G 12 qa), (q4, eI G 12 qb), (t0, .inr (3, [.ref t1, .ref t2, .int (nI n)])), (t1, eI G 60 f)]) (st2 := [.int (letF n f ((nI a) - (nI 1))), .int (nI c), .ref q3]) (c2 := 0) (s2 := 0) hF (c_X3_letterBehind G t0 t1 t2 n f ((nI a) - (nI 1)) (by first | assumption | omega)) ggX1_keep_X3_letterBehind (List.mem_of_getElem? (i := 17) rfl) k_10 k_11 k_12 rfl rfl rfl hs_X3_letterBehind ⟨⟨Nat.le_of_ble_eq_true rfl, Nat.le_of_ble_eq_true rfl⟩, ⟨Nat.le_of_ble_eq_true rfl, Nat.le_of_ble_eq_true rfl⟩, Nat.le_of_ble_eq_true rfl⟩ [5, 6] rfl rfl 0 rfl rfl rfl rfl rfl rfl rfl rfl rfl rfl dX1_keep_39 ?_
  refine z_iast (k := c) (ws' := [(q0, .inr (1, [.ref q1, .ref q2, .ref q3, .ref q4])), (q1, eI G 720 (va_cpy f ql a (c * 60) (b - a))), (q2, eI G 12 (upd qs c (nI (b - a)))), (q3, eI G 12 (upd qa c (letF n f ((nI a) - (nI 1))))), (q4, eI G 12 qb), (t0, .inr (3, [.ref t1, .ref t2, .int (nI n)])), (t1, eI G 60 f)]) hF 3 rfl (rfl) (by omega) rfl rfl dX1_keep_42 ?_
  refine z_aload_n hF dX1_keep_43 rfl ?_
  refine z_get (C := RX1) (T := TX1) (N := 4) (ci := 1) (v := .ref q4) hF k_0 3 (by decide) rfl k_13 rfl 0 rfl rfl dX1_keep_44 ?_
  refine z_iload_n hF dX1_keep_47 rfl ?_
  refine z_aload_n hF dX1_keep_48 rfl ?_
  refine z_iload hF dX1_keep_49 rfl ?_
  refine z_VN (As := [.int (nI b)]) (rest := [.int (nI c), .ref q4]) (ws' := [(q0, .inr (1, [.ref q1, .ref q2, .ref q3, .ref q4])), (q1, eI G 720 (va_cpy f ql a (c * 60) (b - a))), (q2, eI G 12 (upd qs c (nI (b - a)))), (q3, eI G 12 (upd qa c (letF n f ((nI a) - (nI 1))))), (q4, eI G 12 qb), (t0, .inr (3, [.ref t1, .ref t2, .int (nI n)])), (t1, eI G 60 f)]) (st2 := [.int (letF n f (nI b)), .int (nI c), .ref q4]) (c2 := 0) (s2 := 0) hF (c_X3_letterBehind G t0 t1 t2 n f (nI b) (by first | assumption | omega)) ggX1_keep_X3_letterBehind (List.mem_of_getElem? (i := 17) rfl) k_10 k_11 k_12 rfl rfl rfl hs_X3_letterBehind ⟨⟨Nat.le_of_ble_eq_true rfl, Nat.le_of_ble_eq_true rfl⟩, ⟨Nat.le_of_ble_eq_true rfl, Nat.le_of_ble_eq_true rfl⟩, Nat.le_of_ble_eq_true rfl⟩ [5, 6] rfl rfl 0 rfl rfl rfl rfl rfl rfl rfl rfl rfl rfl dX1_keep_51 ?_
  refine z_iast (k := c) (ws' := [(q0, .inr (1, [.ref q1, .ref q2, .ref q3, .ref q4])), (q1, eI G 720 (va_cpy f ql a (c * 60) (b - a))), (q2, eI G 12 (upd qs c (nI (b - a)))), (q3, eI G 12 (upd qa c (letF n f ((nI a) - (nI 1))))), (q4, eI G 12 (upd qb c (letF n f (nI b)))), (t0, .inr (3, [.ref t1, .ref t2, .int (nI n)])), (t1, eI G 60 f)]) hF 4 rfl (rfl) (by omega) rfl rfl dX1_keep_54 ?_
  exact hR.v dX1_keep_55 (Nat.le_of_ble_eq_true rfl) (Nat.le_of_ble_eq_true rfl) (rfl)
set_option maxHeartbeats 4000000 in
set_option maxRecDepth 100000 in
theorem c_X1_standsAt (G : zG) (q0 q1 q2 q3 q4 : Nat) (t0 t1 t2 n : Nat) (c k z : Nat) (ql qs f : Nat → Int32) (hc : c < 12) (hz : qs c = nI z) (hk : k + z ≤ 60) : zM G yX1_standsAt wsX1_standsAt ({ frames := 0, cells := 0, slots := 0, locals := 12 }) [.ref q0, .int (nI c), .ref t0, .int (nI k)] [(q0, .inr (1, [.ref q1, .ref q2, .ref q3, .ref q4])), (q1, eI G 720 ql), (q2, eI G 12 qs), (t0, .inr (3, [.ref t1, .ref t2, .int (nI n)])), (t1, eI G 60 f)] [(q0, .inr (1, [.ref q1, .ref q2, .ref q3, .ref q4])), (q1, eI G 720 ql), (q2, eI G 12 qs), (t0, .inr (3, [.ref t1, .ref t2, .int (nI n)])), (t1, eI G 60 f)] (some (.int (zb (∀ jj, jj < z → ql (c * 60 + jj) = f (k + jj))))) 0 0 := by
  refine zM.ofI (own := RX1) (cc := cX1_standsAt) (maxL := 5) rfl (by decide) rfl zb_nar (by simp [Value.category]) (Nat.le_of_ble_eq_true rfl) ?_
  intro X hF hR
  have k_0 : ∀ w ∈ wsX10, w ∈ wsX1_standsAt := by decide +kernel
  have k_1 : zH X (.fieldLink RX1 15 "MarginDesk$Quotes" "sizes" "[I") := hF.w (by decide +kernel)
  have k_2 : zH X (.fieldLink RX1 9 "MarginDesk$Quotes" "letters" "[I") := hF.w (by decide +kernel)
  have k_3 : ∀ w ∈ wsX30, w ∈ wsX1_standsAt := by decide +kernel
  have k_4 : zH X (.fieldLinkNest RX1 24 "MarginDesk$Text" "letters" "[I" RX4) := hF.nf (List.mem_of_getElem? (i := 5) rfl)
  refine z_lv (lv' := [some (.ref q0), some (.int (nI c)), some (.ref t0), some (.int (nI k)), none]) rfl ?_
  refine z_iconst (v := nI 0) hF dX1_standsAt_0 (by decide) ?_
  refine z_istore (lv' := [some (.ref q0), some (.int (nI c)), some (.ref t0), some (.int (nI k)), some (.int (nI 0))]) hF dX1_standsAt_1 rfl rfl ?_
  have J_3 : ∀ (n9 : Nat) (i : Nat), z - i < n9 → (i ≤ z) → (∀ j, j < i → ql (c * 60 + j) = f (k + j)) → zJ G X 3 [(q0, .inr (1, [.ref q1, .ref q2, .ref q3, .ref q4])), (q1, eI G 720 ql), (q2, eI G 12 qs), (t0, .inr (3, [.ref t1, .ref t2, .int (nI n)])), (t1, eI G 60 f)] [some (.ref q0), some (.int (nI c)), some (.ref t0), some (.int (nI k)), some (.int (nI i))] [] 0 0 := by
    intro n9
    induction n9 with
    | zero => intro i hmu; exact absurd hmu (Nat.not_lt_zero _)
    | succ n9 ih =>
      intro i hmu h2 hi
      refine z_iload hF dX1_standsAt_3 rfl ?_
      refine z_aload_n hF dX1_standsAt_5 rfl ?_
      refine z_get (C := RX1) (T := TX1) (N := 4) (ci := 1) (v := .ref q2) hF k_0 1 (by decide) rfl k_1 rfl 0 rfl rfl dX1_standsAt_6 ?_
      refine z_iload_n hF dX1_standsAt_9 rfl ?_
      refine z_iald (k := c) hF 2 rfl (rfl) (by omega) rfl dX1_standsAt_10 ?_
      refine z_top (y := nI z) (hz) ?_
      refine z_icn_ge (tgt := 46) hF (by omega) (by omega) dX1_standsAt_11 (by decide) (fun c_1 => ?_) (fun c_1 => ?_)
      · refine z_iconst (v := nI 1) hF dX1_standsAt_46 (by decide) ?_
        exact hR.i dX1_standsAt_47 (Nat.le_of_ble_eq_true rfl) (Nat.le_of_ble_eq_true rfl) (rfl) (zb1 (fun j hj => hi j (by omega)))
      · refine z_aload_n hF dX1_standsAt_14 rfl ?_
        refine z_get (C := RX1) (T := TX1) (N := 4) (ci := 1) (v := .ref q1) hF k_0 0 (by decide) rfl k_2 rfl 0 rfl rfl dX1_standsAt_15 ?_
        refine z_iload_n hF dX1_standsAt_18 rfl ?_
        refine z_bipush (v := nI 60) hF dX1_standsAt_19 (by decide) ?_
        refine z_imul hF dX1_standsAt_21 ?_
        refine z_top (pk_mul c 60) ?_
        refine z_iload hF dX1_standsAt_22 rfl ?_
        refine z_iadd hF dX1_standsAt_24 ?_
        refine z_top (nI_add (c * 60) i) ?_
        refine z_iald (k := c * 60 + i) hF 1 rfl (rfl) (by omega) rfl dX1_standsAt_25 ?_
        refine z_aload_n hF dX1_standsAt_26 rfl ?_
        refine z_getN (C := RX3) (T := TX3) (N := 3) (ci := 3) (v := .ref t1) hF k_3 0 (by decide) rfl k_4 rfl 3 rfl rfl dX1_standsAt_27 ?_
        refine z_iload_n hF dX1_standsAt_30 rfl ?_
        refine z_iload hF dX1_standsAt_31 rfl ?_
        refine z_iadd hF dX1_standsAt_33 ?_
        refine z_top (nI_add k i) ?_
        refine z_iald (k := k + i) hF 4 rfl (rfl) (by omega) rfl dX1_standsAt_34 ?_
        refine z_ic_eq (tgt := 40) hF dX1_standsAt_35 (by decide) (fun hq => ?_) (fun hq => ?_)
        · refine z_iinc (v := nI (i + 1)) (lv' := [some (.ref q0), some (.int (nI c)), some (.ref t0), some (.int (nI k)), some (.int (nI (i + 1)))]) hF dX1_standsAt_40 rfl (nI_1 i) rfl rfl ?_
          refine z_goto (tgt := 3) hF dX1_standsAt_43 (by decide) ?_
          exact ih (i + 1) (by omega) (by omega) (fun j hj => (Nat.lt_or_ge j i).elim (hi j) (fun q => by rw [show j = i by omega]; exact hq))
        · refine z_iconst (v := nI 0) hF dX1_standsAt_38 (by decide) ?_
          exact hR.i dX1_standsAt_39 (Nat.le_of_ble_eq_true rfl) (Nat.le_of_ble_eq_true rfl) (rfl) (zb0 (fun h => hq (h i (by omega))))
  exact J_3 ((z - 0) + 1) 0 (Nat.lt_succ_self _) (by omega) (fun j hj => absurd hj (Nat.not_lt_zero _))
set_option maxHeartbeats 4000000 in
set_option maxRecDepth 100000 in
theorem c_X1_fitAt (G : zG) (q0 q1 q2 q3 q4 : Nat) (t0 t1 t2 n : Nat) (c k z : Nat) (qs qa qb f : Nat → Int32) (hc : c < 12) (hz : qs c = nI z) (hk : k + z ≤ 60) (hn : n ≤ 60) : zM G yX1_fitAt wsX1_fitAt ({ frames := 2, cells := 0, slots := 0, locals := 54 }) [.ref q0, .int (nI c), .ref t0, .int (nI k)] [(q0, .inr (1, [.ref q1, .ref q2, .ref q3, .ref q4])), (q2, eI G 12 qs), (q3, eI G 12 qa), (q4, eI G 12 qb), (t0, .inr (3, [.ref t1, .ref t2, .int (nI n)])), (t1, eI G 60 f)] [(q0, .inr (1, [.ref q1, .ref q2, .ref q3, .ref q4])), (q2, eI G 12 qs), (q3, eI G 12 qa), (q4, eI G 12 qb), (t0, .inr (3, [.ref t1, .ref t2, .int (nI n)])), (t1, eI G 60 f)] (some (.int (zb (letF n f (nI k - nI 1) = qa c) + zb (letF n f (nI (k + z)) = qb c)))) 0 0 := by
  refine zM.ofI (own := RX1) (cc := cX1_fitAt) (maxL := 6) rfl (by decide) rfl rfl (by simp [Value.category]) (Nat.le_of_ble_eq_true rfl) ?_
  intro X hF hR
  have k_0 : zH X (.initialized RX3) := hF.w (by decide +kernel)
  have k_1 : zH X (.instanceMethod yX3_letterBehind) := hF.w (by decide +kernel)
  have k_2 : zH X (.selects RX3 yX3_letterBehind yX3_letterBehind) := hF.w (by decide +kernel)
  have k_3 : ∀ w ∈ wsX10, w ∈ wsX1_fitAt := by decide +kernel
  have k_4 : zH X (.fieldLink RX1 15 "MarginDesk$Quotes" "sizes" "[I") := hF.w (by decide +kernel)
  have k_5 : zH X (.fieldLink RX1 21 "MarginDesk$Quotes" "behinds" "[I") := hF.w (by decide +kernel)
  have k_6 : zH X (.fieldLink RX1 18 "MarginDesk$Quotes" "aheads" "[I") := hF.w (by decide +kernel)
  refine z_lv (lv' := [some (.ref q0), some (.int (nI c)), some (.ref t0), some (.int (nI k)), none, none]) rfl ?_
  refine z_aload_n hF dX1_fitAt_0 rfl ?_
  refine z_iload_n hF dX1_fitAt_1 rfl ?_
  refine z_iconst (v := nI 1) hF dX1_fitAt_2 (by decide) ?_
  refine z_isub hF dX1_fitAt_3 ?_
  refine z_VN (As := [.int ((nI k) - (nI 1))]) (rest := []) (ws' := [(q0, .inr (1, [.ref q1, .ref q2, .ref q3, .ref q4])), (q2, eI G 12 qs), (q3, eI G 12 qa), (q4, eI G 12 qb), (t0, .inr (3, [.ref t1, .ref t2, .int (nI n)])), (t1, eI G 60 f)]) (st2 := [.int (letF n f ((nI k) - (nI 1)))]) (c2 := 0) (s2 := 0) hF (c_X3_letterBehind G t0 t1 t2 n f ((nI k) - (nI 1)) (by first | assumption | omega)) ggX1_fitAt_X3_letterBehind (List.mem_of_getElem? (i := 17) rfl) k_0 k_1 k_2 rfl rfl rfl hs_X3_letterBehind ⟨⟨Nat.le_of_ble_eq_true rfl, Nat.le_of_ble_eq_true rfl⟩, ⟨Nat.le_of_ble_eq_true rfl, Nat.le_of_ble_eq_true rfl⟩, Nat.le_of_ble_eq_true rfl⟩ [4, 5] rfl rfl 0 rfl rfl rfl rfl rfl rfl rfl rfl rfl rfl dX1_fitAt_4 ?_
  refine z_istore (lv' := [some (.ref q0), some (.int (nI c)), some (.ref t0), some (.int (nI k)), some (.int (letF n f ((nI k) - (nI 1)))), none]) hF dX1_fitAt_7 rfl rfl ?_
  refine z_aload_n hF dX1_fitAt_9 rfl ?_
  refine z_iload_n hF dX1_fitAt_10 rfl ?_
  refine z_aload_n hF dX1_fitAt_11 rfl ?_
  refine z_get (C := RX1) (T := TX1) (N := 4) (ci := 1) (v := .ref q2) hF k_3 1 (by decide) rfl k_4 rfl 0 rfl rfl dX1_fitAt_12 ?_
  refine z_iload_n hF dX1_fitAt_15 rfl ?_
  refine z_iald (k := c) hF 1 rfl (rfl) (by omega) rfl dX1_fitAt_16 ?_
  refine z_top (y := nI z) (hz) ?_
  refine z_iadd hF dX1_fitAt_17 ?_
  refine z_top (nI_add k z) ?_
  refine z_VN (As := [.int (nI (k + z))]) (rest := []) (ws' := [(q0, .inr (1, [.ref q1, .ref q2, .ref q3, .ref q4])), (q2, eI G 12 qs), (q3, eI G 12 qa), (q4, eI G 12 qb), (t0, .inr (3, [.ref t1, .ref t2, .int (nI n)])), (t1, eI G 60 f)]) (st2 := [.int (letF n f (nI (k + z)))]) (c2 := 0) (s2 := 0) hF (c_X3_letterBehind G t0 t1 t2 n f (nI (k + z)) (by first | assumption | omega)) ggX1_fitAt_X3_letterBehind (List.mem_of_getElem? (i := 17) rfl) k_0 k_1 k_2 rfl rfl rfl hs_X3_letterBehind ⟨⟨Nat.le_of_ble_eq_true rfl, Nat.le_of_ble_eq_true rfl⟩, ⟨Nat.le_of_ble_eq_true rfl, Nat.le_of_ble_eq_true rfl⟩, Nat.le_of_ble_eq_true rfl⟩ [4, 5] rfl rfl 0 rfl rfl rfl rfl rfl rfl rfl rfl rfl rfl dX1_fitAt_18 ?_
  refine z_istore (lv' := [some (.ref q0), some (.int (nI c)), some (.ref t0), some (.int (nI k)), some (.int (letF n f ((nI k) - (nI 1)))), some (.int (letF n f (nI (k + z))))]) hF dX1_fitAt_21 rfl rfl ?_
  have J_39 : zJ G X 39 [(q0, .inr (1, [.ref q1, .ref q2, .ref q3, .ref q4])), (q2, eI G 12 qs), (q3, eI G 12 qa), (q4, eI G 12 qb), (t0, .inr (3, [.ref t1, .ref t2, .int (nI n)])), (t1, eI G 60 f)] [some (.ref q0), some (.int (nI c)), some (.ref t0), some (.int (nI k)), some (.int (letF n f ((nI k) - (nI 1)))), some (.int (letF n f (nI (k + z))))] [.int (zb (letF n f (nI k - nI 1) = qa c))] 0 0 := by
    have J_55 : zJ G X 55 [(q0, .inr (1, [.ref q1, .ref q2, .ref q3, .ref q4])), (q2, eI G 12 qs), (q3, eI G 12 qa), (q4, eI G 12 qb), (t0, .inr (3, [.ref t1, .ref t2, .int (nI n)])), (t1, eI G 60 f)] [some (.ref q0), some (.int (nI c)), some (.ref t0), some (.int (nI k)), some (.int (letF n f ((nI k) - (nI 1)))), some (.int (letF n f (nI (k + z))))] [.int (zb (letF n f (nI (k + z)) = qb c)), .int (zb (letF n f (nI k - nI 1) = qa c))] 0 0 := by
      refine z_iadd hF dX1_fitAt_55 ?_
      exact hR.i dX1_fitAt_56 (Nat.le_of_ble_eq_true rfl) (Nat.le_of_ble_eq_true rfl) (rfl) (rfl)
    refine z_iload hF dX1_fitAt_39 rfl ?_
    refine z_aload_n hF dX1_fitAt_41 rfl ?_
    refine z_get (C := RX1) (T := TX1) (N := 4) (ci := 1) (v := .ref q4) hF k_3 3 (by decide) rfl k_5 rfl 0 rfl rfl dX1_fitAt_42 ?_
    refine z_iload_n hF dX1_fitAt_45 rfl ?_
    refine z_iald (k := c) hF 3 rfl (rfl) (by omega) rfl dX1_fitAt_46 ?_
    refine z_ic_ne (tgt := 54) hF dX1_fitAt_47 (by decide) (fun c_1 => ?_) (fun c_1 => ?_)
    · refine z_iconst (v := nI 0) hF dX1_fitAt_54 (by decide) ?_
      refine z_top (y := zb (letF n f (nI (k + z)) = qb c)) (zb0 (by first | assumption | grind)) ?_
      exact J_55  
    · refine z_iconst (v := nI 1) hF dX1_fitAt_50 (by decide) ?_
      refine z_goto (tgt := 55) hF dX1_fitAt_51 (by decide) ?_
      refine z_top (y := zb (letF n f (nI (k + z)) = qb c)) (zb1 (by first | assumption | grind)) ?_
      exact J_55  
  refine z_iload hF dX1_fitAt_23 rfl ?_
  refine z_aload_n hF dX1_fitAt_25 rfl ?_
  refine z_get (C := RX1) (T := TX1) (N := 4) (ci := 1) (v := .ref q3) hF k_3 2 (by decide) rfl k_6 rfl 0 rfl rfl dX1_fitAt_26 ?_
  refine z_iload_n hF dX1_fitAt_29 rfl ?_
  refine z_iald (k := c) hF 2 rfl (rfl) (by omega) rfl dX1_fitAt_30 ?_
  refine z_ic_ne (tgt := 38) hF dX1_fitAt_31 (by decide) (fun c_2 => ?_) (fun c_2 => ?_)
  · refine z_iconst (v := nI 0) hF dX1_fitAt_38 (by decide) ?_
    refine z_top (y := zb (letF n f (nI k - nI 1) = qa c)) (zb0 (by first | assumption | grind)) ?_
    exact J_39  
  · refine z_iconst (v := nI 1) hF dX1_fitAt_34 (by decide) ?_
    refine z_goto (tgt := 39) hF dX1_fitAt_35 (by decide) ?_
    refine z_top (y := zb (letF n f (nI k - nI 1) = qa c)) (zb1 (by first | assumption | grind)) ?_
    exact J_39  
set_option maxHeartbeats 4000000 in
set_option maxRecDepth 100000 in
theorem c_X1_bestPlace (G : zG) (q0 q1 q2 q3 q4 : Nat) (t0 t1 t2 n : Nat) (c z : Nat) (ql qs qa qb f : Nat → Int32) (hc : c < 12) (hz : qs c = nI z) (hz2 : z ≤ 60) (hn : n ≤ 60) : zM G yX1_bestPlace wsX1_bestPlace ({ frames := 3, cells := 0, slots := 0, locals := 79 }) [.ref q0, .int (nI c), .ref t0] [(q0, .inr (1, [.ref q1, .ref q2, .ref q3, .ref q4])), (q1, eI G 720 ql), (q2, eI G 12 qs), (q3, eI G 12 qa), (q4, eI G 12 qb), (t0, .inr (3, [.ref t1, .ref t2, .int (nI n)])), (t1, eI G 60 f)] [(q0, .inr (1, [.ref q1, .ref q2, .ref q3, .ref q4])), (q1, eI G 720 ql), (q2, eI G 12 qs), (q3, eI G 12 qa), (q4, eI G 12 qb), (t0, .inr (3, [.ref t1, .ref t2, .int (nI n)])), (t1, eI G 60 f)] (some (.int ((bst (fun kk => ∀ jj, jj < z → ql (c * 60 + jj) = f (kk + jj)) (fun kk => zb (letF n f (nI kk - nI 1) = qa c) + zb (letF n f (nI (kk + z)) = qb c)) (n + 1 - z)).1))) 0 0 := by
  refine zM.ofI (own := RX1) (cc := cX1_bestPlace) (maxL := 7) rfl (by decide) rfl rfl (by simp [Value.category]) (Nat.le_of_ble_eq_true rfl) ?_
  intro X hF hR
  have k_0 : ∀ w ∈ wsX30, w ∈ wsX1_bestPlace := by decide +kernel
  have k_1 : zH X (.fieldLinkNest RX1 37 "MarginDesk$Text" "size" "I" RX4) := hF.nf (List.mem_of_getElem? (i := 6) rfl)
  have k_2 : ∀ w ∈ wsX10, w ∈ wsX1_bestPlace := by decide +kernel
  have k_3 : zH X (.fieldLink RX1 15 "MarginDesk$Quotes" "sizes" "[I") := hF.w (by decide +kernel)
  refine z_lv (lv' := [some (.ref q0), some (.int (nI c)), some (.ref t0), none, none, none, none]) rfl ?_
  refine z_iconst (v := -1) hF dX1_bestPlace_0 (by decide) ?_
  refine z_istore_n (lv' := [some (.ref q0), some (.int (nI c)), some (.ref t0), some (.int (-1)), none, none, none]) hF dX1_bestPlace_1 rfl rfl ?_
  refine z_iconst (v := nI 0) hF dX1_bestPlace_2 (by decide) ?_
  refine z_istore (lv' := [some (.ref q0), some (.int (nI c)), some (.ref t0), some (.int (-1)), some (.int (nI 0)), none, none]) hF dX1_bestPlace_3 rfl rfl ?_
  refine z_iconst (v := nI 0) hF dX1_bestPlace_5 (by decide) ?_
  refine z_istore (lv' := [some (.ref q0), some (.int (nI c)), some (.ref t0), some (.int (-1)), some (.int (nI 0)), some (.int (nI 0)), none]) hF dX1_bestPlace_6 rfl rfl ?_
  refine z_lv (lv' := [some (.ref q0), some (.int (nI c)), some (.ref t0), some (.int ((bst (fun kk => ∀ jj, jj < z → ql (c * 60 + jj) = f (kk + jj)) (fun kk => zb (letF n f (nI kk - nI 1) = qa c) + zb (letF n f (nI (kk + z)) = qb c)) 0).1)), some (.int (nI 0)), some (.int (nI 0)), none]) (by rfl) ?_
  refine z_lv (lv' := [some (.ref q0), some (.int (nI c)), some (.ref t0), some (.int ((bst (fun kk => ∀ jj, jj < z → ql (c * 60 + jj) = f (kk + jj)) (fun kk => zb (letF n f (nI kk - nI 1) = qa c) + zb (letF n f (nI (kk + z)) = qb c)) 0).1)), some (.int ((bst (fun kk => ∀ jj, jj < z → ql (c * 60 + jj) = f (kk + jj)) (fun kk => zb (letF n f (nI kk - nI 1) = qa c) + zb (letF n f (nI (kk + z)) = qb c)) 0).2)), some (.int (nI 0)), none]) (by rfl) ?_
  have J_8 : ∀ (n9 : Nat) (i : Nat), n + 1 - z - i < n9 → (i ≤ n + 1 - z) → zJ G X 8 [(q0, .inr (1, [.ref q1, .ref q2, .ref q3, .ref q4])), (q1, eI G 720 ql), (q2, eI G 12 qs), (q3, eI G 12 qa), (q4, eI G 12 qb), (t0, .inr (3, [.ref t1, .ref t2, .int (nI n)])), (t1, eI G 60 f)] [some (.ref q0), some (.int (nI c)), some (.ref t0), some (.int ((bst (fun kk => ∀ jj, jj < z → ql (c * 60 + jj) = f (kk + jj)) (fun kk => zb (letF n f (nI kk - nI 1) = qa c) + zb (letF n f (nI (kk + z)) = qb c)) i).1)), some (.int ((bst (fun kk => ∀ jj, jj < z → ql (c * 60 + jj) = f (kk + jj)) (fun kk => zb (letF n f (nI kk - nI 1) = qa c) + zb (letF n f (nI (kk + z)) = qb c)) i).2)), some (.int (nI i)), none] [] 0 0 := by
    intro n9
    induction n9 with
    | zero => intro i hmu; exact absurd hmu (Nat.not_lt_zero _)
    | succ n9 ih =>
      intro i hmu h2
      refine z_iload hF dX1_bestPlace_8 rfl ?_
      refine z_aload_n hF dX1_bestPlace_10 rfl ?_
      refine z_getN (C := RX3) (T := TX3) (N := 3) (ci := 3) (v := .int (nI n)) hF k_0 2 (by decide) rfl k_1 rfl 5 rfl rfl dX1_bestPlace_11 ?_
      refine z_aload_n hF dX1_bestPlace_14 rfl ?_
      refine z_get (C := RX1) (T := TX1) (N := 4) (ci := 1) (v := .ref q2) hF k_2 1 (by decide) rfl k_3 rfl 0 rfl rfl dX1_bestPlace_15 ?_
      refine z_iload_n hF dX1_bestPlace_18 rfl ?_
      refine z_iald (k := c) hF 2 rfl (rfl) (by omega) rfl dX1_bestPlace_19 ?_
      refine z_top (y := nI z) (hz) ?_
      refine z_isub hF dX1_bestPlace_20 ?_
      refine z_ic_gt (tgt := 70) hF dX1_bestPlace_21 (by decide) (fun hb => ?_) (fun hb => ?_)
      · have hi9 : i = n + 1 - z := by
              have := zsubgt2 (by omega) (by omega) (by omega) hb
              omega
        refine z_iload_n hF dX1_bestPlace_70 rfl ?_
        exact hR.i dX1_bestPlace_71 (Nat.le_of_ble_eq_true rfl) (Nat.le_of_ble_eq_true rfl) (rfl) (by rw [hi9])
      · have hb : i + z ≤ n := Nat.le_of_not_lt fun q => hb (zsubgt (by omega) (by omega) (by omega) q)
        refine z_aload_n hF dX1_bestPlace_24 rfl ?_
        refine z_iload_n hF dX1_bestPlace_25 rfl ?_
        refine z_aload_n hF dX1_bestPlace_26 rfl ?_
        refine z_iload hF dX1_bestPlace_27 rfl ?_
        refine z_V (As := [.int (nI c), .ref t0, .int (nI i)]) (rest := []) (ws' := [(q0, .inr (1, [.ref q1, .ref q2, .ref q3, .ref q4])), (q1, eI G 720 ql), (q2, eI G 12 qs), (q3, eI G 12 qa), (q4, eI G 12 qb), (t0, .inr (3, [.ref t1, .ref t2, .int (nI n)])), (t1, eI G 60 f)]) (st2 := [.int (zb (∀ jj, jj < z → ql (c * 60 + jj) = f (i + jj)))]) (c2 := 0) (s2 := 0) hF (c_X1_standsAt G q0 q1 q2 q3 q4 t0 t1 t2 n c i z ql qs f (by first | assumption | omega) (by first | assumption | omega) (by first | assumption | omega)) gX1_bestPlace_X1_standsAt rfl rfl rfl hd_X1_standsAt ⟨⟨Nat.le_of_ble_eq_true rfl, Nat.le_of_ble_eq_true rfl⟩, ⟨Nat.le_of_ble_eq_true rfl, Nat.le_of_ble_eq_true rfl⟩, Nat.le_of_ble_eq_true rfl⟩ [0, 1, 2, 5, 6] rfl rfl 0 rfl rfl rfl rfl rfl rfl rfl rfl rfl rfl dX1_bestPlace_29 ?_
        refine z_if_eq_b (tgt := 64) hF dX1_bestPlace_32 (by decide) (fun hs => ?_) (fun hs => ?_)
        · refine z_iinc (v := nI (i + 1)) (lv' := [some (.ref q0), some (.int (nI c)), some (.ref t0), some (.int ((bst (fun kk => ∀ jj, jj < z → ql (c * 60 + jj) = f (kk + jj)) (fun kk => zb (letF n f (nI kk - nI 1) = qa c) + zb (letF n f (nI (kk + z)) = qb c)) i).1)), some (.int ((bst (fun kk => ∀ jj, jj < z → ql (c * 60 + jj) = f (kk + jj)) (fun kk => zb (letF n f (nI kk - nI 1) = qa c) + zb (letF n f (nI (kk + z)) = qb c)) i).2)), some (.int (nI (i + 1))), none]) hF dX1_bestPlace_64 rfl (nI_1 i) rfl rfl ?_
          refine z_goto (tgt := 8) hF dX1_bestPlace_67 (by decide) ?_
          refine z_lv (lv' := [some (.ref q0), some (.int (nI c)), some (.ref t0), some (.int ((bst (fun kk => ∀ jj, jj < z → ql (c * 60 + jj) = f (kk + jj)) (fun kk => zb (letF n f (nI kk - nI 1) = qa c) + zb (letF n f (nI (kk + z)) = qb c)) (i + 1)).1)), some (.int ((bst (fun kk => ∀ jj, jj < z → ql (c * 60 + jj) = f (kk + jj)) (fun kk => zb (letF n f (nI kk - nI 1) = qa c) + zb (letF n f (nI (kk + z)) = qb c)) i).2)), some (.int (nI (i + 1))), none]) (by rw [bst_f (k := i) (by grind)]) ?_
          refine z_lv (lv' := [some (.ref q0), some (.int (nI c)), some (.ref t0), some (.int ((bst (fun kk => ∀ jj, jj < z → ql (c * 60 + jj) = f (kk + jj)) (fun kk => zb (letF n f (nI kk - nI 1) = qa c) + zb (letF n f (nI (kk + z)) = qb c)) (i + 1)).1)), some (.int ((bst (fun kk => ∀ jj, jj < z → ql (c * 60 + jj) = f (kk + jj)) (fun kk => zb (letF n f (nI kk - nI 1) = qa c) + zb (letF n f (nI (kk + z)) = qb c)) (i + 1)).2)), some (.int (nI (i + 1))), none]) (by rw [bst_f (k := i) (by grind)]) ?_
          exact ih (i + 1) (by omega) (by omega)
        · refine z_aload_n hF dX1_bestPlace_35 rfl ?_
          refine z_iload_n hF dX1_bestPlace_36 rfl ?_
          refine z_aload_n hF dX1_bestPlace_37 rfl ?_
          refine z_iload hF dX1_bestPlace_38 rfl ?_
          refine z_V (As := [.int (nI c), .ref t0, .int (nI i)]) (rest := []) (ws' := [(q0, .inr (1, [.ref q1, .ref q2, .ref q3, .ref q4])), (q1, eI G 720 ql), (q2, eI G 12 qs), (q3, eI G 12 qa), (q4, eI G 12 qb), (t0, .inr (3, [.ref t1, .ref t2, .int (nI n)])), (t1, eI G 60 f)]) (st2 := [.int (zb (letF n f (nI i - nI 1) = qa c) + zb (letF n f (nI (i + z)) = qb c))]) (c2 := 0) (s2 := 0) hF (c_X1_fitAt G q0 q1 q2 q3 q4 t0 t1 t2 n c i z qs qa qb f (by first | assumption | omega) (by first | assumption | omega) (by first | assumption | omega) (by first | assumption | omega)) gX1_bestPlace_X1_fitAt rfl rfl rfl hd_X1_fitAt ⟨⟨Nat.le_of_ble_eq_true rfl, Nat.le_of_ble_eq_true rfl⟩, ⟨Nat.le_of_ble_eq_true rfl, Nat.le_of_ble_eq_true rfl⟩, Nat.le_of_ble_eq_true rfl⟩ [0, 2, 3, 4, 5, 6] rfl rfl 0 rfl rfl rfl rfl rfl rfl rfl rfl rfl rfl dX1_bestPlace_40 ?_
          refine z_istore (lv' := [some (.ref q0), some (.int (nI c)), some (.ref t0), some (.int ((bst (fun kk => ∀ jj, jj < z → ql (c * 60 + jj) = f (kk + jj)) (fun kk => zb (letF n f (nI kk - nI 1) = qa c) + zb (letF n f (nI (kk + z)) = qb c)) i).1)), some (.int ((bst (fun kk => ∀ jj, jj < z → ql (c * 60 + jj) = f (kk + jj)) (fun kk => zb (letF n f (nI kk - nI 1) = qa c) + zb (letF n f (nI (kk + z)) = qb c)) i).2)), some (.int (nI i)), some (.int (zb (letF n f (nI i - nI 1) = qa c) + zb (letF n f (nI (i + z)) = qb c)))]) hF dX1_bestPlace_43 rfl rfl ?_
          refine z_iload_n hF dX1_bestPlace_45 rfl ?_
          refine z_iconst (v := -1) hF dX1_bestPlace_46 (by decide) ?_
          refine z_ic_eq (tgt := 57) hF dX1_bestPlace_47 (by decide) (fun c_1 => ?_) (fun c_1 => ?_)
          · refine z_iload hF dX1_bestPlace_57 rfl ?_
            refine z_istore_n (lv' := [some (.ref q0), some (.int (nI c)), some (.ref t0), some (.int (nI i)), some (.int ((bst (fun kk => ∀ jj, jj < z → ql (c * 60 + jj) = f (kk + jj)) (fun kk => zb (letF n f (nI kk - nI 1) = qa c) + zb (letF n f (nI (kk + z)) = qb c)) i).2)), some (.int (nI i)), some (.int (zb (letF n f (nI i - nI 1) = qa c) + zb (letF n f (nI (i + z)) = qb c)))]) hF dX1_bestPlace_59 rfl rfl ?_
            refine z_iload hF dX1_bestPlace_60 rfl ?_
            refine z_istore (lv' := [some (.ref q0), some (.int (nI c)), some (.ref t0), some (.int (nI i)), some (.int (zb (letF n f (nI i - nI 1) = qa c) + zb (letF n f (nI (i + z)) = qb c))), some (.int (nI i)), some (.int (zb (letF n f (nI i - nI 1) = qa c) + zb (letF n f (nI (i + z)) = qb c)))]) hF dX1_bestPlace_62 rfl rfl ?_
            refine z_iinc (v := nI (i + 1)) (lv' := [some (.ref q0), some (.int (nI c)), some (.ref t0), some (.int (nI i)), some (.int (zb (letF n f (nI i - nI 1) = qa c) + zb (letF n f (nI (i + z)) = qb c))), some (.int (nI (i + 1))), some (.int (zb (letF n f (nI i - nI 1) = qa c) + zb (letF n f (nI (i + z)) = qb c)))]) hF dX1_bestPlace_64 rfl (nI_1 i) rfl rfl ?_
            refine z_goto (tgt := 8) hF dX1_bestPlace_67 (by decide) ?_
            refine z_lv (lv' := [some (.ref q0), some (.int (nI c)), some (.ref t0), some (.int ((bst (fun kk => ∀ jj, jj < z → ql (c * 60 + jj) = f (kk + jj)) (fun kk => zb (letF n f (nI kk - nI 1) = qa c) + zb (letF n f (nI (kk + z)) = qb c)) (i + 1)).1)), some (.int (zb (letF n f (nI i - nI 1) = qa c) + zb (letF n f (nI (i + z)) = qb c))), some (.int (nI (i + 1))), some (.int (zb (letF n f (nI i - nI 1) = qa c) + zb (letF n f (nI (i + z)) = qb c)))]) (by rw [bst_t (k := i) hs (by grind)]) ?_
            refine z_lv (lv' := [some (.ref q0), some (.int (nI c)), some (.ref t0), some (.int ((bst (fun kk => ∀ jj, jj < z → ql (c * 60 + jj) = f (kk + jj)) (fun kk => zb (letF n f (nI kk - nI 1) = qa c) + zb (letF n f (nI (kk + z)) = qb c)) (i + 1)).1)), some (.int ((bst (fun kk => ∀ jj, jj < z → ql (c * 60 + jj) = f (kk + jj)) (fun kk => zb (letF n f (nI kk - nI 1) = qa c) + zb (letF n f (nI (kk + z)) = qb c)) (i + 1)).2)), some (.int (nI (i + 1))), some (.int (zb (letF n f (nI i - nI 1) = qa c) + zb (letF n f (nI (i + z)) = qb c)))]) (by rw [bst_t (k := i) hs (by grind)]) ?_
            refine z_forget (lv' := [some (.ref q0), some (.int (nI c)), some (.ref t0), some (.int ((bst (fun kk => ∀ jj, jj < z → ql (c * 60 + jj) = f (kk + jj)) (fun kk => zb (letF n f (nI kk - nI 1) = qa c) + zb (letF n f (nI (kk + z)) = qb c)) (i + 1)).1)), some (.int ((bst (fun kk => ∀ jj, jj < z → ql (c * 60 + jj) = f (kk + jj)) (fun kk => zb (letF n f (nI kk - nI 1) = qa c) + zb (letF n f (nI (kk + z)) = qb c)) (i + 1)).2)), some (.int (nI (i + 1))), none]) ⟨rfl, ⟨rfl, ⟨rfl, ⟨rfl, ⟨rfl, ⟨rfl, trivial⟩⟩⟩⟩⟩⟩ ?_
            exact ih (i + 1) (by omega) (by omega)
          · refine z_iload hF dX1_bestPlace_50 rfl ?_
            refine z_iload hF dX1_bestPlace_52 rfl ?_
            refine z_ic_le (tgt := 64) hF dX1_bestPlace_54 (by decide) (fun c_2 => ?_) (fun c_2 => ?_)
            · refine z_iinc (v := nI (i + 1)) (lv' := [some (.ref q0), some (.int (nI c)), some (.ref t0), some (.int ((bst (fun kk => ∀ jj, jj < z → ql (c * 60 + jj) = f (kk + jj)) (fun kk => zb (letF n f (nI kk - nI 1) = qa c) + zb (letF n f (nI (kk + z)) = qb c)) i).1)), some (.int ((bst (fun kk => ∀ jj, jj < z → ql (c * 60 + jj) = f (kk + jj)) (fun kk => zb (letF n f (nI kk - nI 1) = qa c) + zb (letF n f (nI (kk + z)) = qb c)) i).2)), some (.int (nI (i + 1))), some (.int (zb (letF n f (nI i - nI 1) = qa c) + zb (letF n f (nI (i + z)) = qb c)))]) hF dX1_bestPlace_64 rfl (nI_1 i) rfl rfl ?_
              refine z_goto (tgt := 8) hF dX1_bestPlace_67 (by decide) ?_
              refine z_lv (lv' := [some (.ref q0), some (.int (nI c)), some (.ref t0), some (.int ((bst (fun kk => ∀ jj, jj < z → ql (c * 60 + jj) = f (kk + jj)) (fun kk => zb (letF n f (nI kk - nI 1) = qa c) + zb (letF n f (nI (kk + z)) = qb c)) (i + 1)).1)), some (.int ((bst (fun kk => ∀ jj, jj < z → ql (c * 60 + jj) = f (kk + jj)) (fun kk => zb (letF n f (nI kk - nI 1) = qa c) + zb (letF n f (nI (kk + z)) = qb c)) i).2)), some (.int (nI (i + 1))), some (.int (zb (letF n f (nI i - nI 1) = qa c) + zb (letF n f (nI (i + z)) = qb c)))]) (by rw [bst_f (k := i) (by grind)]) ?_
              refine z_lv (lv' := [some (.ref q0), some (.int (nI c)), some (.ref t0), some (.int ((bst (fun kk => ∀ jj, jj < z → ql (c * 60 + jj) = f (kk + jj)) (fun kk => zb (letF n f (nI kk - nI 1) = qa c) + zb (letF n f (nI (kk + z)) = qb c)) (i + 1)).1)), some (.int ((bst (fun kk => ∀ jj, jj < z → ql (c * 60 + jj) = f (kk + jj)) (fun kk => zb (letF n f (nI kk - nI 1) = qa c) + zb (letF n f (nI (kk + z)) = qb c)) (i + 1)).2)), some (.int (nI (i + 1))), some (.int (zb (letF n f (nI i - nI 1) = qa c) + zb (letF n f (nI (i + z)) = qb c)))]) (by rw [bst_f (k := i) (by grind)]) ?_
              refine z_forget (lv' := [some (.ref q0), some (.int (nI c)), some (.ref t0), some (.int ((bst (fun kk => ∀ jj, jj < z → ql (c * 60 + jj) = f (kk + jj)) (fun kk => zb (letF n f (nI kk - nI 1) = qa c) + zb (letF n f (nI (kk + z)) = qb c)) (i + 1)).1)), some (.int ((bst (fun kk => ∀ jj, jj < z → ql (c * 60 + jj) = f (kk + jj)) (fun kk => zb (letF n f (nI kk - nI 1) = qa c) + zb (letF n f (nI (kk + z)) = qb c)) (i + 1)).2)), some (.int (nI (i + 1))), none]) ⟨rfl, ⟨rfl, ⟨rfl, ⟨rfl, ⟨rfl, ⟨rfl, trivial⟩⟩⟩⟩⟩⟩ ?_
              exact ih (i + 1) (by omega) (by omega)
            · refine z_iload hF dX1_bestPlace_57 rfl ?_
              refine z_istore_n (lv' := [some (.ref q0), some (.int (nI c)), some (.ref t0), some (.int (nI i)), some (.int ((bst (fun kk => ∀ jj, jj < z → ql (c * 60 + jj) = f (kk + jj)) (fun kk => zb (letF n f (nI kk - nI 1) = qa c) + zb (letF n f (nI (kk + z)) = qb c)) i).2)), some (.int (nI i)), some (.int (zb (letF n f (nI i - nI 1) = qa c) + zb (letF n f (nI (i + z)) = qb c)))]) hF dX1_bestPlace_59 rfl rfl ?_
              refine z_iload hF dX1_bestPlace_60 rfl ?_
              refine z_istore (lv' := [some (.ref q0), some (.int (nI c)), some (.ref t0), some (.int (nI i)), some (.int (zb (letF n f (nI i - nI 1) = qa c) + zb (letF n f (nI (i + z)) = qb c))), some (.int (nI i)), some (.int (zb (letF n f (nI i - nI 1) = qa c) + zb (letF n f (nI (i + z)) = qb c)))]) hF dX1_bestPlace_62 rfl rfl ?_
              refine z_iinc (v := nI (i + 1)) (lv' := [some (.ref q0), some (.int (nI c)), some (.ref t0), some (.int (nI i)), some (.int (zb (letF n f (nI i - nI 1) = qa c) + zb (letF n f (nI (i + z)) = qb c))), some (.int (nI (i + 1))), some (.int (zb (letF n f (nI i - nI 1) = qa c) + zb (letF n f (nI (i + z)) = qb c)))]) hF dX1_bestPlace_64 rfl (nI_1 i) rfl rfl ?_
              refine z_goto (tgt := 8) hF dX1_bestPlace_67 (by decide) ?_
              refine z_lv (lv' := [some (.ref q0), some (.int (nI c)), some (.ref t0), some (.int ((bst (fun kk => ∀ jj, jj < z → ql (c * 60 + jj) = f (kk + jj)) (fun kk => zb (letF n f (nI kk - nI 1) = qa c) + zb (letF n f (nI (kk + z)) = qb c)) (i + 1)).1)), some (.int (zb (letF n f (nI i - nI 1) = qa c) + zb (letF n f (nI (i + z)) = qb c))), some (.int (nI (i + 1))), some (.int (zb (letF n f (nI i - nI 1) = qa c) + zb (letF n f (nI (i + z)) = qb c)))]) (by rw [bst_t (k := i) hs (by grind)]) ?_
              refine z_lv (lv' := [some (.ref q0), some (.int (nI c)), some (.ref t0), some (.int ((bst (fun kk => ∀ jj, jj < z → ql (c * 60 + jj) = f (kk + jj)) (fun kk => zb (letF n f (nI kk - nI 1) = qa c) + zb (letF n f (nI (kk + z)) = qb c)) (i + 1)).1)), some (.int ((bst (fun kk => ∀ jj, jj < z → ql (c * 60 + jj) = f (kk + jj)) (fun kk => zb (letF n f (nI kk - nI 1) = qa c) + zb (letF n f (nI (kk + z)) = qb c)) (i + 1)).2)), some (.int (nI (i + 1))), some (.int (zb (letF n f (nI i - nI 1) = qa c) + zb (letF n f (nI (i + z)) = qb c)))]) (by rw [bst_t (k := i) hs (by grind)]) ?_
              refine z_forget (lv' := [some (.ref q0), some (.int (nI c)), some (.ref t0), some (.int ((bst (fun kk => ∀ jj, jj < z → ql (c * 60 + jj) = f (kk + jj)) (fun kk => zb (letF n f (nI kk - nI 1) = qa c) + zb (letF n f (nI (kk + z)) = qb c)) (i + 1)).1)), some (.int ((bst (fun kk => ∀ jj, jj < z → ql (c * 60 + jj) = f (kk + jj)) (fun kk => zb (letF n f (nI kk - nI 1) = qa c) + zb (letF n f (nI (kk + z)) = qb c)) (i + 1)).2)), some (.int (nI (i + 1))), none]) ⟨rfl, ⟨rfl, ⟨rfl, ⟨rfl, ⟨rfl, ⟨rfl, trivial⟩⟩⟩⟩⟩⟩ ?_
              exact ih (i + 1) (by omega) (by omega)
  exact J_8 ((n + 1 - z - 0) + 1) 0 (Nat.lt_succ_self _) (by omega)
end
