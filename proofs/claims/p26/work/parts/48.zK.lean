/-! a contract of an <init> that makes new cells -/
def zQK (G : zG) (w1 : (Nat → Nat) → va_W) (A : Nat → Prop) : Array Value → State → Outcome → State → Prop := fun _ st oc t => (oc = .returned none ∧ ∃ ad : Nat → Nat, va_P G.2.1 vwCl (w1 ad) t.heap ∧ va_D A (w1 ad)) ∧ va_F A st t
def zK (G : zG) (y : MethodName) (wsy : List Cond) (rm : Room) (av : List Value) (wc : va_W) (w1 : (Nat → Nat) → va_W) (mc ms : Nat) : Prop :=
  G.1.stackTraces = false → ∀ sz, Met G.1 y wsy rm (va_Pc av (zPre G wc sz)) (zQK G w1 (va_A wc sz)) mc ms (va_A wc sz)
/-- how an <init> ends: its cells w1 at some addresses -/
def zRK (G : zG) (X : zT) (cc : ByteArray) (w1 : (Nat → Nat) → va_W) (mc ms : Nat) : Prop :=
  ∀ (ad : Nat → Nat) (pc : Nat) (lv : List (Option Value)) (cells slots : Nat), cells ≤ mc → slots ≤ ms → decode cc pc = .ok (.return_, 1) → zJ G X pc (w1 ad) lv [] cells slots
set_option maxHeartbeats 2000000 in
theorem zK.ofV {G : zG} {y : MethodName} {wsy ws' : List Cond} {rm : Room} {cc : ByteArray} {maxL mc ms : Nat} {av : List Value} {wc : va_W} {w1 : (Nat → Nat) → va_W} {own : String} (ho : y.cls = own) (hy : plainName y.cls = true) (hyn : y.name = "<init>") (hw : wsy = Cond.code y cc maxL none :: ws') (hav : ∀ v ∈ av, v.category = 1) (hlen : av.length ≤ maxL)
    (body : ∀ X : zT, zF G X rm cc wsy own → zI X → zRK G X cc w1 mc ms → zJ G X 0 wc (zlv av maxL) [] 0 0) : zK G y wsy rm av wc w1 mc ms := by
  subst ho
  intro hfl sz
  refine Met.ofW (cc := cc) (maxL := maxL) (ret := none) hy hw ?_
  intro p e s m args below meth c s₁ B hml hv
  obtain ⟨rfl, hsz, hP, hD0, hE⟩ := hv
  have hx := B.exec
  have hb := B.bytes
  have hr := B.returns
  have hts := atoms_spec (ws := wsy) B.pre
  have hown := findClass_of_methodNamed B.named
  have hin : meth.name = "<init>" := (name_of_methodNamed B.named B.method).1.trans hyn
  subst hsz
  have hD := hD0.self (sz := s.heap.size)
  have key := body (p, G.1, e, (headSpec wsy rm).room, s, m, av.toArray, below, meth, c, MQ below (zQK G w1 (va_A wc s.heap.size)) av.toArray s mc ms (va_A wc s.heap.size), va_A wc s.heap.size, maxL) ⟨rfl, rfl, hfl, ⟨hx, hb, hml, hown, hts⟩, hE, fun q h => Or.inr h⟩ hin ?_
  · rw [lg_entry_eq]
    exact key s.heap [] _ hP hD va_S.rf (zh_entry hav hlen)
  · intro ad pc lv cells slots hc hs d H locs ls hP hD hS hl
    refine W.widen hc hs ?_
    exact W.vret hx hb hr (fun t ht hW => ⟨⟨rfl, ad, by rw [ht]; exact hP, hD⟩, hS.F ht⟩) hS.2.2 d
