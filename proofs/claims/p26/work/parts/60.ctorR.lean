/-! calls of the constructors -/
theorem z_wsx {G : zG} {X : zT} {pc cells slots : Nat} {ws ws' : va_W} {lv : List (Option Value)} {st : List Value} (h : ws = ws') (kk : zJ G X pc ws' lv st cells slots) : zJ G X pc ws lv st cells slots := h ▸ kk
section ZKC
variable {p : Program} {l : Launch} {e : Env} {R : Room} {s : State} {m : MethodId} {args : Array Value} {below : List Frame} {meth : Method} {c : Code} {H H0 : Heap} {locs : List Loc} {cells slots mc ms pc : Nat} {Q : State → Prop} {ls : Array Slot} {st0 rest : List Value} {a : Array Value} {A0 A1 free : Nat → Prop} {G : zG} {w1 : (Nat → Nat) → va_W}
theorem zrunK (hr : va_Run p l e R s m args below meth c H locs cells slots mc ms (F0 m pc ls st0) rest (zQK G w1 A1 a) free) (hS : va_S A0 H0 H locs) (hA : ∀ q, A1 q → A0 q) (hf : ∀ q, free q → A0 q)
    (kk : ∀ (H1 : Heap) (locs1 : List Loc) (ad : Nat → Nat), va_P G.2.1 vwCl (w1 ad) H1 → va_D A1 (w1 ad) → (∀ q : Nat, q < H.size → ¬ A1 q → H1[q]? = H[q]?) → va_S A0 H0 H1 locs1 → W p l e R s m args below meth c H1 locs1 (cells + mc) (slots + ms) Q (F0 m (pc + 3) ls rest)) : W p l e R s m args below meth c H locs cells slots Q (F0 m pc ls st0) := by
  intro T hT X
  obtain ⟨v, st₀, t, T', L, h0, X', hL, e1, e2, ⟨⟨hv, ad, hb, hd⟩, hz, hk⟩, st⟩ := hr T hT X
  cases hv
  rw [h0] at hz hk
  obtain ⟨t2, a1, b1⟩ := kk T'.heap (locs ++ L) ad (by rw [e1]; exact hb) hd (fun q h1 h2 => by rw [e1]; exact hk q h1 h2)
    ⟨Nat.le_trans hS.1 (by rw [e1]; exact hz), fun q h1 h2 => by rw [e1, hk q (Nat.lt_of_lt_of_le h1 hS.1) (fun z => h2 (hA q z))]; exact hS.2.1 q h1 h2, fun q hq => by
      rcases List.mem_append.mp hq with h | h
      · exact hS.2.2 q h
      · exact hf _ (hL q h)⟩ T' rfl X'
  exact ⟨t2, st t2 a1, b1⟩
end ZKC
section ZKD
variable {G : zG} {X : zT} {R : Room} {cc : ByteArray} {Ts : List Cond} {own : String} {pc cells slots : Nat} {ws ws' : va_W} {lv : List (Option Value)} {st : List Value}
variable {y : MethodName} {index maxL mc ms b : Nat} {bytes : ByteArray} {wsy ws2 : List Cond} {rm : Room} {rest : List Value} {wc wr : va_W} {w1 : (Nat → Nat) → va_W}
/-- the call of a nest mate's constructor without arguments -/
theorem z_KN (hF : zF G X R cc Ts own) (hM : zK G y wsy rm [.ref b] wc w1 mc ms) (hg : GoodIn Ts wsy) (hnm : (own, index, y) ∈ zNM) (hini : zH X (.initialized y.cls)) (hins : zH X (.instanceMethod y)) (hy1 : y.name = "<init>") (hwy : wsy = Cond.code y bytes maxL none :: ws2) (hrc : rm.cells = mc) (hrs : rm.slots = ms) (hd : y.cls ≠ "java/lang/invoke/MethodHandle" ∧ y.cls ≠ "java/lang/invoke/VarHandle" ∧ (parseMethodDescriptor y.desc).map (fun d => d.parameters.length) = some 0) (hR : (rm.frames + 1 ≤ R.frames ∧ 8 + (maxL + 11) + rm.locals ≤ R.locals) ∧ (cells + mc ≤ R.cells ∧ slots + ms ≤ R.slots) ∧ (rest.map fun v => v.category).sum ≤ 8) (isC isR : List Nat) (hC : isC.map (fun i => ws[i]?) = wc.map some) (hnd : va_nd isC = true) (hRr : isR.map (fun i => ws[i]?) = wr.map some) (hnR : va_nd isR = true) (hdis : ∀ i ∈ isR, i ∉ isC) {c2 s2 : Nat} (hc2 : cells + mc = c2) (hs2 : slots + ms = s2) (hdg : decode cc pc = .ok (.invokespecial index, 3))
    (kk : ∀ ad : Nat → Nat, zJ G X (pc + 3) (wr ++ w1 ad) lv rest c2 s2) : zJ G X pc ws lv (.ref b :: rest) cells slots := by
  obtain ⟨p, l, e, R', s, m, args, below, meth, c, Q, A, n9⟩ := X
  obtain ⟨rfl, rfl, hfl, ⟨hx, hb, hml, hown, hts⟩, hE, hA⟩ := hF
  intro H locs ls hP hD hS hl
  subst hc2; subst hs2
  have hPc := zsubP hP hC
  have hDc := (hD.sub isC hnd hC).weaken (B := fun _ => True) (fun _ _ _ _ => trivial)
  have hf := va_free hD hS hA isC hC
  refine zrunK (va_runIN (As := []) (rest := rest) ⟨hx, hb, hml, hown, hts⟩ (hM hfl H.size) ⟨va_cnB 0 hts hg hwy hrc hrs (hE.2.1.2.1 _ hnm) hini hd hR.1, hy1, hins⟩ ⟨zPre.blind, zPreU hE hS hPc hDc hf⟩ rfl rfl hl.1 rfl (lv_room hR.2.2) hdg hR.2.1) hS hf hf (fun H1 locs1 ad h1 hd1 h2 h3 => ?_)
  obtain ⟨hP2, hD2⟩ := va_join hP hD isC isR hC hRr hnR hdis h2 hf h1 hd1
  exact kk ad H1 locs1 ls hP2 hD2 h3 hl
/-- the call of another class' constructor without arguments -/
theorem z_KI (hF : zF G X R cc Ts own) (hM : zK G y wsy rm [.ref b] wc w1 mc ms) (hg : GoodIn Ts wsy) (hlink : zH X (.methodLink own index y)) (hini : zH X (.initialized y.cls)) (hins : zH X (.instanceMethod y)) (hy1 : y.name = "<init>") (hwy : wsy = Cond.code y bytes maxL none :: ws2) (hrc : rm.cells = mc) (hrs : rm.slots = ms) (hd : y.cls ≠ "java/lang/invoke/MethodHandle" ∧ y.cls ≠ "java/lang/invoke/VarHandle" ∧ (parseMethodDescriptor y.desc).map (fun d => d.parameters.length) = some 0) (hR : (rm.frames + 1 ≤ R.frames ∧ 8 + (maxL + 11) + rm.locals ≤ R.locals) ∧ (cells + mc ≤ R.cells ∧ slots + ms ≤ R.slots) ∧ (rest.map fun v => v.category).sum ≤ 8) (isC isR : List Nat) (hC : isC.map (fun i => ws[i]?) = wc.map some) (hnd : va_nd isC = true) (hRr : isR.map (fun i => ws[i]?) = wr.map some) (hnR : va_nd isR = true) (hdis : ∀ i ∈ isR, i ∉ isC) {c2 s2 : Nat} (hc2 : cells + mc = c2) (hs2 : slots + ms = s2) (hdg : decode cc pc = .ok (.invokespecial index, 3))
    (kk : ∀ ad : Nat → Nat, zJ G X (pc + 3) (wr ++ w1 ad) lv rest c2 s2) : zJ G X pc ws lv (.ref b :: rest) cells slots := by
  obtain ⟨p, l, e, R', s, m, args, below, meth, c, Q, A, n9⟩ := X
  obtain ⟨rfl, rfl, hfl, ⟨hx, hb, hml, hown, hts⟩, hE, hA⟩ := hF
  intro H locs ls hP hD hS hl
  subst hc2; subst hs2
  have hPc := zsubP hP hC
  have hDc := (hD.sub isC hnd hC).weaken (B := fun _ => True) (fun _ _ _ _ => trivial)
  have hf := va_free hD hS hA isC hC
  refine zrunK (va_runI (As := []) (rest := rest) ⟨hx, hb, hml, hown, hts⟩ (hM hfl H.size) (cwI 0 hts hg hwy hrc hrs hini hlink hins hy1 hd hR.1) ⟨zPre.blind, zPreU hE hS hPc hDc hf⟩ rfl rfl hl.1 rfl (lv_room hR.2.2) hdg hR.2.1) hS hf hf (fun H1 locs1 ad h1 hd1 h2 h3 => ?_)
  obtain ⟨hP2, hD2⟩ := va_join hP hD isC isR hC hRr hnR hdis h2 hf h1 hd1
  exact kk ad H1 locs1 ls hP2 hD2 h3 hl
end ZKD
