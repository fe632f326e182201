/-! calls and throws on zJ -/
theorem zPreU {G : zG} {A : Nat → Prop} {s : State} {H : Heap} {locs : List Loc} {wc : va_W} {av : List Value} (hE : zE G A s s.heap) (hS : va_S A s.heap H locs) (hPc : va_P G.2.1 vwCl wc H) (hDc : va_D (fun _ => True) wc) (hf : ∀ q, va_A wc H.size q → A q) : ∀ U : State, U.heap = H → s.WarmedH U.vm → va_Pc av (zPre G wc H.size) av.toArray U :=
  fun U hU hW => ⟨rfl, by rw [hU], by rw [hU]; exact hPc, hDc, by rw [hU]; exact zE.call hE hS hf hW⟩
section ZC
variable {p : Program} {l : Launch} {e : Env} {R : Room} {s : State} {m : MethodId} {args : Array Value} {below : List Frame} {meth : Method} {c : Code} {H H0 : Heap} {locs : List Loc} {cells slots mc ms pc : Nat} {Q : State → Prop} {ls : Array Slot} {st0 rest : List Value} {a : Array Value} {A0 A1 free : Nat → Prop} {G : zG} {o : Option Value} {w1 wc : va_W} {code : Nat}
theorem zrunM (hr : va_Run p l e R s m args below meth c H locs cells slots mc ms (F0 m pc ls st0) rest (zQ G o w1 A1 a) free) (hS : va_S A0 H0 H locs) (hA : ∀ q, A1 q → A0 q) (hf : ∀ q, free q → A0 q)
    (kk : ∀ (H1 : Heap) (locs1 : List Loc), va_P G.2.1 vwCl w1 H1 → (∀ q : Nat, q < H.size → ¬ A1 q → H1[q]? = H[q]?) → va_S A0 H0 H1 locs1 → W p l e R s m args below meth c H1 locs1 (cells + mc) (slots + ms) Q (F0 m (pc + 3) ls (o.toList ++ rest))) : W p l e R s m args below meth c H locs cells slots Q (F0 m pc ls st0) := by
  intro T hT X
  obtain ⟨v, st₀, t, T', L, h0, X', hL, e1, e2, ⟨⟨hv, hb⟩, hz, hk⟩, st⟩ := hr T hT X
  cases hv
  rw [h0] at hz hk
  obtain ⟨t2, a1, b1⟩ := kk T'.heap (locs ++ L) (by rw [e1]; exact hb) (fun q h1 h2 => by rw [e1]; exact hk q h1 h2)
    ⟨Nat.le_trans hS.1 (by rw [e1]; exact hz), fun q h1 h2 => by rw [e1, hk q (Nat.lt_of_lt_of_le h1 hS.1) (fun z => h2 (hA q z))]; exact hS.2.1 q h1 h2, fun q hq => by
      rcases List.mem_append.mp hq with h | h
      · exact hS.2.2 q h
      · exact hf _ (hL q h)⟩ T' rfl X'
  exact ⟨t2, st t2 a1, b1⟩
theorem zrunX (hr : vx_Run p l e R s m args below meth c H locs cells slots mc ms (F0 m pc ls st0) rest (zQx G code o w1 A1 a) (zXC G code wc A1) free) (hS : va_S A0 H0 H locs) (hA : ∀ q, A1 q → A0 q) (hf : ∀ q, free q → A0 q)
    (kx : code ≠ 0 → ∀ (q : Addr) (ce : Cell) (H1 : Heap) (locs1 : List Loc), va_P G.2.1 vwCl wc H1 → (∀ q : Nat, q < H.size → ¬ A1 q → H1[q]? = H[q]?) → va_S A0 H0 H1 locs1 → H1[q]? = some ce → ce.vm = .none → s.vm.findClass (zEx code) = some ce.cls → vx_W p l e R s m args below meth c H1 locs1 (cells + mc) (slots + ms) Q (F0 m pc ls rest) q)
    (kk : code = 0 → ∀ (H1 : Heap) (locs1 : List Loc), va_P G.2.1 vwCl w1 H1 → (∀ q : Nat, q < H.size → ¬ A1 q → H1[q]? = H[q]?) → va_S A0 H0 H1 locs1 → W p l e R s m args below meth c H1 locs1 (cells + mc) (slots + ms) Q (F0 m (pc + 3) ls (o.toList ++ rest))) : W p l e R s m args below meth c H locs cells slots Q (F0 m pc ls st0) := by
  intro T hT X
  rcases hr T hT X with ⟨v, st₀, t, T', L, h0, X', hL, e1, e2, ⟨⟨hc, hv, hb⟩, hF⟩, st⟩ | ⟨q, st₀, t, T', L, E, ce, h0, X', hL, e1, e2, ⟨⟨hc, hE, hb⟩, hF⟩, hce, hcv, hcl, st⟩
  · cases hv
    obtain ⟨k1, k2, k3⟩ := vx_keep h0 e1 hS (fun q _ z => hA q z) hf hL hF
    obtain ⟨t2, a1, b1⟩ := kk hc T'.heap (locs ++ L) (by rw [e1]; exact hb) k2 k3 T' rfl X'
    exact ⟨t2, st t2 a1, b1⟩
  · subst hE
    obtain ⟨k1, k2, k3⟩ := vx_keep h0 e1 hS (fun q _ z => hA q z) hf hL hF
    obtain ⟨t2, a1, b1⟩ := kx hc q ce T'.heap (locs ++ L) (by rw [e1]; exact hb) k2 k3 (by rw [e1]; exact hce) hcv hcl T' rfl X'
    exact ⟨t2, st.trans a1, b1⟩
end ZC
section ZD
variable {G : zG} {X : zT} {R : Room} {cc : ByteArray} {Ts : List Cond} {own : String} {pc cells slots : Nat} {ws ws' : va_W} {lv : List (Option Value)} {st : List Value}
variable {y : MethodName} {C : String} {T : u_T} {N index maxL n mc ms ci b : Nat} {bytes : ByteArray} {ret : Option FieldType} {wsy ws2 : List Cond} {rm : Room} {As rest : List Value} {wc w1 : va_W} {o : Option Value} {fs : List Value} {code : Nat}
theorem z_V (hF : zF G X R cc Ts own) (hM : zM G y wsy rm (.ref b :: As) wc w1 o mc ms) (hg : GoodIn Ts (wsV own index C y wsy)) (hwy : wsy = Cond.code y bytes maxL ret :: ws2) (hrc : rm.cells = mc) (hrs : rm.slots = ms) (hd : y.cls = C ∧ y.cls ≠ "java/lang/invoke/MethodHandle" ∧ y.cls ≠ "java/lang/invoke/VarHandle" ∧ (parseMethodDescriptor y.desc).map (fun d => d.parameters.length) = some n) (hR : (rm.frames + 1 ≤ R.frames ∧ 8 + (maxL + 11) + rm.locals ≤ R.locals) ∧ (cells + mc ≤ R.cells ∧ slots + ms ≤ R.slots) ∧ (rest.map fun v => v.category).sum ≤ 8) (isC : List Nat) (hC : isC.map (fun i => ws[i]?) = wc.map some) (hnd : va_nd isC = true) (k0 : Nat) (hk0 : wc[k0]? = some (b, .inr (ci, fs))) (hci : vwCl[ci]? = some (C, T, N)) (hlen : As.length = n) (hst : st = As.reverse ++ .ref b :: rest) (hl1 : isC.length = w1.length) (hset : zset ws isC w1 = ws') (hfst : ws'.map Prod.fst = ws.map Prod.fst) {st2 : List Value} (hst2 : o.toList ++ rest = st2) {c2 s2 : Nat} (hc2 : cells + mc = c2) (hs2 : slots + ms = s2) (hdg : decode cc pc = .ok (.invokevirtual index, 3))
    (kk : zJ G X (pc + 3) ws' lv st2 c2 s2) : zJ G X pc ws lv st cells slots := by
  obtain ⟨p, l, e, R', s, m, args, below, meth, c, Q, A, n9⟩ := X
  obtain ⟨rfl, rfl, hfl, ⟨hx, hb, hml, hown, hts⟩, hE, hA⟩ := hF
  intro H locs ls hP hD hS hl
  subst hst; subst hst2; subst hc2; subst hs2
  have hPc := zsubP hP hC
  have hDc := (hD.sub isC hnd hC).weaken (B := fun _ => True) (fun _ _ _ _ => trivial)
  have hf := va_free hD hS hA isC hC
  exact zrunM (va_runV (As := As) (rest := rest) ⟨hx, hb, hml, hown, hts⟩ (hM hfl H.size) (cwV n hts hg hwy hrc hrs hd hR.1) ⟨zPre.blind, va_recv hE.1 hPc hci hk0, zPreU hE hS hPc hDc hf⟩ rfl hlen hl.1 rfl (lv_room hR.2.2) hdg hR.2.1) hS hf hf (fun H1 locs1 h1 h2 h3 => kk H1 locs1 ls (zmerge hP hD hC h2 h1 hl1 hset) (zfst hfst hD) h3 hl)
theorem z_S (hF : zF G X R cc Ts own) (hM : zM G y wsy rm As wc w1 o mc ms) (hg : GoodIn Ts (va_wsS own index y wsy)) (hwy : wsy = Cond.code y bytes maxL ret :: ws2) (hrc : rm.cells = mc) (hrs : rm.slots = ms) (hd : y.cls ≠ "java/lang/invoke/MethodHandle" ∧ y.cls ≠ "java/lang/invoke/VarHandle" ∧ (parseMethodDescriptor y.desc).map (fun d => d.parameters.length) = some n) (hR : (rm.frames + 1 ≤ R.frames ∧ 8 + (maxL + 11) + rm.locals ≤ R.locals) ∧ (cells + mc ≤ R.cells ∧ slots + ms ≤ R.slots) ∧ (rest.map fun v => v.category).sum ≤ 8) (isC : List Nat) (hC : isC.map (fun i => ws[i]?) = wc.map some) (hnd : va_nd isC = true)  (hlen : As.length = n) (hst : st = As.reverse ++ rest) (hl1 : isC.length = w1.length) (hset : zset ws isC w1 = ws') (hfst : ws'.map Prod.fst = ws.map Prod.fst) {st2 : List Value} (hst2 : o.toList ++ rest = st2) {c2 s2 : Nat} (hc2 : cells + mc = c2) (hs2 : slots + ms = s2) (hdg : decode cc pc = .ok (.invokestatic index, 3))
    (kk : zJ G X (pc + 3) ws' lv st2 c2 s2) : zJ G X pc ws lv st cells slots := by
  obtain ⟨p, l, e, R', s, m, args, below, meth, c, Q, A, n9⟩ := X
  obtain ⟨rfl, rfl, hfl, ⟨hx, hb, hml, hown, hts⟩, hE, hA⟩ := hF
  intro H locs ls hP hD hS hl
  subst hst; subst hst2; subst hc2; subst hs2
  have hPc := zsubP hP hC
  have hDc := (hD.sub isC hnd hC).weaken (B := fun _ => True) (fun _ _ _ _ => trivial)
  have hf := va_free hD hS hA isC hC
  exact zrunM (va_runS (As := As) (rest := rest) ⟨hx, hb, hml, hown, hts⟩ (hM hfl H.size) (va_cwS n hts hg hwy hrc hrs hd hR.1) ⟨zPre.blind, zPreU hE hS hPc hDc hf⟩ rfl hlen hl.1 rfl (lv_room hR.2.2) hdg hR.2.1) hS hf hf (fun H1 locs1 h1 h2 h3 => kk H1 locs1 ls (zmerge hP hD hC h2 h1 hl1 hset) (zfst hfst hD) h3 hl)
theorem z_VN (hF : zF G X R cc Ts own) (hM : zM G y wsy rm (.ref b :: As) wc w1 o mc ms) (hg : GoodIn Ts wsy) (hnm : (own, index, y) ∈ zNM) (hini : zH X (.initialized y.cls)) (hins : zH X (.instanceMethod y)) (hsel : zH X (.selects C y y)) (hwy : wsy = Cond.code y bytes maxL ret :: ws2) (hrc : rm.cells = mc) (hrs : rm.slots = ms) (hd : y.cls ≠ "java/lang/invoke/MethodHandle" ∧ y.cls ≠ "java/lang/invoke/VarHandle" ∧ (parseMethodDescriptor y.desc).map (fun d => d.parameters.length) = some n) (hR : (rm.frames + 1 ≤ R.frames ∧ 8 + (maxL + 11) + rm.locals ≤ R.locals) ∧ (cells + mc ≤ R.cells ∧ slots + ms ≤ R.slots) ∧ (rest.map fun v => v.category).sum ≤ 8) (isC : List Nat) (hC : isC.map (fun i => ws[i]?) = wc.map some) (hnd : va_nd isC = true) (k0 : Nat) (hk0 : wc[k0]? = some (b, .inr (ci, fs))) (hci : vwCl[ci]? = some (C, T, N)) (hlen : As.length = n) (hst : st = As.reverse ++ .ref b :: rest) (hl1 : isC.length = w1.length) (hset : zset ws isC w1 = ws') (hfst : ws'.map Prod.fst = ws.map Prod.fst) {st2 : List Value} (hst2 : o.toList ++ rest = st2) {c2 s2 : Nat} (hc2 : cells + mc = c2) (hs2 : slots + ms = s2) (hdg : decode cc pc = .ok (.invokevirtual index, 3))
    (kk : zJ G X (pc + 3) ws' lv st2 c2 s2) : zJ G X pc ws lv st cells slots := by
  obtain ⟨p, l, e, R', s, m, args, below, meth, c, Q, A, n9⟩ := X
  obtain ⟨rfl, rfl, hfl, ⟨hx, hb, hml, hown, hts⟩, hE, hA⟩ := hF
  intro H locs ls hP hD hS hl
  subst hst; subst hst2; subst hc2; subst hs2
  have hPc := zsubP hP hC
  have hDc := (hD.sub isC hnd hC).weaken (B := fun _ => True) (fun _ _ _ _ => trivial)
  have hf := va_free hD hS hA isC hC
  exact zrunM (va_runVN (As := As) (rest := rest) ⟨hx, hb, hml, hown, hts⟩ (hM hfl H.size) ⟨va_cnB n hts hg hwy hrc hrs (hE.2.1.2.1 _ hnm) hini hd hR.1, hins, hsel⟩ ⟨zPre.blind, va_recv hE.1 hPc hci hk0, zPreU hE hS hPc hDc hf⟩ rfl hlen hl.1 rfl (lv_room hR.2.2) hdg hR.2.1) hS hf hf (fun H1 locs1 h1 h2 h3 => kk H1 locs1 ls (zmerge hP hD hC h2 h1 hl1 hset) (zfst hfst hD) h3 hl)
theorem z_SN (hF : zF G X R cc Ts own) (hM : zM G y wsy rm As wc w1 o mc ms) (hg : GoodIn Ts wsy) (hnm : (own, index, y) ∈ zNM) (hini : zH X (.initialized y.cls)) (hsta : zH X (.static y)) (hwy : wsy = Cond.code y bytes maxL ret :: ws2) (hrc : rm.cells = mc) (hrs : rm.slots = ms) (hd : y.cls ≠ "java/lang/invoke/MethodHandle" ∧ y.cls ≠ "java/lang/invoke/VarHandle" ∧ (parseMethodDescriptor y.desc).map (fun d => d.parameters.length) = some n) (hR : (rm.frames + 1 ≤ R.frames ∧ 8 + (maxL + 11) + rm.locals ≤ R.locals) ∧ (cells + mc ≤ R.cells ∧ slots + ms ≤ R.slots) ∧ (rest.map fun v => v.category).sum ≤ 8) (isC : List Nat) (hC : isC.map (fun i => ws[i]?) = wc.map some) (hnd : va_nd isC = true)  (hlen : As.length = n) (hst : st = As.reverse ++ rest) (hl1 : isC.length = w1.length) (hset : zset ws isC w1 = ws') (hfst : ws'.map Prod.fst = ws.map Prod.fst) {st2 : List Value} (hst2 : o.toList ++ rest = st2) {c2 s2 : Nat} (hc2 : cells + mc = c2) (hs2 : slots + ms = s2) (hdg : decode cc pc = .ok (.invokestatic index, 3))
    (kk : zJ G X (pc + 3) ws' lv st2 c2 s2) : zJ G X pc ws lv st cells slots := by
  obtain ⟨p, l, e, R', s, m, args, below, meth, c, Q, A, n9⟩ := X
  obtain ⟨rfl, rfl, hfl, ⟨hx, hb, hml, hown, hts⟩, hE, hA⟩ := hF
  intro H locs ls hP hD hS hl
  subst hst; subst hst2; subst hc2; subst hs2
  have hPc := zsubP hP hC
  have hDc := (hD.sub isC hnd hC).weaken (B := fun _ => True) (fun _ _ _ _ => trivial)
  have hf := va_free hD hS hA isC hC
  exact zrunM (va_runSN (As := As) (rest := rest) ⟨hx, hb, hml, hown, hts⟩ (hM hfl H.size) ⟨va_cnB n hts hg hwy hrc hrs (hE.2.1.2.1 _ hnm) hini hd hR.1, hsta, trivial⟩ ⟨zPre.blind, zPreU hE hS hPc hDc hf⟩ rfl hlen hl.1 rfl (lv_room hR.2.2) hdg hR.2.1) hS hf hf (fun H1 locs1 h1 h2 h3 => kk H1 locs1 ls (zmerge hP hD hC h2 h1 hl1 hset) (zfst hfst hD) h3 hl)
theorem z_Vx (hF : zF G X R cc Ts own) (hM : zX G y wsy rm (.ref b :: As) wc w1 code o mc ms) (hg : GoodIn Ts (wsV own index C y wsy)) (hwy : wsy = Cond.code y bytes maxL ret :: ws2) (hrc : rm.cells = mc) (hrs : rm.slots = ms) (hd : y.cls = C ∧ y.cls ≠ "java/lang/invoke/MethodHandle" ∧ y.cls ≠ "java/lang/invoke/VarHandle" ∧ (parseMethodDescriptor y.desc).map (fun d => d.parameters.length) = some n) (hR : (rm.frames + 1 ≤ R.frames ∧ 8 + (maxL + 11) + rm.locals ≤ R.locals) ∧ (cells + mc ≤ R.cells ∧ slots + ms ≤ R.slots) ∧ (rest.map fun v => v.category).sum ≤ 8) (isC : List Nat) (hC : isC.map (fun i => ws[i]?) = wc.map some) (hnd : va_nd isC = true) (k0 : Nat) (hk0 : wc[k0]? = some (b, .inr (ci, fs))) (hci : vwCl[ci]? = some (C, T, N)) (hlen : As.length = n) (hst : st = As.reverse ++ .ref b :: rest) (hl1 : isC.length = w1.length) (hset : zset ws isC w1 = ws') (hfst : ws'.map Prod.fst = ws.map Prod.fst) (hl2 : isC.length = wc.length) (hset2 : zset ws isC wc = ws) {st2 : List Value} (hst2 : o.toList ++ rest = st2) {c2 s2 : Nat} (hc2 : cells + mc = c2) (hs2 : slots + ms = s2) (hdg : decode cc pc = .ok (.invokevirtual index, 3))
    (kx : code ≠ 0 → zV G X pc ws lv rest (zEx code) c2 s2)
    (kk : code = 0 → zJ G X (pc + 3) ws' lv st2 c2 s2) : zJ G X pc ws lv st cells slots := by
  obtain ⟨p, l, e, R', s, m, args, below, meth, c, Q, A, n9⟩ := X
  obtain ⟨rfl, rfl, hfl, ⟨hx, hb, hml, hown, hts⟩, hE, hA⟩ := hF
  intro H locs ls hP hD hS hl
  subst hst; subst hst2; subst hc2; subst hs2
  have hPc := zsubP hP hC
  have hDc := (hD.sub isC hnd hC).weaken (B := fun _ => True) (fun _ _ _ _ => trivial)
  have hf := va_free hD hS hA isC hC
  exact zrunX (vx_runV (As := As) (rest := rest) ⟨hx, hb, hml, hown, hts⟩ (hM hfl H.size) (cwV n hts hg hwy hrc hrs hd hR.1) ⟨zPre.blind, va_recv hE.1 hPc hci hk0, zPreU hE hS hPc hDc hf⟩ rfl hlen hl.1 rfl (lv_room hR.2.2) hdg hR.2.1) hS hf hf (fun h0 q ce H1 locs1 h1 h2 h3 h4 h5 h6 => kx h0 H1 locs1 ls q ce (zmerge hP hD hC h2 h1 hl2 hset2) hD h3 hl h4 h5 h6)
    (fun h0 H1 locs1 h1 h2 h3 => kk h0 H1 locs1 ls (zmerge hP hD hC h2 h1 hl1 hset) (zfst hfst hD) h3 hl)
/-- 'throw new E(text)' in a method without a table -/
theorem z_throw (hF : zF G X R cc Ts RX4) {wc : va_W} {mc0 ms0 k ik is ic : Nat} {text : String} (hZ : zZ G X wc code mc0 ms0) (hk : zH X (.classLink RX4 ik (zEx k))) (hini : zH X (.initialized (zEx k))) (hstr : (is, text) ∈ zST) (hat : ∀ w ∈ (vx_atS RX4 ic (zEx k) [zRun, zExc]).filter goodWord, w ∈ Ts)
    (hcls : Bundle.fit (zEx k) = true) (hbad : ∀ w ∈ (vx_atS RX4 ic (zEx k) [zRun, zExc]).filter (fun w => !goodWord w), w ∈ [Cond.declares (Bundle.initS zRun), Cond.declares (Bundle.initS zExc), Cond.declares (Bundle.initS Bundle.tN), Cond.castable (zEx k) (zEx k)]) (hnc : (zEx k, zEx k) ∈ zNC)
    (hgood : ∀ w ∈ Cond.classLink RX4 ik (zEx k) :: Cond.initialized (zEx k) :: vx_atS RX4 ic (zEx k) [zRun, zExc], vx_ot w = true)
    (d0 : decode cc pc = .ok (.new ik, 3)) (d3 : decode cc (pc + 3) = .ok (.dup, 1)) (d4 : decode cc (pc + 4) = .ok (.ldc is, 2)) (d6 : decode cc (pc + 6) = .ok (.invokespecial ic, 3)) (d9 : decode cc (pc + 9) = .ok (.athrow, 1))
    (hR : 5 < R.frames ∧ (st.map fun v => v.category).sum + 82 ≤ R.locals ∧ cells + 1 ≤ R.cells ∧ slots + 6 ≤ R.slots) (hc : cells + 1 ≤ mc0) (hs : slots + 6 ≤ ms0) (h0 : k ≠ 0) (hcode : code = k) (hw : ws = wc) : zJ G X pc ws lv st cells slots := by
  obtain ⟨p, l, e, R', s, m, args, below, meth, c, Q, A, n9⟩ := X
  obtain ⟨rfl, rfl, hfl, ⟨hx, hb, hml, hown, hts⟩, hE, hA⟩ := hF
  obtain ⟨⟨Qc, rfl⟩, ht, hlk⟩ := hZ
  intro H locs ls hP hD hS hl
  subst hw
  obtain ⟨sa, hsa⟩ := hE.2.1.2.2.1 _ hstr
  have hat2 : ∀ w ∈ vx_atS RX4 ic (zEx k) [zRun, zExc], w.before args s = true := vx_hat (fun w hw => hts w (hat w hw)) hbad
    (vx_c (va_Nw.use rfl (hE.2.1.2.2.2.1 (Bundle.initS zRun) (by decide +kernel))) (vx_c (va_Nw.use rfl (hE.2.1.2.2.2.1 (Bundle.initS zExc) (by decide +kernel))) (vx_c (va_Nw.use rfl (hE.2.1.2.2.2.1 (Bundle.initS Bundle.tN) (by decide +kernel))) (vx_c (va_Nw.use rfl (hE.2.1.2.2.2.2.1 _ hnc)) vx_n))))
  have hfr : ([zRun, zExc] : List String).length + 3 < R.frames := hR.1
  have hlo : (st.map fun v => v.category).sum + (13 * (([zRun, zExc] : List String).length + 1) + 43) ≤ R.locals := hR.2.1
  refine vx_throwS (names := [zRun, zExc]) (A := A) hx hb hfl hown hcls (by decide +kernel) hk hini hsa hat2 hgood hE.2.2.1 hE.2.2.2 hS (hl.1.trans hml.symm) d0 d3 d4 d6 d9 (fun x hx => (ht x hx).elim) hfr hlo hR.2.2.1 hR.2.2.2 hlk (fun t hA2 hz hq => ?_) hS.2.2 hc hs
  refine ⟨⟨by rw [hcode]; exact h0, by rw [hcode], fun j q hj => (hP j q hj).kept (hq _ (hP j q hj).lt)⟩, ⟨Nat.le_trans hS.1 hz, fun q h1 h2 => (hq q (Nat.lt_of_lt_of_le h1 hS.1)).trans (hS.2.1 q h1 h2)⟩⟩
end ZD
