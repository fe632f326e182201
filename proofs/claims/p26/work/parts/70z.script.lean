/-! the law's own body: the script, tables, calls of its wrappers -/
def zSc : zT → Nat → Nat → (Nat → Int32) → Prop
  | (p, l, e, R, s, m, args, below, meth, c, Q, A, n), b, L, zs => va_X b L zs s s.heap ∧ b < s.heap.size ∧ ¬ A b
section ZL
variable {G : zG} {X : zT} {R : Room} {cc : ByteArray} {Ts : List Cond} {own : String} {pc cells slots : Nat} {ws ws' : va_W} {lv : List (Option Value)} {st : List Value}
theorem z_sld (hF : zF G X R cc Ts own) {b L k : Nat} {zs : Nat → Int32} {i x : Int32} (hSc : zSc X b L zs) (hi : i = nI k) (hk : k < L) (hL : L ≤ 2560) (hv : zs k = x) (hdg : decode cc pc = .ok (.iaload, 1))
    (kk : zJ G X (pc + 1) ws lv (.int x :: st) cells slots) : zJ G X pc ws lv (.int i :: .ref b :: st) cells slots := by
  obtain ⟨p, l, e, R', s, m, args, below, meth, c, Q, A, n⟩ := X
  obtain ⟨hX, hbl, hbA⟩ := hSc
  intro H locs ls hP hD hS hl
  subst hi; subst hv
  refine va_sld hF.2.2.2.1.1 hF.2.2.2.1.2.1 hX hbl hbA hS (vp_in_nI hk (by omega)) hdg ?_
  rw [nI_clamp (by omega)]
  exact kk H locs ls hP hD hS hl
theorem z_slen (hF : zF G X R cc Ts own) {b L : Nat} {zs : Nat → Int32} (hSc : zSc X b L zs) (hdg : decode cc pc = .ok (.arraylength, 1))
    (kk : zJ G X (pc + 1) ws lv (.int (nI L) :: st) cells slots) : zJ G X pc ws lv (.ref b :: st) cells slots := by
  obtain ⟨p, l, e, R', s, m, args, below, meth, c, Q, A, n⟩ := X
  obtain ⟨hX, hbl, hbA⟩ := hSc
  intro H locs ls hP hD hS hl
  exact va_slen hF.2.2.2.1.1 hF.2.2.2.1.2.1 hX hbl hbA hS hdg (kk H locs ls hP hD hS hl)
theorem z_eqT (hF : zF G X R cc Ts own) {x y : Int32} {off : Int} {tgt : Nat} (h : x = y) (hdg : decode cc pc = .ok (.if_icmp .eq off, 3)) (ht : (pc : Int) + off = (tgt : Int))
    (kk : zJ G X tgt ws lv st cells slots) : zJ G X pc ws lv (.int y :: .int x :: st) cells slots := z_ic_eq hF hdg ht (fun _ => kk) (fun q => absurd h q)
theorem z_neT (hF : zF G X R cc Ts own) {x : Int32} {off : Int} {tgt : Nat} (h : ¬ x = 0) (hdg : decode cc pc = .ok (.ifCond .ne off, 3)) (ht : (pc : Int) + off = (tgt : Int))
    (kk : zJ G X tgt ws lv st cells slots) : zJ G X pc ws lv (.int x :: st) cells slots := z_if_ne hF hdg ht (fun _ => kk) (fun q => absurd q h)
theorem z_neF (hF : zF G X R cc Ts own) {x : Int32} {off : Int} {tgt : Nat} (h : x = 0) (hdg : decode cc pc = .ok (.ifCond .ne off, 3)) (ht : (pc : Int) + off = (tgt : Int))
    (kk : zJ G X (pc + 3) ws lv st cells slots) : zJ G X pc ws lv (.int x :: st) cells slots := z_if_ne hF hdg ht (fun q => absurd h q) (fun _ => kk)
theorem z_zT (hF : zF G X R cc Ts own) {off : Int} {tgt : Nat} (hdg : decode cc pc = .ok (.ifCond .eq off, 3)) (ht : (pc : Int) + off = (tgt : Int))
    (kk : zJ G X tgt ws lv st cells slots) : zJ G X pc ws lv (.int 0 :: st) cells slots := z_if_eq hF hdg ht (fun _ => kk) (fun q => absurd rfl q)
variable {y : MethodName} {index maxL n mc ms : Nat} {bytes : ByteArray} {ret : Option FieldType} {hh : List (Nat × Nat × Nat × Nat)} {wsy ws2 : List Cond} {rm : Room} {As rest : List Value} {wc w1 : va_W} {o : Option Value}
/-- a static call of a method with a table -/
theorem z_SW (hF : zF G X R cc Ts own) (hM : zM G y wsy rm As wc w1 o mc ms) (hg : GoodIn Ts (va_wsS own index y wsy)) (hwy : wsy = Cond.codeWith y bytes maxL ret hh :: ws2) (hrc : rm.cells = mc) (hrs : rm.slots = ms) (hd : y.cls ≠ "java/lang/invoke/MethodHandle" ∧ y.cls ≠ "java/lang/invoke/VarHandle" ∧ (parseMethodDescriptor y.desc).map (fun d => d.parameters.length) = some n) (hR : (rm.frames + 1 ≤ R.frames ∧ 8 + (maxL + 11) + rm.locals ≤ R.locals) ∧ (cells + mc ≤ R.cells ∧ slots + ms ≤ R.slots) ∧ (rest.map fun v => v.category).sum ≤ 8) (isC : List Nat) (hC : isC.map (fun i => ws[i]?) = wc.map some) (hnd : va_nd isC = true) (hlen : As.length = n) (hst : st = As.reverse ++ rest) (hl1 : isC.length = w1.length) (hset : zset ws isC w1 = ws') (hfst : ws'.map Prod.fst = ws.map Prod.fst) {st2 : List Value} (hst2 : o.toList ++ rest = st2) {c2 s2 : Nat} (hc2 : cells + mc = c2) (hs2 : slots + ms = s2) (hdg : decode cc pc = .ok (.invokestatic index, 3))
    (kk : zJ G X (pc + 3) ws' lv st2 c2 s2) : zJ G X pc ws lv st cells slots := by
  obtain ⟨p, l, e, R', s, m, args, below, meth, c, Q, A, n9⟩ := X
  obtain ⟨rfl, rfl, hfl, ⟨hx, hb, hml, hown, hts⟩, hE, hA⟩ := hF
  intro H locs ls hP hD hS hl
  subst hst; subst hst2; subst hc2; subst hs2
  have hPc := zsubP hP hC
  have hDc := (hD.sub isC hnd hC).weaken (B := fun _ => True) (fun _ _ _ _ => trivial)
  have hf := va_free hD hS hA isC hC
  exact zrunM (vx_runSW (As := As) (rest := rest) ⟨hx, hb, hml, hown, hts⟩ (hM hfl H.size) (vx_cwSW n hts hg hwy hrc hrs hd hR.1) ⟨zPre.blind, zPreU hE hS hPc hDc hf⟩ rfl hlen hl.1 rfl (lv_room hR.2.2) hdg hR.2.1) hS hf hf (fun H1 locs1 h1 h2 h3 => kk H1 locs1 ls (zmerge hP hD hC h2 h1 hl1 hset) (zfst hfst hD) h3 hl)
end ZL
