/-! a method that reads the script -/
def zMs (G : zG) (y : MethodName) (wsy : List Cond) (rm : Room) (av : List Value) (b L : Nat) (zs : Nat → Int32) (o : Option Value) (mc ms : Nat) : Prop :=
  G.1.stackTraces = false → ∀ sz, Met G.1 y wsy rm (va_Pc av (fun U => zPre G [] sz U ∧ va_X b L zs U U.heap ∧ b < sz)) (zQ G o [] (va_A [] sz)) mc ms (va_A [] sz)
theorem zPreS.blind {G : zG} {av : List Value} {b L sz : Nat} {zs : Nat → Int32} : FrameBlind (va_Pc av (fun U => zPre G [] sz U ∧ va_X b L zs U U.heap ∧ b < sz)) := fun a U g mk q => by
  obtain ⟨q0, ⟨q1, q2, q3, q4⟩, q5, q6⟩ := q
  exact ⟨q0, ⟨q1, q2, q3, zE.blind q4⟩, va_X.moved (u := U) (U := U.calling g mk a) (State.WarmedH.refl U).alike q5, q6⟩
set_option maxHeartbeats 2000000 in
theorem zMs.ofI {G : zG} {y : MethodName} {wsy ws' : List Cond} {rm : Room} {cc : ByteArray} {maxL mc ms : Nat} {av : List Value} {b L : Nat} {zs : Nat → Int32} {sp : Int32} {ret : FieldType} {own : String} (ho : y.cls = own) (hy : plainName y.cls = true) (hw : wsy = Cond.code y cc maxL (some ret) :: ws') (hret : narrow ret (.int sp) = .int sp) (hav : ∀ v ∈ av, v.category = 1) (hlen : av.length ≤ maxL)
    (body : ∀ X : zT, zF G X rm cc wsy own → zSc X b L zs → zR G X cc [] (some (.int sp)) mc ms → zJ G X 0 [] (zlv av maxL) [] 0 0) : zMs G y wsy rm av b L zs (some (.int sp)) mc ms := by
  subst ho
  intro hfl sz
  refine Met.ofW (cc := cc) (maxL := maxL) (ret := some ret) hy hw ?_
  intro p e s m args below meth c s₁ B hml hv
  obtain ⟨rfl, ⟨hsz, hP, hD0, hE⟩, hX, hbl⟩ := hv
  have hx := B.exec
  have hb := B.bytes
  have hr := B.returns
  have hts := atoms_spec (ws := wsy) B.pre
  have hown := findClass_of_methodNamed B.named
  have hlocks := B.notSynchronized
  subst hsz
  have hD := hD0.self (sz := s.heap.size)
  have key := body (p, G.1, e, (headSpec wsy rm).room, s, m, av.toArray, below, meth, c, MQ below (zQ G (some (.int sp)) [] (va_A [] s.heap.size)) av.toArray s mc ms (va_A [] s.heap.size), va_A [] s.heap.size, maxL) ⟨rfl, rfl, hfl, ⟨hx, hb, hml, hown, hts⟩, hE, fun q h => Or.inr h⟩ ⟨hX, hbl, fun h => h.elim (fun h => by simp at h) (fun h => absurd hbl (Nat.not_lt.mpr h))⟩ ?_
  · rw [lg_entry_eq]
    exact key s.heap [] _ hP hD va_S.rf (zh_entry hav hlen)
  · intro pc lv cells slots hc hs d H locs ls hP hD hS hl
    refine W.widen hc hs ?_
    exact W.zret hx hb hr hret (fun t ht hW => ⟨⟨rfl, by rw [ht]; exact hP⟩, hS.F ht⟩) hS.2.2 d
section ZMS
variable {G : zG} {X : zT} {R : Room} {cc : ByteArray} {Ts : List Cond} {own : String} {pc cells slots : Nat} {ws ws' : va_W} {lv : List (Option Value)} {st : List Value}
variable {y : MethodName} {index maxL n mc ms : Nat} {bytes : ByteArray} {ret : Option FieldType} {wsy ws2 : List Cond} {rm : Room} {As rest : List Value} {o : Option Value}
theorem z_Sc (hF : zF G X R cc Ts own) {b L : Nat} {zs : Nat → Int32} (hSc : zSc X b L zs) (hM : zMs G y wsy rm As b L zs o mc ms) (hg : GoodIn Ts (va_wsS own index y wsy)) (hwy : wsy = Cond.code y bytes maxL ret :: ws2) (hrc : rm.cells = mc) (hrs : rm.slots = ms) (hd : y.cls ≠ "java/lang/invoke/MethodHandle" ∧ y.cls ≠ "java/lang/invoke/VarHandle" ∧ (parseMethodDescriptor y.desc).map (fun d => d.parameters.length) = some n) (hR : (rm.frames + 1 ≤ R.frames ∧ 8 + (maxL + 11) + rm.locals ≤ R.locals) ∧ (cells + mc ≤ R.cells ∧ slots + ms ≤ R.slots) ∧ (rest.map fun v => v.category).sum ≤ 8) (hlen : As.length = n) (hst : st = As.reverse ++ rest) {st2 : List Value} (hst2 : o.toList ++ rest = st2) {c2 s2 : Nat} (hc2 : cells + mc = c2) (hs2 : slots + ms = s2) (hdg : decode cc pc = .ok (.invokestatic index, 3))
    (kk : zJ G X (pc + 3) ws lv st2 c2 s2) : zJ G X pc ws lv st cells slots := by
  obtain ⟨p, l, e, R', s, m, args, below, meth, c, Q, A, n9⟩ := X
  obtain ⟨rfl, rfl, hfl, ⟨hx, hb, hml, hown, hts⟩, hE, hA⟩ := hF
  obtain ⟨hX, hbl, hbA⟩ := hSc
  intro H locs ls hP hD hS hl
  subst hst; subst hst2; subst hc2; subst hs2
  have hC : ([] : List Nat).map (fun i => ws[i]?) = ([] : va_W).map some := rfl
  have hPc := zsubP hP hC
  have hDc := (hD.sub [] rfl hC).weaken (B := fun _ => True) (fun _ _ _ _ => trivial)
  have hf := va_free hD hS hA [] hC
  have hXH : va_X b L zs s H := va_X.kept hX (hS.2.1 b hbl hbA)
  exact zrunM (va_runS (As := As) (rest := rest) ⟨hx, hb, hml, hown, hts⟩ (hM hfl H.size) (va_cwS n hts hg hwy hrc hrs hd hR.1) ⟨zPreS.blind, fun U hU hW => ⟨rfl, (zPreU (av := As) hE hS hPc hDc hf U hU hW).2, by rw [hU]; exact va_X.moved hW.alike hXH, Nat.lt_of_lt_of_le hbl hS.1⟩⟩ rfl hlen hl.1 rfl (lv_room hR.2.2) hdg hR.2.1) hS hf hf (fun H1 locs1 h1 h2 h3 => kk H1 locs1 ls (zmerge (w1 := []) hP hD hC h2 h1 rfl rfl) hD h3 hl)
end ZMS
def cellF (zs : Nat → Int32) (L k : Nat) : Int32 := if k < L then zs k else 47237 * (nI k + nI 39) + 2825571
set_option maxHeartbeats 4000000 in
theorem c_L_cell (G : zG) (b L k : Nat) (zs : Nat → Int32) (hL : L ≤ 2560) (hk : k < 2 ^ 31) : zMs G yL_cell wsL_cell ({ frames := 0, cells := 0, slots := 0, locals := 12 }) [.ref b, .int (nI k)] b L zs (some (.int (cellF zs L k))) 0 0 := by
  refine zMs.ofI (own := RL) (cc := cL_cell) (maxL := 2) rfl (by decide) rfl rfl (by simp [Value.category]) (Nat.le_of_ble_eq_true rfl) ?_
  intro X hF hSc hR
  refine z_lv (lv' := [some (.ref b), some (.int (nI k))]) rfl ?_
  refine z_iload_n hF dL_cell_0 rfl ?_
  refine z_aload_n hF dL_cell_1 rfl ?_
  refine z_slen hF hSc dL_cell_2 ?_
  refine z_icn_ge (tgt := 12) hF hk (by omega) dL_cell_3 (by decide) (fun hq => ?_) (fun hq => ?_)
  · refine z_ldc (v := 47237) hF dL_cell_12 (hF.w (by decide +kernel)) ?_
    refine z_iload_n hF dL_cell_14 rfl ?_
    refine z_bipush (v := nI 39) hF dL_cell_15 (by decide) ?_
    refine z_iadd hF dL_cell_17 ?_
    refine z_imul hF dL_cell_18 ?_
    refine z_ldc (v := 2825571) hF dL_cell_19 (hF.w (by decide +kernel)) ?_
    refine z_iadd hF dL_cell_21 ?_
    exact hR.i dL_cell_22 (Nat.le_refl _) (Nat.le_refl _) rfl (by unfold cellF; rw [if_neg (by omega)])
  · refine z_aload_n hF dL_cell_6 rfl ?_
    refine z_iload_n hF dL_cell_7 rfl ?_
    refine z_sld (k := k) hF hSc rfl hq hL rfl dL_cell_8 ?_
    refine z_goto (tgt := 22) hF dL_cell_9 (by decide) ?_
    exact hR.i dL_cell_22 (Nat.le_refl _) (Nat.le_refl _) rfl (by unfold cellF; rw [if_pos hq])
