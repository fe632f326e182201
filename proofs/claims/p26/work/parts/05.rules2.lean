/-! fields, rows, calls, throws: rules on zJ -/
section ZS
variable {G : zG} {X : zT} {R : Room} {cc : ByteArray} {Ts : List Cond} {own : String} {pc cells slots : Nat} {ws ws' : va_W} {lv : List (Option Value)} {st : List Value}
theorem z_get (hF : zF G X R cc Ts own) {C ref : String} {T : u_T} {N ci index : Nat} (hin : ∀ w ∈ u_ws C T N, w ∈ Ts) (k : Nat) (hk : k < N) (hc : vwCl[ci]? = some (C, T, N)) (hlink : zH X (.fieldLink own index ref (T k).2.1 (T k).2.2.1)) (href : (T k).1 = ref) (q0 : Nat) {a : Nat} {fs : List Value} {v : Value} (he : ws[q0]? = some (a, .inr (ci, fs))) (hv : fs[k]? = some v) (hdg : decode cc pc = .ok (.getfield index, 3))
    (kk : zJ G X (pc + 3) ws lv (v :: st) cells slots) : zJ G X pc ws lv (.ref a :: st) cells slots := by
  obtain ⟨p, l, e, R', s, m, args, below, meth, c, Q, A, n⟩ := X
  obtain ⟨rfl, rfl, hfl, ⟨hx, hb, hml, hown, hts⟩, hE, hA⟩ := hF
  intro H locs ls hP hD hS hl
  exact va_get hx hb hts hin hown hE.1 hP q0 he hc k hk hlink (fun x h => by rw [← href]; exact h) hv hdg (kk H locs ls hP hD hS hl)
theorem z_getN (hF : zF G X R cc Ts own) {C ref : String} {T : u_T} {N ci index : Nat} (hin : ∀ w ∈ u_ws C T N, w ∈ Ts) (k : Nat) (hk : k < N) (hc : vwCl[ci]? = some (C, T, N)) (hlink : zH X (.fieldLinkNest own index ref (T k).2.1 (T k).2.2.1 RX4)) (href : (T k).1 = ref) (q0 : Nat) {a : Nat} {fs : List Value} {v : Value} (he : ws[q0]? = some (a, .inr (ci, fs))) (hv : fs[k]? = some v) (hdg : decode cc pc = .ok (.getfield index, 3))
    (kk : zJ G X (pc + 3) ws lv (v :: st) cells slots) : zJ G X pc ws lv (.ref a :: st) cells slots := by
  obtain ⟨p, l, e, R', s, m, args, below, meth, c, Q, A, n⟩ := X
  obtain ⟨rfl, rfl, hfl, ⟨hx, hb, hml, hown, hts⟩, hE, hA⟩ := hF
  intro H locs ls hP hD hS hl
  exact va_getN hx hb hts hin hown hE.1 hP q0 he hc k hk hlink (fun x h => by rw [← href]; exact h) hv hdg (kk H locs ls hP hD hS hl)
theorem z_put (hF : zF G X R cc Ts own) {C ref : String} {T : u_T} {N ci index : Nat} (hin : ∀ w ∈ u_ws C T N, w ∈ Ts) (ty0 : Nat → FieldType) (hty : ∀ k, k < N → parseFieldDescriptor (T k).2.2.1 = some (ty0 k)) (hnm : ∀ a, a < N → ∀ b, b < N → a ≠ b → (T a).2.1 ≠ (T b).2.1) (k : Nat) (hk : k < N) (hc : vwCl[ci]? = some (C, T, N)) (hlink : zH X (.fieldLink own index ref (T k).2.1 (T k).2.2.1)) (href : (T k).1 = ref) (hfin : (T k).2.2.2 = false) {v : Value} (hn : narrow (ty0 k) v = v) (hfit : fits (ty0 k) v = true) (q0 : Nat) {a : Nat} {fs : List Value} (he : ws[q0]? = some (a, .inr (ci, fs))) (hl0 : decide (k < fs.length) = true) (hw : ws.set q0 (a, .inr (ci, fs.set k v)) = ws') (hdg : decode cc pc = .ok (.putfield index, 3))
    (kk : zJ G X (pc + 3) ws' lv st cells slots) : zJ G X pc ws lv (v :: .ref a :: st) cells slots := by
  obtain ⟨p, l, e, R', s, m, args, below, meth, c, Q, A, n⟩ := X
  obtain ⟨rfl, rfl, hfl, ⟨hx, hb, hml, hown, hts⟩, hE, hA⟩ := hF
  intro H locs ls hP hD hS hl
  subst hw
  exact va_put hx hb hts hin ty0 hty hnm hown hE.1 hP hD hS q0 he hc k hk hlink (fun x h => by rw [← href]; exact h) hfin (hty k hk) hn hfit (of_decide_eq_true hl0) hdg (fun H1 locs1 h1 h2 h3 => kk H1 locs1 ls h1 h2 h3 hl)
theorem z_iald (hF : zF G X R cc Ts own) (q0 : Nat) {a n k : Nat} {f : Nat → Int32} {i : Int32} (ha : ws[q0]? = some (a, eI G n f)) (hi : i = nI k) (hk : k < n) (hn : decide (n < 2 ^ 31) = true) (hdg : decode cc pc = .ok (.iaload, 1))
    (kk : zJ G X (pc + 1) ws lv (.int (f k) :: st) cells slots) : zJ G X pc ws lv (.int i :: .ref a :: st) cells slots := by
  obtain ⟨p, l, e, R', s, m, args, below, meth, c, Q, A, n9⟩ := X
  obtain ⟨rfl, rfl, hfl, ⟨hx, hb, hml, hown, hts⟩, hE, hA⟩ := hF
  intro H locs ls hP hD hS hl
  have hn := of_decide_eq_true hn
  subst hi
  refine va_iald hx hb hE.1 hP q0 0 ha rfl (vp_in_nI hk hn) hdg ?_
  rw [nI_clamp (Nat.lt_trans hk hn)]
  exact kk H locs ls hP hD hS hl
theorem z_iast (hF : zF G X R cc Ts own) (q0 : Nat) {a n k : Nat} {f : Nat → Int32} {i x : Int32} (ha : ws[q0]? = some (a, eI G n f)) (hi : i = nI k) (hk : k < n) (hn : decide (n < 2 ^ 31) = true) (hw : ws.set q0 (a, eI G n (upd f k x)) = ws') (hdg : decode cc pc = .ok (.iastore, 1))
    (kk : zJ G X (pc + 1) ws' lv st cells slots) : zJ G X pc ws lv (.int x :: .int i :: .ref a :: st) cells slots := by
  obtain ⟨p, l, e, R', s, m, args, below, meth, c, Q, A, n9⟩ := X
  obtain ⟨rfl, rfl, hfl, ⟨hx, hb, hml, hown, hts⟩, hE, hA⟩ := hF
  intro H locs ls hP hD hS hl
  have hn := of_decide_eq_true hn
  subst hi
  refine va_iast hx hb hE.1 hP hD hS q0 0 ha rfl (vp_in_nI hk hn) hdg (fun H1 locs1 h1 h2 h3 => ?_)
  rw [nI_clamp (Nat.lt_trans hk hn)] at h1 h2
  subst hw
  exact kk H1 locs1 ls h1 h2 h3 hl
/-- System.arraycopy of ints -/
theorem z_copy (hF : zF G X R cc Ts own) {index : Nat} (q0 q1 : Nat) {a0 a1 n0 n1 sp dp n : Nat} {f g : Nat → Int32} {isp idp ni : Int32} (hlink : zH X (.methodLink own index arraycopyName)) (hnat : zH X (.native arraycopyName)) (hstat : zH X (.static arraycopyName)) (hini : zH X (.initialized "java/lang/System"))
    (ha0 : ws[q0]? = some (a0, eI G n0 f)) (ha1 : ws[q1]? = some (a1, eI G n1 g)) (hsp : isp = nI sp) (hdp : idp = nI dp) (hn : ni = nI n) (h4 : sp + n ≤ n0) (h5 : dp + n ≤ n1) (hb0 : decide (n0 < 2 ^ 31) = true) (hb1 : decide (n1 < 2 ^ 31) = true)
    (hR : decide (1 ≤ R.frames ∧ (st.map fun v => v.category).sum + (nativeFrameWords "java/lang/System" "arraycopy" 5 + 11) ≤ R.locals) = true) (hw : ws.set q1 (a1, eI G n1 (va_cpy f g sp dp n)) = ws') (hdg : decode cc pc = .ok (.invokestatic index, 3))
    (kk : zJ G X (pc + 3) ws' lv st cells slots) : zJ G X pc ws lv (.int ni :: .int idp :: .ref a1 :: .int isp :: .ref a0 :: st) cells slots := by
  obtain ⟨p, l, e, R', s, m, args, below, meth, c, Q, A, n9⟩ := X
  obtain ⟨rfl, rfl, hfl, ⟨hx, hb, hml, hown, hts⟩, hE, hA⟩ := hF
  intro H locs ls hP hD hS hl
  have hb0 := of_decide_eq_true hb0
  have hb1 := of_decide_eq_true hb1
  have hR := of_decide_eq_true hR
  subst hsp; subst hdp; subst hn
  have e1 : (nI sp).toNatClampNeg = sp := nI_clamp (by omega)
  have e2 : (nI dp).toNatClampNeg = dp := nI_clamp (by omega)
  have e3 : (nI n).toNatClampNeg = n := nI_clamp (by omega)
  refine va_copyi hx hb (hml.trans hl.1.symm) hown hlink hnat hstat hini hE.1 hP hD hS q0 q1 0 0 ha0 ha1 rfl rfl rfl (nI_pos (by omega)) (nI_pos (by omega)) (nI_pos (by omega)) (by rw [e1, e3]; exact h4) (by rw [e2, e3]; exact h5) (fun i _ => rfl) hR.1 hR.2 hdg (fun H1 locs1 h1 h2 h3 => ?_)
  rw [e1, e2, e3] at h1 h2
  subst hw
  exact kk H1 locs1 ls h1 h2 h3 hl
theorem z_max (hF : zF G X R cc Ts own) {index : Nat} {x y : Int32} (hlink : zH X (.methodLink own index Lib.Math.max.name)) (hstat : zH X (.static Lib.Math.max.name)) (hini : zH X (.initialized "java/lang/Math")) (hcode : zH X (.code Lib.Math.max.name Lib.Math.max.code 2 (some .int))) (hR : decide (1 ≤ R.frames ∧ (st.map fun v => v.category).sum + 13 ≤ R.locals ∧ cells ≤ R.cells ∧ slots ≤ R.slots) = true) (hdg : decode cc pc = .ok (.invokestatic index, 3))
    (kk : zJ G X (pc + 3) ws lv (.int (if x < y then y else x) :: st) cells slots) : zJ G X pc ws lv (.int y :: .int x :: st) cells slots := by
  obtain ⟨p, l, e, R', s, m, args, below, meth, c, Q, A, n9⟩ := X
  obtain ⟨rfl, rfl, hfl, ⟨hx, hb, hml, hown, hts⟩, hE, hA⟩ := hF
  intro H locs ls hP hD hS hl
  have hR := of_decide_eq_true hR
  exact va_mmax hx hb (hml.trans hl.1.symm) hown hlink hstat hini hcode hR.1 hR.2.1 hR.2.2.1 hR.2.2.2 hdg (kk H locs ls hP hD hS hl)
theorem z_min (hF : zF G X R cc Ts own) {index : Nat} {x y : Int32} (hlink : zH X (.methodLink own index Lib.Math.min.name)) (hstat : zH X (.static Lib.Math.min.name)) (hini : zH X (.initialized "java/lang/Math")) (hcode : zH X (.code Lib.Math.min.name Lib.Math.min.code 2 (some .int))) (hR : decide (1 ≤ R.frames ∧ (st.map fun v => v.category).sum + 13 ≤ R.locals ∧ cells ≤ R.cells ∧ slots ≤ R.slots) = true) (hdg : decode cc pc = .ok (.invokestatic index, 3))
    (kk : zJ G X (pc + 3) ws lv (.int (if y < x then y else x) :: st) cells slots) : zJ G X pc ws lv (.int y :: .int x :: st) cells slots := by
  obtain ⟨p, l, e, R', s, m, args, below, meth, c, Q, A, n9⟩ := X
  obtain ⟨rfl, rfl, hfl, ⟨hx, hb, hml, hown, hts⟩, hE, hA⟩ := hF
  intro H locs ls hP hD hS hl
  have hR := of_decide_eq_true hR
  exact va_mmin hx hb (hml.trans hl.1.symm) hown hlink hstat hini hcode hR.1 hR.2.1 hR.2.2.1 hR.2.2.2 hdg (kk H locs ls hP hD hS hl)
end ZS
/-! ===== calls ===== -/
/-- some cells of a world, anew -/
def zset : va_W → List Nat → va_W → va_W
  | ws, i :: is, e :: es => zset (ws.set i e) is es
  | ws, _, _ => ws
theorem zset_get : ∀ (is : List Nat) (es ws : va_W), is.length = es.length → ∀ (k : Nat) (q : Nat × va_E), (zset ws is es)[k]? = some q → (∃ j : Nat, is[j]? = some k ∧ es[j]? = some q) ∨ (ws[k]? = some q ∧ k ∉ is)
  | [], [], ws, _, k, q, h => Or.inr ⟨h, List.not_mem_nil⟩
  | i :: is, e :: es, ws, hl, k, q, h => by
    rcases zset_get is es (ws.set i e) (Nat.succ.inj hl) k q h with ⟨j, h1, h2⟩ | ⟨h1, h2⟩
    · exact Or.inl ⟨j + 1, h1, h2⟩
    · by_cases hik : i = k
      · subst hik
        rw [List.getElem?_set_self'] at h1
        cases hq : ws[i]? with
        | none => rw [hq] at h1; cases h1
        | some x => rw [hq] at h1; cases h1; exact Or.inl ⟨0, rfl, rfl⟩
      · rw [List.getElem?_set_ne hik] at h1
        exact Or.inr ⟨h1, fun hm => (List.mem_cons.mp hm).elim (fun e => hik e.symm) h2⟩
  | [], _ :: _, _, hl, _, _, _ => nomatch hl
  | _ :: _, [], _, hl, _, _, _ => nomatch hl
theorem zpick {ws w : va_W} {is : List Nat} (hs : is.map (fun i => ws[i]?) = w.map some) (k : Nat) (q : Nat × va_E) (hq : w[k]? = some q) : ∃ i, is[k]? = some i ∧ ws[i]? = some q := by
  have h1 : (is.map (fun i => ws[i]?))[k]? = some (some q) := by rw [hs, List.getElem?_map, hq]; rfl
  rw [List.getElem?_map] at h1
  cases hi : is[k]? with
  | none => rw [hi] at h1; cases h1
  | some i => rw [hi] at h1; exact ⟨i, rfl, Option.some.inj h1⟩
theorem zfst {A : Nat → Prop} {ws ws' : va_W} (h : ws'.map Prod.fst = ws.map Prod.fst) (hD : va_D A ws) : va_D A ws' := by
  have key : ∀ (i : Nat) (p : Nat × va_E), ws'[i]? = some p → ∃ p', ws[i]? = some p' ∧ p'.1 = p.1 := by
    intro i p hp
    have h1 : (ws'.map Prod.fst)[i]? = some p.1 := by rw [List.getElem?_map, hp]; rfl
    rw [h, List.getElem?_map] at h1
    cases hq : ws[i]? with
    | none => rw [hq] at h1; cases h1
    | some p' => rw [hq] at h1; exact ⟨p', rfl, Option.some.inj h1⟩
  refine ⟨fun i j p q hp hq e => ?_, fun k q hq => ?_⟩
  · obtain ⟨p', h1, h2⟩ := key i p hp
    obtain ⟨q', h3, h4⟩ := key j q hq
    exact hD.1 i j p' q' h1 h3 (by rw [h2, h4, e])
  · obtain ⟨q', h1, h2⟩ := key k q hq
    rw [← h2]
    exact hD.2 k q' h1
theorem zmerge {A0 : Nat → Prop} {D : va_G} {cl : List vw_C} {ws wc w1 ws' : va_W} {H H1 : Heap} (hP : va_P D cl ws H) (hD : va_D A0 ws) {isC : List Nat} (hC : isC.map (fun i => ws[i]?) = wc.map some)
    (hk : ∀ q : Nat, q < H.size → ¬ va_A wc H.size q → H1[q]? = H[q]?) (hP1 : va_P D cl w1 H1) (hlen : isC.length = w1.length) (hset : zset ws isC w1 = ws') : va_P D cl ws' H1 := by
  intro k q hq
  rw [← hset] at hq
  rcases zset_get isC w1 ws hlen k q hq with ⟨j, -, h2⟩ | ⟨h1, h2⟩
  · exact hP1 j q h2
  · refine (hP k q h1).kept (hk q.1 (hP k q h1).lt fun h => ?_)
    rcases h with ⟨k2, e, h⟩ | h
    · obtain ⟨i, h3, h4⟩ := zpick hC k2 (q.1, e) h
      have hij := hD.1 k i q (q.1, e) h1 h4 rfl
      subst hij
      exact h2 (List.mem_of_getElem? h3)
    · exact absurd (hP k q h1).lt (Nat.not_lt.mpr h)
theorem zsubP {D : va_G} {cl : List vw_C} {ws wc : va_W} {H : Heap} (hP : va_P D cl ws H) {isC : List Nat} (hC : isC.map (fun i => ws[i]?) = wc.map some) : va_P D cl wc H := fun k q hq => by
  obtain ⟨i, -, h⟩ := zpick hC k q hq
  exact hP i q h
