/-! constructors: final fields, new objects -/
def zI : zT → Prop
  | (p, l, e, R, s, m, args, below, meth, c, Q, A, n) => meth.name = "<init>"
section ZI
variable {G : zG} {X : zT} {R : Room} {cc : ByteArray} {Ts : List Cond} {own : String} {pc cells slots : Nat} {ws ws' : va_W} {lv : List (Option Value)} {st : List Value}
theorem z_putF (hF : zF G X R cc Ts own) (hI : zI X) {C ref : String} {T : u_T} {N ci index : Nat} (hin : ∀ w ∈ u_ws C T N, w ∈ Ts) (ty0 : Nat → FieldType) (hty : ∀ k, k < N → parseFieldDescriptor (T k).2.2.1 = some (ty0 k)) (hnm : ∀ a, a < N → ∀ b, b < N → a ≠ b → (T a).2.1 ≠ (T b).2.1) (k : Nat) (hk : k < N) (hc : vwCl[ci]? = some (C, T, N)) (hlink : zH X (.fieldLink own index ref (T k).2.1 (T k).2.2.1)) (href : (T k).1 = ref) (hfin : (T k).2.2.2 = true) (hdecl : (T k).1 = own) {v : Value} (hn : narrow (ty0 k) v = v) (hfit : fits (ty0 k) v = true) (q0 : Nat) {a : Nat} {fs : List Value} (he : ws[q0]? = some (a, .inr (ci, fs))) (hl0 : decide (k < fs.length) = true) (hw : ws.set q0 (a, .inr (ci, fs.set k v)) = ws') (hdg : decode cc pc = .ok (.putfield index, 3))
    (kk : zJ G X (pc + 3) ws' lv st cells slots) : zJ G X pc ws lv (v :: .ref a :: st) cells slots := by
  obtain ⟨p, l, e, R', s, m, args, below, meth, c, Q, A, n⟩ := X
  obtain ⟨rfl, rfl, hfl, ⟨hx, hb, hml, hown, hts⟩, hE, hA⟩ := hF
  intro H locs ls hP hD hS hl
  subst hw
  exact va_putF hx hb hts hin ty0 hty hnm hown hE.1 hP hD hS q0 he hc k hk hlink (fun x h => by rw [← href]; exact h) hfin hI hdecl (hty k hk) hn hfit (of_decide_eq_true hl0) hdg (fun H1 locs1 h1 h2 h3 => kk H1 locs1 ls h1 h2 h3 hl)
theorem z_new (hF : zF G X R cc Ts own) {C : String} {T : u_T} {N ci index : Nat} (hin : ∀ w ∈ u_ws C T N, w ∈ Ts) (ty0 : Nat → FieldType) (hty : ∀ k, k < N → parseFieldDescriptor (T k).2.2.1 = some (ty0 k)) (hcl : zH X (.classLink own index C)) (hinst : zH X (.instantiable C N)) (hini : zH X (.initialized C)) (hc : vwCl[ci]? = some (C, T, N)) {fs : List Value} (hfs : ∀ j, j < N → defaultValue (ty0 j) = vp_V fs j) (hcells : cells + 1 ≤ R.cells) (hslots : slots + N ≤ R.slots) {c2 s2 : Nat} (hc2 : cells + 1 = c2) (hs2 : slots + N = s2) (hdg : decode cc pc = .ok (.new index, 3))
    (kk : ∀ q : Nat, zJ G X (pc + 3) (ws ++ [(q, .inr (ci, fs))]) lv (.ref q :: st) c2 s2) : zJ G X pc ws lv st cells slots := by
  obtain ⟨p, l, e, R', s, m, args, below, meth, c, Q, A, n⟩ := X
  obtain ⟨rfl, rfl, hfl, ⟨hx, hb, hml, hown, hts⟩, hE, hA⟩ := hF
  intro H locs ls hP hD hS hl
  subst hc2; subst hs2
  exact va_new hx hb hts hin ty0 hty hown hcl hinst hini hE.1 hP hD hS hA hc hfs hcells hslots hdg (fun q H1 h1 h2 h3 => kk q H1 locs ls h1 h2 h3 hl)
end ZI
