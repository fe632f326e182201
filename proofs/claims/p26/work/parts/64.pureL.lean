/-! the law's arrays as functions; sets of bits; small numbers -/
section ZP
variable {G : zG} {X : zT} {R : Room} {cc : ByteArray} {Ts : List Cond} {own : String} {pc cells slots : Nat} {ws : va_W} {lv : List (Option Value)} {st : List Value}
theorem z_ishr (hF : zF G X R cc Ts own) {x y : Int32} (hdg : decode cc pc = .ok (.ishr, 1))
    (kk : zJ G X (pc + 1) ws lv (.int (x >>> (y &&& 31)) :: st) cells slots) : zJ G X pc ws lv (.int y :: .int x :: st) cells slots := by
  obtain ⟨p, l, e, R', s, m, args, below, meth, c, Q, A, n⟩ := X
  intro H locs ls hP hD hS hl
  exact lv_ishr hF.2.2.2.1.1 hF.2.2.2.1.2.1 hdg (kk H locs ls hP hD hS hl)
end ZP
-- the remainder that the law draws with
def lowN (x : Int32) (n : Nat) : Nat := (x.toBitVec.toNat % 2 ^ 31) % n
theorem low_eq (x : Int32) {n : Nat} (h0 : 0 < n) (hn : n < 2 ^ 31) : (x &&& 2147483647) - (x &&& 2147483647) / nI n * nI n = nI (lowN x n) := by
  rw [pk_and x 31 (by decide)]
  exact pk_rem (Nat.mod_lt _ (by decide)) h0 hn
theorem lowN_lt (x : Int32) {n : Nat} (h0 : 0 < n) : lowN x n < n := Nat.mod_lt _ h0
theorem nI_nz {n : Nat} (h0 : 0 < n) (hn : n < 2 ^ 31) : ¬ nI n = 0 := fun z => by
  have := (nI_eq (b := 0) hn (by omega)).mp z
  omega
-- q: how many letters, edits, comments, suggestions
def qF (n v m j : Nat) : Nat → Int32 := fun i => match i with | 0 => nI n | 1 => nI v | 2 => nI m | 3 => nI j | _ => nI 0
theorem qF_0 (n v m j x : Nat) : upd (qF n v m j) 0 (nI x) = qF x v m j := by
  funext i
  match i with
  | 0 => rfl
  | 1 => rfl
  | 2 => rfl
  | 3 => rfl
  | k + 4 => rfl
theorem qF_1 (n v m j x : Nat) : upd (qF n v m j) 1 (nI x) = qF n x m j := by
  funext i
  match i with
  | 0 => rfl
  | 1 => rfl
  | 2 => rfl
  | 3 => rfl
  | k + 4 => rfl
theorem qF_2 (n v m j x : Nat) : upd (qF n v m j) 2 (nI x) = qF n v x j := by
  funext i
  match i with
  | 0 => rfl
  | 1 => rfl
  | 2 => rfl
  | 3 => rfl
  | k + 4 => rfl
theorem qF_3 (n v m j x : Nat) : upd (qF n v m j) 3 (nI x) = qF n v m x := by
  funext i
  match i with
  | 0 => rfl
  | 1 => rfl
  | 2 => rfl
  | 3 => rfl
  | k + 4 => rfl
theorem qF_z : (fun _ => nI 0) = qF 0 0 0 0 := by
  funext i
  match i with
  | 0 => rfl
  | 1 => rfl
  | 2 => rfl
  | 3 => rfl
  | k + 4 => rfl
-- c: six numbers of each comment
def cF (s op an qs qa qb : Nat → Int32) : Nat → Int32 := fun i => if i % 6 = 0 then s (i / 6) else if i % 6 = 1 then op (i / 6) else if i % 6 = 2 then an (i / 6) else if i % 6 = 3 then qs (i / 6) else if i % 6 = 4 then qa (i / 6) else qb (i / 6)
theorem cF_l0 (s op an qs qa qb : Nat → Int32) (i : Nat) : cF s op an qs qa qb (6 * i) = s i := by
  unfold cF
  rw [show 6 * i % 6 = 0 by omega, show 6 * i / 6 = i by omega]
  rfl
theorem cF_l1 (s op an qs qa qb : Nat → Int32) (i : Nat) : cF s op an qs qa qb (6 * i + 1) = op i := by
  unfold cF
  rw [show (6 * i + 1) % 6 = 1 by omega, show (6 * i + 1) / 6 = i by omega]
  rfl
theorem cF_l2 (s op an qs qa qb : Nat → Int32) (i : Nat) : cF s op an qs qa qb (6 * i + 2) = an i := by
  unfold cF
  rw [show (6 * i + 2) % 6 = 2 by omega, show (6 * i + 2) / 6 = i by omega]
  rfl
theorem cF_l3 (s op an qs qa qb : Nat → Int32) (i : Nat) : cF s op an qs qa qb (6 * i + 3) = qs i := by
  unfold cF
  rw [show (6 * i + 3) % 6 = 3 by omega, show (6 * i + 3) / 6 = i by omega]
  rfl
theorem cF_l4 (s op an qs qa qb : Nat → Int32) (i : Nat) : cF s op an qs qa qb (6 * i + 4) = qa i := by
  unfold cF
  rw [show (6 * i + 4) % 6 = 4 by omega, show (6 * i + 4) / 6 = i by omega]
  rfl
theorem cF_l5 (s op an qs qa qb : Nat → Int32) (i : Nat) : cF s op an qs qa qb (6 * i + 5) = qb i := by
  unfold cF
  rw [show (6 * i + 5) % 6 = 5 by omega, show (6 * i + 5) / 6 = i by omega]
  rfl
theorem cF_s0 (s op an qs qa qb : Nat → Int32) (i : Nat) (x : Int32) : upd (cF s op an qs qa qb) (6 * i) x = cF (upd s i x) op an qs qa qb := by
  funext k
  simp only [upd, cF]
  grind
theorem cF_s1 (s op an qs qa qb : Nat → Int32) (i : Nat) (x : Int32) : upd (cF s op an qs qa qb) (6 * i + 1) x = cF s (upd op i x) an qs qa qb := by
  funext k
  simp only [upd, cF]
  grind
theorem cF_s2 (s op an qs qa qb : Nat → Int32) (i : Nat) (x : Int32) : upd (cF s op an qs qa qb) (6 * i + 2) x = cF s op (upd an i x) qs qa qb := by
  funext k
  simp only [upd, cF]
  grind
theorem cF_s3 (s op an qs qa qb : Nat → Int32) (i : Nat) (x : Int32) : upd (cF s op an qs qa qb) (6 * i + 3) x = cF s op an (upd qs i x) qa qb := by
  funext k
  simp only [upd, cF]
  grind
theorem cF_s4 (s op an qs qa qb : Nat → Int32) (i : Nat) (x : Int32) : upd (cF s op an qs qa qb) (6 * i + 4) x = cF s op an qs (upd qa i x) qb := by
  funext k
  simp only [upd, cF]
  grind
theorem cF_s5 (s op an qs qa qb : Nat → Int32) (i : Nat) (x : Int32) : upd (cF s op an qs qa qb) (6 * i + 5) x = cF s op an qs qa (upd qb i x) := by
  funext k
  simp only [upd, cF]
  grind
theorem cF_z : (fun _ => nI 0) = cF (fun _ => nI 0) (fun _ => nI 0) (fun _ => nI 0) (fun _ => nI 0) (fun _ => nI 0) (fun _ => nI 0) := by
  funext i
  simp [cF]
-- k: eight letters of each comment
def kF (ql : Nat → Int32) : Nat → Int32 := fun i => ql (i / 8 * 60 + i % 8)
theorem kF_l (ql : Nat → Int32) (c i : Nat) (hi : i < 8) : kF ql (8 * c + i) = ql (c * 60 + i) := by
  unfold kF
  rw [show (8 * c + i) / 8 = c by omega, show (8 * c + i) % 8 = i by omega]
theorem kF_s (f ql : Nat → Int32) (c a i : Nat) (hi : i < 8) (hc : c < 12) : upd (kF (va_cpy f ql a (c * 60) i)) (8 * c + i) (f (a + i)) = kF (va_cpy f ql a (c * 60) (i + 1)) := by
  funext k
  simp only [upd, kF, va_cpy]
  by_cases e : k = 8 * c + i
  · subst e
    rw [if_pos rfl, if_pos (by omega)]
    congr 1
    omega
  · rw [if_neg e]
    by_cases h : c * 60 ≤ k / 8 * 60 + k % 8 ∧ k / 8 * 60 + k % 8 < c * 60 + i
    · rw [if_pos h, if_pos (by omega)]
    · rw [if_neg h, if_neg (by omega)]
theorem kF_0 (f ql : Nat → Int32) (c a : Nat) : kF ql = kF (va_cpy f ql a (c * 60) 0) := by
  congr 1
  funext i
  simp only [va_cpy]
  rw [if_neg (by omega)]
theorem kF_z : (fun _ => nI 0) = kF (fun _ => nI 0) := rfl
-- g: three numbers of each suggestion
def gF (xl xc xs : Nat → Int32) : Nat → Int32 := fun i => if i % 3 = 0 then xl (i / 3) else if i % 3 = 1 then xc (i / 3) else xs (i / 3)
theorem gF_l0 (xl xc xs : Nat → Int32) (i : Nat) : gF xl xc xs (3 * i) = xl i := by
  unfold gF
  rw [show 3 * i % 3 = 0 by omega, show 3 * i / 3 = i by omega]
  rfl
theorem gF_l1 (xl xc xs : Nat → Int32) (i : Nat) : gF xl xc xs (3 * i + 1) = xc i := by
  unfold gF
  rw [show (3 * i + 1) % 3 = 1 by omega, show (3 * i + 1) / 3 = i by omega]
  rfl
theorem gF_l2 (xl xc xs : Nat → Int32) (i : Nat) : gF xl xc xs (3 * i + 2) = xs i := by
  unfold gF
  rw [show (3 * i + 2) % 3 = 2 by omega, show (3 * i + 2) / 3 = i by omega]
  rfl
theorem gF_s0 (xl xc xs : Nat → Int32) (i : Nat) (x : Int32) : upd (gF xl xc xs) (3 * i) x = gF (upd xl i x) xc xs := by
  funext k
  simp only [upd, gF]
  grind
theorem gF_s1 (xl xc xs : Nat → Int32) (i : Nat) (x : Int32) : upd (gF xl xc xs) (3 * i + 1) x = gF xl (upd xc i x) xs := by
  funext k
  simp only [upd, gF]
  grind
theorem gF_s2 (xl xc xs : Nat → Int32) (i : Nat) (x : Int32) : upd (gF xl xc xs) (3 * i + 2) x = gF xl xc (upd xs i x) := by
  funext k
  simp only [upd, gF]
  grind
theorem gF_z : (fun _ => nI 0) = gF (fun _ => nI 0) (fun _ => nI 0) (fun _ => nI 0) := by
  funext i
  simp [gF]
-- bits of sets
theorem b_bit {k : Nat} (hk : k < 14) {i : Nat} (hi : i < 32) : bt (bitF (nI k)) i = decide (i = k) :=
  (by decide +kernel : ∀ k, k < 14 → ∀ i, i < 32 → bt (bitF (nI k)) i = decide (i = k)) k hk i hi
theorem b_1 {i : Nat} (hi : i < 32) : bt (nI 1) i = decide (i = 0) :=
  (by decide +kernel : ∀ i, i < 32 → bt (nI 1) i = decide (i = 0)) i hi
theorem b_mask {m i : Nat} (hm : m < 7) (hi : i < 32) : bt (nI 1 <<< (nI m &&& 31) - nI 1) i = decide (i < m) :=
  (by decide +kernel : ∀ m, m < 7 → ∀ i, i < 32 → bt (nI 1 <<< (nI m &&& 31) - nI 1) i = decide (i < m)) m hm i hi
theorem b_cov {P : Nat → Prop} [DecidablePred P] {i : Nat} (hi : i < 32) : ∀ m, m ≤ 14 → bt (cov P m) i = decide (i < m ∧ P i)
  | 0, _ => by
    rw [decide_eq_false (fun h => absurd h.1 (Nat.not_lt_zero _))]
    exact b_0 i
  | m + 1, hm => by
    have ih := b_cov (P := P) hi m (by omega)
    simp only [cov]
    by_cases h : P m
    · rw [if_pos h, b_or, ih, b_bit (by omega) hi, ← Bool.decide_or]
      refine decide_eq_decide.mpr ⟨fun q => ?_, fun q => ?_⟩
      · rcases q with q | q
        · exact ⟨by omega, q.2⟩
        · subst q
          exact ⟨by omega, h⟩
      · by_cases e : i = m
        · exact Or.inr e
        · exact Or.inl ⟨by omega, q.2⟩
    · rw [if_neg h, ih]
      refine decide_eq_decide.mpr ⟨fun q => ⟨by omega, q.2⟩, fun q => ⟨?_, q.2⟩⟩
      have : ¬ i = m := fun e => h (e ▸ q.2)
      omega
theorem b_zb {P : Prop} [Decidable P] {i : Nat} (hi : i < 32) : bt (zb P) i = decide (i = 0 ∧ P) := by
  unfold zb
  by_cases h : P
  · rw [if_pos h]
    exact (b_1 hi).trans (decide_eq_decide.mpr ⟨fun q => ⟨q, h⟩, fun q => q.1⟩)
  · rw [if_neg h, decide_eq_false (fun q => h q.2)]
    exact b_0 i
theorem b_not {x : Int32} {i : Nat} (hi : i < 32) : bt (x ^^^ (-1)) i = !(bt x i) := by
  rw [b_xor, b_m1 i hi]
  simp
theorem cov_or {P Q : Nat → Prop} [DecidablePred P] [DecidablePred Q] {m : Nat} (hm : m ≤ 14) : cov P m ||| cov Q m = cov (fun i => P i ∨ Q i) m := by
  refine b_ext fun i hi => ?_
  rw [b_or, b_cov hi m hm, b_cov hi m hm, b_cov hi m hm, ← Bool.decide_or]
  exact decide_eq_decide.mpr (by grind)
theorem cov_andn {P Q : Nat → Prop} [DecidablePred P] [DecidablePred Q] {m : Nat} (hm : m ≤ 14) : cov P m &&& (cov Q m ^^^ (-1)) = cov (fun i => P i ∧ ¬ Q i) m := by
  refine b_ext fun i hi => ?_
  rw [b_and, b_not hi, b_cov hi m hm, b_cov hi m hm, b_cov hi m hm]
  by_cases h1 : i < m <;> by_cases h2 : P i <;> by_cases h3 : Q i <;> simp [h1, h2, h3]
theorem cov_low {P : Nat → Prop} [DecidablePred P] {m : Nat} (hm : m < 7) : cov P 14 &&& (nI 1 <<< (nI m &&& 31) - nI 1) = cov P m := by
  refine b_ext fun i hi => ?_
  rw [b_and, b_mask hm hi, b_cov hi 14 (by omega), b_cov hi m (by omega), ← Bool.decide_and]
  exact decide_eq_decide.mpr (by grind)
theorem cov_lown {P : Nat → Prop} [DecidablePred P] {m : Nat} (hm : m < 7) : (nI 1 <<< (nI m &&& 31) - nI 1) &&& (cov P 14 ^^^ (-1)) = cov (fun i => ¬ P i) m := by
  refine b_ext fun i hi => ?_
  rw [b_and, b_not hi, b_mask hm hi, b_cov hi 14 (by omega), b_cov hi m (by omega)]
  by_cases h1 : i < m
  · by_cases h2 : P i <;> simp [h1, h2] <;> omega
  · simp [h1]
theorem cov_hi {P : Nat → Prop} [DecidablePred P] : cov P 14 >>> (nI 8 &&& 31) = cov (fun i => P (8 + i)) 6 := by
  refine b_ext fun i hi => ?_
  rw [b_sshr 8 (by omega) _ hi, b_cov hi 6 (by omega)]
  split
  · rw [b_cov (by omega) 14 (by omega)]
    exact decide_eq_decide.mpr ⟨fun q => ⟨by omega, q.2⟩, fun q => ⟨by omega, q.2⟩⟩
  · rw [b_cov (by omega) 14 (by omega)]
    exact decide_eq_decide.mpr ⟨fun q => absurd q.1 (by omega), fun q => absurd q.1 (by omega)⟩
theorem cov_tb {P : Nat → Prop} [DecidablePred P] {k : Nat} (hk : k < 14) : (cov P 14 >>> (nI k &&& 31)) &&& nI 1 = zb (P k) := by
  refine b_ext fun i hi => ?_
  rw [b_and, b_1 hi, b_zb hi, b_sshr k (by omega) _ hi]
  by_cases h : i = 0
  · subst h
    rw [if_pos (by omega), b_cov (by omega) 14 (by omega)]
    by_cases h2 : P k <;> simp [h2, hk]
  · simp [h]
theorem covF_tb {B E : Nat → Int32} {p : Int32} {k : Nat} (hk : k < 14) : (covF B E 14 p >>> (nI k &&& 31)) &&& nI 1 = zb (B k ≤ p ∧ p < E k) := cov_tb hk
theorem cov_xm {x y a : Int32} : (x ^^^ y) &&& a = 0 ↔ x &&& a = y &&& a := by
  have e : (x ^^^ y) &&& a = (x &&& a) ^^^ (y &&& a) := b_ext fun i hi => by
    rw [b_and, b_xor, b_xor, b_and, b_and]
    cases bt x i <;> cases bt y i <;> cases bt a i <;> rfl
  rw [e]
  constructor
  · intro h
    refine b_ext fun i hi => ?_
    have h2 := congrArg (fun z => bt z i) h
    simp only [b_xor, b_0] at h2
    revert h2
    cases bt (x &&& a) i <;> cases bt (y &&& a) i <;> simp
  · intro h
    rw [h]
    refine b_ext fun i hi => ?_
    rw [b_xor, b_0]
    cases bt (y &&& a) i <;> rfl
theorem cov_ext {P : Nat → Prop} [DecidablePred P] {a : Nat} : ∀ d, (∀ k, a ≤ k → k < a + d → ¬ P k) → cov P (a + d) = cov P a
  | 0, _ => rfl
  | d + 1, h => by
    have ih := cov_ext (P := P) (a := a) d (fun k h1 h2 => h k h1 (by omega))
    show cov P ((a + d) + 1) = _
    rw [← cov_f (P := P) (k := a + d) (h _ (by omega) (by omega)), ih]
