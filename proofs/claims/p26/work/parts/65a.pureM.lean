/-! the reference: what its methods answer -/
theorem inL_pl {n : Nat} {a : Int32} : (nI 0 ≤ a ∧ a ≤ nI n) ↔ plC n a = 0 := by
  unfold plC
  rw [show nI 0 = 0 from rfl]
  split <;> simp_all
theorem nI_lt1 {n : Nat} {a : Int32} (hn : n < 2 ^ 29) : a ≤ nI n - nI 1 ↔ a < nI n := by
  rw [Int32.le_iff_toInt_le, Int32.lt_iff_toInt_lt, zsubT hn (by omega), nI_toInt (by omega)]
  omega
theorem inL_cm {n : Nat} {a : Int32} (hn : n < 2 ^ 29) : (nI 0 ≤ a ∧ a ≤ nI n - nI 1) ↔ cmC n a = 0 := by
  unfold cmC
  rw [show nI 0 = 0 from rfl, nI_lt1 hn]
  split <;> simp_all
theorem inL_am {a k l : Int32} : (k ≤ a ∧ a ≤ l) ↔ amC a k l = 0 := by
  unfold amC
  split <;> simp_all
theorem nI_dec (x : Int32) : x + Int32.ofInt (-1) = x - nI 1 := by
  rw [show Int32.ofInt (-1) = -(nI 1) from by decide, ← Int32.sub_eq_add_neg]
theorem cpy_dn (f : Nat → Int32) {q k n : Nat} (hq : 1 ≤ q) (hn : q ≤ n) : upd (va_cpy f f q (q + k) (n - q)) (q - 1 + k) (f (q - 1)) = va_cpy f f (q - 1) (q - 1 + k) (n - (q - 1)) := by
  funext i
  simp only [upd, va_cpy]
  by_cases e : i = q - 1 + k
  · subst e
    rw [if_pos rfl, if_pos (by omega)]
    congr 1
    omega
  · rw [if_neg e]
    by_cases h : q + k ≤ i ∧ i < q + k + (n - q)
    · rw [if_pos h, if_pos (by omega)]
      congr 1
      omega
    · rw [if_neg h, if_neg (by omega)]
theorem cpy_0 (f : Nat → Int32) (a b : Nat) : va_cpy f f a b 0 = f := by
  funext i
  simp only [va_cpy]
  rw [if_neg (by omega)]
theorem cpy_dat (f : Nat → Int32) {q k n : Nat} (hq : 1 ≤ q) : va_cpy f f q (q + k) n (q - 1) = f (q - 1) := by
  simp only [va_cpy]
  rw [if_neg (by omega)]
theorem cpy_up (f : Nat → Int32) {a b i : Nat} (hi : a ≤ i) : upd (va_cpy f f a b (i - a)) (b + (i - a)) (f i) = va_cpy f f a b (i + 1 - a) := by
  funext j
  simp only [upd, va_cpy]
  by_cases e : j = b + (i - a)
  · subst e
    rw [if_pos rfl, if_pos (by omega)]
    congr 1
    omega
  · rw [if_neg e]
    by_cases h : b ≤ j ∧ j < b + (i - a)
    · rw [if_pos h, if_pos (by omega)]
    · rw [if_neg h, if_neg (by omega)]
theorem cpy_uat (f : Nat → Int32) {a b i : Nat} (hi : a ≤ i) (hb : b ≤ a) : va_cpy f f a b (i - a) i = f i := by
  simp only [va_cpy]
  by_cases h : b ≤ i ∧ i < b + (i - a)
  · exfalso; omega
  · rw [if_neg h]
def st4 (x : Int32) : Prop := x = nI 0 ∨ x = nI 1 ∨ x = nI 2 ∨ x = nI 3
abbrev begP (p : Int32) (b s : Nat → Int32) (i : Nat) : Prop := p < b i ∨ (b i = p ∧ s i - s i / nI 2 * nI 2 = 0)
abbrev endP (p : Int32) (e s : Nat → Int32) (i : Nat) : Prop := p < e i ∨ (e i = p ∧ s i / nI 2 = nI 1)
theorem st4_b {x : Int32} (h : st4 x) : x - x / nI 2 * nI 2 = 0 ↔ x &&& nI 1 = 0 := by
  rcases h with h | h | h | h <;> subst h <;> decide
theorem st4_e {x : Int32} (h : st4 x) : x / nI 2 = nI 1 ↔ ¬ x &&& nI 2 = 0 := by
  rcases h with h | h | h | h <;> subst h <;> decide
theorem insB_m {p k : Int32} {b s : Nat → Int32} {i : Nat} (hs : st4 (s i)) : b i + (if ¬ b i = -1 ∧ begP p b s i then k else nI 0) = insB p k b s i := by
  simp only [insB, bInsF, begP, st4_b hs, zb_0, show nI 0 = 0 from rfl]
  by_cases h1 : b i = -1
  · simp [h1]
  · by_cases h2 : p < b i
    · simp [h1, h2]
    · by_cases h3 : b i = p
      · by_cases h4 : s i &&& nI 1 = 0
        · simp_all
        · simp_all
      · simp [h1, h2, h3]
theorem insE_m {p k : Int32} {b e s : Nat → Int32} {i : Nat} (hs : st4 (s i)) : e i + (if ¬ b i = -1 ∧ endP p e s i then k else nI 0) = insE p k b e s i := by
  simp only [insE, bInsF, endP, st4_e hs, zb_0, show nI 0 = 0 from rfl]
  by_cases h1 : b i = -1
  · simp [h1]
  · by_cases h2 : p < e i
    · simp [h1, h2]
    · by_cases h3 : e i = p
      · by_cases h4 : s i &&& nI 2 = 0
        · simp_all
        · simp_all
      · simp [h1, h2, h3]
def siB (p k : Int32) (b : Nat → Int32) : Nat → Int32 := fun i => if b i < p then b i + nI 0 else b i + k
def siE (p k : Int32) (e : Nat → Int32) : Nat → Int32 := fun i => if e i ≤ p then e i + nI 0 else e i + k
def slB (p k : Int32) (b : Nat → Int32) : Nat → Int32 := fun i => behF (b i) p k
def slS (p k own : Int32) (b e xs : Nat → Int32) : Nat → Int32 := fun i => if xs i = 0 then (if nI i = own then xs i else if behF (b i) p k = behF (e i) p k then nI 3 else xs i) else xs i
abbrev gonP (p n : Int32) (b e : Nat → Int32) (kk : Nat) : Prop := ¬ b kk = -1 ∧ behF (b kk) p n = behF (e kk) p n
