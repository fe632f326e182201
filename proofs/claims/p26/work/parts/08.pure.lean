/-! what the small methods answer -/
theorem zb1 {P : Prop} [Decidable P] (h : P) : nI 1 = zb P := zb_1 h
theorem zb0 {P : Prop} [Decidable P] (h : ¬ P) : nI 0 = zb P := zb_z h
def letF (n : Nat) (f : Nat → Int32) (p : Int32) : Int32 := if 0 ≤ p ∧ p < nI n then f p.toNatClampNeg else -1
def marF (n : Nat) (f : Nat → Int32) (p : Int32) : Int32 := if 0 ≤ p ∧ p < nI n then f p.toNatClampNeg else 0
def filF (f : Nat → Int32) (a b : Nat) (x : Int32) : Nat → Int32 := fun i => if a ≤ i ∧ i < b then x else f i
def mrkF (f : Nat → Int32) (a b : Nat) (x : Int32) : Nat → Int32 := fun i => if a ≤ i ∧ i < b then f i ||| x else f i
theorem filF_0 (f : Nat → Int32) {a b : Nat} (x : Int32) (h : b ≤ a) : filF f a b x = f := by
  funext i
  simp only [filF]
  rw [if_neg (by omega)]
theorem filF_up (f : Nat → Int32) {a b : Nat} (x : Int32) (h : a ≤ b) : upd (filF f a b x) b x = filF f a (b + 1) x := by
  funext i
  simp only [filF, upd]
  by_cases e : i = b
  · subst e
    rw [if_pos rfl, if_pos (by omega)]
  · rw [if_neg e]
    by_cases q : a ≤ i ∧ i < b
    · rw [if_pos q, if_pos (by omega)]
    · rw [if_neg q, if_neg (by omega)]
theorem mrkF_0 (f : Nat → Int32) {a b : Nat} (x : Int32) (h : b ≤ a) : mrkF f a b x = f := by
  funext i
  simp only [mrkF]
  rw [if_neg (by omega)]
theorem mrkF_at (f : Nat → Int32) (a b : Nat) (x : Int32) : mrkF f a b x b = f b := by
  simp only [mrkF]
  rw [if_neg (by omega)]
theorem mrkF_up (f : Nat → Int32) {a b : Nat} (x : Int32) (h : a ≤ b) : upd (mrkF f a b x) b (f b ||| x) = mrkF f a (b + 1) x := by
  funext i
  simp only [mrkF, upd]
  by_cases e : i = b
  · subst e
    rw [if_pos rfl, if_pos (by omega)]
  · rw [if_neg e]
    by_cases q : a ≤ i ∧ i < b
    · rw [if_pos q, if_pos (by omega)]
    · rw [if_neg q, if_neg (by omega)]
-- ranges
def numF (b e : Int32) : Int32 := if b = -1 then -1 else nI 100 * b + e
def bInsF (x p n r : Int32) : Int32 := if p < x ∨ (x = p ∧ r = 0) then x + n else x
def behF (x p n : Int32) : Int32 := if x ≤ p then x else if x - n < p then p else x - n
def insB (p n : Int32) (b s : Nat → Int32) : Nat → Int32 := fun k => if b k = -1 then b k else bInsF (b k) p n (zb (¬ s k &&& nI 1 = 0))
def insE (p n : Int32) (b e s : Nat → Int32) : Nat → Int32 := fun k => if b k = -1 then e k else bInsF (e k) p n (zb (s k &&& nI 2 = 0))
def remB (p n : Int32) (b e : Nat → Int32) : Nat → Int32 := fun k => if b k = -1 then b k else if behF (b k) p n = behF (e k) p n then -1 else behF (b k) p n
def remE (p n : Int32) (b e : Nat → Int32) : Nat → Int32 := fun k => if b k = -1 then e k else if behF (b k) p n = behF (e k) p n then -1 else behF (e k) p n
theorem upd_upd (f : Nat → Int32) (k : Nat) (x y : Int32) : upd (upd f k x) k y = upd f k y := by
  funext i
  simp only [upd]
  split <;> rfl
/-- a row written in the middle of another one -/
def wrF (h : Nat → Int32) (s i : Nat) (g : Nat → Int32) : Nat → Int32 := fun k => if s ≤ k ∧ k < s + i then g (k - s) else h k
theorem wrF_0 (h : Nat → Int32) (s : Nat) (g : Nat → Int32) : wrF h s 0 g = h := by
  funext k
  simp only [wrF]
  rw [if_neg (by omega)]
theorem wrF_up (h : Nat → Int32) (s i : Nat) (g : Nat → Int32) : upd (wrF h s i g) (s + i) (g i) = wrF h s (i + 1) g := by
  funext k
  simp only [wrF, upd]
  by_cases e : k = s + i
  · subst e
    rw [if_pos rfl, if_pos (by omega), Nat.add_sub_cancel_left]
  · rw [if_neg e]
    by_cases q : s ≤ k ∧ k < s + i
    · rw [if_pos q, if_pos (by omega)]
    · rw [if_neg q, if_neg (by omega)]
/-- the best of the places: the lowest of those with the greatest fit -/
def bst (S : Nat → Prop) [DecidablePred S] (F : Nat → Int32) : Nat → Int32 × Int32
  | 0 => (-1, nI 0)
  | k + 1 => if S k ∧ ((bst S F k).1 = -1 ∨ (bst S F k).2 < F k) then (nI k, F k) else bst S F k
theorem bst_t {S : Nat → Prop} [DecidablePred S] {F : Nat → Int32} {k : Nat} (h : S k) (h2 : (bst S F k).1 = -1 ∨ (bst S F k).2 < F k) : bst S F (k + 1) = (nI k, F k) := by
  simp only [bst]
  rw [if_pos ⟨h, h2⟩]
theorem bst_f {S : Nat → Prop} [DecidablePred S] {F : Nat → Int32} {k : Nat} (h : ¬ (S k ∧ ((bst S F k).1 = -1 ∨ (bst S F k).2 < F k))) : bst S F (k + 1) = bst S F k := by
  simp only [bst]
  rw [if_neg h]
-- bitCount, as the machine counts
def bc1 (x : Int32) : Int32 := x - ((x.toUInt32 >>> ((nI 1).toUInt32 &&& Int32.toUInt32 31)).toInt32 &&& 1431655765)
def bc2 (x : Int32) : Int32 := (x &&& 858993459) + ((x.toUInt32 >>> ((nI 2).toUInt32 &&& Int32.toUInt32 31)).toInt32 &&& 858993459)
def bc3 (x : Int32) : Int32 := (x + (x.toUInt32 >>> ((nI 4).toUInt32 &&& Int32.toUInt32 31)).toInt32) &&& 252645135
def bc4 (x : Int32) : Int32 := x + (x.toUInt32 >>> ((nI 8).toUInt32 &&& Int32.toUInt32 31)).toInt32
def bc5 (x : Int32) : Int32 := (x + (x.toUInt32 >>> ((nI 16).toUInt32 &&& Int32.toUInt32 31)).toInt32) &&& nI 63
def bcF (x : Int32) : Int32 := bc5 (bc4 (bc3 (bc2 (bc1 x))))
theorem zsubT {n z : Nat} (hn : n < 2 ^ 29) (hz : z < 2 ^ 29) : (nI n - nI z).toInt = (n : Int) - z := pk_sub_toInt (by omega) (by omega)
theorem zsubgt {i n z : Nat} (hi : i < 2 ^ 29) (hn : n < 2 ^ 29) (hz : z < 2 ^ 29) (q : n < i + z) : nI n - nI z < nI i := by
  rw [Int32.lt_iff_toInt_lt, zsubT hn hz, nI_toInt (by omega)]
  omega
theorem zsubgt2 {i n z : Nat} (hi : i < 2 ^ 29) (hn : n < 2 ^ 29) (hz : z < 2 ^ 29) (q : nI n - nI z < nI i) : n < i + z := by
  rw [Int32.lt_iff_toInt_lt, zsubT hn hz, nI_toInt (by omega)] at q
  omega
def covF (b e : Nat → Int32) (m : Nat) (p : Int32) : Int32 := cov (fun kk => b kk ≤ p ∧ p < e kk) m
def gonF (p n : Int32) (b e : Nat → Int32) (m : Nat) : Int32 := cov (fun kk => ¬ b kk = -1 ∧ behF (b kk) p n = behF (e kk) p n) m
def bfF (n z c : Nat) (ql qa qb f : Nat → Int32) : Int32 := (bst (fun kk => ∀ jj, jj < z → ql (c * 60 + jj) = f (kk + jj)) (fun kk => zb (letF n f (nI kk - nI 1) = qa c) + zb (letF n f (nI (kk + z)) = qb c)) (n + 1 - z)).1
