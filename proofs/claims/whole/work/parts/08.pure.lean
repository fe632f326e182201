/-! what the small methods answer -/
theorem zb1 {P : Prop} [Decidable P] (h : P) : nI 1 = zb P := zb_1 h
theorem zb0 {P : Prop} [Decidable P] (h : ¬ P) : nI 0 = zb P := zb_z h
def letF (n : Nat) (f : Nat → Int32) (p : Int32) : Int32 := if 0 ≤ p ∧ p < nI n then f p.toNatClampNeg else -1
def marF (n : Nat) (f : Nat → Int32) (p : Int32) : Int32 := if 0 ≤ p ∧ p < nI n then f p.toNatClampNeg else 0
def filF (f : Nat → Int32) (a b : Nat) (x : Int32) : Nat → Int32 := fun i => if a ≤ i ∧ i < b then x else f i
def mrkF (f : Nat → Int32) (a b : Nat) (x : Int32) : Nat → Int32 := fun i => if a ≤ i ∧ i < b then f i ||| x else f i
theorem filF_0 (f : Nat → Int32) {a b : Nat} (x : Int32) (h : b ≤ a) : filF f a b x = f := by
  funext i
  simp only [filF]
  rw [if_neg (by omega)]
theorem filF_up (f : Nat → Int32) {a b : Nat} (x : Int32) (h : a ≤ b) : upd (filF f a b x) b x = filF f a (b + 1) x := by
  funext i
  simp only [filF, upd]
  by_cases e : i = b
  · subst e
    rw [if_pos rfl, if_pos (by omega)]
  · rw [if_neg e]
    by_cases q : a ≤ i ∧ i < b
    · rw [if_pos q, if_pos (by omega)]
    · rw [if_neg q, if_neg (by omega)]
theorem mrkF_0 (f : Nat → Int32) {a b : Nat} (x : Int32) (h : b ≤ a) : mrkF f a b x = f := by
  funext i
  simp only [mrkF]
  rw [if_neg (by omega)]
theorem mrkF_at (f : Nat → Int32) (a b : Nat) (x : Int32) : mrkF f a b x b = f b := by
  simp only [mrkF]
  rw [if_neg (by omega)]
theorem mrkF_up (f : Nat → Int32) {a b : Nat} (x : Int32) (h : a ≤ b) : upd (mrkF f a b x) b (f b ||| x) = mrkF f a (b + 1) x := by
  funext i
  simp only [mrkF, upd]
  by_cases e : i = b
  · subst e
    rw [if_pos rfl, if_pos (by omega)]
  · rw [if_neg e]
    by_cases q : a ≤ i ∧ i < b
    · rw [if_pos q, if_pos (by omega)]
    · rw [if_neg q, if_neg (by omega)]
-- ranges
def numF (b e : Int32) : Int32 := if b = -1 then -1 else nI 100 * b + e
def bInsF (x p n : Int32) (stays : Prop) [Decidable stays] : Int32 := if p < x ∨ (x = p ∧ ¬ stays) then x + n else x
def behF (x p n : Int32) : Int32 := if x ≤ p then x else if x - n < p then p else x - n
def insB (p n : Int32) (b s : Nat → Int32) : Nat → Int32 := fun k => if b k = -1 then b k else bInsF (b k) p n (¬ s k &&& nI 1 = 0)
def insE (p n : Int32) (b e s : Nat → Int32) : Nat → Int32 := fun k => if b k = -1 then e k else bInsF (e k) p n (s k &&& nI 2 = 0)
def gonP (p n : Int32) (b e : Nat → Int32) (k : Nat) : Prop := ¬ b k = -1 ∧ behF (b k) p n = behF (e k) p n
def gonD (p n : Int32) (b e : Nat → Int32) : Nat → Bool := fun k => decide (¬ b k = -1 ∧ behF (b k) p n = behF (e k) p n)
def remB (p n : Int32) (b e : Nat → Int32) : Nat → Int32 := fun k => if b k = -1 then b k else if behF (b k) p n = behF (e k) p n then -1 else behF (b k) p n
def remE (p n : Int32) (b e : Nat → Int32) : Nat → Int32 := fun k => if b k = -1 then e k else if behF (b k) p n = behF (e k) p n then -1 else behF (e k) p n
