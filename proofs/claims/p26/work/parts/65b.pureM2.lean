/-! the reference's face: which failure, which answer -/
theorem plC_d (n : Nat) (a : Int32) : plC n a = 0 ∨ plC n a = 1 := by
  unfold plC
  split <;> simp
theorem cmC_d (n : Nat) (a : Int32) : cmC n a = 0 ∨ cmC n a = 1 := by
  unfold cmC
  split <;> simp
theorem amC_d (x a b : Int32) : amC x a b = 0 ∨ amC x a b = 2 := by
  unfold amC
  split <;> simp
theorem waC_d (x : Int32) : waC x = 0 ∨ waC x = 3 := by
  unfold waC
  split <;> simp
theorem waI {x : Int32} : waC x = 0 ↔ x = 0 := by
  unfold waC
  split <;> simp_all
theorem roC_d (n v : Nat) (x y : Int32) : roC n v x y = 0 ∨ roC n v x y = 3 := by
  unfold roC
  split
  · simp
  · split <;> simp
theorem roI {n v : Nat} {x : Int32} (hv : v ≤ 300) : roC n v x (nI 1) = 0 ↔ (¬ nI 60 < nI n + x ∧ ¬ v = 300) := by
  unfold roC
  split
  · simp_all
  · split
    · rename_i _ q
      rw [nI_add, nI_ltI (by omega) (by omega)] at q
      simp_all
      omega
    · rename_i _ q
      rw [nI_add, nI_ltI (by omega) (by omega)] at q
      simp_all
      omega
theorem roN {n : Nat} {a k : Int32} (hn : n ≤ 60) (h1 : plC n a = 0) (h2 : amC k (nI 1) (nI n - a) = 0) : ¬ nI 60 < nI n + -k := by
  have ha := plC_0 (by omega) h1
  have hk := amC_0 (x := k) (a := 1) (b := n - a.toNatClampNeg) (by omega) (by omega) (by rw [← nsubA ha]; exact h2)
  have e : nI n + -k = nI (n - k.toNatClampNeg) := by
    rw [← pk_sub (by omega), ← hk.1]
    exact (Int32.sub_eq_add_neg _ _).symm
  rw [e, nI_ltI (by omega) (by omega)]
  omega
theorem mod3 {x : Nat} : (if x = 3 then 2 else x) = 0 ↔ x = 0 := by
  split <;> simp_all
def ovM (b e xs : Nat → Int32) (i j : Nat) : Int32 := if xs i = 0 then cov (fun kk => ¬ kk = i ∧ xs kk = 0 ∧ b kk < e i ∧ b i < e kk) j else 0
/-- the last place at which a piece of that number begins -/
def lstF (P : Nat → Prop) [DecidablePred P] (x : Int32) : Nat → Int32
  | 0 => -1
  | k + 1 => if P k ∧ nI (cntF P k) = x then nI k else lstF P x k
theorem lstF_t {P : Nat → Prop} [DecidablePred P] {x : Int32} {k : Nat} (h : P k ∧ nI (cntF P k) = x) : nI k = lstF P x (k + 1) := by
  simp only [lstF]
  rw [if_pos h]
theorem lstF_f {P : Nat → Prop} [DecidablePred P] {x : Int32} {k : Nat} (h : ¬ (P k ∧ nI (cntF P k) = x)) : lstF P x k = lstF P x (k + 1) := by
  simp only [lstF]
  rw [if_neg h]
def fiM (n z c : Nat) (ql qa qb f : Nat → Int32) (k : Nat) : Int32 := if k + z ≤ n ∧ (∀ jj, jj < z → ql (c * 60 + jj) = f (k + jj)) then zb (letF n f (nI k - nI 1) = qa c) + zb (letF n f (nI (k + z)) = qb c) else -1
def bsM (F : Nat → Int32) : Nat → Int32
  | 0 => -1
  | k + 1 => if (if bsM F k = -1 then -1 else F (bsM F k).toNatClampNeg) < F k then nI k else bsM F k
theorem bsM_nat {F : Nat → Int32} : ∀ m, bsM F m = -1 ∨ ∃ k, k < m ∧ bsM F m = nI k
  | 0 => Or.inl rfl
  | m + 1 => by
    simp only [bsM]
    by_cases q : (if bsM F m = -1 then -1 else F (bsM F m).toNatClampNeg) < F m
    · rw [if_pos q]
      exact Or.inr ⟨m, Nat.lt_succ_self m, rfl⟩
    · rw [if_neg q]
      rcases bsM_nat (F := F) m with h | ⟨k, h1, h2⟩
      · exact Or.inl h
      · exact Or.inr ⟨k, by omega, h2⟩
theorem bsM_n {F : Nat → Int32} {m : Nat} (hm : m < 2 ^ 31) (h : ¬ bsM F m = -1) : bsM F m = nI (bsM F m).toNatClampNeg ∧ (bsM F m).toNatClampNeg < m := by
  rcases bsM_nat (F := F) m with h1 | ⟨k, h1, h2⟩
  · exact absurd h1 h
  · rw [h2, nI_clamp (by omega)]
    exact ⟨rfl, h1⟩
theorem or_0 (x : Int32) : x ||| nI 0 = x := by
  rw [show nI 0 = 0 from rfl]
  exact Int32.or_zero
theorem rgI (n : Nat) (a k : Int32) : (¬ plC n a = 0 ∨ ¬ plC n k = 0 → rgC n a k = 1) ∧ (plC n a = 0 → plC n k = 0 → k ≤ a → rgC n a k = 2) ∧ (plC n a = 0 → plC n k = 0 → ¬ k ≤ a → rgC n a k = 0) := by
  have h1 := plC_d n a
  have h2 := plC_d n k
  simp only [rgC, fz]
  grind
theorem cpy_z (f g : Nat → Int32) (a b : Nat) : va_cpy f g a b 0 = g := by
  funext i
  simp only [va_cpy]
  rw [if_neg (by omega)]
theorem cpy_g (f g : Nat → Int32) (a b i : Nat) : upd (va_cpy f g a b i) (b + i) (f (a + i)) = va_cpy f g a b (i + 1) := by
  funext j
  simp only [upd, va_cpy]
  by_cases e : j = b + i
  · subst e
    rw [if_pos rfl, if_pos (by omega)]
    congr 1
    omega
  · rw [if_neg e]
    by_cases h : b ≤ j ∧ j < b + i
    · rw [if_pos h, if_pos (by omega)]
    · rw [if_neg h, if_neg (by omega)]
