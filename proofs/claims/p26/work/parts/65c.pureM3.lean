/-! the reference's searches and acceptances -/
theorem roT {n v z t d : Nat} (hn : n < 2 ^ 29) (hz : z < 2 ^ 29) (ht : t ≤ n) (hv : v < 2 ^ 29) (hd : d < 2 ^ 29) : roC n v (nI z - nI t) (nI d) = 0 ↔ (n - t + z ≤ 60 ∧ v + d ≤ 300) := by
  refine ⟨roC_s hn hz ht hv hd, fun h => ?_⟩
  have e : nI n + (nI z - nI t) = nI (n - t + z) := by
    have h1 : nI n = nI (n - t) + nI t := by rw [nI_add]; congr 1; omega
    rw [h1, ← nI_add]
    grind
  unfold roC
  rw [e, nI_add, if_neg (fun q => absurd ((nI_ltI (by omega) (by omega)).mp q) (by omega)), if_neg (fun q => absurd ((nI_ltI (by omega) (by omega)).mp q) (by omega))]
theorem all_t {c p i : Nat} {ql f : Nat → Int32} (h : ∀ jj, jj < i → ql (c * 60 + jj) = f (p + jj)) (q : f (p + i) = ql (c * 60 + i)) : ∀ jj, jj < i + 1 → ql (c * 60 + jj) = f (p + jj) := by
  intro jj hj
  by_cases e : jj = i
  · rw [e, q]
  · exact h jj (by omega)
theorem all_f1 {c p i : Nat} {ql f : Nat → Int32} (h : ¬ ∀ jj, jj < i → ql (c * 60 + jj) = f (p + jj)) : ¬ ∀ jj, jj < i + 1 → ql (c * 60 + jj) = f (p + jj) :=
  fun g => h fun jj hj => g jj (by omega)
theorem all_f2 {c p i : Nat} {ql f : Nat → Int32} (q : ¬ f (p + i) = ql (c * 60 + i)) : ¬ ∀ jj, jj < i + 1 → ql (c * 60 + jj) = f (p + jj) :=
  fun g => q (g i (by omega)).symm
