theorem zz_look (a b c : Int32) (h : 0 ≤ a) (h2 : a ≤ 60) (h3 : 0 ≤ b) (h4 : b ≤ 10) (h5 : a + b ≤ c) (h6 : c ≤ 100): 0 ≤ c - b ∧ a ≤ c := by
  constructor
  · grind
  · lia
theorem zz_look2 (a b : Int32) (n : Nat) (hn : n ≤ 60) (h : ¬ a < 0) (h2 : a ≤ nI n) (h3 : ¬ nI n ≤ a) : ∃ k, k < n ∧ a = nI k := by
  obtain ⟨j, hj, rfl⟩ := nI_of h
  exact ⟨j, by rw [nI_leI (by omega) (by omega)] at h3; omega, rfl⟩
