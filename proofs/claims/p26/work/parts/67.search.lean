/-! searches and counts: both sides find and count alike -/
theorem fnd_neg {P : Nat → Prop} [DecidablePred P] {x : Int32} (hx : x < 0) : ∀ n, n < 2 ^ 31 → fndF P x n = -1
  | 0, _ => rfl
  | n + 1, hn => by
    have ih := fnd_neg (P := P) hx n (by omega)
    have h1 : ¬ nI (cntF P n) = x := by
      intro z
      have h2 := nI_pos' (n := cntF P n) (by have := cntF_le (P := P) n; omega)
      rw [z] at h2
      exact absurd hx (Int32.not_lt.mpr h2)
    simp only [fndF]
    rw [if_neg (not_not_intro ih), if_neg (fun z => h1 z.2)]
theorem fl_nat {P : Nat → Prop} [DecidablePred P] {c : Nat} (hc : c < 2 ^ 31) : ∀ n, n ≤ 100 → (c < cntF P n → fndF P (nI c) n = lstF P (nI c) n ∧ ¬ fndF P (nI c) n = -1) ∧ (cntF P n ≤ c → fndF P (nI c) n = -1)
  | 0, _ => ⟨fun h => absurd h (Nat.not_lt_zero _), fun _ => rfl⟩
  | n + 1, hn => by
    obtain ⟨i1, i2⟩ := fl_nat (P := P) hc n (by omega)
    have hl := cntF_le (P := P) n
    simp only [cntF, fndF, lstF]
    by_cases h : P n
    · rw [if_pos h]
      rcases Nat.lt_trichotomy c (cntF P n) with q | q | q
      · obtain ⟨j1, j2⟩ := i1 q
        refine ⟨fun _ => ?_, fun z => by omega⟩
        rw [if_pos j2, if_neg (fun z => by have := (nI_eq (by omega) (by omega)).mp z.2; omega)]
        exact ⟨j1, j2⟩
      · have j2 := i2 (by omega)
        refine ⟨fun _ => ?_, fun z => by omega⟩
        rw [if_neg (not_not_intro j2), if_pos ⟨h, by rw [q]⟩, if_pos ⟨h, by rw [q]⟩]
        exact ⟨rfl, nI_m1 (by omega)⟩
      · have j2 := i2 (by omega)
        refine ⟨fun z => by omega, fun _ => ?_⟩
        rw [if_neg (not_not_intro j2), if_neg (fun z => by have := (nI_eq (by omega) (by omega)).mp z.2; omega)]
    · rw [if_neg h]
      refine ⟨fun z => ?_, fun z => ?_⟩
      · obtain ⟨j1, j2⟩ := i1 z
        rw [if_pos j2, if_neg (fun z => h z.1)]
        exact ⟨j1, j2⟩
      · have j2 := i2 z
        rw [if_neg (not_not_intro j2), if_neg (fun z => h z.1)]
theorem pc_code {P : Nat → Prop} [DecidablePred P] {x : Int32} {n : Nat} (hn : n ≤ 60) : (if fndF P x n = -1 then 1 else 0) = cmC (cntF P n) x := by
  have hl := cntF_le (P := P) n
  unfold cmC
  by_cases hx : x < 0
  · rw [if_pos (fnd_neg hx n (by omega)), if_neg (fun z => absurd hx (Int32.not_lt.mpr z.1))]
  · obtain ⟨c, hc, rfl⟩ := nI_of hx
    obtain ⟨i1, i2⟩ := fl_nat (P := P) hc n (by omega)
    by_cases q : c < cntF P n
    · have q2 : nI c < nI (cntF P n) := (nI_ltI hc (by omega)).mpr q
      rw [if_neg (i1 q).2, if_pos ⟨nI_pos' hc, q2⟩]
    · have q2 : ¬ (0 ≤ nI c ∧ nI c < nI (cntF P n)) := fun z => q ((nI_ltI hc (by omega)).mp z.2)
      rw [if_pos (i2 (by omega)), if_neg q2]
theorem pc_ans {P : Nat → Prop} [DecidablePred P] {x : Int32} {n : Nat} (hn : n ≤ 60) (h : cmC (cntF P n) x = 0) : fndF P x n = lstF P x n := by
  have hl := cntF_le (P := P) n
  obtain ⟨h1, h2⟩ := cmC_0 (by omega) h
  rw [h1]
  exact ((fl_nat (P := P) (c := x.toNatClampNeg) (by omega) n (by omega)).1 h2).1
-- the best place
theorem m1_lt {x : Int32} (h : 0 ≤ x) : -1 < x := by
  rw [Int32.lt_iff_toInt_lt, show (-1 : Int32).toInt = -1 by decide]
  rw [Int32.le_iff_toInt_le, show (0 : Int32).toInt = 0 by decide] at h
  omega
theorem nlt_m1 {x : Int32} (h : 0 ≤ x) : ¬ x < -1 := by
  rw [Int32.lt_iff_toInt_lt, show (-1 : Int32).toInt = -1 by decide]
  rw [Int32.le_iff_toInt_le, show (0 : Int32).toInt = 0 by decide] at h
  omega
theorem bs_eq {S : Nat → Prop} [DecidablePred S] {F G : Nat → Int32} (hF : ∀ k, 0 ≤ F k) : ∀ k, k < 2 ^ 31 → (∀ i, i < k → G i = if S i then F i else -1) → bsM G k = (bst S F k).1 ∧ ((bst S F k).1 = -1 ∨ ∃ q, q < k ∧ (bst S F k).1 = nI q ∧ S q ∧ (bst S F k).2 = F q)
  | 0, _, _ => ⟨rfl, Or.inl rfl⟩
  | k + 1, hk, hG => by
    obtain ⟨h1, h2⟩ := bs_eq (S := S) (F := F) (G := G) hF k (by omega) (fun i hi => hG i (by omega))
    have hGk := hG k (by omega)
    simp only [bsM]
    rw [h1]
    by_cases hs : S k
    · rw [if_pos hs] at hGk
      rw [hGk]
      rcases h2 with h2 | ⟨q, hq, e1, e2, e3⟩
      · rw [bst_t hs (Or.inl h2), h2, if_pos rfl, if_pos (m1_lt (hF k))]
        exact ⟨rfl, Or.inr ⟨k, Nat.lt_succ_self k, rfl, hs, rfl⟩⟩
      · have hne : ¬ (bst S F k).1 = -1 := by
          rw [e1]
          exact nI_m1 (by omega)
        have hgq : G (bst S F k).1.toNatClampNeg = (bst S F k).2 := by
          rw [e1, nI_clamp (by omega), hG q (by omega), if_pos e2, e3]
        rw [if_neg hne, hgq]
        by_cases w : (bst S F k).2 < F k
        · rw [bst_t hs (Or.inr w), if_pos w]
          exact ⟨rfl, Or.inr ⟨k, Nat.lt_succ_self k, rfl, hs, rfl⟩⟩
        · rw [bst_f (fun z => z.2.elim hne w), if_neg w]
          exact ⟨rfl, Or.inr ⟨q, by omega, e1, e2, e3⟩⟩
    · rw [if_neg hs] at hGk
      rw [hGk, bst_f (fun z => hs z.1)]
      rcases h2 with h2 | ⟨q, hq, e1, e2, e3⟩
      · rw [h2, if_pos rfl, if_neg (by decide)]
        exact ⟨rfl, Or.inl rfl⟩
      · have hne : ¬ (bst S F k).1 = -1 := by
          rw [e1]
          exact nI_m1 (by omega)
        have hgq : G (bst S F k).1.toNatClampNeg = F q := by
          rw [e1, nI_clamp (by omega), hG q (by omega), if_pos e2]
        rw [if_neg hne, hgq, if_neg (nlt_m1 (hF q))]
        exact ⟨rfl, Or.inr ⟨q, by omega, e1, e2, e3⟩⟩
theorem bs_tail {G : Nat → Int32} (hG : ∀ i, ¬ G i < -1) {K : Nat} : ∀ d, (∀ i, K ≤ i → i < K + d → G i = -1) → bsM G (K + d) = bsM G K
  | 0, _ => rfl
  | d + 1, h => by
    have ih := bs_tail hG d (fun i h1 h2 => h i h1 (by omega))
    show bsM G ((K + d) + 1) = bsM G K
    simp only [bsM]
    rw [h (K + d) (by omega) (by omega), if_neg, ih]
    by_cases c : bsM G (K + d) = -1
    · rw [if_pos c]
      decide
    · rw [if_neg c]
      exact hG _
theorem zb_ge (P Q : Prop) [Decidable P] [Decidable Q] : 0 ≤ zb P + zb Q := by
  by_cases h1 : P <;> by_cases h2 : Q <;> simp only [zb, h1, h2, if_true, if_false] <;> decide
theorem find_eq {n z c : Nat} {ql qa qb f : Nat → Int32} (hn : n ≤ 60) (hz : 1 ≤ z) : bfF n z c ql qa qb f = bsM (fiM n z c ql qa qb f) n := by
  have hS : ∀ i, i < n + 1 - z → fiM n z c ql qa qb f i = if (∀ jj, jj < z → ql (c * 60 + jj) = f (i + jj)) then zb (letF n f (nI i - nI 1) = qa c) + zb (letF n f (nI (i + z)) = qb c) else -1 := by
    intro i hi
    unfold fiM
    by_cases q : ∀ jj, jj < z → ql (c * 60 + jj) = f (i + jj)
    · rw [if_pos ⟨by omega, q⟩, if_pos q]
    · rw [if_neg (fun w => q w.2), if_neg q]
  have h1 := (bs_eq (S := fun kk => ∀ jj, jj < z → ql (c * 60 + jj) = f (kk + jj)) (F := fun kk => zb (letF n f (nI kk - nI 1) = qa c) + zb (letF n f (nI (kk + z)) = qb c)) (G := fiM n z c ql qa qb f) (fun k => zb_ge _ _) (n + 1 - z) (by omega) hS).1
  have h2 := bs_tail (G := fiM n z c ql qa qb f) (K := n + 1 - z) (fun i => by
    unfold fiM
    split
    · exact nlt_m1 (zb_ge _ _)
    · decide) (n - (n + 1 - z)) (fun i g1 g2 => by
    unfold fiM
    rw [if_neg (fun w => by omega)])
  rw [show n + 1 - z + (n - (n + 1 - z)) = n by omega] at h2
  rw [h2, h1]
  rfl
-- how many bits
theorem bc_row : ∀ m, m < 12 → ∀ u, u < 64 → ∀ w, w < 64 → 64 * u + w < 2 ^ m → (nI (64 * u + w) ||| bitF (nI m) = nI (64 * u + w + 2 ^ m)) ∧ bcF (nI (64 * u + w + 2 ^ m)) = bcF (nI (64 * u + w)) + nI 1 := by decide +kernel
theorem bc_step {m x : Nat} (hm : m < 12) (hx : x < 2 ^ m) : (nI x ||| bitF (nI m) = nI (x + 2 ^ m)) ∧ bcF (nI (x + 2 ^ m)) = bcF (nI x) + nI 1 := by
  have h2 : (2 : Nat) ^ m ≤ 2 ^ 11 := Nat.pow_le_pow_right (by omega) (by omega)
  have e : 64 * (x / 64) + x % 64 = x := Nat.div_add_mod x 64
  have h := bc_row m hm (x / 64) (by omega) (x % 64) (by omega)
  rw [e] at h
  exact h hx
theorem bc_cov {P : Nat → Prop} [DecidablePred P] : ∀ m, m ≤ 12 → ∃ x, x < 2 ^ m ∧ cov P m = nI x ∧ bcF (nI x) = nI (cntF P m)
  | 0, _ => ⟨0, by omega, rfl, by show bcF (nI 0) = nI 0; decide⟩
  | m + 1, hm => by
    obtain ⟨x, h1, h2, h3⟩ := bc_cov (P := P) m (by omega)
    have hp : (2 : Nat) ^ (m + 1) = 2 ^ m + 2 ^ m := by rw [Nat.pow_succ]; omega
    simp only [cov, cntF]
    by_cases h : P m
    · obtain ⟨g1, g2⟩ := bc_step (m := m) (x := x) (by omega) h1
      rw [if_pos h, if_pos h]
      exact ⟨x + 2 ^ m, by omega, by rw [h2, g1], by rw [g2, h3, nI_add]⟩
    · rw [if_neg h, if_neg h]
      exact ⟨x, by omega, h2, h3⟩
theorem cnt_eq {p k : Int32} {b e : Nat → Int32} {m : Nat} (hm : m ≤ 12) : bcF (gonF p k b e m) = nI (cntF (gonP p k b e) m) := by
  obtain ⟨x, -, h2, h3⟩ := bc_cov (P := gonP p k b e) m hm
  rw [← h3, ← h2]
  rfl
