/-! ranges as the law reads them off its letters -/
abbrev RGa (n : Nat) (B E : Nat → Int32) : Prop := ∀ i, i < 14 → rgP n (B i) (E i)
abbrev LEa (n : Nat) (le B E : Nat → Int32) : Prop := ∀ t, t < n → le t = covF B E 14 (nI t)
theorem fst_n {n p : Nat} {b e : Int32} (hn : n ≤ 60) (hp : n ≤ p) (hp2 : p ≤ n) (hR : rgP n b e) (h3 : ∀ x, x < p → ¬ (b ≤ nI x ∧ nI x < e)) : nI p = if b = -1 then nI n else b := by
  rcases hR with ⟨h1, -⟩ | ⟨x, y, h1, h2, h4, h5⟩
  · rw [if_pos h1, show p = n by omega]
  · exact absurd ((cv_n h1 h2 (by omega) (by omega) (by omega)).mpr ⟨Nat.le_refl x, h4⟩) (h3 x (by omega))
theorem fst_p {n p : Nat} {b e : Int32} (hn : n ≤ 60) (hp : p < n) (hR : rgP n b e) (h3 : ∀ x, x < p → ¬ (b ≤ nI x ∧ nI x < e)) (hin : b ≤ nI p ∧ nI p < e) : nI p = if b = -1 then nI n else b := by
  rcases hR with ⟨-, h2⟩ | ⟨x, y, h1, h2, h4, h5⟩
  · exact absurd hin (cv_m h2 (by omega))
  · have h6 := (cv_n h1 h2 (by omega) (by omega) (by omega)).mp hin
    have h7 : x = p := by
      rcases Nat.lt_or_ge x p with q | q
      · exact absurd ((cv_n h1 h2 (by omega) (by omega) (by omega)).mpr ⟨Nat.le_refl x, h4⟩) (h3 x q)
      · omega
    rw [h1, if_neg (nI_m1 (by omega)), h7]
theorem bhd_0 {n p : Nat} {b e : Int32} (hn : n ≤ 60) (hp : p = 0) (hR : rgP n b e) (h3 : ∀ x, p ≤ x → x < n → ¬ (b ≤ nI x ∧ nI x < e)) : nI p = if b = -1 then nI 0 else e := by
  rcases hR with ⟨h1, -⟩ | ⟨x, y, h1, h2, h4, h5⟩
  · rw [if_pos h1, hp]
  · exact absurd ((cv_n h1 h2 (by omega) (by omega) (by omega)).mpr ⟨Nat.le_refl x, h4⟩) (h3 x (by omega) (by omega))
theorem bhd_p {n p : Nat} {b e : Int32} (hn : n ≤ 60) (h0 : 0 < p) (hp : p ≤ n) (hR : rgP n b e) (h3 : ∀ x, p ≤ x → x < n → ¬ (b ≤ nI x ∧ nI x < e)) (hin : b ≤ nI (p - 1) ∧ nI (p - 1) < e) : nI p = if b = -1 then nI 0 else e := by
  rcases hR with ⟨-, h2⟩ | ⟨x, y, h1, h2, h4, h5⟩
  · exact absurd hin (cv_m h2 (by omega))
  · have h6 := (cv_n h1 h2 (by omega) (by omega) (by omega)).mp hin
    have h7 : y = p := by
      rcases Nat.lt_or_ge p y with q | q
      · exact absurd ((cv_n h1 h2 (by omega) (by omega) (by omega)).mpr ⟨by omega, q⟩) (h3 p (Nat.le_refl p) (by omega))
      · omega
    rw [h1, h2, if_neg (nI_m1 (by omega)), h7]
theorem rng_0 {n : Nat} {b e : Int32} (hn : n ≤ 60) (hR : rgP n b e) (h : (if b = -1 then nI 0 else e) = 0) : (-1 : Int32) = numF b e := by
  rcases hR with ⟨h1, -⟩ | ⟨x, y, h1, h2, h4, h5⟩
  · unfold numF
    rw [if_pos h1]
  · rw [h1, h2, if_neg (nI_m1 (by omega))] at h
    exact absurd h (nI_nz (by omega) (by omega))
theorem rng_1 {n : Nat} {b e : Int32} (h : ¬ (if b = -1 then nI 0 else e) = 0) : nI 100 * (if b = -1 then nI n else b) + (if b = -1 then nI 0 else e) = numF b e := by
  unfold numF
  by_cases c : b = -1
  · rw [if_pos c] at h
    exact absurd rfl h
  · rw [if_neg c, if_neg c, if_neg c]
theorem num_m {b e : Int32} (h : b = -1) : (-1 : Int32) = numF b e := by
  unfold numF
  rw [if_pos h]
theorem num_dec {n : Nat} {b e : Int32} (hn : n ≤ 60) (hR : rgP n b e) : (numF b e < 0 ↔ b = -1) ∧ (¬ b = -1 → numF b e / nI 100 = b ∧ numF b e - numF b e / nI 100 * nI 100 = e) := by
  rcases hR with ⟨h1, h2⟩ | ⟨x, y, h1, h2, h4, h5⟩
  · subst h1
    exact ⟨⟨fun _ => rfl, fun _ => by simp only [numF, if_true]; decide⟩, fun h => absurd rfl h⟩
  · have e1 : numF b e = nI (100 * x + y) := by
      unfold numF
      rw [h1, if_neg (nI_m1 (by omega)), h2, pk_mul, nI_add]
    refine ⟨⟨fun h => ?_, fun h => ?_⟩, fun _ => ?_⟩
    · rw [e1] at h
      have := (nI_ltI (a := 100 * x + y) (b := 0) (by omega) (by omega)).mp h
      omega
    · rw [h1] at h
      exact absurd h (nI_m1 (by omega))
    · rw [e1, pk_rem (by omega) (by omega) (by omega), pk_div (by omega) (by omega) (by omega), h1, h2]
      exact ⟨congrArg nI (by omega), congrArg nI (by omega)⟩
theorem st4_r {x : Int32} (h : st4 x) : (x - x / nI 2 * nI 2 = nI 1 ↔ ¬ x &&& nI 1 = 0) ∧ (nI 1 < x ↔ ¬ x &&& nI 2 = 0) := by
  rcases h with h | h | h | h <;> subst h <;> decide
def stF (m : Nat) (s : Nat → Int32) : Nat → Int32 := fun i => if i < m then s i else nI 0
theorem stF_t {m i : Nat} {s : Nat → Int32} (h : i < m) : s i = stF m s i := (if_pos h).symm
theorem stF_f {m i : Nat} {s : Nat → Int32} (h : ¬ i < m) : nI 0 = stF m s i := (if_neg h).symm
theorem stF_4 {m : Nat} {s : Nat → Int32} (hs : ∀ i, i < m → st4 (s i)) (i : Nat) : st4 (stF m s i) := by
  unfold stF
  by_cases h : i < m
  · rw [if_pos h]
    exact hs i h
  · rw [if_neg h]
    exact Or.inl rfl
theorem ins_key {n p k x y : Nat} (hn : n ≤ 60) (hp : p ≤ n) (hk : 0 < k) (hk2 : k ≤ 60) (hx : x ≤ n) (hy : y ≤ n) {P1 P2 : Prop} [Decidable P1] [Decidable P2] : (nI (if p < x ∨ (x = p ∧ P1) then x + k else x) ≤ nI p ∧ nI p < nI (if p < y ∨ (y = p ∧ P2) then y + k else y)) ↔ ((nI x < nI p ∨ (nI x = nI p ∧ ¬ P1)) ∧ (nI p < nI y ∨ (nI y = nI p ∧ P2))) := by
  rw [nI_ltI (a := x) (b := p) (by omega) (by omega), nI_eq (a := x) (b := p) (by omega) (by omega), nI_ltI (a := p) (b := y) (by omega) (by omega), nI_eq (a := y) (b := p) (by omega) (by omega)]
  refine and_congr ?_ ?_
  · by_cases c : p < x ∨ (x = p ∧ P1)
    · rw [if_pos c]
      rw [nI_leI (by omega) (by omega)]
      exact ⟨fun q => by omega, fun q => q.elim (fun q => by omega) (fun q => c.elim (fun z => by omega) (fun z => absurd z.2 q.2))⟩
    · rw [if_neg c, nI_leI (by omega) (by omega)]
      refine ⟨fun q => ?_, fun q => by omega⟩
      by_cases e : x = p
      · exact Or.inr ⟨e, fun z => c (Or.inr ⟨e, z⟩)⟩
      · exact Or.inl (by omega)
  · by_cases c : p < y ∨ (y = p ∧ P2)
    · rw [if_pos c]
      rw [nI_ltI (by omega) (by omega)]
      exact ⟨fun _ => c, fun _ => by omega⟩
    · rw [if_neg c, nI_ltI (by omega) (by omega)]
      exact ⟨fun q => Or.inl q, fun q => q.elim id (fun z => absurd (Or.inr z) c)⟩
theorem ins_iff {n p k i : Nat} {B E S : Nat → Int32} (hn : n ≤ 60) (hp : p ≤ n) (hk : 0 < k) (hk2 : k ≤ 60) (hR : rgP n (B i) (E i)) : (insB (nI p) (nI k) B S i ≤ nI p ∧ nI p < insE (nI p) (nI k) B E S i) ↔ (¬ B i = -1 ∧ (B i < nI p ∨ (B i = nI p ∧ ¬ S i &&& nI 1 = 0)) ∧ (nI p < E i ∨ (E i = nI p ∧ ¬ S i &&& nI 2 = 0))) := by
  rcases hR with ⟨h1, h2⟩ | ⟨x, y, h1, h2, h3, h4⟩
  · simp only [insB, insE]
    rw [if_pos h1, if_pos h1]
    exact ⟨fun q => absurd q (cv_m h2 (by omega)), fun q => absurd h1 q.1⟩
  · have m1 : ¬ nI x = -1 := nI_m1 (by omega)
    simp only [insB, insE, h1, h2]
    rw [if_neg m1, if_neg m1, bIns_nI _ (by omega) (by omega), bIns_nI _ (by omega) (by omega), ins_key hn hp hk hk2 (by omega) h4]
    simp only [zb_0, Decidable.not_not, m1, not_false_iff, true_and]
theorem rg_ins {n p k : Nat} {B E S : Nat → Int32} (hn : n ≤ 60) (hp : p ≤ n) (hR : RGa n B E) : RGa (n + k) (insB (nI p) (nI k) B S) (insE (nI p) (nI k) B E S) := by
  intro i hi
  rcases ins_at (k := k) (s := S) hn hp (hR i hi) with ⟨-, -, h1, h2⟩ | ⟨x, y, x', y', -, -, h3, h4, h5, h6, h7, h8⟩
  · exact Or.inl ⟨h1, h2⟩
  · exact Or.inr ⟨x', y', h5, h6, by omega, by omega⟩
theorem le_ins {n p k : Nat} {le B E S : Nat → Int32} (hn : n ≤ 60) (hp : p ≤ n) (hk : n + k ≤ 60) (hk0 : 0 < k) (hR : RGa n B E) (hE : LEa n le B E) : LEa (n + k) (filF (va_cpy le le p (p + k) (n - p)) p (p + k) (covF (insB (nI p) (nI k) B S) (insE (nI p) (nI k) B E S) 14 (nI p))) (insB (nI p) (nI k) B S) (insE (nI p) (nI k) B E S) := by
  intro t ht
  simp only [filF]
  by_cases c1 : p ≤ t ∧ t < p + k
  · rw [if_pos c1]
    refine cov_cong fun i hi => ?_
    rcases ins_at (k := k) (s := S) hn hp (hR i hi) with ⟨-, -, h1, h2⟩ | ⟨x, y, x', y', -, -, h3, h4, h5, h6, h7, h8⟩
    · exact ⟨fun q => absurd q (cv_m h2 (by omega)), fun q => absurd q (cv_m h2 (by omega))⟩
    · rw [cv_n h5 h6 (by omega) (by omega) (by omega), cv_n h5 h6 (by omega) (by omega) (by omega)]
      omega
  · rw [if_neg c1]
    simp only [va_cpy]
    by_cases c2 : p + k ≤ t ∧ t < p + k + (n - p)
    · rw [if_pos c2, hE _ (by omega)]
      refine cov_cong fun i hi => ?_
      rcases ins_at (k := k) (s := S) hn hp (hR i hi) with ⟨-, h0, h1, h2⟩ | ⟨x, y, x', y', g1, g2, h3, h4, h5, h6, h7, h8⟩
      · exact ⟨fun q => absurd q (cv_m h0 (by omega)), fun q => absurd q (cv_m h2 (by omega))⟩
      · rw [cv_n g1 g2 (by omega) (by omega) (by omega), cv_n h5 h6 (by omega) (by omega) (by omega)]
        omega
    · rw [if_neg c2, hE _ (by omega)]
      refine cov_cong fun i hi => ?_
      rcases ins_at (k := k) (s := S) hn hp (hR i hi) with ⟨-, h0, h1, h2⟩ | ⟨x, y, x', y', g1, g2, h3, h4, h5, h6, h7, h8⟩
      · exact ⟨fun q => absurd q (cv_m h0 (by omega)), fun q => absurd q (cv_m h2 (by omega))⟩
      · rw [cv_n g1 g2 (by omega) (by omega) (by omega), cv_n h5 h6 (by omega) (by omega) (by omega)]
        omega
theorem rg_rem {n p k : Nat} {B E : Nat → Int32} (hn : n ≤ 60) (hp : p + k ≤ n) (hR : RGa n B E) : RGa (n - k) (remB (nI p) (nI k) B E) (remE (nI p) (nI k) B E) := by
  intro i hi
  rcases rem_at hn hp (hR i hi) with ⟨-, -, h1, h2⟩ | ⟨x, y, -, -, h3, h4, ⟨-, -, h5, h6⟩ | ⟨x', y', h5, h6, h7, h8, h9⟩⟩
  · exact Or.inl ⟨h1, h2⟩
  · exact Or.inl ⟨h5, h6⟩
  · exact Or.inr ⟨x', y', h5, h6, h7, by omega⟩
theorem le_rem {n p k : Nat} {le B E : Nat → Int32} (hn : n ≤ 60) (hp : p + k ≤ n) (hR : RGa n B E) (hE : LEa n le B E) : LEa (n - k) (va_cpy le le (p + k) p (n - (p + k))) (remB (nI p) (nI k) B E) (remE (nI p) (nI k) B E) := by
  intro t ht
  simp only [va_cpy]
  by_cases c2 : p ≤ t ∧ t < p + (n - (p + k))
  · rw [if_pos c2, hE _ (by omega)]
    refine cov_cong fun i hi => ?_
    rcases rem_at hn hp (hR i hi) with ⟨-, h0, h1, h2⟩ | ⟨x, y, g1, g2, h3, h4, ⟨q1, q2, h5, h6⟩ | ⟨x', y', h5, h6, h7, h8, h9⟩⟩
    · exact ⟨fun q => absurd q (cv_m h0 (by omega)), fun q => absurd q (cv_m h2 (by omega))⟩
    · rw [cv_n g1 g2 (by omega) (by omega) (by omega)]
      exact ⟨fun q => by omega, fun q => absurd q (cv_m h6 (by omega))⟩
    · rw [cv_n g1 g2 (by omega) (by omega) (by omega), cv_n h5 h6 (by omega) (by omega) (by omega)]
      omega
  · rw [if_neg c2, hE _ (by omega)]
    refine cov_cong fun i hi => ?_
    rcases rem_at hn hp (hR i hi) with ⟨-, h0, h1, h2⟩ | ⟨x, y, g1, g2, h3, h4, ⟨q1, q2, h5, h6⟩ | ⟨x', y', h5, h6, h7, h8, h9⟩⟩
    · exact ⟨fun q => absurd q (cv_m h0 (by omega)), fun q => absurd q (cv_m h2 (by omega))⟩
    · rw [cv_n g1 g2 (by omega) (by omega) (by omega)]
      exact ⟨fun q => by omega, fun q => absurd q (cv_m h6 (by omega))⟩
    · rw [cv_n g1 g2 (by omega) (by omega) (by omega), cv_n h5 h6 (by omega) (by omega) (by omega)]
      omega
-- the union of the letters' sets, below a place
abbrev hadP (B E : Nat → Int32) (t i : Nat) : Prop := ¬ B i = -1 ∧ B i < nI t
theorem had_0 (B E : Nat → Int32) (hR : ∃ n, n ≤ 60 ∧ RGa n B E) : nI 0 = cov (hadP B E 0) 14 := by
  obtain ⟨n, hn, hR⟩ := hR
  refine (cov_none 14 fun i hi h => ?_).symm
  rcases hR i hi with ⟨h1, -⟩ | ⟨x, y, h1, h2, h3, h4⟩
  · exact h.1 h1
  · have h5 := h.2
    rw [h1] at h5
    have := (nI_ltI (a := x) (b := 0) (by omega) (by omega)).mp h5
    omega
theorem had_s {n t : Nat} {B E : Nat → Int32} (hn : n ≤ 60) (ht : t < n) (hR : RGa n B E) : cov (hadP B E t) 14 ||| covF B E 14 (nI t) = cov (hadP B E (t + 1)) 14 := by
  unfold covF
  rw [cov_or (by omega)]
  refine cov_cong fun i hi => ?_
  rcases hR i hi with ⟨h1, h2⟩ | ⟨x, y, h1, h2, h3, h4⟩
  · exact ⟨fun q => q.elim (fun q => absurd h1 q.1) (fun q => absurd q (cv_m h2 (by omega))), fun q => absurd h1 q.1⟩
  · simp only [hadP, h1, h2, nI_m1 (a := x) (by omega), not_false_iff, true_and]
    rw [nI_ltI (by omega) (by omega), nI_ltI (by omega) (by omega), nI_leI (by omega) (by omega), nI_ltI (by omega) (by omega)]
    omega
theorem had_n {n : Nat} {B E : Nat → Int32} (hn : n ≤ 60) (hR : RGa n B E) {m : Nat} (hm : m ≤ 14) : cov (hadP B E n) m = cov (fun i => ¬ B i = -1) m := by
  refine cov_cong fun i hi => ⟨fun q => q.1, fun q => ⟨q, ?_⟩⟩
  rcases hR i (by omega) with ⟨h1, h2⟩ | ⟨x, y, h1, h2, h3, h4⟩
  · exact absurd h1 q
  · rw [h1, nI_ltI (by omega) (by omega)]
    omega
theorem lost_tb {B B' : Nat → Int32} {k : Nat} (hk : k < 14) : ((cov (fun i => ¬ B i = -1) 14 &&& (cov (fun i => ¬ B' i = -1) 14 ^^^ (-1))) >>> (nI k &&& 31)) &&& nI 1 = zb (¬ B k = -1 ∧ B' k = -1) := by
  rw [cov_andn (by omega), cov_tb hk]
  exact zb_iff (by simp)
theorem zb_cnt {P : Nat → Prop} [DecidablePred P] {k : Nat} : nI (cntF P k) + zb (P k) = nI (cntF P (k + 1)) := by
  by_cases h : P k
  · rw [← cntF_t h]
    unfold zb
    rw [if_pos h]
    exact nI_1 _
  · rw [← cntF_f h]
    unfold zb
    rw [if_neg h]
    exact nI_add _ 0
theorem zb_is1 {P : Prop} [Decidable P] : zb P = nI 1 ↔ P := by
  unfold zb
  by_cases h : P
  · rw [if_pos h]
    exact ⟨fun _ => h, fun _ => rfl⟩
  · rw [if_neg h]
    exact ⟨fun q => absurd q (by decide), fun q => absurd q h⟩
def gneF (own : Int32) (B B' xs : Nat → Int32) : Nat → Int32 := fun i => if (¬ B (8 + i) = -1 ∧ B' (8 + i) = -1) ∧ ¬ nI i = own ∧ xs i = 0 then nI 3 else xs i
-- overlaps
abbrev ovlP (B E : Nat → Int32) (i t k : Nat) : Prop := ¬ B (8 + i) = -1 ∧ ¬ B (8 + k) = -1 ∧ B (8 + i) < nI t ∧ B (8 + k) < nI t ∧ B (8 + i) < E (8 + k) ∧ B (8 + k) < E (8 + i)
theorem ovl_0 {n i : Nat} {B E : Nat → Int32} (hn : n ≤ 60) (hi : i < 6) (hR : RGa n B E) : nI 0 = cov (ovlP B E i 0) 6 := by
  refine (cov_none 6 fun k hk h => ?_).symm
  rcases hR (8 + i) (by omega) with ⟨h1, -⟩ | ⟨x, y, h1, h2, h3, h4⟩
  · exact h.1 h1
  · have h5 := h.2.2.1
    rw [h1] at h5
    have := (nI_ltI (a := x) (b := 0) (by omega) (by omega)).mp h5
    omega
theorem ovl_t {n i t : Nat} {B E : Nat → Int32} (hn : n ≤ 60) (ht : t < n) (hi : i < 6) (hR : RGa n B E) (h : B (8 + i) ≤ nI t ∧ nI t < E (8 + i)) : cov (ovlP B E i t) 6 ||| (covF B E 14 (nI t) >>> (nI 8 &&& 31)) = cov (ovlP B E i (t + 1)) 6 := by
  unfold covF
  rw [cov_hi, cov_or (by omega)]
  refine cov_cong fun k hk => ?_
  rcases hR (8 + i) (by omega) with ⟨h1, h2⟩ | ⟨x, y, h1, h2, h3, h4⟩
  · exact absurd h (cv_m h2 (by omega))
  · have h9 := (cv_n h1 h2 (by omega) (by omega) (by omega)).mp h
    rcases hR (8 + k) (by omega) with ⟨g1, g2⟩ | ⟨x', y', g1, g2, g3, g4⟩
    · exact ⟨fun q => q.elim (fun q => absurd g1 q.2.1) (fun q => absurd q (cv_m g2 (by omega))), fun q => absurd g1 q.2.1⟩
    · simp only [ovlP, h1, h2, g1, g2, nI_m1 (a := x) (by omega), nI_m1 (a := x') (by omega), not_false_iff, true_and]
      rw [nI_ltI (by omega) (by omega), nI_ltI (by omega) (by omega), nI_ltI (by omega) (by omega), nI_ltI (by omega) (by omega), nI_ltI (by omega) (by omega), nI_ltI (by omega) (by omega), nI_leI (by omega) (by omega), nI_ltI (by omega) (by omega)]
      omega
theorem ovl_f {n i t : Nat} {B E : Nat → Int32} (hn : n ≤ 60) (ht : t < n) (hi : i < 6) (hR : RGa n B E) (h : ¬ (B (8 + i) ≤ nI t ∧ nI t < E (8 + i))) : cov (ovlP B E i t) 6 = cov (ovlP B E i (t + 1)) 6 := by
  refine cov_cong fun k hk => ?_
  rcases hR (8 + i) (by omega) with ⟨h1, h2⟩ | ⟨x, y, h1, h2, h3, h4⟩
  · exact ⟨fun q => absurd h1 q.1, fun q => absurd h1 q.1⟩
  · rw [cv_n h1 h2 (by omega) (by omega) (by omega)] at h
    rcases hR (8 + k) (by omega) with ⟨g1, g2⟩ | ⟨x', y', g1, g2, g3, g4⟩
    · exact ⟨fun q => absurd g1 q.2.1, fun q => absurd g1 q.2.1⟩
    · simp only [ovlP, h1, h2, g1, g2, nI_m1 (a := x) (by omega), nI_m1 (a := x') (by omega), not_false_iff, true_and]
      rw [nI_ltI (by omega) (by omega), nI_ltI (by omega) (by omega), nI_ltI (by omega) (by omega), nI_ltI (by omega) (by omega), nI_ltI (by omega) (by omega), nI_ltI (by omega) (by omega)]
      omega
theorem mm_lt {n x x' y y' : Nat} (hn : n ≤ 60) (hx : x ≤ n) (hx' : x' ≤ n) (hy : y ≤ n) (hy' : y' ≤ n) : (if nI x < nI x' then nI x' else nI x) < (if nI y' < nI y then nI y' else nI y) ↔ (x < y ∧ x < y' ∧ x' < y ∧ x' < y') := by
  by_cases c1 : x < x'
  · rw [if_pos ((nI_ltI (by omega) (by omega)).mpr c1)]
    by_cases c2 : y' < y
    · rw [if_pos ((nI_ltI (by omega) (by omega)).mpr c2), nI_ltI (by omega) (by omega)]
      omega
    · rw [if_neg (fun z => c2 ((nI_ltI (by omega) (by omega)).mp z)), nI_ltI (by omega) (by omega)]
      omega
  · rw [if_neg (fun z => c1 ((nI_ltI (by omega) (by omega)).mp z))]
    by_cases c2 : y' < y
    · rw [if_pos ((nI_ltI (by omega) (by omega)).mpr c2), nI_ltI (by omega) (by omega)]
      omega
    · rw [if_neg (fun z => c2 ((nI_ltI (by omega) (by omega)).mp z)), nI_ltI (by omega) (by omega)]
      omega
theorem ovl_n {n i j : Nat} {B E xs : Nat → Int32} (hn : n ≤ 60) (hi : i < 6) (hj : j ≤ 6) (hR : RGa n B E) (hB0 : ∀ k, 8 + j ≤ k → k < 14 → B k = -1) (h0 : xs i = 0) (hw : ∀ k, k < j → xs k = 0 → ¬ B (8 + k) = -1) (hij : i < j) : cov (fun k => ovlP B E i n k ∧ (k < j → ¬ k = i ∧ xs k = 0)) 6 = ovF (fun k => B (8 + k)) (fun k => E (8 + k)) xs i j := by
  unfold ovF
  rw [if_pos h0]
  have e1 := cov_ext (P := fun k => ovlP B E i n k ∧ (k < j → ¬ k = i ∧ xs k = 0)) (a := j) (6 - j) (fun k h1 h2 q => q.1.2.1 (hB0 (8 + k) (by omega) (by omega)))
  rw [show j + (6 - j) = 6 by omega] at e1
  rw [e1]
  refine cov_cong fun k hk => ?_
  have hbi := hw i hij h0
  rcases hR (8 + i) (by omega) with ⟨h1, h2⟩ | ⟨x, y, h1, h2, h3, h4⟩
  · exact absurd h1 hbi
  · constructor
    · intro q
      obtain ⟨q1, q2⟩ := q.2 hk
      refine ⟨q1, q2, ?_⟩
      rcases hR (8 + k) (by omega) with ⟨g1, g2⟩ | ⟨x', y', g1, g2, g3, g4⟩
      · exact absurd g1 q.1.2.1
      · have q3 := q.1.2.2.2.2.1
        have q4 := q.1.2.2.2.2.2
        rw [h1, g2, nI_ltI (by omega) (by omega)] at q3
        rw [g1, h2, nI_ltI (by omega) (by omega)] at q4
        simp only [h1, h2, g1, g2]
        exact (mm_lt (n := n) hn (by omega) (by omega) h4 g4).mpr (by omega)
    · intro q
      refine ⟨?_, fun _ => ⟨q.1, q.2.1⟩⟩
      have hbk := hw k hk q.2.1
      rcases hR (8 + k) (by omega) with ⟨g1, g2⟩ | ⟨x', y', g1, g2, g3, g4⟩
      · exact absurd g1 hbk
      · have q3 := q.2.2
        simp only [h1, h2, g1, g2] at q3
        have q3 := (mm_lt (n := n) hn (by omega) (by omega) h4 g4).mp q3
        simp only [ovlP, h1, h2, g1, g2]
        rw [nI_ltI (by omega) (by omega), nI_ltI (by omega) (by omega), nI_ltI (by omega) (by omega), nI_ltI (by omega) (by omega)]
        exact ⟨nI_m1 (by omega), nI_m1 (by omega), by omega, by omega, by omega⟩
theorem ovd_0 {B E xs : Nat → Int32} {i n : Nat} : cov (ovlP B E i n) 6 = cov (fun k => ovlP B E i n k ∧ (k < 0 → ¬ k = i ∧ xs k = 0)) 6 :=
  cov_cong fun k _ => ⟨fun q => ⟨q, fun z => absurd z (Nat.not_lt_zero _)⟩, fun q => q.1⟩
theorem ovd_t {B E xs : Nat → Int32} {i n t : Nat} (ht : t < 6) (h : t = i ∨ ¬ xs t = 0) : cov (fun k => ovlP B E i n k ∧ (k < t → ¬ k = i ∧ xs k = 0)) 6 &&& (bitF (nI t) ^^^ (-1)) = cov (fun k => ovlP B E i n k ∧ (k < t + 1 → ¬ k = i ∧ xs k = 0)) 6 := by
  rw [cov_del (by omega) 6 (by omega)]
  refine cov_cong fun k _ => ⟨fun q => ⟨q.1.1, fun z => q.1.2 (by have := q.2; omega)⟩, fun q => ⟨⟨q.1, fun z => q.2 (by omega)⟩, fun e => ?_⟩⟩
  subst e
  have := q.2 (by omega)
  exact h.elim this.1 (fun z => z this.2)
theorem ovd_f {B E xs : Nat → Int32} {i n t : Nat} (h1 : ¬ t = i) (h2 : xs t = 0) : cov (fun k => ovlP B E i n k ∧ (k < t → ¬ k = i ∧ xs k = 0)) 6 &&& (-1) = cov (fun k => ovlP B E i n k ∧ (k < t + 1 → ¬ k = i ∧ xs k = 0)) 6 := by
  rw [show ∀ x : Int32, x &&& (-1) = x from fun x => b_ext fun i hi => by rw [b_and, b_m1 i hi, Bool.and_true]]
  refine cov_cong fun k _ => ⟨fun q => ⟨q.1, fun z => ?_⟩, fun q => ⟨q.1, fun z => q.2 (by omega)⟩⟩
  by_cases e : k = t
  · subst e
    exact ⟨h1, h2⟩
  · exact q.2 (by omega)
theorem cov_low14 {P : Nat → Prop} [DecidablePred P] {a : Nat} (ha : a ≤ 14) (h : ∀ k, a ≤ k → k < 14 → ¬ P k) : cov P a = cov P 14 := by
  have e := cov_ext (P := P) (a := a) (14 - a) (fun k h1 h2 => h k h1 (by omega))
  rw [show a + (14 - a) = 14 by omega] at e
  exact e.symm
theorem ins_nz {p k : Int32} {B E S : Nat → Int32} {i n t : Nat} (hn : n ≤ 60) (ht : t ≤ 60) (hR : rgP n (B i) (E i)) (h : insB p k B S i ≤ nI t ∧ nI t < insE p k B E S i) : ¬ B i = -1 := by
  intro c
  rcases hR with ⟨h1, h2⟩ | ⟨x, y, h1, h2, h3, h4⟩
  · simp only [insE] at h
    rw [if_pos c, h2] at h
    exact nI_nlm (by omega) h.2
  · exact nI_m1 (by omega) (h1.symm.trans c)
theorem ins_m1 {p k : Int32} {B S : Nat → Int32} {i : Nat} (h : B i = -1) : insB p k B S i = -1 := by
  simp only [insB]
  rw [if_pos h, h]
theorem rem_m1 {p k : Int32} {B E : Nat → Int32} {i : Nat} (h : B i = -1) : remB p k B E i = -1 := by
  simp only [remB]
  rw [if_pos h, h]
theorem cov_low14F {B E : Nat → Int32} {p : Int32} {a : Nat} (ha : a ≤ 14) (h : ∀ k, a ≤ k → k < 14 → ¬ (B k ≤ p ∧ p < E k)) : cov (fun kk => B kk ≤ p ∧ p < E kk) a = covF B E 14 p := cov_low14 ha h
