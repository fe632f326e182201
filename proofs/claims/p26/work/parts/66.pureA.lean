/-! the pure part: ranges under edits, sets of bits -/
theorem upd_same (f : Nat → Int32) (k : Nat) (x : Int32) : upd f k x k = x := if_pos rfl
theorem upd_ne (f : Nat → Int32) {k i : Nat} (x : Int32) (h : ¬ i = k) : upd f k x i = f i := if_neg h
def rgP (n : Nat) (b e : Int32) : Prop := (b = -1 ∧ e = -1) ∨ ∃ p q : Nat, b = nI p ∧ e = nI q ∧ p < q ∧ q ≤ n
theorem bIns_nI {x p k : Nat} (r : Int32) (hx : x < 2 ^ 29) (hp : p < 2 ^ 29) : bInsF (nI x) (nI p) (nI k) r = nI (if p < x ∨ (x = p ∧ r = 0) then x + k else x) := by
  have e : (nI p < nI x ∨ (nI x = nI p ∧ r = 0)) ↔ (p < x ∨ (x = p ∧ r = 0)) := by rw [nI_ltI (by omega) (by omega), nI_eq (by omega) (by omega)]
  unfold bInsF
  by_cases h : p < x ∨ (x = p ∧ r = 0)
  · rw [if_pos (e.mpr h), if_pos h, nI_add]
  · rw [if_neg (fun z => h (e.mp z)), if_neg h]
theorem behF_nI {x p k : Nat} (hx : x < 2 ^ 28) (hp : p < 2 ^ 28) (hk : k < 2 ^ 28) : behF (nI x) (nI p) (nI k) = nI (if x ≤ p then x else if x < p + k then p else x - k) := by
  unfold behF
  by_cases h : x ≤ p
  · rw [if_pos ((nI_leI (by omega) (by omega)).mpr h), if_pos h]
  · rw [if_neg (fun z => h ((nI_leI (by omega) (by omega)).mp z)), if_neg h]
    have hs : nI x - nI k < nI p ↔ x < p + k := by
      rw [Int32.lt_iff_toInt_lt, zsubT (by omega) (by omega), nI_toInt (by omega)]
      omega
    by_cases h2 : x < p + k
    · rw [if_pos h2, if_pos (hs.mpr h2)]
    · rw [if_neg h2, if_neg (fun z => h2 (hs.mp z)), pk_sub (by omega)]
theorem cv_n {b e : Int32} {x y t : Nat} (hb : b = nI x) (he : e = nI y) (hx : x < 2 ^ 29) (hy : y < 2 ^ 29) (ht : t < 2 ^ 29) : (b ≤ nI t ∧ nI t < e) ↔ (x ≤ t ∧ t < y) := by
  rw [hb, he, nI_leI (by omega) (by omega), nI_ltI (by omega) (by omega)]
theorem nI_nlm {t : Nat} (ht : t < 2 ^ 29) : ¬ nI t < -1 := by
  intro h
  rw [Int32.lt_iff_toInt_lt, nI_toInt (by omega), show (-1 : Int32).toInt = -1 by decide] at h
  omega
theorem cv_m {b e : Int32} {t : Nat} (he : e = -1) (ht : t < 2 ^ 29) : ¬ (b ≤ nI t ∧ nI t < e) := by
  rw [he]
  exact fun h => nI_nlm ht h.2
theorem ins_at {n p k : Nat} {b e s : Nat → Int32} {i : Nat} (hn : n ≤ 60) (hp : p ≤ n) (h : rgP n (b i) (e i)) :
    (b i = -1 ∧ e i = -1 ∧ insB (nI p) (nI k) b s i = -1 ∧ insE (nI p) (nI k) b e s i = -1) ∨
    ∃ x y x' y' : Nat, b i = nI x ∧ e i = nI y ∧ x < y ∧ y ≤ n ∧ insB (nI p) (nI k) b s i = nI x' ∧ insE (nI p) (nI k) b e s i = nI y' ∧ ((x' = x ∧ x ≤ p) ∨ (x' = x + k ∧ p ≤ x)) ∧ ((y' = y ∧ y ≤ p) ∨ (y' = y + k ∧ p ≤ y)) := by
  rcases h with ⟨h1, h2⟩ | ⟨x, y, h1, h2, h3, h4⟩
  · refine Or.inl ⟨h1, h2, ?_, ?_⟩
    · simp only [insB]
      rw [if_pos h1, h1]
    · simp only [insE]
      rw [if_pos h1, h2]
  · refine Or.inr ⟨x, y, (if p < x ∨ (x = p ∧ zb (¬ s i &&& nI 1 = 0) = 0) then x + k else x), (if p < y ∨ (y = p ∧ zb (s i &&& nI 2 = 0) = 0) then y + k else y), h1, h2, h3, h4, ?_, ?_, ?_, ?_⟩
    · simp only [insB]
      rw [h1, if_neg (nI_m1 (by omega)), bIns_nI _ (by omega) (by omega)]
    · simp only [insE]
      rw [h1, if_neg (nI_m1 (by omega)), h2, bIns_nI _ (by omega) (by omega)]
    · by_cases c : p < x ∨ (x = p ∧ zb (¬ s i &&& nI 1 = 0) = 0)
      · rw [if_pos c]
        omega
      · rw [if_neg c]
        omega
    · by_cases c : p < y ∨ (y = p ∧ zb (s i &&& nI 2 = 0) = 0)
      · rw [if_pos c]
        omega
      · rw [if_neg c]
        omega
theorem rem_at {n p k : Nat} {b e : Nat → Int32} {i : Nat} (hn : n ≤ 60) (hp : p + k ≤ n) (h : rgP n (b i) (e i)) :
    (b i = -1 ∧ e i = -1 ∧ remB (nI p) (nI k) b e i = -1 ∧ remE (nI p) (nI k) b e i = -1) ∨
    ∃ x y : Nat, b i = nI x ∧ e i = nI y ∧ x < y ∧ y ≤ n ∧ ((p ≤ x ∧ y ≤ p + k ∧ remB (nI p) (nI k) b e i = -1 ∧ remE (nI p) (nI k) b e i = -1) ∨
      ∃ x' y' : Nat, remB (nI p) (nI k) b e i = nI x' ∧ remE (nI p) (nI k) b e i = nI y' ∧ x' < y' ∧ ((x' = x ∧ x ≤ p) ∨ (x' = p ∧ p ≤ x ∧ x ≤ p + k) ∨ (x' + k = x ∧ p + k ≤ x)) ∧ ((y' = y ∧ y ≤ p) ∨ (y' = p ∧ p ≤ y ∧ y ≤ p + k) ∨ (y' + k = y ∧ p + k ≤ y))) := by
  rcases h with ⟨h1, h2⟩ | ⟨x, y, h1, h2, h3, h4⟩
  · refine Or.inl ⟨h1, h2, ?_, ?_⟩
    · simp only [remB]
      rw [if_pos h1, h1]
    · simp only [remE]
      rw [if_pos h1, h2]
  · refine Or.inr ⟨x, y, h1, h2, h3, h4, ?_⟩
    have e1 := behF_nI (x := x) (p := p) (k := k) (by omega) (by omega) (by omega)
    have e2 := behF_nI (x := y) (p := p) (k := k) (by omega) (by omega) (by omega)
    obtain ⟨x', hx'⟩ : ∃ x', x' = if x ≤ p then x else if x < p + k then p else x - k := ⟨_, rfl⟩
    obtain ⟨y', hy'⟩ : ∃ y', y' = if y ≤ p then y else if y < p + k then p else y - k := ⟨_, rfl⟩
    rw [← hx'] at e1
    rw [← hy'] at e2
    have g1 : (x' = x ∧ x ≤ p) ∨ (x' = p ∧ p ≤ x ∧ x ≤ p + k) ∨ (x' + k = x ∧ p + k ≤ x) := by
      by_cases c1 : x ≤ p
      · rw [if_pos c1] at hx'
        omega
      · rw [if_neg c1] at hx'
        by_cases c2 : x < p + k
        · rw [if_pos c2] at hx'
          omega
        · rw [if_neg c2] at hx'
          omega
    have g2 : (y' = y ∧ y ≤ p) ∨ (y' = p ∧ p ≤ y ∧ y ≤ p + k) ∨ (y' + k = y ∧ p + k ≤ y) := by
      by_cases c1 : y ≤ p
      · rw [if_pos c1] at hy'
        omega
      · rw [if_neg c1] at hy'
        by_cases c2 : y < p + k
        · rw [if_pos c2] at hy'
          omega
        · rw [if_neg c2] at hy'
          omega
    simp only [remB, remE]
    rw [h1, h2, if_neg (nI_m1 (by omega)), if_neg (nI_m1 (by omega)), e1, e2]
    by_cases c : x' = y'
    · left
      have c2 : nI x' = nI y' := by rw [c]
      rw [if_pos c2, if_pos c2]
      exact ⟨by omega, by omega, rfl, rfl⟩
    · right
      have c2 : ¬ nI x' = nI y' := fun z => c ((nI_eq (by omega) (by omega)).mp z)
      rw [if_neg c2, if_neg c2]
      exact ⟨x', y', rfl, rfl, by omega, g1, g2⟩
-- the suggestions: nothing sticky
theorem sug_insB {p k x i : Nat} {b2 s2 : Nat → Int32} (hs : s2 i = nI 0) (hb : b2 i = nI x) (hx : x ≤ 60) (hp : p ≤ 60) : insB (nI p) (nI k) b2 s2 i = nI (if x < p then x else x + k) := by
  simp only [insB]
  rw [hb, if_neg (nI_m1 (by omega)), hs, bIns_nI _ (by omega) (by omega), zb_0.mpr (not_not_intro (by decide : nI 0 &&& nI 1 = 0))]
  congr 1
  by_cases c : x < p
  · have d : ¬ (p < x ∨ (x = p ∧ (0 : Int32) = 0)) := by omega
    rw [if_pos c, if_neg d]
  · have d : p < x ∨ (x = p ∧ (0 : Int32) = 0) := by
      by_cases w : p < x
      · exact Or.inl w
      · exact Or.inr ⟨by omega, rfl⟩
    rw [if_neg c, if_pos d]
theorem sug_insE {p k x y i : Nat} {b2 e2 s2 : Nat → Int32} (hs : s2 i = nI 0) (hb : b2 i = nI x) (he : e2 i = nI y) (hx : x ≤ 60) (hy : y ≤ 60) (hp : p ≤ 60) : insE (nI p) (nI k) b2 e2 s2 i = nI (if y ≤ p then y else y + k) := by
  have h1 : ¬ zb (nI 0 &&& nI 2 = 0) = 0 := fun z => zb_0.mp z (by decide)
  simp only [insE]
  rw [hb, if_neg (nI_m1 (by omega)), hs, he, bIns_nI _ (by omega) (by omega)]
  congr 1
  by_cases c : y ≤ p
  · have d : ¬ (p < y ∨ (y = p ∧ zb (nI 0 &&& nI 2 = 0) = 0)) := fun z => z.elim (fun z => by omega) (fun z => h1 z.2)
    rw [if_pos c, if_neg d]
  · have d : p < y ∨ (y = p ∧ zb (nI 0 &&& nI 2 = 0) = 0) := Or.inl (by omega)
    rw [if_neg c, if_pos d]
theorem siB_nI {p k x i : Nat} {b3 : Nat → Int32} (hb : b3 i = nI x) (hx : x ≤ 60) (hp : p ≤ 60) : siB (nI p) (nI k) b3 i = nI (if x < p then x else x + k) := by
  simp only [siB]
  rw [hb]
  by_cases c : x < p
  · rw [if_pos c, if_pos ((nI_ltI (by omega) (by omega)).mpr c), nI_add, Nat.add_zero]
  · rw [if_neg c, if_neg (fun z => c ((nI_ltI (by omega) (by omega)).mp z)), nI_add]
theorem siE_nI {p k y i : Nat} {e3 : Nat → Int32} (he : e3 i = nI y) (hy : y ≤ 60) (hp : p ≤ 60) : siE (nI p) (nI k) e3 i = nI (if y ≤ p then y else y + k) := by
  simp only [siE]
  rw [he]
  by_cases c : y ≤ p
  · rw [if_pos c, if_pos ((nI_leI (by omega) (by omega)).mpr c), nI_add, Nat.add_zero]
  · rw [if_neg c, if_neg (fun z => c ((nI_leI (by omega) (by omega)).mp z)), nI_add]
-- sets of bits
theorem bit_and {a k : Nat} (ha : a < 12) (hk : k < 12) : bitF (nI k) &&& bitF (nI a) = if k = a then bitF (nI a) else 0 := by
  have h : ∀ a, a < 12 → ∀ k, k < 12 → bitF (nI k) &&& bitF (nI a) = if k = a then bitF (nI a) else 0 := by decide +kernel
  exact h a ha k hk
theorem bit_nz {a : Nat} (ha : a < 12) : ¬ bitF (nI a) = 0 := by
  have h : ∀ a, a < 12 → ¬ bitF (nI a) = 0 := by decide +kernel
  exact h a ha
theorem bit_not {a k : Nat} (ha : a < 12) (hk : k < 12) : bitF (nI k) &&& (bitF (nI a) ^^^ (-1)) = if k = a then 0 else bitF (nI k) := by
  have h : ∀ a, a < 12 → ∀ k, k < 12 → bitF (nI k) &&& (bitF (nI a) ^^^ (-1)) = if k = a then 0 else bitF (nI k) := by decide +kernel
  exact h a ha k hk
theorem and_dist (x y z : Int32) : (x ||| y) &&& z = (x &&& z) ||| (y &&& z) := by
  apply Int32.toBitVec_inj.mp
  ext i
  simp
  grind
theorem z_and (x : Int32) : 0 &&& x = (0 : Int32) := by
  apply Int32.toBitVec_inj.mp
  ext i
  simp
theorem or_z0 (x : Int32) : x ||| 0 = x := by
  apply Int32.toBitVec_inj.mp
  ext i
  simp
theorem z0_or (x : Int32) : 0 ||| x = x := by
  apply Int32.toBitVec_inj.mp
  ext i
  simp
theorem or_ac (x y z : Int32) : (x ||| y) ||| z = (x ||| z) ||| y := by
  apply Int32.toBitVec_inj.mp
  ext i
  simp
  grind
theorem or_dd (x y : Int32) : (x ||| y) ||| y = x ||| y := by
  apply Int32.toBitVec_inj.mp
  ext i
  simp
theorem cov_tst {P : Nat → Prop} [DecidablePred P] {a : Nat} (ha : a < 12) : ∀ m, m ≤ 12 → cov P m &&& bitF (nI a) = if a < m ∧ P a then bitF (nI a) else 0
  | 0, _ => by
    rw [if_neg (fun h => absurd h.1 (Nat.not_lt_zero _))]
    exact z_and _
  | m + 1, hm => by
    have ih := cov_tst (P := P) ha m (by omega)
    simp only [cov]
    by_cases h : P m
    · rw [if_pos h, and_dist, ih, bit_and ha (by omega)]
      by_cases e : m = a
      · subst e
        rw [if_pos rfl, if_neg (fun z => absurd z.1 (Nat.lt_irrefl _)), if_pos ⟨by omega, h⟩, z0_or]
      · rw [if_neg e, or_z0]
        by_cases q : a < m ∧ P a
        · rw [if_pos q, if_pos ⟨by omega, q.2⟩]
        · rw [if_neg q, if_neg (fun z => q ⟨by omega, z.2⟩)]
    · rw [if_neg h, ih]
      by_cases q : a < m ∧ P a
      · rw [if_pos q, if_pos ⟨by omega, q.2⟩]
      · rw [if_neg q, if_neg (fun z => q ⟨by have h1 := z.1; have h2 : ¬ a = m := fun e => h (e ▸ z.2); omega, z.2⟩)]
theorem cov_bit {P : Nat → Prop} [DecidablePred P] {a m : Nat} (ha : a < m) (hm : m ≤ 12) : cov P m &&& bitF (nI a) = 0 ↔ ¬ P a := by
  rw [cov_tst (by omega) m hm]
  by_cases h : P a
  · rw [if_pos ⟨ha, h⟩]
    exact ⟨fun z => absurd z (bit_nz (by omega)), fun z => absurd h z⟩
  · rw [if_neg (fun z => h z.2)]
    exact ⟨fun _ => h, fun _ => rfl⟩
theorem cov_ins {P : Nat → Prop} [DecidablePred P] {a : Nat} : ∀ m, a < m → cov P m ||| bitF (nI a) = cov (fun k => P k ∨ k = a) m
  | 0, h => absurd h (Nat.not_lt_zero _)
  | m + 1, h => by
    by_cases e : m = a
    · subst e
      have h1 : cov (fun k => P k ∨ k = m) m = cov P m := cov_cong (fun k hk => ⟨fun z => z.elim id (fun z => by omega), Or.inl⟩)
      rw [← cov_t (P := fun k => P k ∨ k = m) (k := m) (Or.inr rfl), h1]
      by_cases q : P m
      · rw [← cov_t (P := P) (k := m) q, or_dd]
      · rw [← cov_f (P := P) (k := m) q]
    · have ih := cov_ins (P := P) (a := a) m (by omega)
      by_cases q : P m
      · rw [← cov_t (P := P) (k := m) q, ← cov_t (P := fun k => P k ∨ k = a) (k := m) (Or.inl q), or_ac, ih]
      · rw [← cov_f (P := P) (k := m) q, ← cov_f (P := fun k => P k ∨ k = a) (k := m) (fun z => z.elim q e), ih]
theorem cov_del {P : Nat → Prop} [DecidablePred P] {a : Nat} (ha : a < 12) : ∀ m, m ≤ 12 → cov P m &&& (bitF (nI a) ^^^ (-1)) = cov (fun k => P k ∧ ¬ k = a) m
  | 0, _ => z_and _
  | m + 1, hm => by
    have ih := cov_del (P := P) ha m (by omega)
    by_cases q : P m
    · rw [← cov_t (P := P) (k := m) q, and_dist, bit_not ha (by omega), ih]
      by_cases e : m = a
      · rw [if_pos e, or_z0, ← cov_f (P := fun k => P k ∧ ¬ k = a) (k := m) (fun z => z.2 e)]
      · rw [if_neg e, ← cov_t (P := fun k => P k ∧ ¬ k = a) (k := m) ⟨q, e⟩]
    · rw [← cov_f (P := P) (k := m) q, ← cov_f (P := fun k => P k ∧ ¬ k = a) (k := m) (fun z => q z.1), ih]
theorem cov_none {P : Nat → Prop} [DecidablePred P] : ∀ m, (∀ k, k < m → ¬ P k) → cov P m = 0
  | 0, _ => rfl
  | m + 1, h => by
    simp only [cov]
    rw [if_neg (h m (Nat.lt_succ_self m)), cov_none m (fun k hk => h k (Nat.lt_succ_of_lt hk))]
