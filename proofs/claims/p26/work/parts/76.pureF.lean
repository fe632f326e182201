/-! the law's search, its marks, what it compares -/
def dsF (S : Nat → Prop) [DecidablePred S] (F : Nat → Int32) (K : Nat) : Nat → Int32 × Int32
  | 0 => (-1, -1)
  | d + 1 => if S (K - (d + 1)) ∧ (dsF S F K d).2 ≤ F (K - (d + 1)) then (nI (K - (d + 1)), F (K - (d + 1))) else dsF S F K d
theorem dsF_t {S : Nat → Prop} [DecidablePred S] {F : Nat → Int32} {K d p : Nat} (hp : p = K - (d + 1)) (h1 : S p) (h2 : (dsF S F K d).2 ≤ F p) : dsF S F K (d + 1) = (nI p, F p) := by
  subst hp
  simp only [dsF]
  rw [if_pos ⟨h1, h2⟩]
theorem dsF_f {S : Nat → Prop} [DecidablePred S] {F : Nat → Int32} {K d p : Nat} (hp : p = K - (d + 1)) (h : ¬ (S p ∧ (dsF S F K d).2 ≤ F p)) : dsF S F K (d + 1) = dsF S F K d := by
  subst hp
  simp only [dsF]
  rw [if_neg h]
def isBst (S : Nat → Prop) (F : Nat → Int32) (lo hi : Nat) (r : Int32) : Prop := (r = -1 ∧ ∀ k, lo ≤ k → k < hi → ¬ S k) ∨ ∃ k, lo ≤ k ∧ k < hi ∧ S k ∧ r = nI k ∧ ∀ k', lo ≤ k' → k' < hi → S k' → F k' ≤ F k ∧ (F k' = F k → k ≤ k')
theorem isBst_u {S : Nat → Prop} {F : Nat → Int32} {lo hi : Nat} {r r' : Int32} (h : isBst S F lo hi r) (h' : isBst S F lo hi r') : r = r' := by
  rcases h with ⟨h1, h2⟩ | ⟨k, h1, h2, h3, h4, h5⟩
  · rcases h' with ⟨g1, -⟩ | ⟨k', g1, g2, g3, -, -⟩
    · rw [h1, g1]
    · exact absurd g3 (h2 k' g1 g2)
  · rcases h' with ⟨-, g2⟩ | ⟨k', g1, g2, g3, g4, g5⟩
    · exact absurd h3 (g2 k h1 h2)
    · obtain ⟨a1, a2⟩ := h5 k' g1 g2 g3
      obtain ⟨b1, b2⟩ := g5 k h1 h2 h3
      have e := Int32.le_antisymm a1 b1
      have := a2 e
      have := b2 e.symm
      rw [h4, g4, show k = k' by omega]
theorem bst_is {S : Nat → Prop} [DecidablePred S] {F : Nat → Int32} : ∀ K, K < 2 ^ 31 → isBst S F 0 K (bst S F K).1 ∧ ((bst S F K).1 = -1 ∨ ∃ k, k < K ∧ (bst S F K).1 = nI k ∧ (bst S F K).2 = F k)
  | 0, _ => ⟨Or.inl ⟨rfl, fun k _ h => absurd h (Nat.not_lt_zero _)⟩, Or.inl rfl⟩
  | K + 1, hK => by
    obtain ⟨h1, h2⟩ := bst_is (S := S) (F := F) K (by omega)
    by_cases c : S K ∧ ((bst S F K).1 = -1 ∨ (bst S F K).2 < F K)
    · rw [bst_t c.1 c.2]
      refine ⟨Or.inr ⟨K, Nat.zero_le _, Nat.lt_succ_self K, c.1, rfl, fun k' _ h4 h5 => ?_⟩, Or.inr ⟨K, Nat.lt_succ_self K, rfl, rfl⟩⟩
      by_cases e : k' = K
      · subst e
        exact ⟨Int32.le_refl _, fun _ => Nat.le_refl _⟩
      · rcases h1 with ⟨-, g2⟩ | ⟨k, g1, g2, g3, g4, g5⟩
        · exact absurd h5 (g2 k' (Nat.zero_le _) (by omega))
        · have a1 := (g5 k' (Nat.zero_le _) (by omega) h5).1
          have a2 : F k < F K := by
            rcases h2 with q | ⟨k2, q1, q2, q3⟩
            · rw [g4] at q
              exact absurd q (nI_m1 (by omega))
            · rcases c.2 with q | q
              · rw [g4] at q
                exact absurd q (nI_m1 (by omega))
              · have : k = k2 := (nI_eq (by omega) (by omega)).mp (g4.symm.trans q2)
                rw [q3, ← this] at q
                exact q
          have a3 := Int32.lt_of_le_of_lt a1 a2
          exact ⟨Int32.le_of_lt a3, fun z => absurd a3 (by rw [z]; exact fun h => Int32.lt_irrefl h)⟩
    · rw [bst_f c]
      refine ⟨?_, ?_⟩
      · rcases h1 with ⟨g1, g2⟩ | ⟨k, g1, g2, g3, g4, g5⟩
        · refine Or.inl ⟨g1, fun k' _ h4 h5 => ?_⟩
          by_cases e : k' = K
          · subst e
            exact c ⟨h5, Or.inl g1⟩
          · exact g2 k' (Nat.zero_le _) (by omega) h5
        · refine Or.inr ⟨k, g1, by omega, g3, g4, fun k' _ h4 h5 => ?_⟩
          by_cases e : k' = K
          · subst e
            have a2 : ¬ F k < F k' := by
              rcases h2 with q | ⟨k2, q1, q2, q3⟩
              · rw [g4] at q
                exact absurd q (nI_m1 (by omega))
              · have : k = k2 := (nI_eq (by omega) (by omega)).mp (g4.symm.trans q2)
                rw [this, ← q3]
                exact fun z => c ⟨h5, Or.inr z⟩
            exact ⟨Int32.not_lt.mp a2, fun _ => by omega⟩
          · exact g5 k' (Nat.zero_le _) (by omega) h5
      · rcases h2 with q | ⟨k2, q1, q2, q3⟩
        · exact Or.inl q
        · exact Or.inr ⟨k2, by omega, q2, q3⟩
theorem ds_is {S : Nat → Prop} [DecidablePred S] {F : Nat → Int32} (hF : ∀ k, 0 ≤ F k) {K : Nat} (hK : K < 2 ^ 31) : ∀ d, d ≤ K → isBst S F (K - d) K (dsF S F K d).1 ∧ (((dsF S F K d).1 = -1 ∧ (dsF S F K d).2 = -1) ∨ ∃ k, K - d ≤ k ∧ k < K ∧ (dsF S F K d).1 = nI k ∧ (dsF S F K d).2 = F k)
  | 0, _ => ⟨Or.inl ⟨rfl, fun k h1 h2 => absurd h2 (by omega)⟩, Or.inl ⟨rfl, rfl⟩⟩
  | d + 1, hd => by
    obtain ⟨h1, h2⟩ := ds_is (S := S) (F := F) hF hK d (by omega)
    obtain ⟨p, hp⟩ : ∃ p, p = K - (d + 1) := ⟨_, rfl⟩
    by_cases c : S p ∧ (dsF S F K d).2 ≤ F p
    · rw [dsF_t hp c.1 c.2, ← hp]
      refine ⟨Or.inr ⟨p, Nat.le_refl _, by omega, c.1, rfl, fun k' h3 h4 h5 => ?_⟩, Or.inr ⟨p, Nat.le_refl _, by omega, rfl, rfl⟩⟩
      by_cases e : k' = p
      · subst e
        exact ⟨Int32.le_refl _, fun _ => Nat.le_refl _⟩
      · refine ⟨?_, fun _ => h3⟩
        rcases h1 with ⟨-, g2⟩ | ⟨k, g1, g2, g3, g4, g5⟩
        · exact absurd h5 (g2 k' (by omega) h4)
        · have a1 := (g5 k' (by omega) h4 h5).1
          rcases h2 with ⟨q, -⟩ | ⟨k2, q0, q1, q2, q3⟩
          · rw [g4] at q
            exact absurd q (nI_m1 (by omega))
          · have : k = k2 := (nI_eq (by omega) (by omega)).mp (g4.symm.trans q2)
            rw [this, ← q3] at a1
            exact Int32.le_trans a1 c.2
    · rw [dsF_f hp c, ← hp]
      refine ⟨?_, ?_⟩
      · rcases h1 with ⟨g1, g2⟩ | ⟨k, g1, g2, g3, g4, g5⟩
        · refine Or.inl ⟨g1, fun k' h3 h4 h5 => ?_⟩
          by_cases e : k' = p
          · subst e
            refine c ⟨h5, ?_⟩
            rcases h2 with ⟨-, q⟩ | ⟨k2, q0, q1, q2, q3⟩
            · rw [q]
              exact Int32.le_of_lt (m1_lt (hF k'))
            · rw [g1] at q2
              exact absurd q2.symm (nI_m1 (by omega))
          · exact g2 k' (by omega) h4 h5
        · refine Or.inr ⟨k, by omega, g2, g3, g4, fun k' h3 h4 h5 => ?_⟩
          by_cases e : k' = p
          · subst e
            have a2 : F k' < F k := by
              rcases h2 with ⟨q, -⟩ | ⟨k2, q0, q1, q2, q3⟩
              · rw [g4] at q
                exact absurd q (nI_m1 (by omega))
              · have : k = k2 := (nI_eq (by omega) (by omega)).mp (g4.symm.trans q2)
                rw [this, ← q3]
                exact Int32.not_le.mp fun z => c ⟨h5, z⟩
            exact ⟨Int32.le_of_lt a2, fun z => absurd a2 (by rw [z]; exact fun h => Int32.lt_irrefl h)⟩
          · exact g5 k' (by omega) h4 h5
      · rcases h2 with q | ⟨k2, q0, q1, q2, q3⟩
        · exact Or.inl q
        · exact Or.inr ⟨k2, by omega, q1, q2, q3⟩
abbrev fdS (z c : Nat) (ql f : Nat → Int32) : Nat → Prop := fun kk => ∀ jj, jj < z → ql (c * 60 + jj) = f (kk + jj)
abbrev fdF (n z c : Nat) (qa qb f : Nat → Int32) : Nat → Int32 := fun kk => zb (letF n f (nI kk - nI 1) = qa c) + zb (letF n f (nI (kk + z)) = qb c)
theorem find_ds {n z c : Nat} {ql qa qb f : Nat → Int32} (hn : n ≤ 60) : (dsF (fdS z c ql f) (fdF n z c qa qb f) (n + 1 - z) (n + 1 - z)).1 = bfF n z c ql qa qb f := by
  have h1 := (ds_is (S := fdS z c ql f) (F := fdF n z c qa qb f) (fun k => zb_ge _ _) (K := n + 1 - z) (by omega) (n + 1 - z) (Nat.le_refl _)).1
  have h2 := (bst_is (S := fdS z c ql f) (F := fdF n z c qa qb f) (n + 1 - z) (by omega)).1
  rw [Nat.sub_self] at h1
  exact isBst_u h1 h2
theorem cnt_all {P : Nat → Prop} [DecidablePred P] : ∀ z, cntF P z = z ↔ ∀ jj, jj < z → P jj
  | 0 => ⟨fun _ jj h => absurd h (Nat.not_lt_zero _), fun _ => rfl⟩
  | z + 1 => by
    have ih := cnt_all (P := P) z
    have hl := cntF_le (P := P) z
    by_cases h : P z
    · rw [← cntF_t h]
      constructor
      · intro q jj hj
        by_cases e : jj = z
        · exact e ▸ h
        · exact ih.mp (by omega) jj (by omega)
      · intro q
        have := ih.mpr (fun jj hj => q jj (by omega))
        omega
    · rw [← cntF_f h]
      exact ⟨fun q => by omega, fun q => absurd (q z (by omega)) h⟩
theorem let_0 {n p : Nat} {f : Nat → Int32} (h : p = 0) : (-1 : Int32) = letF n f (nI p - nI 1) := by
  subst h
  unfold letF
  rw [if_neg]
  intro q
  exact absurd q.1 (by decide)
theorem let_s {n p : Nat} {f : Nat → Int32} (h : 0 < p) (hp : p ≤ n) (hn : n ≤ 60) : f (p - 1) = letF n f (nI p - nI 1) := by
  rw [pk_sub (show 1 ≤ p from h)]
  unfold letF
  rw [if_pos ⟨nI_pos' (by omega), (nI_ltI (by omega) (by omega)).mpr (by omega)⟩, nI_clamp (by omega)]
theorem let_e {n p : Nat} {f : Nat → Int32} (h : p = n) (hn : n ≤ 60) : (-1 : Int32) = letF n f (nI p) := by
  subst h
  unfold letF
  rw [if_neg]
  intro q
  exact absurd q.2 (fun h => Int32.lt_irrefl h)
theorem let_i {n p : Nat} {f : Nat → Int32} (h : p < n) (hn : n ≤ 60) : f p = letF n f (nI p) := by
  unfold letF
  rw [if_pos ⟨nI_pos' (by omega), (nI_ltI (by omega) (by omega)).mpr h⟩, nI_clamp (by omega)]
-- marks
theorem rg_upd {n a c i : Nat} {B E : Nat → Int32} (hR : RGa n B E) (h1 : a < c) (h2 : c ≤ n) : RGa n (upd B i (nI a)) (upd E i (nI c)) := by
  intro k hk
  by_cases e : k = i
  · subst e
    rw [upd_same, upd_same]
    exact Or.inr ⟨a, c, rfl, rfl, h1, h2⟩
  · rw [upd_ne _ _ e, upd_ne _ _ e]
    exact hR k hk
theorem le_mark {n a c i : Nat} {le B E : Nat → Int32} (hn : n ≤ 60) (hi : i < 14) (hR : RGa n B E) (hE : LEa n le B E) (hB : B i = -1) (h2 : c ≤ n) (h1 : a < c) : LEa n (mrkF le a c (bitF (nI i))) (upd B i (nI a)) (upd E i (nI c)) := by
  have hEi : E i = -1 := by
    rcases hR i hi with ⟨-, q⟩ | ⟨x, y, q, -, q3, q4⟩
    · exact q
    · exact absurd (q.symm.trans hB) (nI_m1 (by omega))
  intro t ht
  simp only [mrkF]
  rw [hE t ht]
  by_cases q : a ≤ t ∧ t < c
  · rw [if_pos q]
    unfold covF
    rw [cov_ins 14 hi]
    refine cov_cong fun k hk => ?_
    by_cases e : k = i
    · subst e
      rw [upd_same, upd_same, nI_leI (by omega) (by omega), nI_ltI (by omega) (by omega)]
      exact ⟨fun _ => q, fun _ => Or.inr rfl⟩
    · rw [upd_ne _ _ e, upd_ne _ _ e]
      exact ⟨fun z => z.elim id (fun z => absurd z e), Or.inl⟩
  · rw [if_neg q]
    refine cov_cong fun k hk => ?_
    by_cases e : k = i
    · subst e
      rw [upd_same, upd_same, nI_leI (by omega) (by omega), nI_ltI (by omega) (by omega)]
      exact ⟨fun z => absurd z (cv_m hEi (by omega)), fun z => absurd z q⟩
    · rw [upd_ne _ _ e, upd_ne _ _ e]
theorem sug_bit {j : Nat} (hj : j < 6) : nI 256 <<< (nI j &&& 31) = bitF (nI (8 + j)) :=
  (by decide +kernel : ∀ j, j < 6 → nI 256 <<< (nI j &&& 31) = bitF (nI (8 + j))) j hj
theorem res_iff {o : Int32} {op : Nat → Int32} {m i : Nat} (ho : o = cov (fun kk => ¬ op kk = 0) m) (hi : i < m) (hm : m ≤ 6) (hop : op i = nI 0 ∨ op i = nI 1) : (¬ o &&& bitF (nI i) = 0) ↔ op i = nI 1 := by
  rw [ho, cov_bit hi (by omega)]
  rcases hop with h | h
  · rw [h]
    exact ⟨fun z => absurd (not_not_intro rfl) z, fun z => absurd z (by decide)⟩
  · rw [h]
    exact ⟨fun _ => rfl, fun _ => not_not_intro (by decide)⟩
-- what the law holds against the class
abbrev mkF (m : Nat) : Int32 := nI 1 <<< (nI m &&& 31) - nI 1
theorem cv_low {m : Nat} {B E b e : Nat → Int32} {p : Int32} (hm : m ≤ 6) (hb : ∀ i, i < m → B i = b i ∧ E i = e i) : covF B E 14 p &&& mkF m = covF b e m p := by
  unfold covF
  rw [cov_low (by omega)]
  exact cov_cong fun k hk => by rw [(hb k hk).1, (hb k hk).2]
theorem beg_iff {m : Nat} {B E b e : Nat → Int32} {p q : Int32} (hm : m ≤ 6) (hb : ∀ i, i < m → B i = b i ∧ E i = e i) : (covF B E 14 p ^^^ covF B E 14 q) &&& mkF m = 0 ↔ covF b e m p = covF b e m q := by
  rw [cov_xm, cv_low hm hb, cv_low hm hb]
theorem pc_at {P : Nat → Prop} [DecidablePred P] {p n : Nat} (hn : n ≤ 60) (hp : p < n) (h : P p) : fndF P (nI (cntF P p)) n = nI p :=
  fndF_t ((fl_nat (P := P) (c := cntF P p) (by have := cntF_le (P := P) p; omega) p (by omega)).2 (Nat.le_refl _)) h rfl (by omega) n hp
theorem orp_eq {n m : Nat} {B E b e : Nat → Int32} (hn : n ≤ 60) (hm : m ≤ 6) (hR : RGa n B E) (hb : ∀ i, i < m → B i = b i ∧ E i = e i) : cov (fun kk => b kk = -1) m = mkF m &&& (cov (hadP B E n) 14 ^^^ (-1)) := by
  rw [had_n hn hR (by omega), cov_lown (by omega)]
  refine cov_cong fun k hk => ?_
  rw [(hb k hk).1]
  exact ⟨not_not_intro, Decidable.not_not.mp⟩
theorem opn_s {op : Nat → Int32} {i : Nat} (hop : op i = nI 0 ∨ op i = nI 1) (hi : i < 6) : cov (fun kk => ¬ op kk = 0) i ||| op i <<< (nI i &&& 31) = cov (fun kk => ¬ op kk = 0) (i + 1) := by
  rcases hop with h | h
  · rw [← cov_f (P := fun kk => ¬ op kk = 0) (k := i) (not_not_intro h), h, (by decide +kernel : ∀ i, i < 6 → nI 0 <<< (nI i &&& 31) = 0) i hi, or_z0]
  · rw [← cov_t (P := fun kk => ¬ op kk = 0) (k := i) (by rw [h]; decide), h]
    rfl
theorem cov_end {n m : Nat} {b e B E : Nat → Int32} (hn : n ≤ 60) (hm : m ≤ 6) (hR : RGa n B E) (hb : ∀ i, i < m → B i = b i ∧ E i = e i) : covF b e m (nI n) = 0 := by
  refine cov_none m fun i hi => ?_
  rw [← (hb i hi).1, ← (hb i hi).2]
  rcases hR i (by omega) with g2 | ⟨x, y, g2, g3, g4, g5⟩
  · exact cv_m g2.2 (by omega)
  · rw [cv_n g2 g3 (by omega) (by omega) (by omega)]
    omega
theorem mar_in {n p : Nat} {g : Nat → Int32} (hn : n ≤ 60) (hp : p < n) : marF n g (nI p) = g p := by
  unfold marF
  rw [if_pos ⟨nI_pos' (by omega), (nI_ltI (by omega) (by omega)).mpr hp⟩, nI_clamp (by omega)]
def InT (v : Nat) (h lt B E : Nat → Int32) : Prop := (∀ i, i < 8 → lt (8 * (v % 8) + i) = numF (B i) (E i)) ∧ ∀ w, w < v → v < w + 8 → ∀ i, i < 8 → lt (8 * (w % 8) + i) = h (w * 12 + i)
theorem thn_eq {v w i : Nat} {h lt B E b e : Nat → Int32} (hT : InT v h lt B E) (hw : w ≤ v) (hw8 : v < w + 8) (hi : i < 8) (hb : B i = b i ∧ E i = e i) : (if w = v then numF (b i) (e i) else h (w * 12 + i)) = lt (8 * (w % 8) + i) := by
  by_cases c : w = v
  · rw [if_pos c, c, hT.1 i hi, hb.1, hb.2]
  · rw [if_neg c]
    exact (hT.2 w (by omega) hw8 i hi).symm
theorem z0_or2 (x : Int32) : nI 0 + x = x := by
  rw [show nI 0 = 0 from rfl]
  exact Int32.zero_add x
theorem fnd_0 {n z : Nat} (hn : n ≤ 60) (hz1 : 1 ≤ z) (hz8 : z ≤ 8) : nI n - nI z = nI (n + 1 - z - 0) - nI 1 ∨ (nI n - nI z < 0 ∧ 0 = n + 1 - z) := by
  by_cases h : z ≤ n
  · refine Or.inl ?_
    rw [pk_sub h, pk_sub (by omega)]
    congr 1
    omega
  · by_cases h2 : z = n + 1
    · refine Or.inr ⟨pk_sneg (by omega) (by omega), by omega⟩
    · exact Or.inr ⟨pk_sneg (by omega) (by omega), by omega⟩
theorem fnd_p {n z d : Nat} {pp : Int32} (hn : n ≤ 60) (hz1 : 1 ≤ z) (hd : d ≤ n + 1 - z) (hpp : pp = nI (n + 1 - z - d) - nI 1 ∨ (pp < 0 ∧ d = n + 1 - z)) (h : ¬ pp < 0) : ∃ p, pp = nI p ∧ p = n + 1 - z - (d + 1) ∧ p + z ≤ n ∧ d < n + 1 - z := by
  rcases hpp with q | q
  · by_cases c : n + 1 - z - d = 0
    · rw [q, c] at h
      exact absurd (by decide) h
    · exact ⟨n + 1 - z - (d + 1), by rw [q, pk_sub (by omega)]; congr 1, rfl, by omega, by omega⟩
  · exact absurd q.1 h
theorem fnd_e {n z d : Nat} {pp : Int32} (hn : n ≤ 60) (hd : d ≤ n + 1 - z) (hpp : pp = nI (n + 1 - z - d) - nI 1 ∨ (pp < 0 ∧ d = n + 1 - z)) (h : pp < 0) : d = n + 1 - z := by
  rcases hpp with q | q
  · by_cases c : n + 1 - z - d = 0
    · omega
    · rw [q, pk_sub (by omega)] at h
      exact absurd h (Int32.not_lt.mpr (nI_pos' (by omega)))
  · exact q.2
-- what a removal makes gone
theorem gon_iff {n p k i : Nat} {B E : Nat → Int32} (hn : n ≤ 60) (hp : p + k ≤ n) (hR : rgP n (B i) (E i)) : (¬ B i = -1 ∧ remB (nI p) (nI k) B E i = -1) ↔ gonP (nI p) (nI k) B E i := by
  unfold gonP
  rcases hR with ⟨h1, h2⟩ | ⟨x, y, h1, h2, h3, h4⟩
  · exact ⟨fun q => absurd h1 q.1, fun q => absurd h1 q.1⟩
  · refine and_congr_right fun hB => ?_
    simp only [remB]
    rw [if_neg hB]
    by_cases c : behF (B i) (nI p) (nI k) = behF (E i) (nI p) (nI k)
    · rw [if_pos c]
      exact ⟨fun _ => c, fun _ => rfl⟩
    · rw [if_neg c]
      refine ⟨fun q => absurd q ?_, fun q => absurd q c⟩
      rw [h1, behF_nI (by omega) (by omega) (by omega)]
      exact nI_m1 (by split <;> (try split) <;> omega)
theorem gon_b {B E b2 e2 : Nat → Int32} {p k : Int32} {i i2 : Nat} (h : B i = b2 i2 ∧ E i = e2 i2) : gonP p k B E i ↔ gonP p k b2 e2 i2 := by
  unfold gonP
  rw [h.1, h.2]
theorem gof_iff {p k : Int32} {b2 e2 : Nat → Int32} {j t : Nat} (ht : t < j) (hj : j ≤ 6) : ¬ (gonF p k b2 e2 j &&& bitF (nI t)) = 0 ↔ gonP p k b2 e2 t := by
  unfold gonF
  rw [cov_bit ht (by omega)]
  exact Decidable.not_not
theorem rem_g {n p k j : Nat} {B E b2 e2 xs : Nat → Int32} (hn : n ≤ 60) (hp : p + k ≤ n) (hj : j ≤ 6) (hR : RGa n B E) (hBs : ∀ i, i < j → B (8 + i) = b2 i ∧ E (8 + i) = e2 i) : mpF j (gneF (-1) B (remB (nI p) (nI k) B E) xs) xs = mpF j (lgF (gonF (nI p) (nI k) b2 e2 j) xs) xs := by
  funext t
  unfold mpF
  by_cases c : t < j
  · rw [if_pos c, if_pos c]
    unfold gneF lgF
    have e1 := (gon_iff (i := 8 + t) hn hp (hR _ (by omega))).trans ((gon_b (hBs t c)).trans (gof_iff (b2 := b2) (e2 := e2) c hj).symm)
    have e2 : ¬ nI t = -1 := nI_m1 (by omega)
    by_cases q : ¬ B (8 + t) = -1 ∧ remB (nI p) (nI k) B E (8 + t) = -1
    · by_cases q2 : xs t = 0
      · rw [if_pos ⟨q, e2, q2⟩, if_pos ⟨e1.mp q, q2⟩]
      · rw [if_neg (fun z => q2 z.2.2), if_neg (fun z => q2 z.2)]
    · rw [if_neg (fun z => q z.1), if_neg (fun z => q (e1.mpr z.1))]
  · rw [if_neg c, if_neg c]
theorem acc_g {n p k j i : Nat} {B E b2 e2 xs : Nat → Int32} (hn : n ≤ 60) (hp : p + k ≤ n) (hj : j ≤ 6) (hij : i < j) (hR : RGa n B E) (hBs : ∀ i, i < j → B (8 + i) = b2 i ∧ E (8 + i) = e2 i) : upd (mpF j (gneF (nI i) B (remB (nI p) (nI k) B E) xs) xs) i (nI 1) = mpF j (lgF (gonF (nI p) (nI k) b2 e2 j) (upd xs i (nI 1))) (upd xs i (nI 1)) := by
  funext t
  by_cases e : t = i
  · subst e
    rw [upd_same]
    unfold mpF
    rw [if_pos hij]
    unfold lgF
    rw [if_neg (fun z => absurd (z.2.symm.trans (upd_same _ _ _)) (by decide)), upd_same]
  · rw [upd_ne _ _ e]
    unfold mpF
    by_cases c : t < j
    · rw [if_pos c, if_pos c]
      unfold gneF lgF
      rw [upd_ne _ _ e]
      have e1 := (gon_iff (i := 8 + t) hn hp (hR _ (by omega))).trans ((gon_b (hBs t c)).trans (gof_iff (b2 := b2) (e2 := e2) c hj).symm)
      have e2 : ¬ nI t = nI i := fun z => e ((nI_eq (by omega) (by omega)).mp z)
      by_cases q : ¬ B (8 + t) = -1 ∧ remB (nI p) (nI k) B E (8 + t) = -1
      · by_cases q2 : xs t = 0
        · rw [if_pos ⟨q, e2, q2⟩, if_pos ⟨e1.mp q, q2⟩]
        · rw [if_neg (fun z => q2 z.2.2), if_neg (fun z => q2 z.2)]
      · rw [if_neg (fun z => q z.1), if_neg (fun z => q (e1.mpr z.1))]
    · rw [if_neg c, if_neg c, upd_ne _ _ e]
theorem lost_eq {n p k m : Nat} {B E b e : Nat → Int32} (hn : n ≤ 60) (hp : p + k ≤ n) (hm : m ≤ 6) (hR : RGa n B E) (hBb : ∀ i, i < m → B i = b i ∧ E i = e i) : bcF (gonF (nI p) (nI k) b e m) = nI (cntF (fun kk => ¬ B kk = -1 ∧ remB (nI p) (nI k) B E kk = -1) m) := by
  rw [cnt_eq (by omega)]
  congr 1
  exact cntF_cong fun i hi => ((gon_iff hn hp (hR i (by omega))).trans (gon_b (hBb i hi))).symm
theorem dsT1 {S : Nat → Prop} [DecidablePred S] {F : Nat → Int32} {K d p : Nat} (hp : p = K - (d + 1)) (h1 : S p) (h2 : (dsF S F K d).2 ≤ F p) : nI p = (dsF S F K (d + 1)).1 := by
  rw [dsF_t hp h1 h2]
theorem dsT2 {S : Nat → Prop} [DecidablePred S] {F : Nat → Int32} {K d p : Nat} (hp : p = K - (d + 1)) (h1 : S p) (h2 : (dsF S F K d).2 ≤ F p) : F p = (dsF S F K (d + 1)).2 := by
  rw [dsF_t hp h1 h2]
theorem dsN1 {S : Nat → Prop} [DecidablePred S] {F : Nat → Int32} {K d p : Nat} (hp : p = K - (d + 1)) (h : ¬ (S p ∧ (dsF S F K d).2 ≤ F p)) : (dsF S F K d).1 = (dsF S F K (d + 1)).1 := by
  rw [dsF_f hp h]
theorem dsN2 {S : Nat → Prop} [DecidablePred S] {F : Nat → Int32} {K d p : Nat} (hp : p = K - (d + 1)) (h : ¬ (S p ∧ (dsF S F K d).2 ≤ F p)) : (dsF S F K d).2 = (dsF S F K (d + 1)).2 := by
  rw [dsF_f hp h]
