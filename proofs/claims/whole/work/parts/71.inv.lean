/-! the invariant of both sides, and what an insertion and a removal make of it -/
def InR (n m : Nat) (b e : Nat → Int32) : Prop := ∀ i, i < m → rgP n (b i) (e i)
def InG (n m : Nat) (b e g : Nat → Int32) : Prop := ∀ t, t < n → g t = covF b e m (nI t)
def InQ (m : Nat) (qs : Nat → Int32) : Prop := ∀ i, i < m → ∃ z : Nat, qs i = nI z ∧ 1 ≤ z ∧ z ≤ 60
def InH (v m : Nat) (b e h tn : Nat → Int32) : Prop := (∀ t, t < v * 12 → h t = tn t) ∧ ∀ i, i < 12 → tn (v * 12 + i) = if i < m then numF (b i) (e i) else -1
def InX (n j : Nat) (b2 e2 s2 xc xs b3 e3 : Nat → Int32) : Prop := (∀ i, j ≤ i → xs i = 0) ∧ (∀ i, ∃ z : Nat, xc i = nI z ∧ z ≤ 5) ∧ (∀ i, s2 i = nI 0) ∧ ∀ i, i < j → xs i = 0 → b2 i = b3 i ∧ e2 i = e3 i ∧ ∃ p q : Nat, b2 i = nI p ∧ e2 i = nI q ∧ p < q ∧ q ≤ n
def Inv (n m v j : Nat) (o : Int32) (b e s g h qs op tn b2 e2 s2 xc xs b3 e3 : Nat → Int32) : Prop := (n ≤ 60 ∧ m ≤ 12 ∧ v ≤ 300 ∧ j ≤ 10) ∧ InR n m b e ∧ (∀ i, i < m → st4 (s i)) ∧ InG n m b e g ∧ o = cov (fun i => ¬ op i = 0) m ∧ InQ m qs ∧ InH v m b e h tn ∧ InX n j b2 e2 s2 xc xs b3 e3
theorem InH.step {v m : Nat} {b e h tn B E : Nat → Int32} (hH : InH v m b e h tn) : InH (v + 1) m B E (wrF h (v * 12) 12 (fun kk => if kk < m then numF (b kk) (e kk) else -1)) (wrF tn ((v + 1) * 12) 12 (fun kk => if kk < m then numF (B kk) (E kk) else -1)) := by
  refine ⟨fun t ht => ?_, fun i hi => ?_⟩
  · simp only [wrF]
    by_cases c : v * 12 ≤ t ∧ t < v * 12 + 12
    · have h2 := hH.2 (t - v * 12) (by omega)
      rw [show v * 12 + (t - v * 12) = t by omega] at h2
      rw [if_pos c, if_neg (show ¬ ((v + 1) * 12 ≤ t ∧ t < (v + 1) * 12 + 12) by omega), h2]
    · rw [if_neg c, if_neg (show ¬ ((v + 1) * 12 ≤ t ∧ t < (v + 1) * 12 + 12) by omega)]
      exact hH.1 t (by omega)
  · simp only [wrF]
    rw [if_pos (show (v + 1) * 12 ≤ (v + 1) * 12 + i ∧ (v + 1) * 12 + i < (v + 1) * 12 + 12 by omega), show (v + 1) * 12 + i - (v + 1) * 12 = i by omega]
theorem InH.same {v m M : Nat} {b e h tn B E : Nat → Int32} (hH : InH v m b e h tn) : InH v M B E h (wrF tn (v * 12) 12 (fun kk => if kk < M then numF (B kk) (E kk) else -1)) := by
  refine ⟨fun t ht => ?_, fun i hi => ?_⟩
  · simp only [wrF]
    rw [if_neg (show ¬ (v * 12 ≤ t ∧ t < v * 12 + 12) by omega)]
    exact hH.1 t ht
  · simp only [wrF]
    rw [if_pos (show v * 12 ≤ v * 12 + i ∧ v * 12 + i < v * 12 + 12 by omega), show v * 12 + i - v * 12 = i by omega]
theorem inv_ins {n m v j : Nat} {o : Int32} {b e s g h qs op tn b2 e2 s2 xc xs b3 e3 : Nat → Int32} (hI : Inv n m v j o b e s g h qs op tn b2 e2 s2 xc xs b3 e3) {p k : Nat} (hp : p ≤ n) (hk : n + k ≤ 60) (hv : v + 1 ≤ 300) :
    Inv (n + k) m (v + 1) j o (mpF m (insB (nI p) (nI k) b s) b) (mpF m (insE (nI p) (nI k) b e s) e) s (mrkF (filF (va_cpy g g p (p + k) (n - p)) p (p + k) (nI 0)) p (p + k) (covF (mpF m (insB (nI p) (nI k) b s) b) (mpF m (insE (nI p) (nI k) b e s) e) m (nI p))) (wrF h (v * 12) 12 (fun kk => if kk < m then numF (b kk) (e kk) else -1)) qs op (wrF tn ((v + 1) * 12) 12 (fun kk => if kk < m then numF ((mpF m (insB (nI p) (nI k) b s) b) kk) ((mpF m (insE (nI p) (nI k) b e s) e) kk) else -1)) (mpF j (insB (nI p) (nI k) b2 s2) b2) (mpF j (insE (nI p) (nI k) b2 e2 s2) e2) s2 xc xs (mpF j (siB (nI p) (nI k) b3) b3) (mpF j (siE (nI p) (nI k) e3) e3) := by
  obtain ⟨⟨hn, hm, hv0, hj⟩, hR, hS, hG, hO, hQ, hH, hx0, hxc, hs2, hX⟩ := hI
  have hat := fun i hi => ins_at (p := p) (k := k) (s := s) hn hp (hR i hi)
  refine ⟨⟨by omega, hm, hv, hj⟩, fun i hi => ?_, hS, fun t ht => ?_, hO, hQ, hH.step, hx0, hxc, hs2, fun i hi h0 => ?_⟩
  · rw [mpF_lt _ _ hi, mpF_lt _ _ hi]
    rcases hat i hi with ⟨-, -, h3, h4⟩ | ⟨x, y, x', y', h1, h2, h3, h4, h5, h6, h7, h8⟩
    · exact Or.inl ⟨h3, h4⟩
    · exact Or.inr ⟨x', y', h5, h6, by omega, by omega⟩
  · have key : ∀ t1 t2 : Nat, t1 < 100 → t2 < 100 → ((t1 = t2 ∧ t1 < p) ∨ (t1 + k = t2 ∧ p ≤ t1)) → covF b e m (nI t1) = covF (mpF m (insB (nI p) (nI k) b s) b) (mpF m (insE (nI p) (nI k) b e s) e) m (nI t2) := by
      intro t1 t2 h1 h2 h12
      refine cov_cong (fun i hi => ?_)
      rw [mpF_lt _ _ hi, mpF_lt _ _ hi]
      rcases hat i hi with ⟨g1, g2, g3, g4⟩ | ⟨x, y, x', y', g1, g2, g3, g4, g5, g6, g7, g8⟩
      · exact ⟨fun z => absurd z (cv_m g2 (by omega)), fun z => absurd z (cv_m g4 (by omega))⟩
      · rw [cv_n g1 g2 (by omega) (by omega) (by omega), cv_n g5 g6 (by omega) (by omega) (by omega)]
        omega
    have mid : p ≤ t → t < p + k → covF (mpF m (insB (nI p) (nI k) b s) b) (mpF m (insE (nI p) (nI k) b e s) e) m (nI p) = covF (mpF m (insB (nI p) (nI k) b s) b) (mpF m (insE (nI p) (nI k) b e s) e) m (nI t) := by
      intro h1 h2
      refine cov_cong (fun i hi => ?_)
      rw [mpF_lt _ _ hi, mpF_lt _ _ hi]
      rcases hat i hi with ⟨g1, g2, g3, g4⟩ | ⟨x, y, x', y', g1, g2, g3, g4, g5, g6, g7, g8⟩
      · exact ⟨fun z => absurd z (cv_m g4 (by omega)), fun z => absurd z (cv_m g4 (by omega))⟩
      · rw [cv_n g5 g6 (by omega) (by omega) (by omega), cv_n g5 g6 (by omega) (by omega) (by omega)]
        omega
    simp only [mrkF, filF, va_cpy]
    by_cases c1 : p ≤ t ∧ t < p + k
    · rw [if_pos c1, if_pos c1]
      rw [show nI 0 = 0 from rfl, z0_or]
      exact mid c1.1 c1.2
    · rw [if_neg c1, if_neg c1]
      by_cases c2 : t < p
      · rw [if_neg (show ¬ (p + k ≤ t ∧ t < p + k + (n - p)) by omega), hG t (by omega)]
        exact key t t (by omega) (by omega) (Or.inl ⟨rfl, c2⟩)
      · rw [if_pos (show p + k ≤ t ∧ t < p + k + (n - p) by omega), hG _ (by omega)]
        exact key _ t (by omega) (by omega) (Or.inr ⟨by omega, by omega⟩)
  · obtain ⟨h1, h2, x, y, h3, h4, h5, h6⟩ := hX i hi h0
    rw [mpF_lt _ _ hi, mpF_lt _ _ hi, mpF_lt _ _ hi, mpF_lt _ _ hi]
    rw [sug_insB (hs2 i) h3 (by omega) (by omega), sug_insE (hs2 i) h3 h4 (by omega) (by omega) (by omega), siB_nI (h1.symm.trans h3) (by omega) (by omega), siE_nI (h2.symm.trans h4) (by omega) (by omega)]
    refine ⟨rfl, rfl, _, _, rfl, rfl, ?_, ?_⟩
    · by_cases c1 : x < p
      · rw [if_pos c1]
        by_cases c2 : y ≤ p
        · rw [if_pos c2]
          exact h5
        · rw [if_neg c2]
          omega
      · rw [if_neg c1, if_neg (by omega)]
        omega
    · by_cases c2 : y ≤ p
      · rw [if_pos c2]
        omega
      · rw [if_neg c2]
        omega
/-- what a removal leaves of the states, on both sides: own is the suggestion that is accepted, or -1 -/
theorem xs_rem {n j : Nat} {b2 e2 s2 xc xs b3 e3 : Nat → Int32} (hX : InX n j b2 e2 s2 xc xs b3 e3) (hn : n ≤ 60) (hj : j ≤ 10) (p k : Int32) : mpF j (slS p k (-1) b3 e3 xs) xs = mpF j (lgF (gonF p k b2 e2 j) xs) xs := by
  obtain ⟨hx0, hxc, hs2, hX⟩ := hX
  funext i
  by_cases hi : i < j
  · rw [mpF_lt _ _ hi, mpF_lt _ _ hi]
    simp only [slS, lgF]
    by_cases h0 : xs i = 0
    · obtain ⟨h1, h2, x, y, h3, h4, h5, h6⟩ := hX i hi h0
      rw [if_pos h0, if_neg (nI_m1 (by omega)), ← h1, ← h2]
      have hg : gonF p k b2 e2 j &&& bitF (nI i) = 0 ↔ ¬ behF (b2 i) p k = behF (e2 i) p k := by
        unfold gonF
        rw [cov_bit hi (by omega), h3]
        exact ⟨fun z q => z ⟨nI_m1 (by omega), q⟩, fun z q => z q.2⟩
      by_cases c : behF (b2 i) p k = behF (e2 i) p k
      · rw [if_pos c, if_pos ⟨fun z => hg.mp z c, h0⟩]
      · rw [if_neg c, if_neg (fun z => z.1 (hg.mpr c))]
    · rw [if_neg h0, if_neg (fun z => h0 z.2)]
  · rw [mpF_at _ _ (by omega), mpF_at _ _ (by omega)]
theorem xs_acc {n j a : Nat} {b2 e2 s2 xc xs b3 e3 : Nat → Int32} (hX : InX n j b2 e2 s2 xc xs b3 e3) (hn : n ≤ 60) (hj : j ≤ 10) (ha : a < j) (p k : Int32) : upd (mpF j (slS p k (nI a) b3 e3 xs) xs) a (nI 1) = mpF j (lgF (gonF p k b2 e2 j) (upd xs a (nI 1))) (upd xs a (nI 1)) := by
  obtain ⟨hx0, hxc, hs2, hX⟩ := hX
  have h10 : ¬ nI 1 = 0 := by decide
  funext i
  by_cases hia : i = a
  · subst hia
    rw [mpF_lt _ _ ha, upd_same]
    simp only [lgF, upd_same]
    rw [if_neg (fun z => h10 z.2)]
  · by_cases hi : i < j
    · rw [mpF_lt _ _ hi]
      have e1 : ∀ f : Nat → Int32, upd f a (nI 1) i = f i := fun f => if_neg hia
      rw [e1, mpF_lt _ _ hi]
      simp only [slS, lgF, e1]
      by_cases h0 : xs i = 0
      · obtain ⟨h1, h2, x, y, h3, h4, h5, h6⟩ := hX i hi h0
        have hna : ¬ nI i = nI a := fun z => hia ((nI_eq (by omega) (by omega)).mp z)
        rw [if_pos h0, if_neg hna, ← h1, ← h2]
        have hg : gonF p k b2 e2 j &&& bitF (nI i) = 0 ↔ ¬ behF (b2 i) p k = behF (e2 i) p k := by
          unfold gonF
          rw [cov_bit hi (by omega), h3]
          exact ⟨fun z q => z ⟨nI_m1 (by omega), q⟩, fun z q => z q.2⟩
        by_cases c : behF (b2 i) p k = behF (e2 i) p k
        · rw [if_pos c, if_pos ⟨fun z => hg.mp z c, h0⟩]
        · rw [if_neg c, if_neg (fun z => z.1 (hg.mpr c))]
      · rw [if_neg h0, if_neg (fun z => h0 z.2)]
    · rw [mpF_at _ _ (by omega)]
      have e1 : ∀ f : Nat → Int32, upd f a (nI 1) i = f i := fun f => if_neg hia
      rw [e1, e1, mpF_at _ _ (by omega)]
/-- a removal: ys are the states ahead of it on the class' side (one accepted, or as they were) -/
theorem inv_rem {n m v j : Nat} {o : Int32} {b e s g h qs op tn b2 e2 s2 xc xs b3 e3 : Nat → Int32} (hI : Inv n m v j o b e s g h qs op tn b2 e2 s2 xc xs b3 e3) {p k : Nat} {ys : Nat → Int32} (hp : p + k ≤ n) (hv : v + 1 ≤ 300) (hy : ∀ i, ys i = 0 → xs i = 0) (hy0 : ∀ i, j ≤ i → ys i = 0) :
    Inv (n - k) m (v + 1) j o (mpF m (remB (nI p) (nI k) b e) b) (mpF m (remE (nI p) (nI k) b e) e) s (va_cpy g g (p + k) p (n - (p + k))) (wrF h (v * 12) 12 (fun kk => if kk < m then numF (b kk) (e kk) else -1)) qs op (wrF tn ((v + 1) * 12) 12 (fun kk => if kk < m then numF ((mpF m (remB (nI p) (nI k) b e) b) kk) ((mpF m (remE (nI p) (nI k) b e) e) kk) else -1)) (mpF j (remB (nI p) (nI k) b2 e2) b2) (mpF j (remE (nI p) (nI k) b2 e2) e2) s2 xc (mpF j (lgF (gonF (nI p) (nI k) b2 e2 j) ys) ys) (mpF j (slB (nI p) (nI k) b3) b3) (mpF j (slB (nI p) (nI k) e3) e3) := by
  obtain ⟨⟨hn, hm, hv0, hj⟩, hR, hS, hG, hO, hQ, hH, hx0, hxc, hs2, hX⟩ := hI
  have hat := fun i hi => rem_at (p := p) (k := k) hn hp (hR i hi)
  refine ⟨⟨by omega, hm, hv, hj⟩, fun i hi => ?_, hS, fun t ht => ?_, hO, hQ, hH.step, fun i hi => ?_, hxc, hs2, fun i hi h0 => ?_⟩
  · rw [mpF_lt _ _ hi, mpF_lt _ _ hi]
    rcases hat i hi with ⟨-, -, h3, h4⟩ | ⟨x, y, h1, h2, h3, h4, ⟨h5, h6, h7, h8⟩ | ⟨x', y', h5, h6, h7, h8, h9⟩⟩
    · exact Or.inl ⟨h3, h4⟩
    · exact Or.inl ⟨h7, h8⟩
    · exact Or.inr ⟨x', y', h5, h6, by omega, by omega⟩
  · have key : ∀ t1 t2 : Nat, t1 < 100 → t2 < 100 → ((t1 = t2 ∧ t2 < p) ∨ (t1 = t2 + k ∧ p ≤ t2)) → covF b e m (nI t1) = covF (mpF m (remB (nI p) (nI k) b e) b) (mpF m (remE (nI p) (nI k) b e) e) m (nI t2) := by
      intro t1 t2 h1 h2 h12
      refine cov_cong (fun i hi => ?_)
      rw [mpF_lt _ _ hi, mpF_lt _ _ hi]
      rcases hat i hi with ⟨g1, g2, g3, g4⟩ | ⟨x, y, g1, g2, g3, g4, ⟨g5, g6, g7, g8⟩ | ⟨x', y', g5, g6, g7, g8, g9⟩⟩
      · exact ⟨fun z => absurd z (cv_m g2 (by omega)), fun z => absurd z (cv_m g4 (by omega))⟩
      · rw [cv_n g1 g2 (by omega) (by omega) (by omega)]
        exact ⟨fun z => by omega, fun z => absurd z (cv_m g8 (by omega))⟩
      · rw [cv_n g1 g2 (by omega) (by omega) (by omega), cv_n g5 g6 (by omega) (by omega) (by omega)]
        omega
    simp only [va_cpy]
    by_cases c2 : t < p
    · rw [if_neg (show ¬ (p ≤ t ∧ t < p + (n - (p + k))) by omega), hG t (by omega)]
      exact key t t (by omega) (by omega) (Or.inl ⟨rfl, c2⟩)
    · rw [if_pos (show p ≤ t ∧ t < p + (n - (p + k)) by omega), hG _ (by omega)]
      exact key _ t (by omega) (by omega) (Or.inr ⟨by omega, by omega⟩)
  · rw [mpF_at _ _ (by omega)]
    exact hy0 i hi
  · rw [mpF_lt _ _ hi] at h0
    rw [mpF_lt _ _ hi, mpF_lt _ _ hi, mpF_lt _ _ hi, mpF_lt _ _ hi]
    have hyi : ys i = 0 ∧ gonF (nI p) (nI k) b2 e2 j &&& bitF (nI i) = 0 := by
      simp only [lgF] at h0
      by_cases c : ¬ (gonF (nI p) (nI k) b2 e2 j &&& bitF (nI i)) = 0 ∧ ys i = 0
      · rw [if_pos c] at h0
        exact absurd h0 (by decide)
      · rw [if_neg c] at h0
        exact ⟨h0, Classical.byContradiction (fun w => c ⟨w, h0⟩)⟩
    obtain ⟨h1, h2, x, y, h3, h4, h5, h6⟩ := hX i hi (hy i hyi.1)
    have hne : ¬ behF (b2 i) (nI p) (nI k) = behF (e2 i) (nI p) (nI k) := by
      have h9 := hyi.2
      unfold gonF at h9
      rw [cov_bit hi (by omega), h3] at h9
      intro z
      rw [h3] at z
      exact h9 ⟨nI_m1 (by omega), z⟩
    have r1 : remB (nI p) (nI k) b2 e2 i = behF (b2 i) (nI p) (nI k) := by
      simp only [remB]
      rw [if_neg (by rw [h3]; exact nI_m1 (by omega)), if_neg hne]
    have r2 : remE (nI p) (nI k) b2 e2 i = behF (e2 i) (nI p) (nI k) := by
      simp only [remE]
      rw [if_neg (by rw [h3]; exact nI_m1 (by omega)), if_neg hne]
    rcases rem_at (p := p) (k := k) (b := b2) (e := e2) (i := i) hn hp (Or.inr ⟨x, y, h3, h4, h5, h6⟩) with ⟨g1, -⟩ | ⟨x1, y1, g1, g2, g3, g4, ⟨g5, g6, g7, g8⟩ | ⟨x', y', g5, g6, g7, g8, g9⟩⟩
    · exact absurd (h3.symm.trans g1) (nI_m1 (by omega))
    · exfalso
      rw [r1, h3, behF_nI (by omega) (by omega) (by omega)] at g7
      exact nI_m1 (by split <;> (try split) <;> omega) g7
    · refine ⟨?_, ?_, x', y', g5, g6, by omega, by omega⟩
      · rw [r1, h1]
        rfl
      · rw [r2, h2]
        rfl
