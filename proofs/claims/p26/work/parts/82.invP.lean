/-! what holds between the law's letters and the class, and what each call makes of it -/
def InvP (n m v j : Nat) (o : Int32) (b e s g h op qs b2 e2 s2 xc xs le lt B E : Nat → Int32) : Prop :=
  (n ≤ 60 ∧ m ≤ 6 ∧ j ≤ 6) ∧ RGa n B E ∧ LEa n le B E ∧ (∀ i, i < m → B i = b i ∧ E i = e i) ∧ (∀ i, i < j → B (8 + i) = b2 i ∧ E (8 + i) = e2 i) ∧ (∀ i, m ≤ i → i < 8 → B i = -1) ∧ (∀ i, 8 + j ≤ i → i < 14 → B i = -1) ∧ (∀ i, i < m → st4 (s i)) ∧ (∀ t, t < n → g t = covF b e m (nI t)) ∧ o = cov (fun kk => ¬ op kk = 0) m ∧ (∀ i, i < m → op i = nI 0 ∨ op i = nI 1) ∧ (∀ i, i < m → ∃ z : Nat, qs i = nI z ∧ 1 ≤ z ∧ z ≤ 8) ∧ (∀ i, s2 i = nI 0) ∧ (∀ i, i < j → ∃ z : Nat, xc i = nI z ∧ z ≤ 5) ∧ (∀ k, k < j → xs k = 0 → ¬ B (8 + k) = -1) ∧ InT v h lt B E
theorem InT.step {v m : Nat} {h lt B E b e B' E' : Nat → Int32} (hT : InT v h lt B E) (hb : ∀ i, i < 8 → (if i < m then numF (b i) (e i) else -1) = numF (B i) (E i)) : InT (v + 1) (wrF h (v * 12) 12 (fun kk => if kk < m then numF (b kk) (e kk) else -1)) (wrF lt (8 * ((v + 1) % 8)) 8 (fun kk => numF (B' kk) (E' kk))) B' E' := by
  refine ⟨fun i hi => ?_, fun w hw hw8 i hi => ?_⟩
  · simp only [wrF]
    rw [if_pos (by omega), Nat.add_sub_cancel_left]
  · simp only [wrF]
    rw [if_neg (by omega)]
    by_cases c : w = v
    · subst c
      rw [if_pos (by omega), Nat.add_sub_cancel_left, hb i hi]
      exact hT.1 i hi
    · rw [if_neg (by omega)]
      exact hT.2 w (by omega) (by omega) i hi
theorem InT.same {v : Nat} {h lt B E B' E' : Nat → Int32} (hT : InT v h lt B E) : InT v h (wrF lt (8 * (v % 8)) 8 (fun kk => numF (B' kk) (E' kk))) B' E' := by
  refine ⟨fun i hi => ?_, fun w hw hw8 i hi => ?_⟩
  · simp only [wrF]
    rw [if_pos (by omega), Nat.add_sub_cancel_left]
  · simp only [wrF]
    rw [if_neg (by omega)]
    exact hT.2 w hw hw8 i hi
theorem InT.cong {v : Nat} {h lt B E B' E' : Nat → Int32} (hT : InT v h lt B E) (hB : ∀ i, i < 8 → B' i = B i ∧ E' i = E i) : InT v h lt B' E' := by
  refine ⟨fun i hi => ?_, hT.2⟩
  rw [(hB i hi).1, (hB i hi).2]
  exact hT.1 i hi
theorem told8 {m : Nat} {B E b e : Nat → Int32} (hb : ∀ i, i < m → B i = b i ∧ E i = e i) (h0 : ∀ i, m ≤ i → i < 8 → B i = -1) : ∀ i, i < 8 → (if i < m then numF (b i) (e i) else -1) = numF (B i) (E i) := by
  intro i hi
  by_cases c : i < m
  · rw [if_pos c, (hb i c).1, (hb i c).2]
  · rw [if_neg c]
    exact num_m (h0 i (by omega) hi)
theorem mrk_fil (F : Nat → Int32) (a c : Nat) (x : Int32) : mrkF (filF F a c (nI 0)) a c x = filF F a c x := by
  funext t
  simp only [mrkF, filF]
  by_cases q : a ≤ t ∧ t < c
  · rw [if_pos q, if_pos q, if_pos q, show nI 0 = 0 from rfl, z0_or]
  · rw [if_neg q, if_neg q, if_neg q]
theorem g_ins {n p k m : Nat} {g B E S : Nat → Int32} (hn : n ≤ 60) (hp : p ≤ n) (hk : n + k ≤ 60) (hm : m ≤ 14) (hR : RGa n B E) (hE : ∀ t, t < n → g t = covF B E m (nI t)) : ∀ t, t < n + k → filF (va_cpy g g p (p + k) (n - p)) p (p + k) (covF (insB (nI p) (nI k) B S) (insE (nI p) (nI k) B E S) m (nI p)) t = covF (insB (nI p) (nI k) B S) (insE (nI p) (nI k) B E S) m (nI t) := by
  intro t ht
  simp only [filF]
  by_cases c1 : p ≤ t ∧ t < p + k
  · rw [if_pos c1]
    refine cov_cong fun i hi => ?_
    rcases ins_at (k := k) (s := S) hn hp (hR i (by omega)) with ⟨-, -, h1, h2⟩ | ⟨x, y, x', y', -, -, h3, h4, h5, h6, h7, h8⟩
    · exact ⟨fun q => absurd q (cv_m h2 (by omega)), fun q => absurd q (cv_m h2 (by omega))⟩
    · rw [cv_n h5 h6 (by omega) (by omega) (by omega), cv_n h5 h6 (by omega) (by omega) (by omega)]
      omega
  · rw [if_neg c1]
    simp only [va_cpy]
    by_cases c2 : p + k ≤ t ∧ t < p + k + (n - p)
    · rw [if_pos c2, hE _ (by omega)]
      refine cov_cong fun i hi => ?_
      rcases ins_at (k := k) (s := S) hn hp (hR i (by omega)) with ⟨-, h0, h1, h2⟩ | ⟨x, y, x', y', g1, g2, h3, h4, h5, h6, h7, h8⟩
      · exact ⟨fun q => absurd q (cv_m h0 (by omega)), fun q => absurd q (cv_m h2 (by omega))⟩
      · rw [cv_n g1 g2 (by omega) (by omega) (by omega), cv_n h5 h6 (by omega) (by omega) (by omega)]
        omega
    · rw [if_neg c2, hE _ (by omega)]
      refine cov_cong fun i hi => ?_
      rcases ins_at (k := k) (s := S) hn hp (hR i (by omega)) with ⟨-, h0, h1, h2⟩ | ⟨x, y, x', y', g1, g2, h3, h4, h5, h6, h7, h8⟩
      · exact ⟨fun q => absurd q (cv_m h0 (by omega)), fun q => absurd q (cv_m h2 (by omega))⟩
      · rw [cv_n g1 g2 (by omega) (by omega) (by omega), cv_n h5 h6 (by omega) (by omega) (by omega)]
        omega
theorem g_rem {n p k m : Nat} {g B E : Nat → Int32} (hn : n ≤ 60) (hp : p + k ≤ n) (hm : m ≤ 14) (hR : RGa n B E) (hE : ∀ t, t < n → g t = covF B E m (nI t)) : ∀ t, t < n - k → va_cpy g g (p + k) p (n - (p + k)) t = covF (remB (nI p) (nI k) B E) (remE (nI p) (nI k) B E) m (nI t) := by
  intro t ht
  simp only [va_cpy]
  by_cases c2 : p ≤ t ∧ t < p + (n - (p + k))
  · rw [if_pos c2, hE _ (by omega)]
    refine cov_cong fun i hi => ?_
    rcases rem_at hn hp (hR i (by omega)) with ⟨-, h0, h1, h2⟩ | ⟨x, y, g1, g2, h3, h4, ⟨q1, q2, h5, h6⟩ | ⟨x', y', h5, h6, h7, h8, h9⟩⟩
    · exact ⟨fun q => absurd q (cv_m h0 (by omega)), fun q => absurd q (cv_m h2 (by omega))⟩
    · rw [cv_n g1 g2 (by omega) (by omega) (by omega)]
      exact ⟨fun q => by omega, fun q => absurd q (cv_m h6 (by omega))⟩
    · rw [cv_n g1 g2 (by omega) (by omega) (by omega), cv_n h5 h6 (by omega) (by omega) (by omega)]
      omega
  · rw [if_neg c2, hE _ (by omega)]
    refine cov_cong fun i hi => ?_
    rcases rem_at hn hp (hR i (by omega)) with ⟨-, h0, h1, h2⟩ | ⟨x, y, g1, g2, h3, h4, ⟨q1, q2, h5, h6⟩ | ⟨x', y', h5, h6, h7, h8, h9⟩⟩
    · exact ⟨fun q => absurd q (cv_m h0 (by omega)), fun q => absurd q (cv_m h2 (by omega))⟩
    · rw [cv_n g1 g2 (by omega) (by omega) (by omega)]
      exact ⟨fun q => by omega, fun q => absurd q (cv_m h6 (by omega))⟩
    · rw [cv_n g1 g2 (by omega) (by omega) (by omega), cv_n h5 h6 (by omega) (by omega) (by omega)]
      omega
theorem covF_cong {B E b e : Nat → Int32} {m : Nat} {p : Int32} (h : ∀ i, i < m → B i = b i ∧ E i = e i) : covF B E m p = covF b e m p :=
  cov_cong fun i hi => by rw [(h i hi).1, (h i hi).2]
theorem insB_c {p k : Int32} {B b S s : Nat → Int32} {i i2 : Nat} (h1 : B i = b i2) (h2 : S i = s i2) : insB p k B S i = insB p k b s i2 := by
  simp only [insB, h1, h2]
theorem insE_c {p k : Int32} {B E b e S s : Nat → Int32} {i i2 : Nat} (h1 : B i = b i2) (h3 : E i = e i2) (h2 : S i = s i2) : insE p k B E S i = insE p k b e s i2 := by
  simp only [insE, h1, h2, h3]
theorem remB_c {p k : Int32} {B E b e : Nat → Int32} {i i2 : Nat} (h1 : B i = b i2) (h3 : E i = e i2) : remB p k B E i = remB p k b e i2 := by
  simp only [remB, h1, h3]
theorem remE_c {p k : Int32} {B E b e : Nat → Int32} {i i2 : Nat} (h1 : B i = b i2) (h3 : E i = e i2) : remE p k B E i = remE p k b e i2 := by
  simp only [remE, h1, h3]
theorem invP_ins {n m v j : Nat} {o : Int32} {b e s g h op qs b2 e2 s2 xc xs le lt B E : Nat → Int32} (hI : InvP n m v j o b e s g h op qs b2 e2 s2 xc xs le lt B E) {p k : Nat} (hp : p ≤ n) (hk : n + k ≤ 60) (hk0 : 0 < k) :
    InvP (n + k) m (v + 1) j o (mpF m (insB (nI p) (nI k) b s) b) (mpF m (insE (nI p) (nI k) b e s) e) s (mrkF (filF (va_cpy g g p (p + k) (n - p)) p (p + k) (nI 0)) p (p + k) (covF (mpF m (insB (nI p) (nI k) b s) b) (mpF m (insE (nI p) (nI k) b e s) e) m (nI p))) (wrF h (v * 12) 12 (fun kk => if kk < m then numF (b kk) (e kk) else -1)) op qs (mpF j (insB (nI p) (nI k) b2 s2) b2) (mpF j (insE (nI p) (nI k) b2 e2 s2) e2) s2 xc xs (filF (va_cpy le le p (p + k) (n - p)) p (p + k) (covF (insB (nI p) (nI k) B (stF m s)) (insE (nI p) (nI k) B E (stF m s)) 14 (nI p))) (wrF lt (8 * ((v + 1) % 8)) 8 (fun kk => numF (insB (nI p) (nI k) B (stF m s) kk) (insE (nI p) (nI k) B E (stF m s) kk))) (insB (nI p) (nI k) B (stF m s)) (insE (nI p) (nI k) B E (stF m s)) := by
  obtain ⟨⟨hn, hm, hj⟩, hR, hE, hb, hs, hB0, hB2, hst, hG, ho, hop, hq, hs2, hxc, hw, hT⟩ := hI
  have hb' : ∀ i, i < m → insB (nI p) (nI k) B (stF m s) i = mpF m (insB (nI p) (nI k) b s) b i ∧ insE (nI p) (nI k) B E (stF m s) i = mpF m (insE (nI p) (nI k) b e s) e i := fun i hi => by
    rw [mpF_lt _ _ hi, mpF_lt _ _ hi]
    exact ⟨insB_c (hb i hi).1 (stF_t hi).symm, insE_c (hb i hi).1 (hb i hi).2 (stF_t hi).symm⟩
  refine ⟨⟨hk, hm, hj⟩, rg_ins hn hp hR, le_ins hn hp hk hk0 hR hE, hb', fun i hi => ?_, fun i h1 h2 => ins_m1 (hB0 i h1 h2), fun i h1 h2 => ins_m1 (hB2 i h1 h2), hst, fun t ht => ?_, ho, hop, hq, hs2, hxc, fun i hi h0 h1 => ?_, hT.step (told8 hb hB0)⟩
  · rw [mpF_lt _ _ hi, mpF_lt _ _ hi]
    have e1 : stF m s (8 + i) = s2 i := (stF_f (by omega)).symm.trans (hs2 i).symm
    exact ⟨insB_c (hs i hi).1 e1, insE_c (hs i hi).1 (hs i hi).2 e1⟩
  · rw [mrk_fil, ← covF_cong hb', ← covF_cong hb']
    exact g_ins hn hp hk (by omega) hR (fun t ht => (hG t ht).trans (covF_cong hb).symm) t ht
  · rcases ins_at (k := k) (s := stF m s) hn hp (hR (8 + i) (by omega)) with ⟨q, -, -, -⟩ | ⟨x, y, x', y', -, -, h3, h4, h5, -, h7, -⟩
    · exact hw i hi h0 q
    · rw [h5] at h1
      exact nI_m1 (by omega) h1
theorem invP_rem {n m v j : Nat} {o : Int32} {b e s g h op qs b2 e2 s2 xc xs xs0 le lt B E : Nat → Int32} (hI : InvP n m v j o b e s g h op qs b2 e2 s2 xc xs le lt B E) {p k : Nat} (hp : p + k ≤ n) (hx : ∀ i, i < j → xs0 i = 0 → xs i = 0) :
    InvP (n - k) m (v + 1) j o (mpF m (remB (nI p) (nI k) b e) b) (mpF m (remE (nI p) (nI k) b e) e) s (va_cpy g g (p + k) p (n - (p + k))) (wrF h (v * 12) 12 (fun kk => if kk < m then numF (b kk) (e kk) else -1)) op qs (mpF j (remB (nI p) (nI k) b2 e2) b2) (mpF j (remE (nI p) (nI k) b2 e2) e2) s2 xc (mpF j (lgF (gonF (nI p) (nI k) b2 e2 j) xs0) xs0) (va_cpy le le (p + k) p (n - (p + k))) (wrF lt (8 * ((v + 1) % 8)) 8 (fun kk => numF (remB (nI p) (nI k) B E kk) (remE (nI p) (nI k) B E kk))) (remB (nI p) (nI k) B E) (remE (nI p) (nI k) B E) := by
  obtain ⟨⟨hn, hm, hj⟩, hR, hE, hb, hs, hB0, hB2, hst, hG, ho, hop, hq, hs2, hxc, hw, hT⟩ := hI
  have hb' : ∀ i, i < m → remB (nI p) (nI k) B E i = mpF m (remB (nI p) (nI k) b e) b i ∧ remE (nI p) (nI k) B E i = mpF m (remE (nI p) (nI k) b e) e i := fun i hi => by
    rw [mpF_lt _ _ hi, mpF_lt _ _ hi]
    exact ⟨remB_c (hb i hi).1 (hb i hi).2, remE_c (hb i hi).1 (hb i hi).2⟩
  refine ⟨⟨by omega, hm, hj⟩, rg_rem hn hp hR, le_rem hn hp hR hE, hb', fun i hi => ?_, fun i h1 h2 => rem_m1 (hB0 i h1 h2), fun i h1 h2 => rem_m1 (hB2 i h1 h2), hst, fun t ht => ?_, ho, hop, hq, hs2, hxc, fun i hi h0 h1 => ?_, hT.step (told8 hb hB0)⟩
  · rw [mpF_lt _ _ hi, mpF_lt _ _ hi]
    exact ⟨remB_c (hs i hi).1 (hs i hi).2, remE_c (hs i hi).1 (hs i hi).2⟩
  · rw [← covF_cong hb']
    exact g_rem hn hp (by omega) hR (fun t ht => (hG t ht).trans (covF_cong hb).symm) t ht
  · rw [mpF_lt _ _ hi] at h0
    unfold lgF at h0
    by_cases c : ¬ (gonF (nI p) (nI k) b2 e2 j &&& bitF (nI i)) = 0 ∧ xs0 i = 0
    · rw [if_pos c] at h0
      exact absurd h0 (by decide)
    · rw [if_neg c] at h0
      have e1 := (gon_iff (i := 8 + i) hn hp (hR _ (by omega))).trans ((gon_b (hs i hi)).trans (gof_iff (b2 := b2) (e2 := e2) hi hj).symm)
      exact c ⟨e1.mp ⟨hw i hi (hx i hi h0), h1⟩, h0⟩
theorem invP_com {n m v j : Nat} {o : Int32} {b e s g h op qs b2 e2 s2 xc xs le lt B E : Nat → Int32} (hI : InvP n m v j o b e s g h op qs b2 e2 s2 xc xs le lt B E) {a k l : Nat} (hm6 : m < 6) (hk1 : 1 ≤ k) (hk8 : k ≤ 8) (hak : a + k ≤ n) (hl : l ≤ 3) :
    InvP n (m + 1) v j (o ||| bitF (nI m)) (upd b m (nI a)) (upd e m (nI (a + k))) (upd s m (nI l)) (mrkF g a (a + k) (bitF (nI m))) h (upd op m (nI 1)) (upd qs m (nI k)) b2 e2 s2 xc xs (mrkF le a (a + k) (bitF (nI m))) (wrF lt (8 * (v % 8)) 8 (fun kk => numF (upd B m (nI a) kk) (upd E m (nI (a + k)) kk))) (upd B m (nI a)) (upd E m (nI (a + k))) := by
  obtain ⟨⟨hn, hm, hj⟩, hR, hE, hb, hs, hB0, hB2, hst, hG, ho, hop, hq, hs2, hxc, hw, hT⟩ := hI
  refine ⟨⟨hn, by omega, hj⟩, rg_upd hR (by omega) hak, le_mark hn (by omega) hR hE (hB0 m (Nat.le_refl m) (by omega)) hak (by omega), fun i hi => ?_, fun i hi => ?_, fun i h1 h2 => ?_, fun i h1 h2 => ?_, fun i hi => ?_, fun t ht => ?_, ?_, fun i hi => ?_, fun i hi => ?_, hs2, hxc, fun i hi h0 => ?_, hT.same⟩
  · by_cases c : i = m
    · subst c
      simp only [upd_same, and_self]
    · rw [upd_ne _ _ c, upd_ne _ _ c, upd_ne _ _ c, upd_ne _ _ c]
      exact hb i (by omega)
  · rw [upd_ne _ _ (by omega), upd_ne _ _ (by omega)]
    exact hs i hi
  · rw [upd_ne _ _ (by omega)]
    exact hB0 i (by omega) h2
  · rw [upd_ne _ _ (by omega)]
    exact hB2 i h1 h2
  · by_cases c : i = m
    · subst c
      rw [upd_same]
      have h4 : l = 0 ∨ l = 1 ∨ l = 2 ∨ l = 3 := by omega
      unfold st4
      rcases h4 with q | q | q | q <;> subst q <;> simp
    · rw [upd_ne _ _ c]
      exact hst i (by omega)
  · have e1 : covF (upd b m (nI a)) (upd e m (nI (a + k))) m (nI t) = g t := by
      rw [hG t ht]
      exact covF_cong fun i hi => by rw [upd_ne _ _ (by omega), upd_ne _ _ (by omega)]; exact ⟨rfl, rfl⟩
    unfold covF at e1 ⊢
    simp only [mrkF]
    by_cases c : a ≤ t ∧ t < a + k
    · rw [if_pos c, ← cov_t (k := m) (by rw [upd_same, upd_same, nI_leI (by omega) (by omega), nI_ltI (by omega) (by omega)]; exact c), e1]
    · rw [if_neg c, ← cov_f (k := m) (by rw [upd_same, upd_same, nI_leI (by omega) (by omega), nI_ltI (by omega) (by omega)]; exact c), e1]
  · rw [← cov_t (P := fun kk => ¬ upd op m (nI 1) kk = 0) (k := m) (by show ¬ upd op m (nI 1) m = 0; rw [upd_same]; decide), ho]
    congr 1
    exact cov_cong fun i hi => by rw [upd_ne _ _ (by omega)]
  · by_cases c : i = m
    · subst c
      rw [upd_same]
      exact Or.inr rfl
    · rw [upd_ne _ _ c]
      exact hop i (by omega)
  · by_cases c : i = m
    · subst c
      rw [upd_same]
      exact ⟨k, rfl, hk1, hk8⟩
    · rw [upd_ne _ _ c]
      exact hq i (by omega)
  · rw [upd_ne _ _ (by omega)]
    exact hw i hi h0
theorem invP_ans {n m v j : Nat} {o : Int32} {b e s g h op qs b2 e2 s2 xc xs le lt B E : Nat → Int32} (hI : InvP n m v j o b e s g h op qs b2 e2 s2 xc xs le lt B E) {i : Nat} (hi : i < m) :
    InvP n m v j (o ||| bitF (nI i)) b e s g h (upd op i (nI 1)) qs b2 e2 s2 xc xs le lt B E := by
  obtain ⟨⟨hn, hm, hj⟩, hR, hE, hb, hs, hB0, hB2, hst, hG, ho, hop, hq, hs2, hxc, hw, hT⟩ := hI
  refine ⟨⟨hn, hm, hj⟩, hR, hE, hb, hs, hB0, hB2, hst, hG, ?_, fun k hk => ?_, hq, hs2, hxc, hw, hT⟩
  · rw [ho, cov_ins m hi]
    refine cov_cong fun k hk => ?_
    by_cases c : k = i
    · subst c
      rw [upd_same]
      exact ⟨fun _ => by decide, fun _ => Or.inr rfl⟩
    · rw [upd_ne _ _ c]
      exact ⟨fun z => z.elim id (fun z => absurd z c), Or.inl⟩
  · by_cases c : k = i
    · subst c
      rw [upd_same]
      exact Or.inr rfl
    · rw [upd_ne _ _ c]
      exact hop k hk
theorem invP_res {n m v j : Nat} {o : Int32} {b e s g h op qs b2 e2 s2 xc xs le lt B E : Nat → Int32} (hI : InvP n m v j o b e s g h op qs b2 e2 s2 xc xs le lt B E) {i : Nat} (hi : i < m) :
    InvP n m v j (o &&& (bitF (nI i) ^^^ (-1))) b e s g h (upd op i (nI 0)) qs b2 e2 s2 xc xs le lt B E := by
  obtain ⟨⟨hn, hm, hj⟩, hR, hE, hb, hs, hB0, hB2, hst, hG, ho, hop, hq, hs2, hxc, hw, hT⟩ := hI
  refine ⟨⟨hn, hm, hj⟩, hR, hE, hb, hs, hB0, hB2, hst, hG, ?_, fun k hk => ?_, hq, hs2, hxc, hw, hT⟩
  · rw [ho, cov_del (by omega) m (by omega)]
    refine cov_cong fun k hk => ?_
    by_cases c : k = i
    · subst c
      rw [upd_same]
      exact ⟨fun z => absurd rfl z.2, fun z => absurd rfl z⟩
    · rw [upd_ne _ _ c]
      exact ⟨fun z => z.1, fun z => ⟨z, c⟩⟩
  · by_cases c : k = i
    · subst c
      rw [upd_same]
      exact Or.inl rfl
    · rw [upd_ne _ _ c]
      exact hop k hk
theorem invP_find0 {n m v j : Nat} {o : Int32} {b e s g h op qs b2 e2 s2 xc xs le lt B E : Nat → Int32} (hI : InvP n m v j o b e s g h op qs b2 e2 s2 xc xs le lt B E) :
    InvP n m v j o b e s g h op qs b2 e2 s2 xc xs le (wrF lt (8 * (v % 8)) 8 (fun kk => numF (B kk) (E kk))) B E := by
  obtain ⟨hn, hR, hE, hb, hs, hB0, hB2, hst, hG, ho, hop, hq, hs2, hxc, hw, hT⟩ := hI
  exact ⟨hn, hR, hE, hb, hs, hB0, hB2, hst, hG, ho, hop, hq, hs2, hxc, hw, hT.same⟩
theorem g_mark {n m i a c : Nat} {g b e B E : Nat → Int32} (hn : n ≤ 60) (hm : m ≤ 6) (hi : i < m) (hR : RGa n B E) (hb : ∀ i, i < m → B i = b i ∧ E i = e i) (hG : ∀ t, t < n → g t = covF b e m (nI t)) (hB : B i = -1) (h1 : a < c) (h2 : c ≤ n) : ∀ t, t < n → mrkF g a c (bitF (nI i)) t = covF (upd b i (nI a)) (upd e i (nI c)) m (nI t) := by
  intro t ht
  have hEi : E i = -1 := by
    rcases hR i (by omega) with ⟨-, q⟩ | ⟨x, y, q, -, q3, q4⟩
    · exact q
    · exact absurd (q.symm.trans hB) (nI_m1 (by omega))
  have hei : e i = -1 := (hb i hi).2.symm.trans hEi
  simp only [mrkF]
  rw [hG t ht]
  by_cases q : a ≤ t ∧ t < c
  · rw [if_pos q]
    unfold covF
    rw [cov_ins m hi]
    refine cov_cong fun k hk => ?_
    by_cases w : k = i
    · subst w
      rw [upd_same, upd_same, nI_leI (by omega) (by omega), nI_ltI (by omega) (by omega)]
      exact ⟨fun _ => q, fun _ => Or.inr rfl⟩
    · rw [upd_ne _ _ w, upd_ne _ _ w]
      exact ⟨fun z => z.elim id (fun z => absurd z w), Or.inl⟩
  · rw [if_neg q]
    refine cov_cong fun k hk => ?_
    by_cases w : k = i
    · subst w
      rw [upd_same, upd_same, nI_leI (by omega) (by omega), nI_ltI (by omega) (by omega)]
      exact ⟨fun z => absurd z (cv_m hei (by omega)), fun z => absurd z q⟩
    · rw [upd_ne _ _ w, upd_ne _ _ w]
theorem invP_find1 {n m v j : Nat} {o : Int32} {b e s g h op qs b2 e2 s2 xc xs le lt B E : Nat → Int32} (hI : InvP n m v j o b e s g h op qs b2 e2 s2 xc xs le lt B E) {i a c : Nat} (hi : i < m) (hbi : b i = -1) (h1 : a < c) (h2 : c ≤ n) :
    InvP n m v j o (upd b i (nI a)) (upd e i (nI c)) s (mrkF g a c (bitF (nI i))) h op qs b2 e2 s2 xc xs (mrkF le a c (bitF (nI i))) (wrF lt (8 * (v % 8)) 8 (fun kk => numF (upd B i (nI a) kk) (upd E i (nI c) kk))) (upd B i (nI a)) (upd E i (nI c)) := by
  obtain ⟨⟨hn, hm, hj⟩, hR, hE, hb, hs, hB0, hB2, hst, hG, ho, hop, hq, hs2, hxc, hw, hT⟩ := hI
  have hBi : B i = -1 := (hb i hi).1.trans hbi
  refine ⟨⟨hn, hm, hj⟩, rg_upd hR h1 h2, le_mark hn (by omega) hR hE hBi h2 h1, fun k hk => ?_, fun k hk => ?_, fun k g1 g2 => ?_, fun k g1 g2 => ?_, hst, g_mark hn hm hi hR hb hG hBi h1 h2, ho, hop, hq, hs2, hxc, fun k hk h0 => ?_, hT.same⟩
  · by_cases w : k = i
    · subst w
      simp only [upd_same, and_self]
    · rw [upd_ne _ _ w, upd_ne _ _ w, upd_ne _ _ w, upd_ne _ _ w]
      exact hb k hk
  · rw [upd_ne _ _ (by omega), upd_ne _ _ (by omega)]
    exact hs k hk
  · rw [upd_ne _ _ (by omega)]
    exact hB0 k g1 g2
  · rw [upd_ne _ _ (by omega)]
    exact hB2 k g1 g2
  · rw [upd_ne _ _ (by omega)]
    exact hw k hk h0
theorem invP_sug {n m v j : Nat} {o : Int32} {b e s g h op qs b2 e2 s2 xc xs le lt B E : Nat → Int32} (hI : InvP n m v j o b e s g h op qs b2 e2 s2 xc xs le lt B E) {a k w0 : Nat} (hj6 : j < 6) (hk1 : 1 ≤ k) (hak : a + k ≤ n) (hw5 : w0 ≤ 5) :
    InvP n m v (j + 1) o b e s g h op qs (upd b2 j (nI a)) (upd e2 j (nI (a + k))) (upd s2 j (nI 0)) (upd xc j (nI w0)) (upd xs j (nI 0)) (mrkF le a (a + k) (bitF (nI (8 + j)))) lt (upd B (8 + j) (nI a)) (upd E (8 + j) (nI (a + k))) := by
  obtain ⟨⟨hn, hm, hj⟩, hR, hE, hb, hs, hB0, hB2, hst, hG, ho, hop, hq, hs2, hxc, hw, hT⟩ := hI
  refine ⟨⟨hn, hm, by omega⟩, rg_upd hR (by omega) hak, le_mark hn (by omega) hR hE (hB2 (8 + j) (Nat.le_refl _) (by omega)) hak (by omega), fun i hi => ?_, fun i hi => ?_, fun i h1 h2 => ?_, fun i h1 h2 => ?_, hst, hG, ho, hop, hq, fun i => ?_, fun i hi => ?_, fun i hi h0 => ?_, hT.cong fun i hi => ?_⟩
  · rw [upd_ne _ _ (by omega), upd_ne _ _ (by omega)]
    exact hb i hi
  · by_cases c : i = j
    · subst c
      simp only [upd_same, and_self]
    · rw [upd_ne (k := 8 + j) (i := 8 + i) _ _ (by omega), upd_ne (k := 8 + j) (i := 8 + i) _ _ (by omega), upd_ne _ _ c, upd_ne _ _ c]
      exact hs i (by omega)
  · rw [upd_ne _ _ (by omega)]
    exact hB0 i h1 h2
  · rw [upd_ne _ _ (by omega)]
    exact hB2 i (by omega) h2
  · by_cases c : i = j
    · subst c
      exact upd_same _ _ _
    · rw [upd_ne _ _ c]
      exact hs2 i
  · by_cases c : i = j
    · subst c
      rw [upd_same]
      exact ⟨w0, rfl, hw5⟩
    · rw [upd_ne _ _ c]
      exact hxc i (by omega)
  · by_cases c : i = j
    · subst c
      rw [upd_same]
      exact nI_m1 (by omega)
    · rw [upd_ne _ _ c] at h0
      rw [upd_ne _ _ (by omega)]
      exact hw i (by omega) h0
  · rw [upd_ne _ _ (by omega), upd_ne _ _ (by omega)]
    exact ⟨rfl, rfl⟩
theorem invP_rej {n m v j : Nat} {o : Int32} {b e s g h op qs b2 e2 s2 xc xs le lt B E : Nat → Int32} (hI : InvP n m v j o b e s g h op qs b2 e2 s2 xc xs le lt B E) {i : Nat} :
    InvP n m v j o b e s g h op qs b2 e2 s2 xc (upd xs i (nI 2)) le lt B E := by
  obtain ⟨hn, hR, hE, hb, hs, hB0, hB2, hst, hG, ho, hop, hq, hs2, hxc, hw, hT⟩ := hI
  refine ⟨hn, hR, hE, hb, hs, hB0, hB2, hst, hG, ho, hop, hq, hs2, hxc, fun k hk h0 => ?_, hT⟩
  by_cases c : k = i
  · subst c
    rw [upd_same] at h0
    exact absurd h0 (by decide)
  · rw [upd_ne _ _ c] at h0
    exact hw k hk h0
theorem acc_w {xs : Nat → Int32} {i j : Nat} : ∀ k, k < j → upd xs i (nI 1) k = 0 → xs k = 0 := by
  intro k _ h0
  by_cases c : k = i
  · subst c
    rw [upd_same] at h0
    exact absurd h0 (by decide)
  · rw [upd_ne _ _ c] at h0
    exact h0
theorem invP_0 : InvP 0 0 0 0 (nI 0) (fun _ => nI 0) (fun _ => nI 0) (fun _ => nI 0) (fun _ => nI 0) (fun _ => nI 0) (fun _ => nI 0) (fun _ => nI 0) (fun _ => nI 0) (fun _ => nI 0) (fun _ => nI 0) (fun _ => nI 0) (fun _ => nI 0) (fun _ => nI 0) (filF (fun _ => nI 0) 0 64 (-1)) (fun _ => -1) (fun _ => -1) := by
  refine ⟨⟨by omega, by omega, by omega⟩, fun i _ => Or.inl ⟨rfl, rfl⟩, fun t ht => absurd ht (Nat.not_lt_zero _), fun i hi => absurd hi (Nat.not_lt_zero _), fun i hi => absurd hi (Nat.not_lt_zero _), fun i _ _ => rfl, fun i _ _ => rfl, fun i hi => absurd hi (Nat.not_lt_zero _), fun t ht => absurd ht (Nat.not_lt_zero _), rfl, fun i hi => absurd hi (Nat.not_lt_zero _), fun i hi => absurd hi (Nat.not_lt_zero _), fun i => rfl, fun i hi => absurd hi (Nat.not_lt_zero _), fun i hi => absurd hi (Nat.not_lt_zero _), fun i hi => ?_, fun w hw => absurd hw (Nat.not_lt_zero _)⟩
  simp only [filF]
  rw [if_pos (by omega)]
  exact num_m rfl
