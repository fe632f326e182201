/-! the other calls: what they make of the invariant, and that both sides answer alike -/
theorem inv_com {n m v j : Nat} {o : Int32} {b e s g h qs op tn b2 e2 s2 xc xs b3 e3 : Nat → Int32} (hI : Inv n m v j o b e s g h qs op tn b2 e2 s2 xc xs b3 e3) {x y : Nat} {a k l : Int32} (ha : a = nI x) (hk : k = nI y) (hxy : x < y) (hyn : y ≤ n) (hl : st4 l) (hm1 : m < 12) :
    Inv n (m + 1) v j (o ||| bitF (nI m)) (upd b m a) (upd e m k) (upd s m l) (mrkF g x y (bitF (nI m))) h (upd qs m (nI (y - x))) (upd op m (nI 1)) (wrF tn (v * 12) 12 (fun kk => if kk < m + 1 then numF (upd b m a kk) (upd e m k kk) else -1)) b2 e2 s2 xc xs b3 e3 := by
  obtain ⟨⟨hn, hm, hv0, hj⟩, hR, hS, hG, hO, hQ, hH, hX⟩ := hI
  refine ⟨⟨hn, hm1, hv0, hj⟩, fun i hi => ?_, fun i hi => ?_, fun t ht => ?_, ?_, fun i hi => ?_, hH.same, hX⟩
  · by_cases c : i = m
    · subst c
      rw [upd_same, upd_same]
      exact Or.inr ⟨x, y, ha, hk, hxy, hyn⟩
    · rw [upd_ne _ _ c, upd_ne _ _ c]
      exact hR i (by omega)
  · by_cases c : i = m
    · subst c
      rw [upd_same]
      exact hl
    · rw [upd_ne _ _ c]
      exact hS i (by omega)
  · have e1 : cov (fun kk => upd b m a kk ≤ nI t ∧ nI t < upd e m k kk) m = g t := by
      rw [hG t ht]
      refine cov_cong (fun i hi => ?_)
      rw [upd_ne _ _ (by omega), upd_ne _ _ (by omega)]
    have e2 : (upd b m a m ≤ nI t ∧ nI t < upd e m k m) ↔ (x ≤ t ∧ t < y) := by
      rw [upd_same, upd_same]
      exact cv_n ha hk (by omega) (by omega) (by omega)
    show mrkF g x y (bitF (nI m)) t = cov (fun kk => upd b m a kk ≤ nI t ∧ nI t < upd e m k kk) (m + 1)
    simp only [mrkF]
    by_cases c : x ≤ t ∧ t < y
    · rw [if_pos c, ← cov_t (P := fun kk => upd b m a kk ≤ nI t ∧ nI t < upd e m k kk) (k := m) (e2.mpr c), e1]
    · rw [if_neg c, ← cov_f (P := fun kk => upd b m a kk ≤ nI t ∧ nI t < upd e m k kk) (k := m) (fun z => c (e2.mp z)), e1]
  · have e1 : cov (fun i => ¬ upd op m (nI 1) i = 0) m = o := by
      rw [hO]
      refine cov_cong (fun i hi => ?_)
      rw [upd_ne _ _ (by omega)]
    rw [← cov_t (P := fun i => ¬ upd op m (nI 1) i = 0) (k := m) (by show ¬ upd op m (nI 1) m = 0; rw [upd_same]; decide), e1]
  · by_cases c : i = m
    · subst c
      rw [upd_same]
      exact ⟨y - x, rfl, by omega, by omega⟩
    · rw [upd_ne _ _ c]
      exact hQ i (by omega)
theorem inv_ans {n m v j : Nat} {o : Int32} {b e s g h qs op tn b2 e2 s2 xc xs b3 e3 : Nat → Int32} (hI : Inv n m v j o b e s g h qs op tn b2 e2 s2 xc xs b3 e3) {a : Nat} (ha : a < m) :
    Inv n m v j (o ||| bitF (nI a)) b e s g h qs (upd op a (nI 1)) tn b2 e2 s2 xc xs b3 e3 := by
  obtain ⟨hb, hR, hS, hG, hO, hQ, hH, hX⟩ := hI
  refine ⟨hb, hR, hS, hG, ?_, hQ, hH, hX⟩
  rw [hO, cov_ins m ha]
  refine cov_cong (fun i hi => ?_)
  by_cases c : i = a
  · subst c
    rw [upd_same]
    exact ⟨fun _ => by decide, fun _ => Or.inr rfl⟩
  · rw [upd_ne _ _ c]
    exact ⟨fun z => z.elim id (fun q => absurd q c), Or.inl⟩
theorem inv_res {n m v j : Nat} {o : Int32} {b e s g h qs op tn b2 e2 s2 xc xs b3 e3 : Nat → Int32} (hI : Inv n m v j o b e s g h qs op tn b2 e2 s2 xc xs b3 e3) {a : Nat} (ha : a < m) :
    Inv n m v j (o &&& (bitF (nI a) ^^^ (-1))) b e s g h qs (upd op a (nI 0)) tn b2 e2 s2 xc xs b3 e3 := by
  obtain ⟨hb, hR, hS, hG, hO, hQ, hH, hX⟩ := hI
  refine ⟨hb, hR, hS, hG, ?_, hQ, hH, hX⟩
  rw [hO, cov_del (by omega) m hb.2.1]
  refine cov_cong (fun i hi => ?_)
  by_cases c : i = a
  · subst c
    rw [upd_same]
    exact ⟨fun z => absurd rfl z.2, fun z => absurd rfl z⟩
  · rw [upd_ne _ _ c]
    exact ⟨fun z => z.1, fun z => ⟨z, c⟩⟩
theorem res_eq {n m v j : Nat} {o : Int32} {b e s g h qs op tn b2 e2 s2 xc xs b3 e3 : Nat → Int32} (hI : Inv n m v j o b e s g h qs op tn b2 e2 s2 xc xs b3 e3) {a : Nat} (ha : a < m) : zb (¬ o &&& bitF (nI a) = 0) = zb (¬ op a = 0) := by
  obtain ⟨hb, hR, hS, hG, hO, hQ, hH, hX⟩ := hI
  refine zb_iff ?_
  rw [hO, cov_bit ha hb.2.1]
  exact not_congr Classical.not_not
theorem inv_find {n m v j : Nat} {o : Int32} {b e s g h qs op tn b2 e2 s2 xc xs b3 e3 : Nat → Int32} (hI : Inv n m v j o b e s g h qs op tn b2 e2 s2 xc xs b3 e3) {c p z : Nat} (hc : c < m) (hb1 : b c = -1) (hz : 1 ≤ z) (hpz : p + z ≤ n) :
    Inv n m v j o (upd b c (nI p)) (upd e c (nI (p + z))) s (mrkF g p (p + z) (bitF (nI c))) h qs op (wrF tn (v * 12) 12 (fun kk => if kk < m then numF ((upd b c (nI p)) kk) ((upd e c (nI (p + z))) kk) else -1)) b2 e2 s2 xc xs b3 e3 := by
  obtain ⟨⟨hn, hm, hv0, hj⟩, hR, hS, hG, hO, hQ, hH, hX⟩ := hI
  have he1 : e c = -1 := by
    rcases hR c hc with h1 | ⟨x, y, h1, h2, h3, h4⟩
    · exact h1.2
    · exact absurd (h1.symm.trans hb1) (nI_m1 (by omega))
  refine ⟨⟨hn, hm, hv0, hj⟩, fun i hi => ?_, hS, fun t ht => ?_, hO, hQ, hH.same, hX⟩
  · by_cases q : i = c
    · subst q
      rw [upd_same, upd_same]
      exact Or.inr ⟨p, p + z, rfl, rfl, by omega, hpz⟩
    · rw [upd_ne _ _ q, upd_ne _ _ q]
      exact hR i hi
  · have e2 : (upd b c (nI p) c ≤ nI t ∧ nI t < upd e c (nI (p + z)) c) ↔ (p ≤ t ∧ t < p + z) := by
      rw [upd_same, upd_same]
      exact cv_n rfl rfl (by omega) (by omega) (by omega)
    simp only [mrkF]
    rw [hG t ht]
    by_cases q : p ≤ t ∧ t < p + z
    · rw [if_pos q]
      unfold covF
      rw [cov_ins m hc]
      refine cov_cong (fun i hi => ?_)
      by_cases w : i = c
      · subst w
        exact ⟨fun _ => e2.mpr q, fun _ => Or.inr rfl⟩
      · rw [upd_ne _ _ w, upd_ne _ _ w]
        exact ⟨fun y => y.elim id (fun y => absurd y w), Or.inl⟩
    · rw [if_neg q]
      refine cov_cong (fun i hi => ?_)
      by_cases w : i = c
      · subst w
        exact ⟨fun y => absurd y (cv_m he1 (by omega)), fun y => absurd (e2.mp y) q⟩
      · rw [upd_ne _ _ w, upd_ne _ _ w]
theorem xs_sug {n j : Nat} {b2 e2 s2 xc xs b3 e3 : Nat → Int32} (hX : InX n j b2 e2 s2 xc xs b3 e3) : upd xs j (nI 0) = xs := by
  funext i
  by_cases c : i = j
  · subst c
    rw [upd_same, hX.1 _ (Nat.le_refl _)]
    rfl
  · exact upd_ne _ _ c
theorem inv_sug {n m v j : Nat} {o : Int32} {b e s g h qs op tn b2 e2 s2 xc xs b3 e3 : Nat → Int32} (hI : Inv n m v j o b e s g h qs op tn b2 e2 s2 xc xs b3 e3) {x y z : Nat} {a k w : Int32} (ha : a = nI x) (hk : k = nI y) (hxy : x < y) (hyn : y ≤ n) (hw : w = nI z) (hz : z ≤ 5) (hj1 : j < 10) :
    Inv n m v (j + 1) o b e s g h qs op tn (upd b2 j a) (upd e2 j k) (upd s2 j (nI 0)) (upd xc j w) xs (upd b3 j a) (upd e3 j k) := by
  obtain ⟨⟨hn, hm, hv0, hj⟩, hR, hS, hG, hO, hQ, hH, hx0, hxc, hs2, hX⟩ := hI
  refine ⟨⟨hn, hm, hv0, hj1⟩, hR, hS, hG, hO, hQ, hH, fun i hi => hx0 i (by omega), fun i => ?_, fun i => ?_, fun i hi h0 => ?_⟩
  · by_cases c : i = j
    · subst c
      rw [upd_same]
      exact ⟨z, hw, hz⟩
    · rw [upd_ne _ _ c]
      exact hxc i
  · by_cases c : i = j
    · subst c
      rw [upd_same]
    · rw [upd_ne _ _ c]
      exact hs2 i
  · by_cases c : i = j
    · subst c
      rw [upd_same, upd_same, upd_same, upd_same]
      exact ⟨rfl, rfl, x, y, ha, hk, hxy, hyn⟩
    · rw [upd_ne _ _ c, upd_ne _ _ c, upd_ne _ _ c, upd_ne _ _ c]
      exact hX i (by omega) h0
theorem inv_rej {n m v j : Nat} {o : Int32} {b e s g h qs op tn b2 e2 s2 xc xs b3 e3 : Nat → Int32} (hI : Inv n m v j o b e s g h qs op tn b2 e2 s2 xc xs b3 e3) {a : Nat} (ha : a < j) :
    Inv n m v j o b e s g h qs op tn b2 e2 s2 xc (upd xs a (nI 2)) b3 e3 := by
  obtain ⟨hb, hR, hS, hG, hO, hQ, hH, hx0, hxc, hs2, hX⟩ := hI
  refine ⟨hb, hR, hS, hG, hO, hQ, hH, fun i hi => ?_, hxc, hs2, fun i hi h0 => ?_⟩
  · rw [upd_ne _ _ (by omega)]
    exact hx0 i hi
  · by_cases c : i = a
    · subst c
      rw [upd_same] at h0
      exact absurd h0 (by decide)
    · rw [upd_ne _ _ c] at h0
      exact hX i hi h0
theorem inv_hg {n m v j : Nat} {o : Int32} {b e s g h qs op tn b2 e2 s2 xc xs b3 e3 : Nat → Int32} (hI : Inv n m v j o b e s g h qs op tn b2 e2 s2 xc xs b3 e3) : ∀ i, i < m → b i = -1 → e i = -1 := by
  intro i hi h1
  rcases hI.2.1 i hi with h2 | ⟨x, y, h2, h3, h4, h5⟩
  · exact h2.2
  · exact absurd (h2.symm.trans h1) (nI_m1 (by have := hI.1.1; omega))
theorem cover_eq {n m v j : Nat} {o : Int32} {b e s g h qs op tn b2 e2 s2 xc xs b3 e3 : Nat → Int32} (hI : Inv n m v j o b e s g h qs op tn b2 e2 s2 xc xs b3 e3) {a : Int32} (ha : plC n a = 0) : covF b e m a = if a < nI n then covF b e m a else 0 := by
  have hn := hI.1.1
  obtain ⟨h1, h2⟩ := plC_0 (by omega) ha
  by_cases c : a < nI n
  · rw [if_pos c]
  · rw [if_neg c]
    have h3 : a.toNatClampNeg = n := by
      rw [h1, nI_ltI (by omega) (by omega)] at c
      omega
    rw [h1, h3]
    refine cov_none m (fun i hi => ?_)
    rcases hI.2.1 i hi with g2 | ⟨x, y, g2, g3, g4, g5⟩
    · exact cv_m g2.2 (by omega)
    · rw [cv_n g2 g3 (by omega) (by omega) (by omega)]
      omega
theorem mar_eq {n m v j : Nat} {o : Int32} {b e s g h qs op tn b2 e2 s2 xc xs b3 e3 : Nat → Int32} (hI : Inv n m v j o b e s g h qs op tn b2 e2 s2 xc xs b3 e3) {a : Int32} (ha : plC n a = 0) : marF n g a = if a < nI n then covF b e m a else 0 := by
  have hn := hI.1.1
  obtain ⟨h1, h2⟩ := plC_0 (by omega) ha
  have h0 : 0 ≤ a := by
    rw [h1]
    exact nI_pos' (by omega)
  unfold marF
  by_cases c : a < nI n
  · rw [if_pos ⟨h0, c⟩, if_pos c]
    have h3 : a.toNatClampNeg < n := by
      rw [h1, nI_ltI (by omega) (by omega)] at c
      exact c
    rw [hI.2.2.2.1 _ h3, ← h1]
  · rw [if_neg (fun z => c z.2), if_neg c]
theorem then_eq {n m v j : Nat} {o : Int32} {b e s g h qs op tn b2 e2 s2 xc xs b3 e3 : Nat → Int32} (hI : Inv n m v j o b e s g h qs op tn b2 e2 s2 xc xs b3 e3) {a w : Int32} (hc : fz (cmC m a) (plC v w) = 0) : (if w = nI v then numF (b a.toNatClampNeg) (e a.toNatClampNeg) else h (w.toNatClampNeg * 12 + a.toNatClampNeg)) = tn (w.toNatClampNeg * 12 + a.toNatClampNeg) := by
  have hb := hI.1
  obtain ⟨c1, c2⟩ := fz_0.mp hc
  obtain ⟨h1, h2⟩ := cmC_0 (by omega) c1
  obtain ⟨h3, h4⟩ := plC_0 (by omega) c2
  have hH := hI.2.2.2.2.2.2.1
  by_cases q : w = nI v
  · rw [if_pos q]
    have h5 := hH.2 a.toNatClampNeg (by omega)
    rw [if_pos h2] at h5
    rw [q, nI_clamp (by omega), h5]
  · rw [if_neg q]
    have h6 : ¬ w.toNatClampNeg = v := fun z => q (by rw [h3, z])
    exact hH.1 _ (by omega)
theorem ov_eq {n m v j : Nat} {o : Int32} {b e s g h qs op tn b2 e2 s2 xc xs b3 e3 : Nat → Int32} (hI : Inv n m v j o b e s g h qs op tn b2 e2 s2 xc xs b3 e3) {i : Nat} (hi : i < j) : ovF b2 e2 xs i j = ovM b3 e3 xs i j := by
  have hn := hI.1.1
  have hX := hI.2.2.2.2.2.2.2.2.2.2
  unfold ovF ovM
  by_cases h0 : xs i = 0
  · rw [if_pos h0, if_pos h0]
    obtain ⟨h1, h2, x, y, h3, h4, h5, h6⟩ := hX i hi h0
    refine cov_cong (fun k hk => ?_)
    refine and_congr_right (fun _ => and_congr_right (fun hk0 => ?_))
    obtain ⟨k1, k2, x', y', k3, k4, k5, k6⟩ := hX k hk hk0
    have m1 : (if b2 i < b2 k then b2 k else b2 i) = nI (if x < x' then x' else x) := by
      rw [h3, k3]
      by_cases c : x < x'
      · rw [if_pos ((nI_ltI (by omega) (by omega)).mpr c), if_pos c]
      · rw [if_neg (fun z => c ((nI_ltI (by omega) (by omega)).mp z)), if_neg c]
    have m2 : (if e2 k < e2 i then e2 k else e2 i) = nI (if y' < y then y' else y) := by
      rw [h4, k4]
      by_cases c : y' < y
      · rw [if_pos ((nI_ltI (by omega) (by omega)).mpr c), if_pos c]
      · rw [if_neg (fun z => c ((nI_ltI (by omega) (by omega)).mp z)), if_neg c]
    have lt1 : nI (if x < x' then x' else x) < nI (if y' < y then y' else y) ↔ (if x < x' then x' else x) < (if y' < y then y' else y) := nI_ltI (by split <;> omega) (by split <;> omega)
    rw [m1, m2, lt1, ← k1, ← h2, ← h1, ← k2, h3, h4, k3, k4, nI_ltI (by omega) (by omega), nI_ltI (by omega) (by omega)]
    by_cases c1 : x < x'
    · rw [if_pos c1]
      by_cases c2 : y' < y
      · rw [if_pos c2]
        omega
      · rw [if_neg c2]
        omega
    · rw [if_neg c1]
      by_cases c2 : y' < y
      · rw [if_pos c2]
        omega
      · rw [if_neg c2]
        omega
  · rw [if_neg h0, if_neg h0]
theorem acc_code {n m v j : Nat} {o : Int32} {b e s g h qs op tn b2 e2 s2 xc xs b3 e3 : Nat → Int32} (hI : Inv n m v j o b e s g h qs op tn b2 e2 s2 xc xs b3 e3) (a : Int32) (r w : Nat) : fz (cmC j a) (fz w (fz (if ovF b2 e2 xs a.toNatClampNeg j = 0 then 0 else 3) r)) = fz (cmC j a) (fz w (fz (if ovM b3 e3 xs a.toNatClampNeg j = 0 then 0 else 3) r)) := by
  by_cases c : cmC j a = 0
  · rw [ov_eq hI (cmC_0 (by have := hI.1; omega) c).2]
  · unfold fz
    rw [if_neg c, if_neg c]
theorem st4_of {l : Int32} (h : amC l (nI 0) (nI 3) = 0) : st4 l := by
  obtain ⟨h1, -, h3⟩ := amC_0 (a := 0) (b := 3) (by omega) (by omega) h
  have h4 : l.toNatClampNeg = 0 ∨ l.toNatClampNeg = 1 ∨ l.toNatClampNeg = 2 ∨ l.toNatClampNeg = 3 := by omega
  unfold st4
  rcases h4 with q | q | q | q <;> rw [q] at h1
  · exact Or.inl h1
  · exact Or.inr (Or.inl h1)
  · exact Or.inr (Or.inr (Or.inl h1))
  · exact Or.inr (Or.inr (Or.inr h1))
theorem acc_y1 {xs : Nat → Int32} {a : Nat} : ∀ i, upd xs a (nI 1) i = 0 → xs i = 0 := by
  intro i h
  by_cases c : i = a
  · subst c
    rw [upd_same] at h
    exact absurd h (by decide)
  · rw [upd_ne _ _ c] at h
    exact h
theorem acc_y2 {xs : Nat → Int32} {a j : Nat} (ha : a < j) (hx : ∀ i, j ≤ i → xs i = 0) : ∀ i, j ≤ i → upd xs a (nI 1) i = 0 := by
  intro i h
  rw [upd_ne _ _ (by omega)]
  exact hx i h
