/-! MarginDesk: which exception comes, and what its methods answer -/
section ZN2
variable {G : zG} {X : zT} {R : Room} {cc : ByteArray} {Ts : List Cond} {own : String} {pc cells slots : Nat} {ws : va_W} {lv : List (Option Value)} {st : List Value} {a : Nat} {off : Int} {tgt : Nat}
theorem nI_z {a : Nat} (ha : a < 2 ^ 31) : nI a = 0 ↔ a = 0 := nI_eq (b := 0) ha (by omega)
theorem z_ifn_eq (hF : zF G X R cc Ts own) (ha : a < 2 ^ 31) (hdg : decode cc pc = .ok (.ifCond .eq off, 3)) (ht : (pc : Int) + off = (tgt : Int)) (kt : a = 0 → zJ G X tgt ws lv st cells slots) (kf : a ≠ 0 → zJ G X (pc + 3) ws lv st cells slots) : zJ G X pc ws lv (.int (nI a) :: st) cells slots :=
  z_if_eq hF hdg ht (fun h => kt ((nI_z ha).mp h)) (fun h => kf (fun z => h ((nI_z ha).mpr z)))
theorem z_ifn_ne (hF : zF G X R cc Ts own) (ha : a < 2 ^ 31) (hdg : decode cc pc = .ok (.ifCond .ne off, 3)) (ht : (pc : Int) + off = (tgt : Int)) (kt : a ≠ 0 → zJ G X tgt ws lv st cells slots) (kf : a = 0 → zJ G X (pc + 3) ws lv st cells slots) : zJ G X pc ws lv (.int (nI a) :: st) cells slots :=
  z_if_ne hF hdg ht (fun h => kt (fun z => h ((nI_z ha).mpr z))) (fun h => kf ((nI_z ha).mp h))
theorem z_ifn_le (hF : zF G X R cc Ts own) (ha : a < 2 ^ 31) (hdg : decode cc pc = .ok (.ifCond .le off, 3)) (ht : (pc : Int) + off = (tgt : Int)) (kt : a = 0 → zJ G X tgt ws lv st cells slots) (kf : 0 < a → zJ G X (pc + 3) ws lv st cells slots) : zJ G X pc ws lv (.int (nI a) :: st) cells slots :=
  z_if_le hF hdg ht (fun h => kt (Nat.le_zero.mp ((nI_leI (b := 0) ha (by omega)).mp h))) (fun h => kf (Nat.lt_of_not_le fun z => h ((nI_leI (b := 0) ha (by omega)).mpr z)))
end ZN2
def fz (a b : Nat) : Nat := if a = 0 then b else a
theorem fz_0 {a b : Nat} : fz a b = 0 ↔ a = 0 ∧ b = 0 := by
  unfold fz
  split <;> simp_all
def plC (n : Nat) (p : Int32) : Nat := if 0 ≤ p ∧ p ≤ nI n then 0 else 1
def amC (x a b : Int32) : Nat := if a ≤ x ∧ x ≤ b then 0 else 2
def cmC (m : Nat) (c : Int32) : Nat := if 0 ≤ c ∧ c < nI m then 0 else 1
def rgC (n : Nat) (a b : Int32) : Nat := fz (plC n a) (fz (plC n b) (if b ≤ a then 2 else 0))
def waC (x : Int32) : Nat := if x = 0 then 0 else 3
def roC (n v : Nat) (dl de : Int32) : Nat := if nI 60 < nI n + dl then 3 else if nI 300 < nI v + de then 3 else 0
theorem plC_0 {n : Nat} {p : Int32} (hn : n < 2 ^ 31) (h : plC n p = 0) : p = nI p.toNatClampNeg ∧ p.toNatClampNeg ≤ n := by
  unfold plC at h
  split at h
  · rename_i q
    exact zix2 (by grind) (by grind) hn
  · cases h
theorem cmC_0 {n : Nat} {p : Int32} (hn : n < 2 ^ 31) (h : cmC n p = 0) : p = nI p.toNatClampNeg ∧ p.toNatClampNeg < n := by
  unfold cmC at h
  split at h
  · rename_i q
    exact zix (by grind) (by grind) hn
  · cases h
theorem amC_0 {x : Int32} {a b : Nat} (ha : a < 2 ^ 31) (hb : b < 2 ^ 31) (h : amC x (nI a) (nI b) = 0) : x = nI x.toNatClampNeg ∧ a ≤ x.toNatClampNeg ∧ x.toNatClampNeg ≤ b := by
  unfold amC at h
  split at h
  · rename_i q
    have h1 := nI_pos' ha
    obtain ⟨h2, h3⟩ := zix2 (x := x) (n := b) (by grind) (by grind) hb
    refine ⟨h2, ?_, h3⟩
    have h4 := q.1
    rw [h2] at h4
    exact (nI_leI ha (by omega)).mp h4
  · cases h
theorem rgC_0 {n : Nat} {a b : Int32} (hn : n < 2 ^ 31) (h : rgC n a b = 0) : (a = nI a.toNatClampNeg ∧ a.toNatClampNeg ≤ n) ∧ (b = nI b.toNatClampNeg ∧ b.toNatClampNeg ≤ n) ∧ a.toNatClampNeg < b.toNatClampNeg := by
  unfold rgC at h
  rw [fz_0, fz_0] at h
  obtain ⟨h1, h2, h3⟩ := h
  have p1 := plC_0 hn h1
  have p2 := plC_0 hn h2
  refine ⟨p1, p2, ?_⟩
  split at h3
  · cases h3
  · rename_i q
    rw [p1.1, p2.1] at q
    exact Nat.lt_of_not_le fun z => q ((nI_leI (by omega) (by omega)).mpr z)
/-- how many below n -/
def cntF (P : Nat → Prop) [DecidablePred P] : Nat → Nat
  | 0 => 0
  | k + 1 => if P k then cntF P k + 1 else cntF P k
theorem cntF_t {P : Nat → Prop} [DecidablePred P] {k : Nat} (h : P k) : cntF P k + 1 = cntF P (k + 1) := by
  simp [cntF, h]
theorem cntF_f {P : Nat → Prop} [DecidablePred P] {k : Nat} (h : ¬ P k) : cntF P k = cntF P (k + 1) := by
  simp [cntF, h]
theorem cntF_le {P : Nat → Prop} [DecidablePred P] : ∀ n, cntF P n ≤ n
  | 0 => Nat.le_refl 0
  | n + 1 => by
    have := cntF_le (P := P) n
    simp only [cntF]
    split <;> omega
theorem cntF_cong {P P' : Nat → Prop} [DecidablePred P] [DecidablePred P'] : ∀ {m : Nat}, (∀ k, k < m → (P k ↔ P' k)) → cntF P m = cntF P' m
  | 0, _ => rfl
  | m + 1, h => by
    have h1 := cntF_cong (m := m) (fun k hk => h k (Nat.lt_succ_of_lt hk))
    have h2 := h m (Nat.lt_succ_self m)
    simp only [cntF, h1]
    split <;> split <;> simp_all
def lgF (x : Int32) (xs : Nat → Int32) : Nat → Int32 := fun k => if ¬ (x &&& bitF (nI k)) = 0 ∧ xs k = 0 then nI 3 else xs k
abbrev pcP (b e : Nat → Int32) (m : Nat) (k : Nat) : Prop := k = 0 ∨ ¬ covF b e m (nI k) = covF b e m (nI (k - 1))
abbrev ovP (b e xs : Nat → Int32) (i k : Nat) : Prop := ¬ k = i ∧ xs k = 0 ∧ (if b i < b k then b k else b i) < (if e k < e i then e k else e i)
def ovF (b e xs : Nat → Int32) (i j : Nat) : Int32 := if xs i = 0 then cov (ovP b e xs i) j else 0
/-- the first place at which a piece of that number begins -/
def fndF (P : Nat → Prop) [DecidablePred P] (x : Int32) : Nat → Int32
  | 0 => -1
  | k + 1 => if ¬ fndF P x k = -1 then fndF P x k else if P k ∧ nI (cntF P k) = x then nI k else -1
theorem fndF_t {P : Nat → Prop} [DecidablePred P] {x : Int32} {k : Nat} (h : fndF P x k = -1) (hp : P k) (hx : nI (cntF P k) = x) (hk : k < 2 ^ 31) : ∀ n, k < n → fndF P x n = nI k
  | 0, hn => absurd hn (Nat.not_lt_zero _)
  | n + 1, hn => by
    simp only [fndF]
    by_cases q : k = n
    · subst q
      rw [if_neg (by simp [h]), if_pos ⟨hp, hx⟩]
    · have ih := fndF_t h hp hx hk n (by omega)
      rw [ih, if_pos]
      intro z
      have := congrArg Int32.toInt z
      rw [nI_toInt hk] at this
      have h2 : (-1 : Int32).toInt = -1 := by decide
      omega
theorem fndF_f {P : Nat → Prop} [DecidablePred P] {x : Int32} {k : Nat} (h : fndF P x k = -1) (hp : ¬ (P k ∧ nI (cntF P k) = x)) : fndF P x (k + 1) = -1 := by
  simp only [fndF, h]
  rw [if_neg (by simp), if_neg hp]
theorem bst_nat {S : Nat → Prop} [DecidablePred S] {F : Nat → Int32} : ∀ (m : Nat), (bst S F m).1 = -1 ∨ ∃ k, k < m ∧ (bst S F m).1 = nI k ∧ S k
  | 0 => Or.inl rfl
  | m + 1 => by
    by_cases q : S m ∧ ((bst S F m).1 = -1 ∨ (bst S F m).2 < F m)
    · rw [bst_t q.1 q.2]
      exact Or.inr ⟨m, Nat.lt_succ_self m, rfl, q.1⟩
    · rw [bst_f q]
      rcases bst_nat (S := S) (F := F) m with h | ⟨k, h1, h2, h3⟩
      · exact Or.inl h
      · exact Or.inr ⟨k, by omega, h2, h3⟩
theorem bfF_nat {n z c : Nat} {ql qa qb f : Nat → Int32} (hn : n ≤ 60) (h : ¬ bfF n z c ql qa qb f = -1) : bfF n z c ql qa qb f = nI (bfF n z c ql qa qb f).toNatClampNeg ∧ (bfF n z c ql qa qb f).toNatClampNeg + z ≤ n := by
  unfold bfF at h ⊢
  rcases bst_nat (S := fun kk => ∀ jj, jj < z → ql (c * 60 + jj) = f (kk + jj)) (F := fun kk => zb (letF n f (nI kk - nI 1) = qa c) + zb (letF n f (nI (kk + z)) = qb c)) (n + 1 - z) with h1 | ⟨k, h1, h2, -⟩
  · exact absurd h1 h
  · rw [h2, nI_clamp (by omega)]
    exact ⟨rfl, by omega⟩
theorem roC_v {n v : Nat} {x : Int32} {d : Nat} (hv : v < 2 ^ 29) (hd : d < 2 ^ 29) (h : roC n v x (nI d) = 0) : v + d ≤ 300 := by
  unfold roC at h
  split at h
  · cases h
  · split at h
    · cases h
    · rename_i _ q
      rw [nI_add] at q
      exact Nat.le_of_not_lt fun z => q ((nI_ltI (by omega) (by omega)).mpr z)
theorem roC_0 {n v k d : Nat} (hn : n < 2 ^ 29) (hk : k < 2 ^ 29) (hv : v < 2 ^ 29) (hd : d < 2 ^ 29) (h : roC n v (nI k) (nI d) = 0) : n + k ≤ 60 ∧ v + d ≤ 300 := by
  refine ⟨?_, roC_v hv hd h⟩
  unfold roC at h
  split at h
  · cases h
  · rename_i q
    rw [nI_add] at q
    exact Nat.le_of_not_lt fun z => q ((nI_ltI (by omega) (by omega)).mpr z)
theorem roC_s {n v z t d : Nat} (hn : n < 2 ^ 29) (hz : z < 2 ^ 29) (ht : t ≤ n) (hv : v < 2 ^ 29) (hd : d < 2 ^ 29) (h : roC n v (nI z - nI t) (nI d) = 0) : n - t + z ≤ 60 ∧ v + d ≤ 300 := by
  have e : nI n + (nI z - nI t) = nI (n - t + z) := by
    have h1 : nI n = nI (n - t) + nI t := by rw [nI_add]; congr 1; omega
    rw [h1, ← nI_add]
    grind
  refine ⟨?_, roC_v hv hd h⟩
  unfold roC at h
  rw [e] at h
  split at h
  · cases h
  · rename_i q
    exact Nat.le_of_not_lt fun z => q ((nI_ltI (by omega) (by omega)).mpr z)
theorem waC_0 {x : Int32} (h : waC x = 0) : x = 0 := by
  unfold waC at h
  split at h
  · assumption
  · cases h
theorem nsubA {n : Nat} {a : Int32} (ha : a = nI a.toNatClampNeg ∧ a.toNatClampNeg ≤ n) : nI n - a = nI (n - a.toNatClampNeg) := by
  have := pk_sub ha.2
  rw [← ha.1] at this
  exact this
theorem nI_m1 {a : Nat} (h : a < 2 ^ 31) : ¬ nI a = -1 := by
  intro z
  have := congrArg Int32.toInt z
  rw [nI_toInt h] at this
  have h2 : (-1 : Int32).toInt = -1 := by decide
  omega
theorem neg_room {n k : Nat} (hn : n ≤ 60) (hk : k ≤ n) : nI n + -(nI k) ≤ nI 60 := by
  rw [← Int32.sub_eq_add_neg, pk_sub hk]
  exact (nI_leI (by omega) (by omega)).mpr (by omega)
theorem room_e {n z t : Nat} (ht : t ≤ n) : nI n + (nI z - nI t) = nI (n - t + z) := by
  have h1 : nI n = nI (n - t) + nI t := by rw [nI_add]; congr 1; omega
  rw [h1, ← nI_add]
  grind
theorem room_s {n z t : Nat} (hn : n ≤ 60) (hz : z ≤ 60) (ht : t ≤ n) (h : n - t + z ≤ 60) : nI n + (nI z - nI t) ≤ nI 60 := by
  rw [room_e ht]
  exact (nI_leI (by omega) (by omega)).mpr h
theorem room_r {n z t : Nat} (hn : n ≤ 60) (hz : z ≤ 60) (ht : t ≤ n) (h : 60 < n - t + z) : ¬ nI n + (nI z - nI t) ≤ nI 60 := by
  rw [room_e ht]
  exact fun q => absurd ((nI_leI (by omega) (by omega)).mp q) (by omega)
