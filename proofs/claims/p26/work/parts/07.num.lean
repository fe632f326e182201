/-! numbers: branches over Nat forms; places; maps under a bound; sets of bits -/
section ZN
variable {G : zG} {X : zT} {R : Room} {cc : ByteArray} {Ts : List Cond} {own : String} {pc cells slots : Nat} {ws : va_W} {lv : List (Option Value)} {st : List Value} {a b : Nat} {off : Int} {tgt : Nat}
theorem z_icn_ge (hF : zF G X R cc Ts own) (ha : a < 2 ^ 31) (hb : b < 2 ^ 31) (hdg : decode cc pc = .ok (.if_icmp .ge off, 3)) (ht : (pc : Int) + off = (tgt : Int)) (kt : b ≤ a → zJ G X tgt ws lv st cells slots) (kf : a < b → zJ G X (pc + 3) ws lv st cells slots) : zJ G X pc ws lv (.int (nI b) :: .int (nI a) :: st) cells slots :=
  z_ic_ge hF hdg ht (fun h => kt ((nI_leI hb ha).mp h)) (fun h => kf (Nat.lt_of_not_le fun z => h ((nI_leI hb ha).mpr z)))
theorem z_icn_lt (hF : zF G X R cc Ts own) (ha : a < 2 ^ 31) (hb : b < 2 ^ 31) (hdg : decode cc pc = .ok (.if_icmp .lt off, 3)) (ht : (pc : Int) + off = (tgt : Int)) (kt : a < b → zJ G X tgt ws lv st cells slots) (kf : b ≤ a → zJ G X (pc + 3) ws lv st cells slots) : zJ G X pc ws lv (.int (nI b) :: .int (nI a) :: st) cells slots :=
  z_ic_lt hF hdg ht (fun h => kt ((nI_ltI ha hb).mp h)) (fun h => kf (Nat.le_of_not_lt fun z => h ((nI_ltI ha hb).mpr z)))
theorem z_icn_gt (hF : zF G X R cc Ts own) (ha : a < 2 ^ 31) (hb : b < 2 ^ 31) (hdg : decode cc pc = .ok (.if_icmp .gt off, 3)) (ht : (pc : Int) + off = (tgt : Int)) (kt : b < a → zJ G X tgt ws lv st cells slots) (kf : a ≤ b → zJ G X (pc + 3) ws lv st cells slots) : zJ G X pc ws lv (.int (nI b) :: .int (nI a) :: st) cells slots :=
  z_ic_gt hF hdg ht (fun h => kt ((nI_ltI hb ha).mp h)) (fun h => kf (Nat.le_of_not_lt fun z => h ((nI_ltI hb ha).mpr z)))
theorem z_icn_le (hF : zF G X R cc Ts own) (ha : a < 2 ^ 31) (hb : b < 2 ^ 31) (hdg : decode cc pc = .ok (.if_icmp .le off, 3)) (ht : (pc : Int) + off = (tgt : Int)) (kt : a ≤ b → zJ G X tgt ws lv st cells slots) (kf : b < a → zJ G X (pc + 3) ws lv st cells slots) : zJ G X pc ws lv (.int (nI b) :: .int (nI a) :: st) cells slots :=
  z_ic_le hF hdg ht (fun h => kt ((nI_leI ha hb).mp h)) (fun h => kf (Nat.lt_of_not_le fun z => h ((nI_leI ha hb).mpr z)))
theorem z_icn_eq (hF : zF G X R cc Ts own) (ha : a < 2 ^ 31) (hb : b < 2 ^ 31) (hdg : decode cc pc = .ok (.if_icmp .eq off, 3)) (ht : (pc : Int) + off = (tgt : Int)) (kt : a = b → zJ G X tgt ws lv st cells slots) (kf : a ≠ b → zJ G X (pc + 3) ws lv st cells slots) : zJ G X pc ws lv (.int (nI b) :: .int (nI a) :: st) cells slots :=
  z_ic_eq hF hdg ht (fun h => kt ((nI_eq ha hb).mp h)) (fun h => kf (fun z => h ((nI_eq ha hb).mpr z)))
theorem z_icn_ne (hF : zF G X R cc Ts own) (ha : a < 2 ^ 31) (hb : b < 2 ^ 31) (hdg : decode cc pc = .ok (.if_icmp .ne off, 3)) (ht : (pc : Int) + off = (tgt : Int)) (kt : a ≠ b → zJ G X tgt ws lv st cells slots) (kf : a = b → zJ G X (pc + 3) ws lv st cells slots) : zJ G X pc ws lv (.int (nI b) :: .int (nI a) :: st) cells slots :=
  z_ic_ne hF hdg ht (fun h => kt (fun z => h ((nI_eq ha hb).mpr z))) (fun h => kf ((nI_eq ha hb).mp h))
end ZN
theorem zix {x : Int32} {n : Nat} (h0 : ¬ x < 0) (h1 : x < nI n) (hn : n < 2 ^ 31) : x = nI x.toNatClampNeg ∧ x.toNatClampNeg < n := by
  obtain ⟨j, hj, rfl⟩ := nI_of h0
  rw [nI_clamp hj]
  exact ⟨rfl, (nI_ltI hj hn).mp h1⟩
theorem zix2 {x : Int32} {n : Nat} (h0 : ¬ x < 0) (h1 : ¬ nI n < x) (hn : n < 2 ^ 31) : x = nI x.toNatClampNeg ∧ x.toNatClampNeg ≤ n := by
  obtain ⟨j, hj, rfl⟩ := nI_of h0
  rw [nI_clamp hj]
  exact ⟨rfl, Nat.le_of_not_lt fun z => h1 ((nI_ltI hn hj).mpr z)⟩
/-- a map under a bound -/
def mpF (m : Nat) (g f : Nat → Int32) : Nat → Int32 := fun k => if k < m then g k else f k
theorem mpF_0 (g f : Nat → Int32) : mpF 0 g f = f := by
  funext k
  simp [mpF]
theorem mpF_at {m i : Nat} (g f : Nat → Int32) (h : m ≤ i) : mpF m g f i = f i := by
  simp [mpF, Nat.not_lt.mpr h]
theorem mpF_lt {m i : Nat} (g f : Nat → Int32) (h : i < m) : mpF m g f i = g i := by
  simp [mpF, h]
theorem mpF_up {i : Nat} (g f : Nat → Int32) : upd (mpF i g f) i (g i) = mpF (i + 1) g f := by
  funext k
  simp only [mpF, upd]
  split <;> split <;> first | rfl | (subst_vars; rfl) | (exfalso; omega) | skip
  all_goals (split <;> first | rfl | (exfalso; omega) | (subst_vars; rfl))
theorem mpF_skip {i : Nat} (g f : Nat → Int32) (h : g i = f i) : mpF i g f = mpF (i + 1) g f := by
  funext k
  simp only [mpF]
  split <;> split <;> first | rfl | (exfalso; omega) | skip
  have : k = i := by omega
  subst this
  exact h.symm
/-- the set of those that P holds for -/
def bitF (k : Int32) : Int32 := nI 1 <<< (k &&& 31)
def cov (P : Nat → Prop) [DecidablePred P] : Nat → Int32
  | 0 => 0
  | k + 1 => if P k then cov P k ||| bitF (nI k) else cov P k
theorem cov_t {P : Nat → Prop} [DecidablePred P] {k : Nat} (h : P k) : cov P k ||| bitF (nI k) = cov P (k + 1) := by
  simp [cov, h]
theorem cov_f {P : Nat → Prop} [DecidablePred P] {k : Nat} (h : ¬ P k) : cov P k = cov P (k + 1) := by
  simp [cov, h]
theorem cov_cong {P P' : Nat → Prop} [DecidablePred P] [DecidablePred P'] : ∀ {m : Nat}, (∀ k, k < m → (P k ↔ P' k)) → cov P m = cov P' m
  | 0, _ => rfl
  | m + 1, h => by
    have h1 := cov_cong (m := m) (fun k hk => h k (Nat.lt_succ_of_lt hk))
    have h2 := h m (Nat.lt_succ_self m)
    simp only [cov, h1]
    split <;> split <;> simp_all
