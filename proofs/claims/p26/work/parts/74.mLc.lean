set_option maxHeartbeats 4000000 in
set_option maxRecDepth 100000 in
theorem c_L_removes (G : zG) (zd ze zg zt zq n v m j p k : Nat) (own : Int32) (f le xl xc xs lt B E : Nat → Int32) (hn : n ≤ 60) (hm : m ≤ 6) (hj : j ≤ 6) (hv : v < 300) (hp : p + k ≤ n) (hRG : RGa n B E) (hE : LEa n le B E) (hB0 : ∀ i, m ≤ i → i < 8 → B i = -1) : zM G yL_removes wsL_removes ({ frames := 3, cells := 0, slots := 0, locals := 81 }) [.int (nI p), .int (nI k), .int own, .ref zd, .ref ze, .ref zg, .ref zt, .ref zq] [(zd, eI G 60 f), (ze, eI G 60 le), (zg, eI G 18 (gF xl xc xs)), (zt, eI G 64 lt), (zq, eI G 4 (qF n v m j))] [(zd, eI G 60 (va_cpy f f (p + k) p (n - (p + k)))), (ze, eI G 60 (va_cpy le le (p + k) p (n - (p + k)))), (zg, eI G 18 (gF xl xc (mpF j (gneF own B (remB (nI p) (nI k) B E) xs) xs))), (zt, eI G 64 (wrF lt (8 * ((v + 1) % 8)) 8 (fun kk => numF ((remB (nI p) (nI k) B E) kk) ((remE (nI p) (nI k) B E) kk)))), (zq, eI G 4 (qF (n - k) (v + 1) m j))] (some (.int (nI (cntF (fun kk => ¬ B kk = -1 ∧ (remB (nI p) (nI k) B E) kk = -1) m)))) 0 0 := by
  refine zM.ofI (own := RL) (cc := cL_removes) (maxL := 13) rfl (by decide) rfl rfl (by simp [Value.category]) (Nat.le_of_ble_eq_true rfl) ?_
  intro X hF hR
  refine z_lv (lv' := [some (.int (nI p)), some (.int (nI k)), some (.int own), some (.ref zd), some (.ref ze), some (.ref zg), some (.ref zt), some (.ref zq), none, none, none, none, none]) rfl ?_
  refine z_iconst (v := nI 0) hF dL_removes_0 (by decide) ?_
  refine z_istore (lv' := [some (.int (nI p)), some (.int (nI k)), some (.int own), some (.ref zd), some (.ref ze), some (.ref zg), some (.ref zt), some (.ref zq), some (.int (nI 0)), none, none, none, none]) hF dL_removes_1 rfl rfl ?_
  refine z_iconst (v := nI 0) hF dL_removes_3 (by decide) ?_
  refine z_istore (lv' := [some (.int (nI p)), some (.int (nI k)), some (.int own), some (.ref zd), some (.ref ze), some (.ref zg), some (.ref zt), some (.ref zq), some (.int (nI 0)), some (.int (nI 0)), none, none, none]) hF dL_removes_4 rfl rfl ?_
  refine z_lv (lv' := [some (.int (nI p)), some (.int (nI k)), some (.int own), some (.ref zd), some (.ref ze), some (.ref zg), some (.ref zt), some (.ref zq), some (.int (cov (hadP B E 0) 14)), some (.int (nI 0)), none, none, none]) (by rw [← had_0 B E ⟨n, hn, hRG⟩]) ?_
  have J_6 : ∀ (n9 : Nat) (t : Nat), n - t < n9 → (t ≤ n) → zJ G X 6 [(zd, eI G 60 f), (ze, eI G 60 le), (zg, eI G 18 (gF xl xc xs)), (zt, eI G 64 lt), (zq, eI G 4 (qF n v m j))] [some (.int (nI p)), some (.int (nI k)), some (.int own), some (.ref zd), some (.ref ze), some (.ref zg), some (.ref zt), some (.ref zq), some (.int (cov (hadP B E t) 14)), some (.int (nI t)), none, none, none] [] 0 0 := by
    intro n9
    induction n9 with
    | zero => intro t hmu; exact absurd hmu (Nat.not_lt_zero _)
    | succ n9 ih =>
      intro t hmu h2
      refine z_iload hF dL_removes_6 rfl ?_
      refine z_aload hF dL_removes_8 rfl ?_
      refine z_iconst (v := nI 0) hF dL_removes_10 (by decide) ?_
      refine z_iald (k := 0) hF 4 rfl (rfl) (by omega) rfl dL_removes_11 ?_
      refine z_top (y := nI n) (rfl) ?_
      refine z_icn_ge (tgt := 31) hF (by omega) (by omega) dL_removes_12 (by decide) (fun c_1 => ?_) (fun c_1 => ?_)
      · refine z_lv (lv' := [some (.int (nI p)), some (.int (nI k)), some (.int own), some (.ref zd), some (.ref ze), some (.ref zg), some (.ref zt), some (.ref zq), some (.int (cov (fun kk => ¬ B kk = -1) 14)), some (.int (nI t)), none, none, none]) (by rw [show t = n by omega, had_n hn hRG (m := 14) (by omega)]) ?_
        refine z_iload_n hF dL_removes_31 rfl ?_
        refine z_iload_n hF dL_removes_32 rfl ?_
        refine z_iadd hF dL_removes_33 ?_
        refine z_top (nI_add p k) ?_
        refine z_istore (lv' := [some (.int (nI p)), some (.int (nI k)), some (.int own), some (.ref zd), some (.ref ze), some (.ref zg), some (.ref zt), some (.ref zq), some (.int (cov (fun kk => ¬ B kk = -1) 14)), some (.int (nI (p + k))), none, none, none]) hF dL_removes_34 rfl rfl ?_
        refine z_ws (ws' := [(zd, eI G 60 (va_cpy f f (p + k) p ((p + k) - (p + k)))), (ze, eI G 60 le), (zg, eI G 18 (gF xl xc xs)), (zt, eI G 64 lt), (zq, eI G 4 (qF n v m j))]) (by simp only [Nat.sub_self, cpy_0]) ?_
        refine z_ws (ws' := [(zd, eI G 60 (va_cpy f f (p + k) p ((p + k) - (p + k)))), (ze, eI G 60 (va_cpy le le (p + k) p ((p + k) - (p + k)))), (zg, eI G 18 (gF xl xc xs)), (zt, eI G 64 lt), (zq, eI G 4 (qF n v m j))]) (by simp only [Nat.sub_self, cpy_0]) ?_
        have J_36 : ∀ (n9 : Nat) (q : Nat), n - q < n9 → (p + k ≤ q) → (q ≤ n) → zJ G X 36 [(zd, eI G 60 (va_cpy f f (p + k) p (q - (p + k)))), (ze, eI G 60 (va_cpy le le (p + k) p (q - (p + k)))), (zg, eI G 18 (gF xl xc xs)), (zt, eI G 64 lt), (zq, eI G 4 (qF n v m j))] [some (.int (nI p)), some (.int (nI k)), some (.int own), some (.ref zd), some (.ref ze), some (.ref zg), some (.ref zt), some (.ref zq), some (.int (cov (fun kk => ¬ B kk = -1) 14)), some (.int (nI q)), none, none, none] [] 0 0 := by
          intro n9
          induction n9 with
          | zero => intro q hmu; exact absurd hmu (Nat.not_lt_zero _)
          | succ n9 ih =>
            intro q hmu hq1 hq2
            refine z_iload hF dL_removes_36 rfl ?_
            refine z_aload hF dL_removes_38 rfl ?_
            refine z_iconst (v := nI 0) hF dL_removes_40 (by decide) ?_
            refine z_iald (k := 0) hF 4 rfl (rfl) (by omega) rfl dL_removes_41 ?_
            refine z_top (y := nI n) (rfl) ?_
            refine z_icn_ge (tgt := 73) hF (by omega) (by omega) dL_removes_42 (by decide) (fun c_2 => ?_) (fun c_2 => ?_)
            · have hq9 : q = n := by omega
              refine z_ws (ws' := [(zd, eI G 60 (va_cpy f f (p + k) p (n - (p + k)))), (ze, eI G 60 (va_cpy le le (p + k) p (q - (p + k)))), (zg, eI G 18 (gF xl xc xs)), (zt, eI G 64 lt), (zq, eI G 4 (qF n v m j))]) (by rw [hq9]) ?_
              refine z_ws (ws' := [(zd, eI G 60 (va_cpy f f (p + k) p (n - (p + k)))), (ze, eI G 60 (va_cpy le le (p + k) p (n - (p + k)))), (zg, eI G 18 (gF xl xc xs)), (zt, eI G 64 lt), (zq, eI G 4 (qF n v m j))]) (by rw [hq9]) ?_
              have hR2 := rg_rem hn hp hRG
              have hE2 := le_rem hn hp hRG hE
              refine z_aload hF dL_removes_73 rfl ?_
              refine z_iconst (v := nI 0) hF dL_removes_75 (by decide) ?_
              refine z_dup2 hF dL_removes_76 rfl rfl ?_
              refine z_iald (k := 0) hF 4 rfl (rfl) (by omega) rfl dL_removes_77 ?_
              refine z_top (y := nI n) (rfl) ?_
              refine z_iload_n hF dL_removes_78 rfl ?_
              refine z_isub hF dL_removes_79 ?_
              refine z_top (pk_sub (by omega)) ?_
              refine z_iast (k := 0) (ws' := [(zd, eI G 60 (va_cpy f f (p + k) p (n - (p + k)))), (ze, eI G 60 (va_cpy le le (p + k) p (n - (p + k)))), (zg, eI G 18 (gF xl xc xs)), (zt, eI G 64 lt), (zq, eI G 4 (upd (qF n v m j) 0 (nI (n - k))))]) hF 4 rfl (rfl) (by omega) rfl rfl dL_removes_80 ?_
              refine z_ws (ws' := [(zd, eI G 60 (va_cpy f f (p + k) p (n - (p + k)))), (ze, eI G 60 (va_cpy le le (p + k) p (n - (p + k)))), (zg, eI G 18 (gF xl xc xs)), (zt, eI G 64 lt), (zq, eI G 4 (qF (n - k) v m j))]) (by rw [qF_0]) ?_
              refine z_aload hF dL_removes_81 rfl ?_
              refine z_iconst (v := nI 1) hF dL_removes_83 (by decide) ?_
              refine z_dup2 hF dL_removes_84 rfl rfl ?_
              refine z_iald (k := 1) hF 4 rfl (rfl) (by omega) rfl dL_removes_85 ?_
              refine z_top (y := nI v) (rfl) ?_
              refine z_iconst (v := nI 1) hF dL_removes_86 (by decide) ?_
              refine z_iadd hF dL_removes_87 ?_
              refine z_top (nI_add v 1) ?_
              refine z_iast (k := 1) (ws' := [(zd, eI G 60 (va_cpy f f (p + k) p (n - (p + k)))), (ze, eI G 60 (va_cpy le le (p + k) p (n - (p + k)))), (zg, eI G 18 (gF xl xc xs)), (zt, eI G 64 lt), (zq, eI G 4 (upd (qF (n - k) v m j) 1 (nI (v + 1))))]) hF 4 rfl (rfl) (by omega) rfl rfl dL_removes_88 ?_
              refine z_ws (ws' := [(zd, eI G 60 (va_cpy f f (p + k) p (n - (p + k)))), (ze, eI G 60 (va_cpy le le (p + k) p (n - (p + k)))), (zg, eI G 18 (gF xl xc xs)), (zt, eI G 64 lt), (zq, eI G 4 (qF (n - k) (v + 1) m j))]) (by rw [qF_1]) ?_
              refine z_iconst (v := nI 0) hF dL_removes_89 (by decide) ?_
              refine z_istore (lv' := [some (.int (nI p)), some (.int (nI k)), some (.int own), some (.ref zd), some (.ref ze), some (.ref zg), some (.ref zt), some (.ref zq), some (.int (cov (fun kk => ¬ B kk = -1) 14)), some (.int (nI 0)), none, none, none]) hF dL_removes_90 rfl rfl ?_
              refine z_iconst (v := nI 0) hF dL_removes_92 (by decide) ?_
              refine z_istore (lv' := [some (.int (nI p)), some (.int (nI k)), some (.int own), some (.ref zd), some (.ref ze), some (.ref zg), some (.ref zt), some (.ref zq), some (.int (cov (fun kk => ¬ B kk = -1) 14)), some (.int (nI 0)), some (.int (nI 0)), none, none]) hF dL_removes_93 rfl rfl ?_
              refine z_lv (lv' := [some (.int (nI p)), some (.int (nI k)), some (.int own), some (.ref zd), some (.ref ze), some (.ref zg), some (.ref zt), some (.ref zq), some (.int (cov (fun kk => ¬ B kk = -1) 14)), some (.int (cov (hadP (remB (nI p) (nI k) B E) (remE (nI p) (nI k) B E) 0) 14)), some (.int (nI 0)), none, none]) (by rw [← had_0 _ _ ⟨n - k, by omega, hR2⟩]) ?_
              have J_95 : ∀ (n9 : Nat) (t : Nat), n - k - t < n9 → (t ≤ n - k) → zJ G X 95 [(zd, eI G 60 (va_cpy f f (p + k) p (n - (p + k)))), (ze, eI G 60 (va_cpy le le (p + k) p (n - (p + k)))), (zg, eI G 18 (gF xl xc xs)), (zt, eI G 64 lt), (zq, eI G 4 (qF (n - k) (v + 1) m j))] [some (.int (nI p)), some (.int (nI k)), some (.int own), some (.ref zd), some (.ref ze), some (.ref zg), some (.ref zt), some (.ref zq), some (.int (cov (fun kk => ¬ B kk = -1) 14)), some (.int (cov (hadP (remB (nI p) (nI k) B E) (remE (nI p) (nI k) B E) t) 14)), some (.int (nI t)), none, none] [] 0 0 := by
                intro n9
                induction n9 with
                | zero => intro t hmu; exact absurd hmu (Nat.not_lt_zero _)
                | succ n9 ih =>
                  intro t hmu h2
                  refine z_iload hF dL_removes_95 rfl ?_
                  refine z_aload hF dL_removes_97 rfl ?_
                  refine z_iconst (v := nI 0) hF dL_removes_99 (by decide) ?_
                  refine z_iald (k := 0) hF 4 rfl (rfl) (by omega) rfl dL_removes_100 ?_
                  refine z_top (y := nI (n - k)) (rfl) ?_
                  refine z_icn_ge (tgt := 120) hF (by omega) (by omega) dL_removes_101 (by decide) (fun c_3 => ?_) (fun c_3 => ?_)
                  · refine z_lv (lv' := [some (.int (nI p)), some (.int (nI k)), some (.int own), some (.ref zd), some (.ref ze), some (.ref zg), some (.ref zt), some (.ref zq), some (.int (cov (fun kk => ¬ B kk = -1) 14)), some (.int (cov (fun kk => ¬ (remB (nI p) (nI k) B E) kk = -1) 14)), some (.int (nI t)), none, none]) (by rw [show t = n - k by omega, had_n (n := n - k) (by omega) hR2 (m := 14) (by omega)]) ?_
                    refine z_iconst (v := nI 0) hF dL_removes_120 (by decide) ?_
                    refine z_istore (lv' := [some (.int (nI p)), some (.int (nI k)), some (.int own), some (.ref zd), some (.ref ze), some (.ref zg), some (.ref zt), some (.ref zq), some (.int (cov (fun kk => ¬ B kk = -1) 14)), some (.int (cov (fun kk => ¬ (remB (nI p) (nI k) B E) kk = -1) 14)), some (.int (nI 0)), none, none]) hF dL_removes_121 rfl rfl ?_
                    refine z_iconst (v := nI 0) hF dL_removes_123 (by decide) ?_
                    refine z_istore (lv' := [some (.int (nI p)), some (.int (nI k)), some (.int own), some (.ref zd), some (.ref ze), some (.ref zg), some (.ref zt), some (.ref zq), some (.int (cov (fun kk => ¬ B kk = -1) 14)), some (.int (cov (fun kk => ¬ (remB (nI p) (nI k) B E) kk = -1) 14)), some (.int (nI 0)), some (.int (nI 0)), none]) hF dL_removes_124 rfl rfl ?_
                    refine z_lv (lv' := [some (.int (nI p)), some (.int (nI k)), some (.int own), some (.ref zd), some (.ref ze), some (.ref zg), some (.ref zt), some (.ref zq), some (.int (cov (fun kk => ¬ B kk = -1) 14)), some (.int (cov (fun kk => ¬ (remB (nI p) (nI k) B E) kk = -1) 14)), some (.int (nI (cntF (fun kk => ¬ B kk = -1 ∧ (remB (nI p) (nI k) B E) kk = -1) 0))), some (.int (nI 0)), none]) (by rfl) ?_
                    have J_126 : ∀ (n9 : Nat) (i : Nat), m - i < n9 → (i ≤ m) → zJ G X 126 [(zd, eI G 60 (va_cpy f f (p + k) p (n - (p + k)))), (ze, eI G 60 (va_cpy le le (p + k) p (n - (p + k)))), (zg, eI G 18 (gF xl xc xs)), (zt, eI G 64 lt), (zq, eI G 4 (qF (n - k) (v + 1) m j))] [some (.int (nI p)), some (.int (nI k)), some (.int own), some (.ref zd), some (.ref ze), some (.ref zg), some (.ref zt), some (.ref zq), some (.int (cov (fun kk => ¬ B kk = -1) 14)), some (.int (cov (fun kk => ¬ (remB (nI p) (nI k) B E) kk = -1) 14)), some (.int (nI (cntF (fun kk => ¬ B kk = -1 ∧ (remB (nI p) (nI k) B E) kk = -1) i))), some (.int (nI i)), none] [] 0 0 := by
                      intro n9
                      induction n9 with
                      | zero => intro i hmu; exact absurd hmu (Nat.not_lt_zero _)
                      | succ n9 ih =>
                        intro i hmu h2
                        refine z_iload hF dL_removes_126 rfl ?_
                        refine z_aload hF dL_removes_128 rfl ?_
                        refine z_iconst (v := nI 2) hF dL_removes_130 (by decide) ?_
                        refine z_iald (k := 2) hF 4 rfl (rfl) (by omega) rfl dL_removes_131 ?_
                        refine z_top (y := nI m) (rfl) ?_
                        refine z_icn_ge (tgt := 158) hF (by omega) (by omega) dL_removes_132 (by decide) (fun c_4 => ?_) (fun c_4 => ?_)
                        · refine z_lv (lv' := [some (.int (nI p)), some (.int (nI k)), some (.int own), some (.ref zd), some (.ref ze), some (.ref zg), some (.ref zt), some (.ref zq), some (.int (cov (fun kk => ¬ B kk = -1) 14)), some (.int (cov (fun kk => ¬ (remB (nI p) (nI k) B E) kk = -1) 14)), some (.int (nI (cntF (fun kk => ¬ B kk = -1 ∧ (remB (nI p) (nI k) B E) kk = -1) m))), some (.int (nI i)), none]) (by rw [show i = m by omega]) ?_
                          refine z_iconst (v := nI 0) hF dL_removes_158 (by decide) ?_
                          refine z_istore (lv' := [some (.int (nI p)), some (.int (nI k)), some (.int own), some (.ref zd), some (.ref ze), some (.ref zg), some (.ref zt), some (.ref zq), some (.int (cov (fun kk => ¬ B kk = -1) 14)), some (.int (cov (fun kk => ¬ (remB (nI p) (nI k) B E) kk = -1) 14)), some (.int (nI (cntF (fun kk => ¬ B kk = -1 ∧ (remB (nI p) (nI k) B E) kk = -1) m))), some (.int (nI 0)), none]) hF dL_removes_159 rfl rfl ?_
                          refine z_ws (ws' := [(zd, eI G 60 (va_cpy f f (p + k) p (n - (p + k)))), (ze, eI G 60 (va_cpy le le (p + k) p (n - (p + k)))), (zg, eI G 18 (gF xl xc (mpF 0 (gneF own B (remB (nI p) (nI k) B E) xs) xs))), (zt, eI G 64 lt), (zq, eI G 4 (qF (n - k) (v + 1) m j))]) (by rw [mpF_0]) ?_
                          have J_161 : ∀ (n9 : Nat) (i : Nat), j - i < n9 → (i ≤ j) → zJ G X 161 [(zd, eI G 60 (va_cpy f f (p + k) p (n - (p + k)))), (ze, eI G 60 (va_cpy le le (p + k) p (n - (p + k)))), (zg, eI G 18 (gF xl xc (mpF i (gneF own B (remB (nI p) (nI k) B E) xs) xs))), (zt, eI G 64 lt), (zq, eI G 4 (qF (n - k) (v + 1) m j))] [some (.int (nI p)), some (.int (nI k)), some (.int own), some (.ref zd), some (.ref ze), some (.ref zg), some (.ref zt), some (.ref zq), some (.int (cov (fun kk => ¬ B kk = -1) 14)), some (.int (cov (fun kk => ¬ (remB (nI p) (nI k) B E) kk = -1) 14)), some (.int (nI (cntF (fun kk => ¬ B kk = -1 ∧ (remB (nI p) (nI k) B E) kk = -1) m))), some (.int (nI i)), none] [] 0 0 := by
                            intro n9
                            induction n9 with
                            | zero => intro i hmu; exact absurd hmu (Nat.not_lt_zero _)
                            | succ n9 ih =>
                              intro i hmu h2
                              refine z_iload hF dL_removes_161 rfl ?_
                              refine z_aload hF dL_removes_163 rfl ?_
                              refine z_iconst (v := nI 3) hF dL_removes_165 (by decide) ?_
                              refine z_iald (k := 3) hF 4 rfl (rfl) (by omega) rfl dL_removes_166 ?_
                              refine z_top (y := nI j) (rfl) ?_
                              refine z_icn_ge (tgt := 247) hF (by omega) (by omega) dL_removes_167 (by decide) (fun c_5 => ?_) (fun c_5 => ?_)
                              · refine z_ws (ws' := [(zd, eI G 60 (va_cpy f f (p + k) p (n - (p + k)))), (ze, eI G 60 (va_cpy le le (p + k) p (n - (p + k)))), (zg, eI G 18 (gF xl xc (mpF j (gneF own B (remB (nI p) (nI k) B E) xs) xs))), (zt, eI G 64 lt), (zq, eI G 4 (qF (n - k) (v + 1) m j))]) (by rw [show i = j by omega]) ?_
                                refine z_aload hF dL_removes_247 rfl ?_
                                refine z_aload hF dL_removes_249 rfl ?_
                                refine z_aload hF dL_removes_251 rfl ?_
                                refine z_S (As := [.ref ze, .ref zt, .ref zq]) (rest := []) (ws' := [(zd, eI G 60 (va_cpy f f (p + k) p (n - (p + k)))), (ze, eI G 60 (va_cpy le le (p + k) p (n - (p + k)))), (zg, eI G 18 (gF xl xc (mpF j (gneF own B (remB (nI p) (nI k) B E) xs) xs))), (zt, eI G 64 (wrF lt (8 * ((v + 1) % 8)) 8 (fun kk => numF ((remB (nI p) (nI k) B E) kk) ((remE (nI p) (nI k) B E) kk)))), (zq, eI G 4 (qF (n - k) (v + 1) m j))]) (st2 := []) (c2 := 0) (s2 := 0) hF (c_L_keeps G ze zt zq (n - k) (v + 1) m j (va_cpy le le (p + k) p (n - (p + k))) lt (remB (nI p) (nI k) B E) (remE (nI p) (nI k) B E) (by first | assumption | omega) (by first | assumption | omega) (by first | assumption | omega) (hR2) (hE2) (fun i h1 h2 => rem_m1 (hB0 i h1 h2))) gL_removes_L_keeps rfl rfl rfl hs_L_keeps ⟨⟨Nat.le_of_ble_eq_true rfl, Nat.le_of_ble_eq_true rfl⟩, ⟨Nat.le_of_ble_eq_true rfl, Nat.le_of_ble_eq_true rfl⟩, Nat.le_of_ble_eq_true rfl⟩ [1, 3, 4] rfl rfl rfl rfl rfl rfl rfl rfl rfl rfl dL_removes_253 ?_
                                refine z_iload hF dL_removes_256 rfl ?_
                                exact hR.i dL_removes_258 (Nat.le_of_ble_eq_true rfl) (Nat.le_of_ble_eq_true rfl) (rfl) (rfl)
                              · have J_212 : zJ G X 212 [(zd, eI G 60 (va_cpy f f (p + k) p (n - (p + k)))), (ze, eI G 60 (va_cpy le le (p + k) p (n - (p + k)))), (zg, eI G 18 (gF xl xc (mpF i (gneF own B (remB (nI p) (nI k) B E) xs) xs))), (zt, eI G 64 lt), (zq, eI G 4 (qF (n - k) (v + 1) m j))] [some (.int (nI p)), some (.int (nI k)), some (.int own), some (.ref zd), some (.ref ze), some (.ref zg), some (.ref zt), some (.ref zq), some (.int (cov (fun kk => ¬ B kk = -1) 14)), some (.int (cov (fun kk => ¬ (remB (nI p) (nI k) B E) kk = -1) 14)), some (.int (nI (cntF (fun kk => ¬ B kk = -1 ∧ (remB (nI p) (nI k) B E) kk = -1) m))), some (.int (nI i)), none] [.int (zb ((¬ B (8 + i) = -1 ∧ (remB (nI p) (nI k) B E) (8 + i) = -1) ∧ ¬ nI i = own ∧ xs i = 0))] 0 0 := by
                                  refine z_istore (lv' := [some (.int (nI p)), some (.int (nI k)), some (.int own), some (.ref zd), some (.ref ze), some (.ref zg), some (.ref zt), some (.ref zq), some (.int (cov (fun kk => ¬ B kk = -1) 14)), some (.int (cov (fun kk => ¬ (remB (nI p) (nI k) B E) kk = -1) 14)), some (.int (nI (cntF (fun kk => ¬ B kk = -1 ∧ (remB (nI p) (nI k) B E) kk = -1) m))), some (.int (nI i)), some (.int (zb ((¬ B (8 + i) = -1 ∧ (remB (nI p) (nI k) B E) (8 + i) = -1) ∧ ¬ nI i = own ∧ xs i = 0)))]) hF dL_removes_212 rfl rfl ?_
                                  have J_240 : zJ G X 240 [(zd, eI G 60 (va_cpy f f (p + k) p (n - (p + k)))), (ze, eI G 60 (va_cpy le le (p + k) p (n - (p + k)))), (zg, eI G 18 (gF xl xc (mpF i (gneF own B (remB (nI p) (nI k) B E) xs) xs))), (zt, eI G 64 lt), (zq, eI G 4 (qF (n - k) (v + 1) m j))] [some (.int (nI p)), some (.int (nI k)), some (.int own), some (.ref zd), some (.ref ze), some (.ref zg), some (.ref zt), some (.ref zq), some (.int (cov (fun kk => ¬ B kk = -1) 14)), some (.int (cov (fun kk => ¬ (remB (nI p) (nI k) B E) kk = -1) 14)), some (.int (nI (cntF (fun kk => ¬ B kk = -1 ∧ (remB (nI p) (nI k) B E) kk = -1) m))), some (.int (nI i)), some (.int (zb ((¬ B (8 + i) = -1 ∧ (remB (nI p) (nI k) B E) (8 + i) = -1) ∧ ¬ nI i = own ∧ xs i = 0)))] [.int ((gneF own B (remB (nI p) (nI k) B E) xs) i), .int (nI (3 * i + 2)), .ref zg] 0 0 := by
                                    refine z_iast (k := 3 * i + 2) (ws' := [(zd, eI G 60 (va_cpy f f (p + k) p (n - (p + k)))), (ze, eI G 60 (va_cpy le le (p + k) p (n - (p + k)))), (zg, eI G 18 (upd (gF xl xc (mpF i (gneF own B (remB (nI p) (nI k) B E) xs) xs)) (3 * i + 2) ((gneF own B (remB (nI p) (nI k) B E) xs) i))), (zt, eI G 64 lt), (zq, eI G 4 (qF (n - k) (v + 1) m j))]) hF 2 rfl (rfl) (by omega) rfl rfl dL_removes_240 ?_
                                    refine z_ws (ws' := [(zd, eI G 60 (va_cpy f f (p + k) p (n - (p + k)))), (ze, eI G 60 (va_cpy le le (p + k) p (n - (p + k)))), (zg, eI G 18 (gF xl xc (mpF (i + 1) (gneF own B (remB (nI p) (nI k) B E) xs) xs))), (zt, eI G 64 lt), (zq, eI G 4 (qF (n - k) (v + 1) m j))]) (by rw [gF_s2, mpF_up]) ?_
                                    refine z_iinc (v := nI (i + 1)) (lv' := [some (.int (nI p)), some (.int (nI k)), some (.int own), some (.ref zd), some (.ref ze), some (.ref zg), some (.ref zt), some (.ref zq), some (.int (cov (fun kk => ¬ B kk = -1) 14)), some (.int (cov (fun kk => ¬ (remB (nI p) (nI k) B E) kk = -1) 14)), some (.int (nI (cntF (fun kk => ¬ B kk = -1 ∧ (remB (nI p) (nI k) B E) kk = -1) m))), some (.int (nI (i + 1))), some (.int (zb ((¬ B (8 + i) = -1 ∧ (remB (nI p) (nI k) B E) (8 + i) = -1) ∧ ¬ nI i = own ∧ xs i = 0)))]) hF dL_removes_241 rfl (nI_1 i) rfl rfl ?_
                                    refine z_goto (tgt := 161) hF dL_removes_244 (by decide) ?_
                                    refine z_forget (lv' := [some (.int (nI p)), some (.int (nI k)), some (.int own), some (.ref zd), some (.ref ze), some (.ref zg), some (.ref zt), some (.ref zq), some (.int (cov (fun kk => ¬ B kk = -1) 14)), some (.int (cov (fun kk => ¬ (remB (nI p) (nI k) B E) kk = -1) 14)), some (.int (nI (cntF (fun kk => ¬ B kk = -1 ∧ (remB (nI p) (nI k) B E) kk = -1) m))), some (.int (nI (i + 1))), none]) ⟨rfl, ⟨rfl, ⟨rfl, ⟨rfl, ⟨rfl, ⟨rfl, ⟨rfl, ⟨rfl, ⟨rfl, ⟨rfl, ⟨rfl, ⟨rfl, trivial⟩⟩⟩⟩⟩⟩⟩⟩⟩⟩⟩⟩ ?_
                                    exact ih (i + 1) (by omega) (by omega)
                                  refine z_aload hF dL_removes_214 rfl ?_
                                  refine z_iconst (v := nI 3) hF dL_removes_216 (by decide) ?_
                                  refine z_iload hF dL_removes_217 rfl ?_
                                  refine z_imul hF dL_removes_219 ?_
                                  refine z_top (pk_mul 3 i) ?_
                                  refine z_iconst (v := nI 2) hF dL_removes_220 (by decide) ?_
                                  refine z_iadd hF dL_removes_221 ?_
                                  refine z_top (nI_add (3 * i) 2) ?_
                                  refine z_iload hF dL_removes_222 rfl ?_
                                  refine z_if_eq_b (tgt := 231) hF dL_removes_224 (by decide) (fun hg => ?_) (fun hg => ?_)
                                  · refine z_aload hF dL_removes_231 rfl ?_
                                    refine z_iconst (v := nI 3) hF dL_removes_233 (by decide) ?_
                                    refine z_iload hF dL_removes_234 rfl ?_
                                    refine z_imul hF dL_removes_236 ?_
                                    refine z_top (pk_mul 3 i) ?_
                                    refine z_iconst (v := nI 2) hF dL_removes_237 (by decide) ?_
                                    refine z_iadd hF dL_removes_238 ?_
                                    refine z_top (nI_add (3 * i) 2) ?_
                                    refine z_iald (k := 3 * i + 2) hF 2 rfl (rfl) (by omega) rfl dL_removes_239 ?_
                                    refine z_top (y := xs i) ((gF_l2 _ _ _ _).trans (mpF_at _ _ (Nat.le_refl i))) ?_
                                    refine z_top (y := (gneF own B (remB (nI p) (nI k) B E) xs) i) ((if_neg hg).symm) ?_
                                    exact J_240  
                                  · refine z_iconst (v := nI 3) hF dL_removes_227 (by decide) ?_
                                    refine z_goto (tgt := 240) hF dL_removes_228 (by decide) ?_
                                    refine z_top (y := (gneF own B (remB (nI p) (nI k) B E) xs) i) ((if_pos hg).symm) ?_
                                    exact J_240  
                                refine z_iload hF dL_removes_170 rfl ?_
                                refine z_iload hF dL_removes_172 rfl ?_
                                refine z_iconst (v := -1) hF dL_removes_174 (by decide) ?_
                                refine z_ixor hF dL_removes_175 ?_
                                refine z_iand hF dL_removes_176 ?_
                                refine z_bipush (v := nI 8) hF dL_removes_177 (by decide) ?_
                                refine z_iload hF dL_removes_179 rfl ?_
                                refine z_iadd hF dL_removes_181 ?_
                                refine z_top (nI_add 8 i) ?_
                                refine z_ishr hF dL_removes_182 ?_
                                refine z_iconst (v := nI 1) hF dL_removes_183 (by decide) ?_
                                refine z_iand hF dL_removes_184 ?_
                                refine z_top (y := zb (¬ B (8 + i) = -1 ∧ (remB (nI p) (nI k) B E) (8 + i) = -1)) (lost_tb (by omega)) ?_
                                refine z_iconst (v := nI 1) hF dL_removes_185 (by decide) ?_
                                refine z_ic_ne (tgt := 211) hF dL_removes_186 (by decide) (fun hl1 => ?_) (fun hl1 => ?_)
                                · have hl2 : ¬ (¬ B (8 + i) = -1 ∧ (remB (nI p) (nI k) B E) (8 + i) = -1) := fun z => hl1 (zb_is1.mpr z)
                                  refine z_iconst (v := nI 0) hF dL_removes_211 (by decide) ?_
                                  refine z_top (y := zb ((¬ B (8 + i) = -1 ∧ (remB (nI p) (nI k) B E) (8 + i) = -1) ∧ ¬ nI i = own ∧ xs i = 0)) (zb0 (fun z => hl2 z.1)) ?_
                                  exact J_212  
                                · have hl2 := zb_is1.mp hl1
                                  refine z_iload hF dL_removes_189 rfl ?_
                                  refine z_iload_n hF dL_removes_191 rfl ?_
                                  refine z_ic_eq (tgt := 211) hF dL_removes_192 (by decide) (fun hl3 => ?_) (fun hl3 => ?_)
                                  · refine z_iconst (v := nI 0) hF dL_removes_211 (by decide) ?_
                                    refine z_top (y := zb ((¬ B (8 + i) = -1 ∧ (remB (nI p) (nI k) B E) (8 + i) = -1) ∧ ¬ nI i = own ∧ xs i = 0)) (zb0 (fun z => z.2.1 hl3)) ?_
                                    exact J_212  
                                  · refine z_aload hF dL_removes_195 rfl ?_
                                    refine z_iconst (v := nI 3) hF dL_removes_197 (by decide) ?_
                                    refine z_iload hF dL_removes_198 rfl ?_
                                    refine z_imul hF dL_removes_200 ?_
                                    refine z_top (pk_mul 3 i) ?_
                                    refine z_iconst (v := nI 2) hF dL_removes_201 (by decide) ?_
                                    refine z_iadd hF dL_removes_202 ?_
                                    refine z_top (nI_add (3 * i) 2) ?_
                                    refine z_iald (k := 3 * i + 2) hF 2 rfl (rfl) (by omega) rfl dL_removes_203 ?_
                                    refine z_top (y := xs i) ((gF_l2 _ _ _ _).trans (mpF_at _ _ (Nat.le_refl i))) ?_
                                    refine z_if_ne (tgt := 211) hF dL_removes_204 (by decide) (fun hl4 => ?_) (fun hl4 => ?_)
                                    · refine z_iconst (v := nI 0) hF dL_removes_211 (by decide) ?_
                                      refine z_top (y := zb ((¬ B (8 + i) = -1 ∧ (remB (nI p) (nI k) B E) (8 + i) = -1) ∧ ¬ nI i = own ∧ xs i = 0)) (zb0 (fun z => hl4 z.2.2)) ?_
                                      exact J_212  
                                    · refine z_iconst (v := nI 1) hF dL_removes_207 (by decide) ?_
                                      refine z_goto (tgt := 212) hF dL_removes_208 (by decide) ?_
                                      refine z_top (y := zb ((¬ B (8 + i) = -1 ∧ (remB (nI p) (nI k) B E) (8 + i) = -1) ∧ ¬ nI i = own ∧ xs i = 0)) (zb1 ⟨hl2, hl3, hl4⟩) ?_
                                      exact J_212  
                          exact J_161 ((j - 0) + 1) 0 (Nat.lt_succ_self _) (by omega)
                        · refine z_iload hF dL_removes_135 rfl ?_
                          refine z_iload hF dL_removes_137 rfl ?_
                          refine z_iload hF dL_removes_139 rfl ?_
                          refine z_iconst (v := -1) hF dL_removes_141 (by decide) ?_
                          refine z_ixor hF dL_removes_142 ?_
                          refine z_iand hF dL_removes_143 ?_
                          refine z_iload hF dL_removes_144 rfl ?_
                          refine z_ishr hF dL_removes_146 ?_
                          refine z_iconst (v := nI 1) hF dL_removes_147 (by decide) ?_
                          refine z_iand hF dL_removes_148 ?_
                          refine z_top (y := zb (¬ B i = -1 ∧ (remB (nI p) (nI k) B E) i = -1)) (lost_tb (by omega)) ?_
                          refine z_iadd hF dL_removes_149 ?_
                          refine z_top (y := nI (cntF (fun kk => ¬ B kk = -1 ∧ (remB (nI p) (nI k) B E) kk = -1) (i + 1))) (zb_cnt (P := fun kk => ¬ B kk = -1 ∧ (remB (nI p) (nI k) B E) kk = -1)) ?_
                          refine z_istore (lv' := [some (.int (nI p)), some (.int (nI k)), some (.int own), some (.ref zd), some (.ref ze), some (.ref zg), some (.ref zt), some (.ref zq), some (.int (cov (fun kk => ¬ B kk = -1) 14)), some (.int (cov (fun kk => ¬ (remB (nI p) (nI k) B E) kk = -1) 14)), some (.int (nI (cntF (fun kk => ¬ B kk = -1 ∧ (remB (nI p) (nI k) B E) kk = -1) (i + 1)))), some (.int (nI i)), none]) hF dL_removes_150 rfl rfl ?_
                          refine z_iinc (v := nI (i + 1)) (lv' := [some (.int (nI p)), some (.int (nI k)), some (.int own), some (.ref zd), some (.ref ze), some (.ref zg), some (.ref zt), some (.ref zq), some (.int (cov (fun kk => ¬ B kk = -1) 14)), some (.int (cov (fun kk => ¬ (remB (nI p) (nI k) B E) kk = -1) 14)), some (.int (nI (cntF (fun kk => ¬ B kk = -1 ∧ (remB (nI p) (nI k) B E) kk = -1) (i + 1)))), some (.int (nI (i + 1))), none]) hF dL_removes_152 rfl (nI_1 i) rfl rfl ?_
                          refine z_goto (tgt := 126) hF dL_removes_155 (by decide) ?_
                          exact ih (i + 1) (by omega) (by omega)
                    exact J_126 ((m - 0) + 1) 0 (Nat.lt_succ_self _) (by omega)
                  · refine z_iload hF dL_removes_104 rfl ?_
                    refine z_aload hF dL_removes_106 rfl ?_
                    refine z_iload hF dL_removes_108 rfl ?_
                    refine z_iald (k := t) hF 1 rfl (rfl) (by omega) rfl dL_removes_110 ?_
                    refine z_top (y := covF (remB (nI p) (nI k) B E) (remE (nI p) (nI k) B E) 14 (nI t)) (hE2 t (by omega)) ?_
                    refine z_ior hF dL_removes_111 ?_
                    refine z_top (y := cov (hadP (remB (nI p) (nI k) B E) (remE (nI p) (nI k) B E) (t + 1)) 14) (had_s (n := n - k) (by omega) (by omega) hR2) ?_
                    refine z_istore (lv' := [some (.int (nI p)), some (.int (nI k)), some (.int own), some (.ref zd), some (.ref ze), some (.ref zg), some (.ref zt), some (.ref zq), some (.int (cov (fun kk => ¬ B kk = -1) 14)), some (.int (cov (hadP (remB (nI p) (nI k) B E) (remE (nI p) (nI k) B E) (t + 1)) 14)), some (.int (nI t)), none, none]) hF dL_removes_112 rfl rfl ?_
                    refine z_iinc (v := nI (t + 1)) (lv' := [some (.int (nI p)), some (.int (nI k)), some (.int own), some (.ref zd), some (.ref ze), some (.ref zg), some (.ref zt), some (.ref zq), some (.int (cov (fun kk => ¬ B kk = -1) 14)), some (.int (cov (hadP (remB (nI p) (nI k) B E) (remE (nI p) (nI k) B E) (t + 1)) 14)), some (.int (nI (t + 1))), none, none]) hF dL_removes_114 rfl (nI_1 t) rfl rfl ?_
                    refine z_goto (tgt := 95) hF dL_removes_117 (by decide) ?_
                    exact ih (t + 1) (by omega) (by omega)
              exact J_95 ((n - k - 0) + 1) 0 (Nat.lt_succ_self _) (by omega)
            · refine z_aload_n hF dL_removes_45 rfl ?_
              refine z_iload hF dL_removes_46 rfl ?_
              refine z_iload_n hF dL_removes_48 rfl ?_
              refine z_isub hF dL_removes_49 ?_
              refine z_top (pk_sub (by omega)) ?_
              refine z_aload_n hF dL_removes_50 rfl ?_
              refine z_iload hF dL_removes_51 rfl ?_
              refine z_iald (k := q) hF 0 rfl (rfl) (by omega) rfl dL_removes_53 ?_
              refine z_top (y := f q) (cpy_uat f (by omega) (by omega)) ?_
              refine z_iast (k := q - k) (ws' := [(zd, eI G 60 (upd (va_cpy f f (p + k) p (q - (p + k))) (q - k) (f q))), (ze, eI G 60 (va_cpy le le (p + k) p (q - (p + k)))), (zg, eI G 18 (gF xl xc xs)), (zt, eI G 64 lt), (zq, eI G 4 (qF n v m j))]) hF 0 rfl (rfl) (by omega) rfl rfl dL_removes_54 ?_
              refine z_ws (ws' := [(zd, eI G 60 (va_cpy f f (p + k) p ((q + 1) - (p + k)))), (ze, eI G 60 (va_cpy le le (p + k) p (q - (p + k)))), (zg, eI G 18 (gF xl xc xs)), (zt, eI G 64 lt), (zq, eI G 4 (qF n v m j))]) (by rw [show q - k = p + (q - (p + k)) by omega]; rw [cpy_up f (a := p + k) (by omega)]) ?_
              refine z_aload hF dL_removes_55 rfl ?_
              refine z_iload hF dL_removes_57 rfl ?_
              refine z_iload_n hF dL_removes_59 rfl ?_
              refine z_isub hF dL_removes_60 ?_
              refine z_top (pk_sub (by omega)) ?_
              refine z_aload hF dL_removes_61 rfl ?_
              refine z_iload hF dL_removes_63 rfl ?_
              refine z_iald (k := q) hF 1 rfl (rfl) (by omega) rfl dL_removes_65 ?_
              refine z_top (y := le q) (cpy_uat le (by omega) (by omega)) ?_
              refine z_iast (k := q - k) (ws' := [(zd, eI G 60 (va_cpy f f (p + k) p ((q + 1) - (p + k)))), (ze, eI G 60 (upd (va_cpy le le (p + k) p (q - (p + k))) (q - k) (le q))), (zg, eI G 18 (gF xl xc xs)), (zt, eI G 64 lt), (zq, eI G 4 (qF n v m j))]) hF 1 rfl (rfl) (by omega) rfl rfl dL_removes_66 ?_
              refine z_ws (ws' := [(zd, eI G 60 (va_cpy f f (p + k) p ((q + 1) - (p + k)))), (ze, eI G 60 (va_cpy le le (p + k) p ((q + 1) - (p + k)))), (zg, eI G 18 (gF xl xc xs)), (zt, eI G 64 lt), (zq, eI G 4 (qF n v m j))]) (by rw [show q - k = p + (q - (p + k)) by omega]; rw [cpy_up le (a := p + k) (by omega)]) ?_
              refine z_iinc (v := nI (q + 1)) (lv' := [some (.int (nI p)), some (.int (nI k)), some (.int own), some (.ref zd), some (.ref ze), some (.ref zg), some (.ref zt), some (.ref zq), some (.int (cov (fun kk => ¬ B kk = -1) 14)), some (.int (nI (q + 1))), none, none, none]) hF dL_removes_67 rfl (nI_1 q) rfl rfl ?_
              refine z_goto (tgt := 36) hF dL_removes_70 (by decide) ?_
              exact ih (q + 1) (by omega) (by omega) (by omega)
        exact J_36 ((n - (p + k)) + 1) (p + k) (Nat.lt_succ_self _) (by omega) (by omega)
      · refine z_iload hF dL_removes_15 rfl ?_
        refine z_aload hF dL_removes_17 rfl ?_
        refine z_iload hF dL_removes_19 rfl ?_
        refine z_iald (k := t) hF 1 rfl (rfl) (by omega) rfl dL_removes_21 ?_
        refine z_top (y := covF B E 14 (nI t)) (hE t (by omega)) ?_
        refine z_ior hF dL_removes_22 ?_
        refine z_top (y := cov (hadP B E (t + 1)) 14) (had_s hn (by omega) hRG) ?_
        refine z_istore (lv' := [some (.int (nI p)), some (.int (nI k)), some (.int own), some (.ref zd), some (.ref ze), some (.ref zg), some (.ref zt), some (.ref zq), some (.int (cov (hadP B E (t + 1)) 14)), some (.int (nI t)), none, none, none]) hF dL_removes_23 rfl rfl ?_
        refine z_iinc (v := nI (t + 1)) (lv' := [some (.int (nI p)), some (.int (nI k)), some (.int own), some (.ref zd), some (.ref ze), some (.ref zg), some (.ref zt), some (.ref zq), some (.int (cov (hadP B E (t + 1)) 14)), some (.int (nI (t + 1))), none, none, none]) hF dL_removes_25 rfl (nI_1 t) rfl rfl ?_
        refine z_goto (tgt := 6) hF dL_removes_28 (by decide) ?_
        exact ih (t + 1) (by omega) (by omega)
  exact J_6 ((n - 0) + 1) 0 (Nat.lt_succ_self _) (by omega)
