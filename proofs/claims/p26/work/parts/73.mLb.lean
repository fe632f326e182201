set_option maxHeartbeats 4000000 in
set_option maxRecDepth 100000 in
theorem c_L_inserts (G : zG) (zd ze zc zt zq n v m j p k : Nat) (x : Int32) (f le s op an qs qa qb lt B E : Nat → Int32) (hn : n ≤ 60) (hm : m ≤ 6) (hj : j ≤ 6) (hv : v < 300) (hp : p ≤ n) (hk : n + k ≤ 60) (hk0 : 0 < k) (hs : ∀ i, i < m → st4 (s i)) (hRG : RGa n B E) (hE : LEa n le B E) (hB0 : ∀ i, m ≤ i → i < 8 → B i = -1) (hB2 : ∀ i, 8 + j ≤ i → i < 14 → B i = -1) : zM G yL_inserts wsL_inserts ({ frames := 3, cells := 0, slots := 0, locals := 81 }) [.int (nI p), .int x, .int (nI k), .ref zd, .ref ze, .ref zc, .ref zt, .ref zq] [(zd, eI G 60 f), (ze, eI G 60 le), (zc, eI G 36 (cF s op an qs qa qb)), (zt, eI G 64 lt), (zq, eI G 4 (qF n v m j))] [(zd, eI G 60 (filF (va_cpy f f p (p + k) (n - p)) p (p + k) x)), (ze, eI G 60 (filF (va_cpy le le p (p + k) (n - p)) p (p + k) (covF (insB (nI p) (nI k) B (stF m s)) (insE (nI p) (nI k) B E (stF m s)) 14 (nI p)))), (zc, eI G 36 (cF s op an qs qa qb)), (zt, eI G 64 (wrF lt (8 * ((v + 1) % 8)) 8 (fun kk => numF (insB (nI p) (nI k) B (stF m s) kk) (insE (nI p) (nI k) B E (stF m s) kk)))), (zq, eI G 4 (qF (n + k) (v + 1) m j))] none 0 0 := by
  refine zM.ofV (own := RL) (cc := cL_inserts) (maxL := 13) rfl (by decide) rfl (by simp [Value.category]) (Nat.le_of_ble_eq_true rfl) ?_
  intro X hF hR
  refine z_lv (lv' := [some (.int (nI p)), some (.int x), some (.int (nI k)), some (.ref zd), some (.ref ze), some (.ref zc), some (.ref zt), some (.ref zq), none, none, none, none, none]) rfl ?_
  refine z_iconst (v := nI 0) hF dL_inserts_0 (by decide) ?_
  refine z_istore (lv' := [some (.int (nI p)), some (.int x), some (.int (nI k)), some (.ref zd), some (.ref ze), some (.ref zc), some (.ref zt), some (.ref zq), some (.int (nI 0)), none, none, none, none]) hF dL_inserts_1 rfl rfl ?_
  refine z_iconst (v := nI 0) hF dL_inserts_3 (by decide) ?_
  refine z_istore (lv' := [some (.int (nI p)), some (.int x), some (.int (nI k)), some (.ref zd), some (.ref ze), some (.ref zc), some (.ref zt), some (.ref zq), some (.int (nI 0)), some (.int (nI 0)), none, none, none]) hF dL_inserts_4 rfl rfl ?_
  refine z_lv (lv' := [some (.int (nI p)), some (.int x), some (.int (nI k)), some (.ref zd), some (.ref ze), some (.ref zc), some (.ref zt), some (.ref zq), some (.int (cov (fun kk => insB (nI p) (nI k) B (stF m s) kk ≤ nI p ∧ nI p < insE (nI p) (nI k) B E (stF m s) kk) 0)), some (.int (nI 0)), none, none, none]) (by rfl) ?_
  have J_6 : ∀ (n9 : Nat) (i : Nat), 8 + j - i < n9 → (i ≤ 8 + j) → zJ G X 6 [(zd, eI G 60 f), (ze, eI G 60 le), (zc, eI G 36 (cF s op an qs qa qb)), (zt, eI G 64 lt), (zq, eI G 4 (qF n v m j))] [some (.int (nI p)), some (.int x), some (.int (nI k)), some (.ref zd), some (.ref ze), some (.ref zc), some (.ref zt), some (.ref zq), some (.int (cov (fun kk => insB (nI p) (nI k) B (stF m s) kk ≤ nI p ∧ nI p < insE (nI p) (nI k) B E (stF m s) kk) i)), some (.int (nI i)), none, none, none] [] 0 0 := by
    intro n9
    induction n9 with
    | zero => intro i hmu; exact absurd hmu (Nat.not_lt_zero _)
    | succ n9 ih =>
      intro i hmu h2
      refine z_iload hF dL_inserts_6 rfl ?_
      refine z_bipush (v := nI 8) hF dL_inserts_8 (by decide) ?_
      refine z_aload hF dL_inserts_10 rfl ?_
      refine z_iconst (v := nI 3) hF dL_inserts_12 (by decide) ?_
      refine z_iald (k := 3) hF 4 rfl (rfl) (by omega) rfl dL_inserts_13 ?_
      refine z_top (y := nI j) (rfl) ?_
      refine z_iadd hF dL_inserts_14 ?_
      refine z_top (nI_add 8 j) ?_
      refine z_icn_ge (tgt := 158) hF (by omega) (by omega) dL_inserts_15 (by decide) (fun c_1 => ?_) (fun c_1 => ?_)
      · refine z_lv (lv' := [some (.int (nI p)), some (.int x), some (.int (nI k)), some (.ref zd), some (.ref ze), some (.ref zc), some (.ref zt), some (.ref zq), some (.int (covF (insB (nI p) (nI k) B (stF m s)) (insE (nI p) (nI k) B E (stF m s)) 14 (nI p))), some (.int (nI i)), none, none, none]) (by rw [show i = 8 + j by omega, cov_low14F (a := 8 + j) (by omega) (fun kk h1 h2 h3 => absurd (hB2 kk h1 h2) (ins_nz hn (by omega) (hRG kk (by omega)) h3))]) ?_
        refine z_aload hF dL_inserts_158 rfl ?_
        refine z_iconst (v := nI 0) hF dL_inserts_160 (by decide) ?_
        refine z_iald (k := 0) hF 4 rfl (rfl) (by omega) rfl dL_inserts_161 ?_
        refine z_top (y := nI n) (rfl) ?_
        refine z_iconst (v := nI 1) hF dL_inserts_162 (by decide) ?_
        refine z_isub hF dL_inserts_163 ?_
        refine z_istore (lv' := [some (.int (nI p)), some (.int x), some (.int (nI k)), some (.ref zd), some (.ref ze), some (.ref zc), some (.ref zt), some (.ref zq), some (.int (covF (insB (nI p) (nI k) B (stF m s)) (insE (nI p) (nI k) B E (stF m s)) 14 (nI p))), some (.int ((nI n) - (nI 1))), none, none, none]) hF dL_inserts_164 rfl rfl ?_
        refine z_ws (ws' := [(zd, eI G 60 (va_cpy f f n (n + k) (n - n))), (ze, eI G 60 le), (zc, eI G 36 (cF s op an qs qa qb)), (zt, eI G 64 lt), (zq, eI G 4 (qF n v m j))]) (by simp only [Nat.sub_self, cpy_0]) ?_
        refine z_ws (ws' := [(zd, eI G 60 (va_cpy f f n (n + k) (n - n))), (ze, eI G 60 (va_cpy le le n (n + k) (n - n))), (zc, eI G 36 (cF s op an qs qa qb)), (zt, eI G 64 lt), (zq, eI G 4 (qF n v m j))]) (by simp only [Nat.sub_self, cpy_0]) ?_
        have J_166 : ∀ (n9 : Nat) (q : Nat), q - p < n9 → (p ≤ q) → (q ≤ n) → zJ G X 166 [(zd, eI G 60 (va_cpy f f q (q + k) (n - q))), (ze, eI G 60 (va_cpy le le q (q + k) (n - q))), (zc, eI G 36 (cF s op an qs qa qb)), (zt, eI G 64 lt), (zq, eI G 4 (qF n v m j))] [some (.int (nI p)), some (.int x), some (.int (nI k)), some (.ref zd), some (.ref ze), some (.ref zc), some (.ref zt), some (.ref zq), some (.int (covF (insB (nI p) (nI k) B (stF m s)) (insE (nI p) (nI k) B E (stF m s)) 14 (nI p))), some (.int ((nI q) - (nI 1))), none, none, none] [] 0 0 := by
          intro n9
          induction n9 with
          | zero => intro q hmu; exact absurd hmu (Nat.not_lt_zero _)
          | succ n9 ih =>
            intro q hmu hq1 hq2
            refine z_iload hF dL_inserts_166 rfl ?_
            refine z_iload_n hF dL_inserts_168 rfl ?_
            refine z_ic_lt (tgt := 200) hF dL_inserts_169 (by decide) (fun hq => ?_) (fun hq => ?_)
            · have hq3 : q = p := by
                    have := zsubgt2 (i := p) (n := q) (z := 1) (by omega) (by omega) (by omega) hq
                    omega
              refine z_ws (ws' := [(zd, eI G 60 (va_cpy f f p (p + k) (n - p))), (ze, eI G 60 (va_cpy le le q (q + k) (n - q))), (zc, eI G 36 (cF s op an qs qa qb)), (zt, eI G 64 lt), (zq, eI G 4 (qF n v m j))]) (by rw [hq3]) ?_
              refine z_ws (ws' := [(zd, eI G 60 (va_cpy f f p (p + k) (n - p))), (ze, eI G 60 (va_cpy le le p (p + k) (n - p))), (zc, eI G 36 (cF s op an qs qa qb)), (zt, eI G 64 lt), (zq, eI G 4 (qF n v m j))]) (by rw [hq3]) ?_
              refine z_iload_n hF dL_inserts_200 rfl ?_
              refine z_istore (lv' := [some (.int (nI p)), some (.int x), some (.int (nI k)), some (.ref zd), some (.ref ze), some (.ref zc), some (.ref zt), some (.ref zq), some (.int (covF (insB (nI p) (nI k) B (stF m s)) (insE (nI p) (nI k) B E (stF m s)) 14 (nI p))), some (.int (nI p)), none, none, none]) hF dL_inserts_201 rfl rfl ?_
              refine z_ws (ws' := [(zd, eI G 60 (filF (va_cpy f f p (p + k) (n - p)) p p x)), (ze, eI G 60 (va_cpy le le p (p + k) (n - p))), (zc, eI G 36 (cF s op an qs qa qb)), (zt, eI G 64 lt), (zq, eI G 4 (qF n v m j))]) (by simp only [filF_0 _ _ (Nat.le_refl p)]) ?_
              refine z_ws (ws' := [(zd, eI G 60 (filF (va_cpy f f p (p + k) (n - p)) p p x)), (ze, eI G 60 (filF (va_cpy le le p (p + k) (n - p)) p p (covF (insB (nI p) (nI k) B (stF m s)) (insE (nI p) (nI k) B E (stF m s)) 14 (nI p)))), (zc, eI G 36 (cF s op an qs qa qb)), (zt, eI G 64 lt), (zq, eI G 4 (qF n v m j))]) (by simp only [filF_0 _ _ (Nat.le_refl p)]) ?_
              have J_203 : ∀ (n9 : Nat) (i : Nat), p + k - i < n9 → (p ≤ i) → (i ≤ p + k) → zJ G X 203 [(zd, eI G 60 (filF (va_cpy f f p (p + k) (n - p)) p i x)), (ze, eI G 60 (filF (va_cpy le le p (p + k) (n - p)) p i (covF (insB (nI p) (nI k) B (stF m s)) (insE (nI p) (nI k) B E (stF m s)) 14 (nI p)))), (zc, eI G 36 (cF s op an qs qa qb)), (zt, eI G 64 lt), (zq, eI G 4 (qF n v m j))] [some (.int (nI p)), some (.int x), some (.int (nI k)), some (.ref zd), some (.ref ze), some (.ref zc), some (.ref zt), some (.ref zq), some (.int (covF (insB (nI p) (nI k) B (stF m s)) (insE (nI p) (nI k) B E (stF m s)) 14 (nI p))), some (.int (nI i)), none, none, none] [] 0 0 := by
                intro n9
                induction n9 with
                | zero => intro i hmu; exact absurd hmu (Nat.not_lt_zero _)
                | succ n9 ih =>
                  intro i hmu h1 h2
                  refine z_iload hF dL_inserts_203 rfl ?_
                  refine z_iload_n hF dL_inserts_205 rfl ?_
                  refine z_iload_n hF dL_inserts_206 rfl ?_
                  refine z_iadd hF dL_inserts_207 ?_
                  refine z_top (nI_add p k) ?_
                  refine z_icn_ge (tgt := 229) hF (by omega) (by omega) dL_inserts_208 (by decide) (fun c_2 => ?_) (fun c_2 => ?_)
                  · have hi9 : i = p + k := by omega
                    refine z_ws (ws' := [(zd, eI G 60 (filF (va_cpy f f p (p + k) (n - p)) p (p + k) x)), (ze, eI G 60 (filF (va_cpy le le p (p + k) (n - p)) p i (covF (insB (nI p) (nI k) B (stF m s)) (insE (nI p) (nI k) B E (stF m s)) 14 (nI p)))), (zc, eI G 36 (cF s op an qs qa qb)), (zt, eI G 64 lt), (zq, eI G 4 (qF n v m j))]) (by rw [hi9]) ?_
                    refine z_ws (ws' := [(zd, eI G 60 (filF (va_cpy f f p (p + k) (n - p)) p (p + k) x)), (ze, eI G 60 (filF (va_cpy le le p (p + k) (n - p)) p (p + k) (covF (insB (nI p) (nI k) B (stF m s)) (insE (nI p) (nI k) B E (stF m s)) 14 (nI p)))), (zc, eI G 36 (cF s op an qs qa qb)), (zt, eI G 64 lt), (zq, eI G 4 (qF n v m j))]) (by rw [hi9]) ?_
                    refine z_aload hF dL_inserts_229 rfl ?_
                    refine z_iconst (v := nI 0) hF dL_inserts_231 (by decide) ?_
                    refine z_dup2 hF dL_inserts_232 rfl rfl ?_
                    refine z_iald (k := 0) hF 4 rfl (rfl) (by omega) rfl dL_inserts_233 ?_
                    refine z_top (y := nI n) (rfl) ?_
                    refine z_iload_n hF dL_inserts_234 rfl ?_
                    refine z_iadd hF dL_inserts_235 ?_
                    refine z_top (nI_add n k) ?_
                    refine z_iast (k := 0) (ws' := [(zd, eI G 60 (filF (va_cpy f f p (p + k) (n - p)) p (p + k) x)), (ze, eI G 60 (filF (va_cpy le le p (p + k) (n - p)) p (p + k) (covF (insB (nI p) (nI k) B (stF m s)) (insE (nI p) (nI k) B E (stF m s)) 14 (nI p)))), (zc, eI G 36 (cF s op an qs qa qb)), (zt, eI G 64 lt), (zq, eI G 4 (upd (qF n v m j) 0 (nI (n + k))))]) hF 4 rfl (rfl) (by omega) rfl rfl dL_inserts_236 ?_
                    refine z_ws (ws' := [(zd, eI G 60 (filF (va_cpy f f p (p + k) (n - p)) p (p + k) x)), (ze, eI G 60 (filF (va_cpy le le p (p + k) (n - p)) p (p + k) (covF (insB (nI p) (nI k) B (stF m s)) (insE (nI p) (nI k) B E (stF m s)) 14 (nI p)))), (zc, eI G 36 (cF s op an qs qa qb)), (zt, eI G 64 lt), (zq, eI G 4 (qF (n + k) v m j))]) (by rw [qF_0]) ?_
                    refine z_aload hF dL_inserts_237 rfl ?_
                    refine z_iconst (v := nI 1) hF dL_inserts_239 (by decide) ?_
                    refine z_dup2 hF dL_inserts_240 rfl rfl ?_
                    refine z_iald (k := 1) hF 4 rfl (rfl) (by omega) rfl dL_inserts_241 ?_
                    refine z_top (y := nI v) (rfl) ?_
                    refine z_iconst (v := nI 1) hF dL_inserts_242 (by decide) ?_
                    refine z_iadd hF dL_inserts_243 ?_
                    refine z_top (nI_add v 1) ?_
                    refine z_iast (k := 1) (ws' := [(zd, eI G 60 (filF (va_cpy f f p (p + k) (n - p)) p (p + k) x)), (ze, eI G 60 (filF (va_cpy le le p (p + k) (n - p)) p (p + k) (covF (insB (nI p) (nI k) B (stF m s)) (insE (nI p) (nI k) B E (stF m s)) 14 (nI p)))), (zc, eI G 36 (cF s op an qs qa qb)), (zt, eI G 64 lt), (zq, eI G 4 (upd (qF (n + k) v m j) 1 (nI (v + 1))))]) hF 4 rfl (rfl) (by omega) rfl rfl dL_inserts_244 ?_
                    refine z_ws (ws' := [(zd, eI G 60 (filF (va_cpy f f p (p + k) (n - p)) p (p + k) x)), (ze, eI G 60 (filF (va_cpy le le p (p + k) (n - p)) p (p + k) (covF (insB (nI p) (nI k) B (stF m s)) (insE (nI p) (nI k) B E (stF m s)) 14 (nI p)))), (zc, eI G 36 (cF s op an qs qa qb)), (zt, eI G 64 lt), (zq, eI G 4 (qF (n + k) (v + 1) m j))]) (by rw [qF_1]) ?_
                    refine z_aload hF dL_inserts_245 rfl ?_
                    refine z_aload hF dL_inserts_247 rfl ?_
                    refine z_aload hF dL_inserts_249 rfl ?_
                    refine z_S (As := [.ref ze, .ref zt, .ref zq]) (rest := []) (ws' := [(zd, eI G 60 (filF (va_cpy f f p (p + k) (n - p)) p (p + k) x)), (ze, eI G 60 (filF (va_cpy le le p (p + k) (n - p)) p (p + k) (covF (insB (nI p) (nI k) B (stF m s)) (insE (nI p) (nI k) B E (stF m s)) 14 (nI p)))), (zc, eI G 36 (cF s op an qs qa qb)), (zt, eI G 64 (wrF lt (8 * ((v + 1) % 8)) 8 (fun kk => numF ((insB (nI p) (nI k) B (stF m s)) kk) ((insE (nI p) (nI k) B E (stF m s)) kk)))), (zq, eI G 4 (qF (n + k) (v + 1) m j))]) (st2 := []) (c2 := 0) (s2 := 0) hF (c_L_keeps G ze zt zq (n + k) (v + 1) m j (filF (va_cpy le le p (p + k) (n - p)) p (p + k) (covF (insB (nI p) (nI k) B (stF m s)) (insE (nI p) (nI k) B E (stF m s)) 14 (nI p))) lt (insB (nI p) (nI k) B (stF m s)) (insE (nI p) (nI k) B E (stF m s)) (by first | assumption | omega) (by first | assumption | omega) (by first | assumption | omega) (rg_ins hn hp hRG) (le_ins hn hp hk hk0 hRG hE) (fun i h1 h2 => ins_m1 (hB0 i h1 h2))) gL_inserts_L_keeps rfl rfl rfl hs_L_keeps ⟨⟨Nat.le_of_ble_eq_true rfl, Nat.le_of_ble_eq_true rfl⟩, ⟨Nat.le_of_ble_eq_true rfl, Nat.le_of_ble_eq_true rfl⟩, Nat.le_of_ble_eq_true rfl⟩ [1, 3, 4] rfl rfl rfl rfl rfl rfl rfl rfl rfl rfl dL_inserts_251 ?_
                    exact hR.v dL_inserts_254 (Nat.le_of_ble_eq_true rfl) (Nat.le_of_ble_eq_true rfl) (rfl)
                  · refine z_aload_n hF dL_inserts_211 rfl ?_
                    refine z_iload hF dL_inserts_212 rfl ?_
                    refine z_iload_n hF dL_inserts_214 rfl ?_
                    refine z_iast (k := i) (ws' := [(zd, eI G 60 (upd (filF (va_cpy f f p (p + k) (n - p)) p i x) i x)), (ze, eI G 60 (filF (va_cpy le le p (p + k) (n - p)) p i (covF (insB (nI p) (nI k) B (stF m s)) (insE (nI p) (nI k) B E (stF m s)) 14 (nI p)))), (zc, eI G 36 (cF s op an qs qa qb)), (zt, eI G 64 lt), (zq, eI G 4 (qF n v m j))]) hF 0 rfl (rfl) (by omega) rfl rfl dL_inserts_215 ?_
                    refine z_ws (ws' := [(zd, eI G 60 (filF (va_cpy f f p (p + k) (n - p)) p (i + 1) x)), (ze, eI G 60 (filF (va_cpy le le p (p + k) (n - p)) p i (covF (insB (nI p) (nI k) B (stF m s)) (insE (nI p) (nI k) B E (stF m s)) 14 (nI p)))), (zc, eI G 36 (cF s op an qs qa qb)), (zt, eI G 64 lt), (zq, eI G 4 (qF n v m j))]) (by rw [filF_up _ x (by omega)]) ?_
                    refine z_aload hF dL_inserts_216 rfl ?_
                    refine z_iload hF dL_inserts_218 rfl ?_
                    refine z_iload hF dL_inserts_220 rfl ?_
                    refine z_iast (k := i) (ws' := [(zd, eI G 60 (filF (va_cpy f f p (p + k) (n - p)) p (i + 1) x)), (ze, eI G 60 (upd (filF (va_cpy le le p (p + k) (n - p)) p i (covF (insB (nI p) (nI k) B (stF m s)) (insE (nI p) (nI k) B E (stF m s)) 14 (nI p))) i (covF (insB (nI p) (nI k) B (stF m s)) (insE (nI p) (nI k) B E (stF m s)) 14 (nI p)))), (zc, eI G 36 (cF s op an qs qa qb)), (zt, eI G 64 lt), (zq, eI G 4 (qF n v m j))]) hF 1 rfl (rfl) (by omega) rfl rfl dL_inserts_222 ?_
                    refine z_ws (ws' := [(zd, eI G 60 (filF (va_cpy f f p (p + k) (n - p)) p (i + 1) x)), (ze, eI G 60 (filF (va_cpy le le p (p + k) (n - p)) p (i + 1) (covF (insB (nI p) (nI k) B (stF m s)) (insE (nI p) (nI k) B E (stF m s)) 14 (nI p)))), (zc, eI G 36 (cF s op an qs qa qb)), (zt, eI G 64 lt), (zq, eI G 4 (qF n v m j))]) (by rw [filF_up _ _ (by omega)]) ?_
                    refine z_iinc (v := nI (i + 1)) (lv' := [some (.int (nI p)), some (.int x), some (.int (nI k)), some (.ref zd), some (.ref ze), some (.ref zc), some (.ref zt), some (.ref zq), some (.int (covF (insB (nI p) (nI k) B (stF m s)) (insE (nI p) (nI k) B E (stF m s)) 14 (nI p))), some (.int (nI (i + 1))), none, none, none]) hF dL_inserts_223 rfl (nI_1 i) rfl rfl ?_
                    refine z_goto (tgt := 203) hF dL_inserts_226 (by decide) ?_
                    exact ih (i + 1) (by omega) (by omega) (by omega)
              exact J_203 ((p + k - p) + 1) p (Nat.lt_succ_self _) (by omega) (by omega)
            · have hq3 : p + 1 ≤ q := Nat.le_of_not_lt fun z => hq (zsubgt (by omega) (by omega) (by omega) z)
              refine z_lv (lv' := [some (.int (nI p)), some (.int x), some (.int (nI k)), some (.ref zd), some (.ref ze), some (.ref zc), some (.ref zt), some (.ref zq), some (.int (covF (insB (nI p) (nI k) B (stF m s)) (insE (nI p) (nI k) B E (stF m s)) 14 (nI p))), some (.int (nI (q - 1))), none, none, none]) (by rw [pk_sub (by omega)]) ?_
              refine z_aload_n hF dL_inserts_172 rfl ?_
              refine z_iload hF dL_inserts_173 rfl ?_
              refine z_iload_n hF dL_inserts_175 rfl ?_
              refine z_iadd hF dL_inserts_176 ?_
              refine z_top (nI_add (q - 1) k) ?_
              refine z_aload_n hF dL_inserts_177 rfl ?_
              refine z_iload hF dL_inserts_178 rfl ?_
              refine z_iald (k := q - 1) hF 0 rfl (rfl) (by omega) rfl dL_inserts_180 ?_
              refine z_top (y := f (q - 1)) (cpy_dat f (by omega)) ?_
              refine z_iast (k := q - 1 + k) (ws' := [(zd, eI G 60 (upd (va_cpy f f q (q + k) (n - q)) (q - 1 + k) (f (q - 1)))), (ze, eI G 60 (va_cpy le le q (q + k) (n - q))), (zc, eI G 36 (cF s op an qs qa qb)), (zt, eI G 64 lt), (zq, eI G 4 (qF n v m j))]) hF 0 rfl (rfl) (by omega) rfl rfl dL_inserts_181 ?_
              refine z_ws (ws' := [(zd, eI G 60 (va_cpy f f (q - 1) ((q - 1) + k) (n - (q - 1)))), (ze, eI G 60 (va_cpy le le q (q + k) (n - q))), (zc, eI G 36 (cF s op an qs qa qb)), (zt, eI G 64 lt), (zq, eI G 4 (qF n v m j))]) (by rw [cpy_dn f (by omega) hq2]) ?_
              refine z_aload hF dL_inserts_182 rfl ?_
              refine z_iload hF dL_inserts_184 rfl ?_
              refine z_iload_n hF dL_inserts_186 rfl ?_
              refine z_iadd hF dL_inserts_187 ?_
              refine z_top (nI_add (q - 1) k) ?_
              refine z_aload hF dL_inserts_188 rfl ?_
              refine z_iload hF dL_inserts_190 rfl ?_
              refine z_iald (k := q - 1) hF 1 rfl (rfl) (by omega) rfl dL_inserts_192 ?_
              refine z_top (y := le (q - 1)) (cpy_dat le (by omega)) ?_
              refine z_iast (k := q - 1 + k) (ws' := [(zd, eI G 60 (va_cpy f f (q - 1) ((q - 1) + k) (n - (q - 1)))), (ze, eI G 60 (upd (va_cpy le le q (q + k) (n - q)) (q - 1 + k) (le (q - 1)))), (zc, eI G 36 (cF s op an qs qa qb)), (zt, eI G 64 lt), (zq, eI G 4 (qF n v m j))]) hF 1 rfl (rfl) (by omega) rfl rfl dL_inserts_193 ?_
              refine z_ws (ws' := [(zd, eI G 60 (va_cpy f f (q - 1) ((q - 1) + k) (n - (q - 1)))), (ze, eI G 60 (va_cpy le le (q - 1) ((q - 1) + k) (n - (q - 1)))), (zc, eI G 36 (cF s op an qs qa qb)), (zt, eI G 64 lt), (zq, eI G 4 (qF n v m j))]) (by rw [cpy_dn le (by omega) hq2]) ?_
              refine z_iinc (v := (nI (q - 1)) - (nI 1)) (lv' := [some (.int (nI p)), some (.int x), some (.int (nI k)), some (.ref zd), some (.ref ze), some (.ref zc), some (.ref zt), some (.ref zq), some (.int (covF (insB (nI p) (nI k) B (stF m s)) (insE (nI p) (nI k) B E (stF m s)) 14 (nI p))), some (.int ((nI (q - 1)) - (nI 1))), none, none, none]) hF dL_inserts_194 rfl (nI_dec _) rfl rfl ?_
              refine z_goto (tgt := 166) hF dL_inserts_197 (by decide) ?_
              exact ih (q - 1) (by omega) (by omega) (by omega)
        exact J_166 ((n - p) + 1) n (Nat.lt_succ_self _) (by omega) (by omega)
      · have J_47 : zJ G X 47 [(zd, eI G 60 f), (ze, eI G 60 le), (zc, eI G 36 (cF s op an qs qa qb)), (zt, eI G 64 lt), (zq, eI G 4 (qF n v m j))] [some (.int (nI p)), some (.int x), some (.int (nI k)), some (.ref zd), some (.ref ze), some (.ref zc), some (.ref zt), some (.ref zq), some (.int (cov (fun kk => insB (nI p) (nI k) B (stF m s) kk ≤ nI p ∧ nI p < insE (nI p) (nI k) B E (stF m s) kk) i)), some (.int (nI i)), none, none, none] [.int (numF (B i) (E i))] 0 0 := by
          refine z_istore (lv' := [some (.int (nI p)), some (.int x), some (.int (nI k)), some (.ref zd), some (.ref ze), some (.ref zc), some (.ref zt), some (.ref zq), some (.int (cov (fun kk => insB (nI p) (nI k) B (stF m s) kk ≤ nI p ∧ nI p < insE (nI p) (nI k) B E (stF m s) kk) i)), some (.int (nI i)), some (.int (numF (B i) (E i))), none, none]) hF dL_inserts_47 rfl rfl ?_
          have J_70 : zJ G X 70 [(zd, eI G 60 f), (ze, eI G 60 le), (zc, eI G 36 (cF s op an qs qa qb)), (zt, eI G 64 lt), (zq, eI G 4 (qF n v m j))] [some (.int (nI p)), some (.int x), some (.int (nI k)), some (.ref zd), some (.ref ze), some (.ref zc), some (.ref zt), some (.ref zq), some (.int (cov (fun kk => insB (nI p) (nI k) B (stF m s) kk ≤ nI p ∧ nI p < insE (nI p) (nI k) B E (stF m s) kk) i)), some (.int (nI i)), some (.int (numF (B i) (E i))), none, none] [.int (stF m s i)] 0 0 := by
            refine z_istore (lv' := [some (.int (nI p)), some (.int x), some (.int (nI k)), some (.ref zd), some (.ref ze), some (.ref zc), some (.ref zt), some (.ref zq), some (.int (cov (fun kk => insB (nI p) (nI k) B (stF m s) kk ≤ nI p ∧ nI p < insE (nI p) (nI k) B E (stF m s) kk) i)), some (.int (nI i)), some (.int (numF (B i) (E i))), some (.int (stF m s i)), none]) hF dL_inserts_70 rfl rfl ?_
            have hd := num_dec hn (hRG i (by omega))
            have hst := st4_r (stF_4 hs i)
            have hiff := ins_iff (p := p) (k := k) (S := stF m s) hn hp hk0 (by omega) (hRG i (by omega))
            obtain ⟨hd1, hd2⟩ := hd
            obtain ⟨hst1, hst2⟩ := hst
            have J_132 : zJ G X 132 [(zd, eI G 60 f), (ze, eI G 60 le), (zc, eI G 36 (cF s op an qs qa qb)), (zt, eI G 64 lt), (zq, eI G 4 (qF n v m j))] [some (.int (nI p)), some (.int x), some (.int (nI k)), some (.ref zd), some (.ref ze), some (.ref zc), some (.ref zt), some (.ref zq), some (.int (cov (fun kk => insB (nI p) (nI k) B (stF m s) kk ≤ nI p ∧ nI p < insE (nI p) (nI k) B E (stF m s) kk) i)), some (.int (nI i)), some (.int (numF (B i) (E i))), some (.int (stF m s i)), none] [.int (zb (insB (nI p) (nI k) B (stF m s) i ≤ nI p ∧ nI p < insE (nI p) (nI k) B E (stF m s) i))] 0 0 := by
              refine z_istore (lv' := [some (.int (nI p)), some (.int x), some (.int (nI k)), some (.ref zd), some (.ref ze), some (.ref zc), some (.ref zt), some (.ref zq), some (.int (cov (fun kk => insB (nI p) (nI k) B (stF m s) kk ≤ nI p ∧ nI p < insE (nI p) (nI k) B E (stF m s) kk) i)), some (.int (nI i)), some (.int (numF (B i) (E i))), some (.int (stF m s i)), some (.int (zb (insB (nI p) (nI k) B (stF m s) i ≤ nI p ∧ nI p < insE (nI p) (nI k) B E (stF m s) i)))]) hF dL_inserts_132 rfl rfl ?_
              refine z_iload hF dL_inserts_134 rfl ?_
              refine z_iload hF dL_inserts_136 rfl ?_
              refine z_if_eq_b (tgt := 148) hF dL_inserts_138 (by decide) (fun c_3 => ?_) (fun c_3 => ?_)
              · refine z_iconst (v := nI 0) hF dL_inserts_148 (by decide) ?_
                refine z_ior hF dL_inserts_149 ?_
                refine z_top (y := cov (fun kk => insB (nI p) (nI k) B (stF m s) kk ≤ nI p ∧ nI p < insE (nI p) (nI k) B E (stF m s) kk) (i + 1)) (by rw [or_0, cov_f (P := fun kk => insB (nI p) (nI k) B (stF m s) kk ≤ nI p ∧ nI p < insE (nI p) (nI k) B E (stF m s) kk) (k := i) (by first | assumption | grind)]) ?_
                refine z_istore (lv' := [some (.int (nI p)), some (.int x), some (.int (nI k)), some (.ref zd), some (.ref ze), some (.ref zc), some (.ref zt), some (.ref zq), some (.int (cov (fun kk => insB (nI p) (nI k) B (stF m s) kk ≤ nI p ∧ nI p < insE (nI p) (nI k) B E (stF m s) kk) (i + 1))), some (.int (nI i)), some (.int (numF (B i) (E i))), some (.int (stF m s i)), some (.int (zb (insB (nI p) (nI k) B (stF m s) i ≤ nI p ∧ nI p < insE (nI p) (nI k) B E (stF m s) i)))]) hF dL_inserts_150 rfl rfl ?_
                refine z_iinc (v := nI (i + 1)) (lv' := [some (.int (nI p)), some (.int x), some (.int (nI k)), some (.ref zd), some (.ref ze), some (.ref zc), some (.ref zt), some (.ref zq), some (.int (cov (fun kk => insB (nI p) (nI k) B (stF m s) kk ≤ nI p ∧ nI p < insE (nI p) (nI k) B E (stF m s) kk) (i + 1))), some (.int (nI (i + 1))), some (.int (numF (B i) (E i))), some (.int (stF m s i)), some (.int (zb (insB (nI p) (nI k) B (stF m s) i ≤ nI p ∧ nI p < insE (nI p) (nI k) B E (stF m s) i)))]) hF dL_inserts_152 rfl (nI_1 i) rfl rfl ?_
                refine z_goto (tgt := 6) hF dL_inserts_155 (by decide) ?_
                refine z_forget (lv' := [some (.int (nI p)), some (.int x), some (.int (nI k)), some (.ref zd), some (.ref ze), some (.ref zc), some (.ref zt), some (.ref zq), some (.int (cov (fun kk => insB (nI p) (nI k) B (stF m s) kk ≤ nI p ∧ nI p < insE (nI p) (nI k) B E (stF m s) kk) (i + 1))), some (.int (nI (i + 1))), none, none, none]) ⟨rfl, ⟨rfl, ⟨rfl, ⟨rfl, ⟨rfl, ⟨rfl, ⟨rfl, ⟨rfl, ⟨rfl, ⟨rfl, trivial⟩⟩⟩⟩⟩⟩⟩⟩⟩⟩ ?_
                exact ih (i + 1) (by omega) (by omega)
              · refine z_iconst (v := nI 1) hF dL_inserts_141 (by decide) ?_
                refine z_iload hF dL_inserts_142 rfl ?_
                refine z_ishl hF dL_inserts_144 ?_
                refine z_goto (tgt := 149) hF dL_inserts_145 (by decide) ?_
                refine z_ior hF dL_inserts_149 ?_
                refine z_top (y := cov (fun kk => insB (nI p) (nI k) B (stF m s) kk ≤ nI p ∧ nI p < insE (nI p) (nI k) B E (stF m s) kk) (i + 1)) (cov_t (P := fun kk => insB (nI p) (nI k) B (stF m s) kk ≤ nI p ∧ nI p < insE (nI p) (nI k) B E (stF m s) kk) (k := i) (by first | assumption | grind)) ?_
                refine z_istore (lv' := [some (.int (nI p)), some (.int x), some (.int (nI k)), some (.ref zd), some (.ref ze), some (.ref zc), some (.ref zt), some (.ref zq), some (.int (cov (fun kk => insB (nI p) (nI k) B (stF m s) kk ≤ nI p ∧ nI p < insE (nI p) (nI k) B E (stF m s) kk) (i + 1))), some (.int (nI i)), some (.int (numF (B i) (E i))), some (.int (stF m s i)), some (.int (zb (insB (nI p) (nI k) B (stF m s) i ≤ nI p ∧ nI p < insE (nI p) (nI k) B E (stF m s) i)))]) hF dL_inserts_150 rfl rfl ?_
                refine z_iinc (v := nI (i + 1)) (lv' := [some (.int (nI p)), some (.int x), some (.int (nI k)), some (.ref zd), some (.ref ze), some (.ref zc), some (.ref zt), some (.ref zq), some (.int (cov (fun kk => insB (nI p) (nI k) B (stF m s) kk ≤ nI p ∧ nI p < insE (nI p) (nI k) B E (stF m s) kk) (i + 1))), some (.int (nI (i + 1))), some (.int (numF (B i) (E i))), some (.int (stF m s i)), some (.int (zb (insB (nI p) (nI k) B (stF m s) i ≤ nI p ∧ nI p < insE (nI p) (nI k) B E (stF m s) i)))]) hF dL_inserts_152 rfl (nI_1 i) rfl rfl ?_
                refine z_goto (tgt := 6) hF dL_inserts_155 (by decide) ?_
                refine z_forget (lv' := [some (.int (nI p)), some (.int x), some (.int (nI k)), some (.ref zd), some (.ref ze), some (.ref zc), some (.ref zt), some (.ref zq), some (.int (cov (fun kk => insB (nI p) (nI k) B (stF m s) kk ≤ nI p ∧ nI p < insE (nI p) (nI k) B E (stF m s) kk) (i + 1))), some (.int (nI (i + 1))), none, none, none]) ⟨rfl, ⟨rfl, ⟨rfl, ⟨rfl, ⟨rfl, ⟨rfl, ⟨rfl, ⟨rfl, ⟨rfl, ⟨rfl, trivial⟩⟩⟩⟩⟩⟩⟩⟩⟩⟩ ?_
                exact ih (i + 1) (by omega) (by omega)
            refine z_iload hF dL_inserts_72 rfl ?_
            refine z_if_lt (tgt := 131) hF dL_inserts_74 (by decide) (fun c_4 => ?_) (fun c_4 => ?_)
            · refine z_iconst (v := nI 0) hF dL_inserts_131 (by decide) ?_
              refine z_top (y := zb (insB (nI p) (nI k) B (stF m s) i ≤ nI p ∧ nI p < insE (nI p) (nI k) B E (stF m s) i)) (by first | exact zb1 (hiff.mpr (by grind)) | exact zb0 (fun z => absurd (hiff.mp z) (by grind))) ?_
              exact J_132  
            · refine z_iload hF dL_inserts_77 rfl ?_
              refine z_bipush (v := nI 100) hF dL_inserts_79 (by decide) ?_
              refine z_idiv hF dL_inserts_81 (by decide) ?_
              refine z_iload_n hF dL_inserts_82 rfl ?_
              refine z_ic_lt (tgt := 103) hF dL_inserts_83 (by decide) (fun c_5 => ?_) (fun c_5 => ?_)
              · refine z_iload hF dL_inserts_103 rfl ?_
                refine z_bipush (v := nI 100) hF dL_inserts_105 (by decide) ?_
                refine z_irem hF dL_inserts_107 (by decide) ?_
                refine z_iload_n hF dL_inserts_108 rfl ?_
                refine z_ic_gt (tgt := 127) hF dL_inserts_109 (by decide) (fun c_6 => ?_) (fun c_6 => ?_)
                · refine z_iconst (v := nI 1) hF dL_inserts_127 (by decide) ?_
                  refine z_goto (tgt := 132) hF dL_inserts_128 (by decide) ?_
                  refine z_top (y := zb (insB (nI p) (nI k) B (stF m s) i ≤ nI p ∧ nI p < insE (nI p) (nI k) B E (stF m s) i)) (by first | exact zb1 (hiff.mpr (by grind)) | exact zb0 (fun z => absurd (hiff.mp z) (by grind))) ?_
                  exact J_132  
                · refine z_iload hF dL_inserts_112 rfl ?_
                  refine z_bipush (v := nI 100) hF dL_inserts_114 (by decide) ?_
                  refine z_irem hF dL_inserts_116 (by decide) ?_
                  refine z_iload_n hF dL_inserts_117 rfl ?_
                  refine z_ic_ne (tgt := 131) hF dL_inserts_118 (by decide) (fun c_7 => ?_) (fun c_7 => ?_)
                  · refine z_iconst (v := nI 0) hF dL_inserts_131 (by decide) ?_
                    refine z_top (y := zb (insB (nI p) (nI k) B (stF m s) i ≤ nI p ∧ nI p < insE (nI p) (nI k) B E (stF m s) i)) (by first | exact zb1 (hiff.mpr (by grind)) | exact zb0 (fun z => absurd (hiff.mp z) (by grind))) ?_
                    exact J_132  
                  · refine z_iload hF dL_inserts_121 rfl ?_
                    refine z_iconst (v := nI 1) hF dL_inserts_123 (by decide) ?_
                    refine z_ic_le (tgt := 131) hF dL_inserts_124 (by decide) (fun c_8 => ?_) (fun c_8 => ?_)
                    · refine z_iconst (v := nI 0) hF dL_inserts_131 (by decide) ?_
                      refine z_top (y := zb (insB (nI p) (nI k) B (stF m s) i ≤ nI p ∧ nI p < insE (nI p) (nI k) B E (stF m s) i)) (by first | exact zb1 (hiff.mpr (by grind)) | exact zb0 (fun z => absurd (hiff.mp z) (by grind))) ?_
                      exact J_132  
                    · refine z_iconst (v := nI 1) hF dL_inserts_127 (by decide) ?_
                      refine z_goto (tgt := 132) hF dL_inserts_128 (by decide) ?_
                      refine z_top (y := zb (insB (nI p) (nI k) B (stF m s) i ≤ nI p ∧ nI p < insE (nI p) (nI k) B E (stF m s) i)) (by first | exact zb1 (hiff.mpr (by grind)) | exact zb0 (fun z => absurd (hiff.mp z) (by grind))) ?_
                      exact J_132  
              · refine z_iload hF dL_inserts_86 rfl ?_
                refine z_bipush (v := nI 100) hF dL_inserts_88 (by decide) ?_
                refine z_idiv hF dL_inserts_90 (by decide) ?_
                refine z_iload_n hF dL_inserts_91 rfl ?_
                refine z_ic_ne (tgt := 131) hF dL_inserts_92 (by decide) (fun c_9 => ?_) (fun c_9 => ?_)
                · refine z_iconst (v := nI 0) hF dL_inserts_131 (by decide) ?_
                  refine z_top (y := zb (insB (nI p) (nI k) B (stF m s) i ≤ nI p ∧ nI p < insE (nI p) (nI k) B E (stF m s) i)) (by first | exact zb1 (hiff.mpr (by grind)) | exact zb0 (fun z => absurd (hiff.mp z) (by grind))) ?_
                  exact J_132  
                · refine z_iload hF dL_inserts_95 rfl ?_
                  refine z_iconst (v := nI 2) hF dL_inserts_97 (by decide) ?_
                  refine z_irem hF dL_inserts_98 (by decide) ?_
                  refine z_iconst (v := nI 1) hF dL_inserts_99 (by decide) ?_
                  refine z_ic_ne (tgt := 131) hF dL_inserts_100 (by decide) (fun c_10 => ?_) (fun c_10 => ?_)
                  · refine z_iconst (v := nI 0) hF dL_inserts_131 (by decide) ?_
                    refine z_top (y := zb (insB (nI p) (nI k) B (stF m s) i ≤ nI p ∧ nI p < insE (nI p) (nI k) B E (stF m s) i)) (by first | exact zb1 (hiff.mpr (by grind)) | exact zb0 (fun z => absurd (hiff.mp z) (by grind))) ?_
                    exact J_132  
                  · refine z_iload hF dL_inserts_103 rfl ?_
                    refine z_bipush (v := nI 100) hF dL_inserts_105 (by decide) ?_
                    refine z_irem hF dL_inserts_107 (by decide) ?_
                    refine z_iload_n hF dL_inserts_108 rfl ?_
                    refine z_ic_gt (tgt := 127) hF dL_inserts_109 (by decide) (fun c_11 => ?_) (fun c_11 => ?_)
                    · refine z_iconst (v := nI 1) hF dL_inserts_127 (by decide) ?_
                      refine z_goto (tgt := 132) hF dL_inserts_128 (by decide) ?_
                      refine z_top (y := zb (insB (nI p) (nI k) B (stF m s) i ≤ nI p ∧ nI p < insE (nI p) (nI k) B E (stF m s) i)) (by first | exact zb1 (hiff.mpr (by grind)) | exact zb0 (fun z => absurd (hiff.mp z) (by grind))) ?_
                      exact J_132  
                    · refine z_iload hF dL_inserts_112 rfl ?_
                      refine z_bipush (v := nI 100) hF dL_inserts_114 (by decide) ?_
                      refine z_irem hF dL_inserts_116 (by decide) ?_
                      refine z_iload_n hF dL_inserts_117 rfl ?_
                      refine z_ic_ne (tgt := 131) hF dL_inserts_118 (by decide) (fun c_12 => ?_) (fun c_12 => ?_)
                      · refine z_iconst (v := nI 0) hF dL_inserts_131 (by decide) ?_
                        refine z_top (y := zb (insB (nI p) (nI k) B (stF m s) i ≤ nI p ∧ nI p < insE (nI p) (nI k) B E (stF m s) i)) (by first | exact zb1 (hiff.mpr (by grind)) | exact zb0 (fun z => absurd (hiff.mp z) (by grind))) ?_
                        exact J_132  
                      · refine z_iload hF dL_inserts_121 rfl ?_
                        refine z_iconst (v := nI 1) hF dL_inserts_123 (by decide) ?_
                        refine z_ic_le (tgt := 131) hF dL_inserts_124 (by decide) (fun c_13 => ?_) (fun c_13 => ?_)
                        · refine z_iconst (v := nI 0) hF dL_inserts_131 (by decide) ?_
                          refine z_top (y := zb (insB (nI p) (nI k) B (stF m s) i ≤ nI p ∧ nI p < insE (nI p) (nI k) B E (stF m s) i)) (by first | exact zb1 (hiff.mpr (by grind)) | exact zb0 (fun z => absurd (hiff.mp z) (by grind))) ?_
                          exact J_132  
                        · refine z_iconst (v := nI 1) hF dL_inserts_127 (by decide) ?_
                          refine z_goto (tgt := 132) hF dL_inserts_128 (by decide) ?_
                          refine z_top (y := zb (insB (nI p) (nI k) B (stF m s) i ≤ nI p ∧ nI p < insE (nI p) (nI k) B E (stF m s) i)) (by first | exact zb1 (hiff.mpr (by grind)) | exact zb0 (fun z => absurd (hiff.mp z) (by grind))) ?_
                          exact J_132  
          refine z_iload hF dL_inserts_49 rfl ?_
          refine z_aload hF dL_inserts_51 rfl ?_
          refine z_iconst (v := nI 2) hF dL_inserts_53 (by decide) ?_
          refine z_iald (k := 2) hF 4 rfl (rfl) (by omega) rfl dL_inserts_54 ?_
          refine z_top (y := nI m) (rfl) ?_
          refine z_icn_ge (tgt := 69) hF (by omega) (by omega) dL_inserts_55 (by decide) (fun c_14 => ?_) (fun c_14 => ?_)
          · refine z_iconst (v := nI 0) hF dL_inserts_69 (by decide) ?_
            refine z_top (y := stF m s i) (stF_f (by omega)) ?_
            exact J_70  
          · refine z_aload hF dL_inserts_58 rfl ?_
            refine z_bipush (v := nI 6) hF dL_inserts_60 (by decide) ?_
            refine z_iload hF dL_inserts_62 rfl ?_
            refine z_imul hF dL_inserts_64 ?_
            refine z_top (pk_mul 6 i) ?_
            refine z_iald (k := 6 * i) hF 2 rfl (rfl) (by omega) rfl dL_inserts_65 ?_
            refine z_top (y := s i) (cF_l0 _ _ _ _ _ _ _) ?_
            refine z_goto (tgt := 70) hF dL_inserts_66 (by decide) ?_
            refine z_top (y := stF m s i) (stF_t (by omega)) ?_
            exact J_70  
        refine z_iload hF dL_inserts_18 rfl ?_
        refine z_bipush (v := nI 8) hF dL_inserts_20 (by decide) ?_
        refine z_icn_ge (tgt := 38) hF (by omega) (by omega) dL_inserts_22 (by decide) (fun c_15 => ?_) (fun c_15 => ?_)
        · refine z_iload hF dL_inserts_38 rfl ?_
          refine z_aload hF dL_inserts_40 rfl ?_
          refine z_aload hF dL_inserts_42 rfl ?_
          refine z_S (As := [.int (nI i), .ref ze, .ref zq]) (rest := []) (ws' := [(zd, eI G 60 f), (ze, eI G 60 le), (zc, eI G 36 (cF s op an qs qa qb)), (zt, eI G 64 lt), (zq, eI G 4 (qF n v m j))]) (st2 := [.int (numF (B i) (E i))]) (c2 := 0) (s2 := 0) hF (c_L_range G ze zq n v m j i le B E (by first | assumption | omega) (by first | assumption | omega) (by first | assumption | omega) (by first | assumption | omega)) gL_inserts_L_range rfl rfl rfl hs_L_range ⟨⟨Nat.le_of_ble_eq_true rfl, Nat.le_of_ble_eq_true rfl⟩, ⟨Nat.le_of_ble_eq_true rfl, Nat.le_of_ble_eq_true rfl⟩, Nat.le_of_ble_eq_true rfl⟩ [1, 4] rfl rfl rfl rfl rfl rfl rfl rfl rfl rfl dL_inserts_44 ?_
          exact J_47  
        · refine z_iload hF dL_inserts_25 rfl ?_
          refine z_aload hF dL_inserts_27 rfl ?_
          refine z_iconst (v := nI 2) hF dL_inserts_29 (by decide) ?_
          refine z_iald (k := 2) hF 4 rfl (rfl) (by omega) rfl dL_inserts_30 ?_
          refine z_top (y := nI m) (rfl) ?_
          refine z_icn_lt (tgt := 38) hF (by omega) (by omega) dL_inserts_31 (by decide) (fun c_16 => ?_) (fun c_16 => ?_)
          · refine z_iload hF dL_inserts_38 rfl ?_
            refine z_aload hF dL_inserts_40 rfl ?_
            refine z_aload hF dL_inserts_42 rfl ?_
            refine z_S (As := [.int (nI i), .ref ze, .ref zq]) (rest := []) (ws' := [(zd, eI G 60 f), (ze, eI G 60 le), (zc, eI G 36 (cF s op an qs qa qb)), (zt, eI G 64 lt), (zq, eI G 4 (qF n v m j))]) (st2 := [.int (numF (B i) (E i))]) (c2 := 0) (s2 := 0) hF (c_L_range G ze zq n v m j i le B E (by first | assumption | omega) (by first | assumption | omega) (by first | assumption | omega) (by first | assumption | omega)) gL_inserts_L_range rfl rfl rfl hs_L_range ⟨⟨Nat.le_of_ble_eq_true rfl, Nat.le_of_ble_eq_true rfl⟩, ⟨Nat.le_of_ble_eq_true rfl, Nat.le_of_ble_eq_true rfl⟩, Nat.le_of_ble_eq_true rfl⟩ [1, 4] rfl rfl rfl rfl rfl rfl rfl rfl rfl rfl dL_inserts_44 ?_
            exact J_47  
          · refine z_iconst (v := -1) hF dL_inserts_34 (by decide) ?_
            refine z_goto (tgt := 47) hF dL_inserts_35 (by decide) ?_
            refine z_top (y := numF (B i) (E i)) (num_m (hB0 i (by omega) (by omega))) ?_
            exact J_47  
  exact J_6 ((8 + j - 0) + 1) 0 (Nat.lt_succ_self _) (by omega)
