set_option maxHeartbeats 4000000 in
set_option maxRecDepth 100000 in
theorem c_L_sug_acc1 (G : zG) (d0 t0 r0 q0 y0 d1 u0 d2 d3 d4 v : Nat) (o : Int32) (t1 t2 n : Nat) (f : Nat → Int32) (g : Nat → Int32) (r1 r2 r3 m : Nat) (b : Nat → Int32) (e : Nat → Int32) (s : Nat → Int32) (y1 : Nat) (h : Nat → Int32) (u1 u2 u3 j : Nat) (b2 : Nat → Int32) (e2 : Nat → Int32) (s2 : Nat → Int32) (xl : Nat → Int32) (xc : Nat → Int32) (xs : Nat → Int32) (zd ze zc zg zt zq : Nat) (le op an qs qa qb lt B E : Nat → Int32) (x : Int32) (act i p q z : Nat) (hn : n ≤ 60) (hm : m ≤ 6) (hj : j ≤ 6) (hi : lowN x j = i) (hij : i < j) (hact9 : act < 14) (hact : ¬ (act = 0 ∧ j < 6)) (hRG : RGa n B E) (hE : LEa n le B E) (hact1 : ¬ act = 1) (h0 : xs i = 0) (hbp : b2 i = nI p) (heq : e2 i = nI q) (hpq : p < q) (hqn : q ≤ n) (hz : xc i = nI z) (hz5 : z ≤ 5) (hB2 : ∀ i, 8 + j ≤ i → i < 14 → B i = -1) (hw : ∀ k, k < j → xs k = 0 → ¬ B (8 + k) = -1) (hBs : ∀ i, i < j → B (8 + i) = b2 i ∧ E (8 + i) = e2 i) (ho : ovF b2 e2 xs i j = 0) (hr : n - (q - p) + z ≤ 60) (hv : v + 1 < 300) (hB0 : ∀ i, m ≤ i → i < 8 → B i = -1) (hs : ∀ i, i < m → st4 (s i)) (hz0 : 0 < z) : zM G yL_suggestions wsL_suggestions ({ frames := 7, cells := 0, slots := 0, locals := 170 }) [.ref d0, .int (nI act), .int x, .ref zd, .ref ze, .ref zc, .ref zg, .ref zt, .ref zq] [(d0, .inr (4, [.ref t0, .ref r0, .ref q0, .ref y0, .ref d1, .int o, .int (nI v), .ref u0, .ref d2, .ref d3, .ref d4])), (y0, .inr (0, [.ref y1])), (y1, eI G 3600 h), (r0, .inr (2, [.ref r1, .ref r2, .ref r3, .int (nI m)])), (r1, eI G 12 b), (r2, eI G 12 e), (r3, eI G 12 s), (u0, .inr (2, [.ref u1, .ref u2, .ref u3, .int (nI j)])), (u1, eI G 12 b2), (u2, eI G 12 e2), (u3, eI G 12 s2), (t0, .inr (3, [.ref t1, .ref t2, .int (nI n)])), (t1, eI G 60 f), (t2, eI G 60 g), (d2, eI G 10 xl), (d3, eI G 10 xc), (d4, eI G 10 xs), (zd, eI G 60 f), (ze, eI G 60 le), (zc, eI G 36 (cF s op an qs qa qb)), (zg, eI G 18 (gF xl xc xs)), (zt, eI G 64 lt), (zq, eI G 4 (qF n v m j))] [(d0, .inr (4, [.ref t0, .ref r0, .ref q0, .ref y0, .ref d1, .int o, .int (nI ((v + 1) + 1)), .ref u0, .ref d2, .ref d3, .ref d4])), (y0, .inr (0, [.ref y1])), (y1, eI G 3600 (wrF (wrF h (v * 12) 12 (fun kk => if kk < m then numF (b kk) (e kk) else -1)) ((v + 1) * 12) 12 (fun kk => if kk < m then numF ((mpF m (remB (nI p) (nI (q - p)) b e) b) kk) ((mpF m (remE (nI p) (nI (q - p)) b e) e) kk) else -1))), (r0, .inr (2, [.ref r1, .ref r2, .ref r3, .int (nI m)])), (r1, eI G 12 (mpF m (insB (nI p) (nI z) (mpF m (remB (nI p) (nI (q - p)) b e) b) s) (mpF m (remB (nI p) (nI (q - p)) b e) b))), (r2, eI G 12 (mpF m (insE (nI p) (nI z) (mpF m (remB (nI p) (nI (q - p)) b e) b) (mpF m (remE (nI p) (nI (q - p)) b e) e) s) (mpF m (remE (nI p) (nI (q - p)) b e) e))), (r3, eI G 12 s), (u0, .inr (2, [.ref u1, .ref u2, .ref u3, .int (nI j)])), (u1, eI G 12 (mpF j (insB (nI p) (nI z) (mpF j (remB (nI p) (nI (q - p)) b2 e2) b2) s2) (mpF j (remB (nI p) (nI (q - p)) b2 e2) b2))), (u2, eI G 12 (mpF j (insE (nI p) (nI z) (mpF j (remB (nI p) (nI (q - p)) b2 e2) b2) (mpF j (remE (nI p) (nI (q - p)) b2 e2) e2) s2) (mpF j (remE (nI p) (nI (q - p)) b2 e2) e2))), (u3, eI G 12 s2), (t0, .inr (3, [.ref t1, .ref t2, .int (nI ((n - (q - p)) + z))])), (t1, eI G 60 (filF (va_cpy (va_cpy f f (p + (q - p)) p (n - (p + (q - p)))) (va_cpy f f (p + (q - p)) p (n - (p + (q - p)))) p (p + z) ((n - (q - p)) - p)) p (p + z) (xl i))), (t2, eI G 60 (mrkF (filF (va_cpy (va_cpy g g (p + (q - p)) p (n - (p + (q - p)))) (va_cpy g g (p + (q - p)) p (n - (p + (q - p)))) p (p + z) ((n - (q - p)) - p)) p (p + z) (nI 0)) p (p + z) (covF (mpF m (insB (nI p) (nI z) (mpF m (remB (nI p) (nI (q - p)) b e) b) s) (mpF m (remB (nI p) (nI (q - p)) b e) b)) (mpF m (insE (nI p) (nI z) (mpF m (remB (nI p) (nI (q - p)) b e) b) (mpF m (remE (nI p) (nI (q - p)) b e) e) s) (mpF m (remE (nI p) (nI (q - p)) b e) e)) m (nI p)))), (d2, eI G 10 xl), (d3, eI G 10 xc), (d4, eI G 10 (mpF j (lgF (gonF (nI p) (nI (q - p)) b2 e2 j) (upd xs i (nI 1))) (upd xs i (nI 1)))), (zd, eI G 60 (filF (va_cpy (va_cpy f f (p + (q - p)) p (n - (p + (q - p)))) (va_cpy f f (p + (q - p)) p (n - (p + (q - p)))) p (p + z) ((n - (q - p)) - p)) p (p + z) (xl i))), (ze, eI G 60 (filF (va_cpy (va_cpy le le (p + (q - p)) p (n - (p + (q - p)))) (va_cpy le le (p + (q - p)) p (n - (p + (q - p)))) p (p + z) ((n - (q - p)) - p)) p (p + z) (covF (insB (nI p) (nI z) (remB (nI p) (nI (q - p)) B E) (stF m s)) (insE (nI p) (nI z) (remB (nI p) (nI (q - p)) B E) (remE (nI p) (nI (q - p)) B E) (stF m s)) 14 (nI p)))), (zc, eI G 36 (cF s op an qs qa qb)), (zg, eI G 18 (gF xl xc (mpF j (lgF (gonF (nI p) (nI (q - p)) b2 e2 j) (upd xs i (nI 1))) (upd xs i (nI 1))))), (zt, eI G 64 (wrF (wrF lt (8 * ((v + 1) % 8)) 8 (fun kk => numF ((remB (nI p) (nI (q - p)) B E) kk) ((remE (nI p) (nI (q - p)) B E) kk))) (8 * (((v + 1) + 1) % 8)) 8 (fun kk => numF (insB (nI p) (nI z) (remB (nI p) (nI (q - p)) B E) (stF m s) kk) (insE (nI p) (nI z) (remB (nI p) (nI (q - p)) B E) (remE (nI p) (nI (q - p)) B E) (stF m s) kk)))), (zq, eI G 4 (qF ((n - (q - p)) + z) ((v + 1) + 1) m j))] (some (.int (nI 1))) 0 0 := by
  refine zM.ofI (own := RL) (cc := cL_suggestions) (maxL := 15) rfl (by decide) rfl rfl (by simp [Value.category]) (Nat.le_of_ble_eq_true rfl) ?_
  intro X hF hR
  refine z_lv (lv' := [some (.ref d0), some (.int (nI act)), some (.int x), some (.ref zd), some (.ref ze), some (.ref zc), some (.ref zg), some (.ref zt), some (.ref zq), none, none, none, none, none, none]) rfl ?_
  have J_210 : zJ G X 210 [(d0, .inr (4, [.ref t0, .ref r0, .ref q0, .ref y0, .ref d1, .int o, .int (nI v), .ref u0, .ref d2, .ref d3, .ref d4])), (y0, .inr (0, [.ref y1])), (y1, eI G 3600 h), (r0, .inr (2, [.ref r1, .ref r2, .ref r3, .int (nI m)])), (r1, eI G 12 b), (r2, eI G 12 e), (r3, eI G 12 s), (u0, .inr (2, [.ref u1, .ref u2, .ref u3, .int (nI j)])), (u1, eI G 12 b2), (u2, eI G 12 e2), (u3, eI G 12 s2), (t0, .inr (3, [.ref t1, .ref t2, .int (nI n)])), (t1, eI G 60 f), (t2, eI G 60 g), (d2, eI G 10 xl), (d3, eI G 10 xc), (d4, eI G 10 xs), (zd, eI G 60 f), (ze, eI G 60 le), (zc, eI G 36 (cF s op an qs qa qb)), (zg, eI G 18 (gF xl xc xs)), (zt, eI G 64 lt), (zq, eI G 4 (qF n v m j))] [some (.ref d0), some (.int (nI act)), some (.int x), some (.ref zd), some (.ref ze), some (.ref zc), some (.ref zg), some (.ref zt), some (.ref zq), none, none, none, none, none, none] [] 0 0 := by
    refine z_aload hF dL_suggestions_210 rfl ?_
    refine z_iconst (v := nI 3) hF dL_suggestions_212 (by decide) ?_
    refine z_iald (k := 3) hF 22 rfl (rfl) (by omega) rfl dL_suggestions_213 ?_
    refine z_top (y := nI j) (rfl) ?_
    refine z_ifn_ne (tgt := 219) hF (by omega) dL_suggestions_214 (by decide) (fun c_1 => ?_) (fun c_1 => absurd c_1 (by omega))
    refine z_iload_n hF dL_suggestions_219 rfl ?_
    refine z_aload hF dL_suggestions_220 rfl ?_
    refine z_iconst (v := nI 3) hF dL_suggestions_222 (by decide) ?_
    refine z_iald (k := 3) hF 22 rfl (rfl) (by omega) rfl dL_suggestions_223 ?_
    refine z_top (y := nI j) (rfl) ?_
    refine z_S (As := [.int x, .int (nI j)]) (rest := []) (ws' := [(d0, .inr (4, [.ref t0, .ref r0, .ref q0, .ref y0, .ref d1, .int o, .int (nI v), .ref u0, .ref d2, .ref d3, .ref d4])), (y0, .inr (0, [.ref y1])), (y1, eI G 3600 h), (r0, .inr (2, [.ref r1, .ref r2, .ref r3, .int (nI m)])), (r1, eI G 12 b), (r2, eI G 12 e), (r3, eI G 12 s), (u0, .inr (2, [.ref u1, .ref u2, .ref u3, .int (nI j)])), (u1, eI G 12 b2), (u2, eI G 12 e2), (u3, eI G 12 s2), (t0, .inr (3, [.ref t1, .ref t2, .int (nI n)])), (t1, eI G 60 f), (t2, eI G 60 g), (d2, eI G 10 xl), (d3, eI G 10 xc), (d4, eI G 10 xs), (zd, eI G 60 f), (ze, eI G 60 le), (zc, eI G 36 (cF s op an qs qa qb)), (zg, eI G 18 (gF xl xc xs)), (zt, eI G 64 lt), (zq, eI G 4 (qF n v m j))]) (st2 := [.int (nI (lowN x j))]) (c2 := 0) (s2 := 0) hF (c_L_low G x j (by first | assumption | omega) (by first | assumption | omega)) gL_suggestions_L_low rfl rfl rfl hs_L_low ⟨⟨Nat.le_of_ble_eq_true rfl, Nat.le_of_ble_eq_true rfl⟩, ⟨Nat.le_of_ble_eq_true rfl, Nat.le_of_ble_eq_true rfl⟩, Nat.le_of_ble_eq_true rfl⟩ [] rfl rfl rfl rfl rfl rfl rfl rfl rfl rfl dL_suggestions_224 ?_
    refine z_istore (lv' := [some (.ref d0), some (.int (nI act)), some (.int x), some (.ref zd), some (.ref ze), some (.ref zc), some (.ref zg), some (.ref zt), some (.ref zq), some (.int (nI (lowN x j))), none, none, none, none, none]) hF dL_suggestions_227 rfl rfl ?_
    refine z_lv (lv' := [some (.ref d0), some (.int (nI act)), some (.int x), some (.ref zd), some (.ref ze), some (.ref zc), some (.ref zg), some (.ref zt), some (.ref zq), some (.int (nI i)), none, none, none, none, none]) (by rw [hi]) ?_
    have hBp : B (8 + i) = nI p := (hBs i hij).1.trans hbp
    have hEq : E (8 + i) = nI q := (hBs i hij).2.trans heq
    refine z_bipush (v := nI 8) hF dL_suggestions_229 (by decide) ?_
    refine z_iload hF dL_suggestions_231 rfl ?_
    refine z_iadd hF dL_suggestions_233 ?_
    refine z_top (nI_add 8 i) ?_
    refine z_aload hF dL_suggestions_234 rfl ?_
    refine z_aload hF dL_suggestions_236 rfl ?_
    refine z_S (As := [.int (nI (8 + i)), .ref ze, .ref zq]) (rest := []) (ws' := [(d0, .inr (4, [.ref t0, .ref r0, .ref q0, .ref y0, .ref d1, .int o, .int (nI v), .ref u0, .ref d2, .ref d3, .ref d4])), (y0, .inr (0, [.ref y1])), (y1, eI G 3600 h), (r0, .inr (2, [.ref r1, .ref r2, .ref r3, .int (nI m)])), (r1, eI G 12 b), (r2, eI G 12 e), (r3, eI G 12 s), (u0, .inr (2, [.ref u1, .ref u2, .ref u3, .int (nI j)])), (u1, eI G 12 b2), (u2, eI G 12 e2), (u3, eI G 12 s2), (t0, .inr (3, [.ref t1, .ref t2, .int (nI n)])), (t1, eI G 60 f), (t2, eI G 60 g), (d2, eI G 10 xl), (d3, eI G 10 xc), (d4, eI G 10 xs), (zd, eI G 60 f), (ze, eI G 60 le), (zc, eI G 36 (cF s op an qs qa qb)), (zg, eI G 18 (gF xl xc xs)), (zt, eI G 64 lt), (zq, eI G 4 (qF n v m j))]) (st2 := [.int (numF (B (8 + i)) (E (8 + i)))]) (c2 := 0) (s2 := 0) hF (c_L_range G ze zq n v m j (8 + i) le B E (by first | assumption | omega) (by first | assumption | omega) (by first | assumption | omega) (by first | assumption | omega)) gL_suggestions_L_range rfl rfl rfl hs_L_range ⟨⟨Nat.le_of_ble_eq_true rfl, Nat.le_of_ble_eq_true rfl⟩, ⟨Nat.le_of_ble_eq_true rfl, Nat.le_of_ble_eq_true rfl⟩, Nat.le_of_ble_eq_true rfl⟩ [18, 22] rfl rfl rfl rfl rfl rfl rfl rfl rfl rfl dL_suggestions_238 ?_
    refine z_istore (lv' := [some (.ref d0), some (.int (nI act)), some (.int x), some (.ref zd), some (.ref ze), some (.ref zc), some (.ref zg), some (.ref zt), some (.ref zq), some (.int (nI i)), some (.int (numF (B (8 + i)) (E (8 + i)))), none, none, none, none]) hF dL_suggestions_241 rfl rfl ?_
    refine z_aload hF dL_suggestions_243 rfl ?_
    refine z_iconst (v := nI 3) hF dL_suggestions_245 (by decide) ?_
    refine z_iload hF dL_suggestions_246 rfl ?_
    refine z_imul hF dL_suggestions_248 ?_
    refine z_top (pk_mul 3 i) ?_
    refine z_iconst (v := nI 2) hF dL_suggestions_249 (by decide) ?_
    refine z_iadd hF dL_suggestions_250 ?_
    refine z_top (nI_add (3 * i) 2) ?_
    refine z_iald (k := 3 * i + 2) hF 20 rfl (rfl) (by omega) rfl dL_suggestions_251 ?_
    refine z_top (y := xs i) (gF_l2 _ _ _ _) ?_
    refine z_if_ne (tgt := 259) hF dL_suggestions_252 (by decide) (fun c_2 => absurd c_2 (not_not_intro h0)) (fun c_2 => ?_)
    refine z_iconst (v := nI 1) hF dL_suggestions_255 (by decide) ?_
    refine z_goto (tgt := 260) hF dL_suggestions_256 (by decide) ?_
    refine z_istore (lv' := [some (.ref d0), some (.int (nI act)), some (.int x), some (.ref zd), some (.ref ze), some (.ref zc), some (.ref zg), some (.ref zt), some (.ref zq), some (.int (nI i)), some (.int (numF (B (8 + i)) (E (8 + i)))), some (.int (nI 1)), none, none, none]) hF dL_suggestions_260 rfl rfl ?_
    refine z_iload_n hF dL_suggestions_262 rfl ?_
    refine z_iconst (v := nI 1) hF dL_suggestions_263 (by decide) ?_
    refine z_icn_ne (tgt := 367) hF (by omega) (by omega) dL_suggestions_264 (by decide) (fun c_3 => ?_) (fun c_3 => absurd c_3 (hact1))
    refine z_aload hF dL_suggestions_367 rfl ?_
    refine z_iconst (v := nI 3) hF dL_suggestions_369 (by decide) ?_
    refine z_iload hF dL_suggestions_370 rfl ?_
    refine z_imul hF dL_suggestions_372 ?_
    refine z_top (pk_mul 3 i) ?_
    refine z_iconst (v := nI 1) hF dL_suggestions_373 (by decide) ?_
    refine z_iadd hF dL_suggestions_374 ?_
    refine z_top (nI_add (3 * i) 1) ?_
    refine z_iald (k := 3 * i + 1) hF 20 rfl (rfl) (by omega) rfl dL_suggestions_375 ?_
    refine z_top (y := xc i) (gF_l1 _ _ _ _) ?_
    refine z_top (y := nI z) hz ?_
    refine z_istore (lv' := [some (.ref d0), some (.int (nI act)), some (.int x), some (.ref zd), some (.ref ze), some (.ref zc), some (.ref zg), some (.ref zt), some (.ref zq), some (.int (nI i)), some (.int (numF (B (8 + i)) (E (8 + i)))), some (.int (nI 1)), some (.int (nI z)), none, none]) hF dL_suggestions_376 rfl rfl ?_
    refine z_iload hF dL_suggestions_378 rfl ?_
    refine z_bipush (v := nI 100) hF dL_suggestions_380 (by decide) ?_
    refine z_irem hF dL_suggestions_382 (by decide) ?_
    refine z_top (y := nI q) (((num_dec hn (hRG (8 + i) (by omega))).2 (by rw [hBp]; exact nI_m1 (by omega))).2.trans hEq) ?_
    refine z_iload hF dL_suggestions_383 rfl ?_
    refine z_bipush (v := nI 100) hF dL_suggestions_385 (by decide) ?_
    refine z_idiv hF dL_suggestions_387 (by decide) ?_
    refine z_top (y := nI p) (((num_dec hn (hRG (8 + i) (by omega))).2 (by rw [hBp]; exact nI_m1 (by omega))).1.trans hBp) ?_
    refine z_isub hF dL_suggestions_388 ?_
    refine z_top (pk_sub (by omega)) ?_
    refine z_istore (lv' := [some (.ref d0), some (.int (nI act)), some (.int x), some (.ref zd), some (.ref ze), some (.ref zc), some (.ref zg), some (.ref zt), some (.ref zq), some (.int (nI i)), some (.int (numF (B (8 + i)) (E (8 + i)))), some (.int (nI 1)), some (.int (nI z)), some (.int (nI (q - p))), none]) hF dL_suggestions_389 rfl rfl ?_
    refine z_iload hF dL_suggestions_391 rfl ?_
    refine z_if_eq (tgt := 446) hF dL_suggestions_393 (by decide) (fun c_4 => absurd c_4 (by decide)) (fun c_4 => ?_)
    refine z_iload hF dL_suggestions_396 rfl ?_
    refine z_aload hF dL_suggestions_398 rfl ?_
    refine z_aload hF dL_suggestions_400 rfl ?_
    refine z_aload hF dL_suggestions_402 rfl ?_
    refine z_S (As := [.int (nI i), .ref ze, .ref zg, .ref zq]) (rest := []) (ws' := [(d0, .inr (4, [.ref t0, .ref r0, .ref q0, .ref y0, .ref d1, .int o, .int (nI v), .ref u0, .ref d2, .ref d3, .ref d4])), (y0, .inr (0, [.ref y1])), (y1, eI G 3600 h), (r0, .inr (2, [.ref r1, .ref r2, .ref r3, .int (nI m)])), (r1, eI G 12 b), (r2, eI G 12 e), (r3, eI G 12 s), (u0, .inr (2, [.ref u1, .ref u2, .ref u3, .int (nI j)])), (u1, eI G 12 b2), (u2, eI G 12 e2), (u3, eI G 12 s2), (t0, .inr (3, [.ref t1, .ref t2, .int (nI n)])), (t1, eI G 60 f), (t2, eI G 60 g), (d2, eI G 10 xl), (d3, eI G 10 xc), (d4, eI G 10 xs), (zd, eI G 60 f), (ze, eI G 60 le), (zc, eI G 36 (cF s op an qs qa qb)), (zg, eI G 18 (gF xl xc xs)), (zt, eI G 64 lt), (zq, eI G 4 (qF n v m j))]) (st2 := [.int (ovF b2 e2 xs i j)]) (c2 := 0) (s2 := 0) hF (c_L_overlaps G ze zg zq n v m j i le xl xc xs B E b2 e2 (by first | assumption | omega) (by first | assumption | omega) (by first | assumption | omega) (by first | assumption | omega) (by first | assumption | omega) (by first | assumption | omega) (by first | assumption | omega) (by first | assumption | omega) (by first | assumption | omega)) gL_suggestions_L_overlaps rfl rfl rfl hs_L_overlaps ⟨⟨Nat.le_of_ble_eq_true rfl, Nat.le_of_ble_eq_true rfl⟩, ⟨Nat.le_of_ble_eq_true rfl, Nat.le_of_ble_eq_true rfl⟩, Nat.le_of_ble_eq_true rfl⟩ [18, 20, 22] rfl rfl rfl rfl rfl rfl rfl rfl rfl rfl dL_suggestions_404 ?_
    refine z_if_ne (tgt := 446) hF dL_suggestions_407 (by decide) (fun c_5 => absurd c_5 (not_not_intro ho)) (fun c_5 => ?_)
    refine z_aload hF dL_suggestions_410 rfl ?_
    refine z_iconst (v := nI 0) hF dL_suggestions_412 (by decide) ?_
    refine z_iald (k := 0) hF 22 rfl (rfl) (by omega) rfl dL_suggestions_413 ?_
    refine z_top (y := nI n) (rfl) ?_
    refine z_iload hF dL_suggestions_414 rfl ?_
    refine z_isub hF dL_suggestions_416 ?_
    refine z_top (pk_sub (by omega)) ?_
    refine z_iload hF dL_suggestions_417 rfl ?_
    refine z_iadd hF dL_suggestions_419 ?_
    refine z_top (nI_add (n - (q - p)) z) ?_
    refine z_bipush (v := nI 60) hF dL_suggestions_420 (by decide) ?_
    refine z_icn_gt (tgt := 446) hF (by omega) (by omega) dL_suggestions_422 (by decide) (fun c_6 => absurd c_6 (by omega)) (fun c_6 => ?_)
    refine z_aload hF dL_suggestions_425 rfl ?_
    refine z_iconst (v := nI 1) hF dL_suggestions_427 (by decide) ?_
    refine z_iald (k := 1) hF 22 rfl (rfl) (by omega) rfl dL_suggestions_428 ?_
    refine z_top (y := nI v) (rfl) ?_
    refine z_iload hF dL_suggestions_429 rfl ?_
    refine z_ifn_le (tgt := 438) hF (by omega) dL_suggestions_431 (by decide) (fun c_7 => absurd c_7 (by omega)) (fun c_7 => ?_)
    refine z_iconst (v := nI 2) hF dL_suggestions_434 (by decide) ?_
    refine z_goto (tgt := 439) hF dL_suggestions_435 (by decide) ?_
    refine z_iadd hF dL_suggestions_439 ?_
    refine z_top (nI_add v 2) ?_
    refine z_sipush (v := nI 300) hF dL_suggestions_440 (by decide) ?_
    refine z_icn_le (tgt := 466) hF (by omega) (by omega) dL_suggestions_443 (by decide) (fun c_8 => ?_) (fun c_8 => absurd c_8 (by omega))
    refine z_iload hF dL_suggestions_466 rfl ?_
    refine z_bipush (v := nI 100) hF dL_suggestions_468 (by decide) ?_
    refine z_idiv hF dL_suggestions_470 (by decide) ?_
    refine z_top (y := nI p) (((num_dec hn (hRG (8 + i) (by omega))).2 (by rw [hBp]; exact nI_m1 (by omega))).1.trans hBp) ?_
    refine z_iload hF dL_suggestions_471 rfl ?_
    refine z_iload hF dL_suggestions_473 rfl ?_
    refine z_aload_n hF dL_suggestions_475 rfl ?_
    refine z_aload hF dL_suggestions_476 rfl ?_
    refine z_aload hF dL_suggestions_478 rfl ?_
    refine z_aload hF dL_suggestions_480 rfl ?_
    refine z_aload hF dL_suggestions_482 rfl ?_
    refine z_S (As := [.int (nI p), .int (nI (q - p)), .int (nI i), .ref zd, .ref ze, .ref zg, .ref zt, .ref zq]) (rest := []) (ws' := [(d0, .inr (4, [.ref t0, .ref r0, .ref q0, .ref y0, .ref d1, .int o, .int (nI v), .ref u0, .ref d2, .ref d3, .ref d4])), (y0, .inr (0, [.ref y1])), (y1, eI G 3600 h), (r0, .inr (2, [.ref r1, .ref r2, .ref r3, .int (nI m)])), (r1, eI G 12 b), (r2, eI G 12 e), (r3, eI G 12 s), (u0, .inr (2, [.ref u1, .ref u2, .ref u3, .int (nI j)])), (u1, eI G 12 b2), (u2, eI G 12 e2), (u3, eI G 12 s2), (t0, .inr (3, [.ref t1, .ref t2, .int (nI n)])), (t1, eI G 60 f), (t2, eI G 60 g), (d2, eI G 10 xl), (d3, eI G 10 xc), (d4, eI G 10 xs), (zd, eI G 60 (va_cpy f f (p + (q - p)) p (n - (p + (q - p))))), (ze, eI G 60 (va_cpy le le (p + (q - p)) p (n - (p + (q - p))))), (zc, eI G 36 (cF s op an qs qa qb)), (zg, eI G 18 (gF xl xc (mpF j (gneF (nI i) B (remB (nI p) (nI (q - p)) B E) xs) xs))), (zt, eI G 64 (wrF lt (8 * ((v + 1) % 8)) 8 (fun kk => numF ((remB (nI p) (nI (q - p)) B E) kk) ((remE (nI p) (nI (q - p)) B E) kk)))), (zq, eI G 4 (qF (n - (q - p)) (v + 1) m j))]) (st2 := [.int (nI (cntF (fun kk => ¬ B kk = -1 ∧ (remB (nI p) (nI (q - p)) B E) kk = -1) m))]) (c2 := 0) (s2 := 0) hF (c_L_removes G zd ze zg zt zq n v m j p (q - p) (nI i) f le xl xc xs lt B E (by first | assumption | omega) (by first | assumption | omega) (by first | assumption | omega) (by first | assumption | omega) (by first | assumption | omega) (by first | assumption | omega) (by first | assumption | omega) (by first | assumption | omega)) gL_suggestions_L_removes rfl rfl rfl hs_L_removes ⟨⟨Nat.le_of_ble_eq_true rfl, Nat.le_of_ble_eq_true rfl⟩, ⟨Nat.le_of_ble_eq_true rfl, Nat.le_of_ble_eq_true rfl⟩, Nat.le_of_ble_eq_true rfl⟩ [17, 18, 20, 21, 22] rfl rfl rfl rfl rfl rfl rfl rfl rfl rfl dL_suggestions_484 ?_
    refine z_istore (lv' := [some (.ref d0), some (.int (nI act)), some (.int x), some (.ref zd), some (.ref ze), some (.ref zc), some (.ref zg), some (.ref zt), some (.ref zq), some (.int (nI i)), some (.int (numF (B (8 + i)) (E (8 + i)))), some (.int (nI 1)), some (.int (nI z)), some (.int (nI (q - p))), some (.int (nI (cntF (fun kk => ¬ B kk = -1 ∧ (remB (nI p) (nI (q - p)) B E) kk = -1) m)))]) hF dL_suggestions_487 rfl rfl ?_
    refine z_aload hF dL_suggestions_489 rfl ?_
    refine z_iconst (v := nI 3) hF dL_suggestions_491 (by decide) ?_
    refine z_iload hF dL_suggestions_492 rfl ?_
    refine z_imul hF dL_suggestions_494 ?_
    refine z_top (pk_mul 3 i) ?_
    refine z_iconst (v := nI 2) hF dL_suggestions_495 (by decide) ?_
    refine z_iadd hF dL_suggestions_496 ?_
    refine z_top (nI_add (3 * i) 2) ?_
    refine z_iconst (v := nI 1) hF dL_suggestions_497 (by decide) ?_
    refine z_iast (k := 3 * i + 2) (ws' := [(d0, .inr (4, [.ref t0, .ref r0, .ref q0, .ref y0, .ref d1, .int o, .int (nI v), .ref u0, .ref d2, .ref d3, .ref d4])), (y0, .inr (0, [.ref y1])), (y1, eI G 3600 h), (r0, .inr (2, [.ref r1, .ref r2, .ref r3, .int (nI m)])), (r1, eI G 12 b), (r2, eI G 12 e), (r3, eI G 12 s), (u0, .inr (2, [.ref u1, .ref u2, .ref u3, .int (nI j)])), (u1, eI G 12 b2), (u2, eI G 12 e2), (u3, eI G 12 s2), (t0, .inr (3, [.ref t1, .ref t2, .int (nI n)])), (t1, eI G 60 f), (t2, eI G 60 g), (d2, eI G 10 xl), (d3, eI G 10 xc), (d4, eI G 10 xs), (zd, eI G 60 (va_cpy f f (p + (q - p)) p (n - (p + (q - p))))), (ze, eI G 60 (va_cpy le le (p + (q - p)) p (n - (p + (q - p))))), (zc, eI G 36 (cF s op an qs qa qb)), (zg, eI G 18 (upd (gF xl xc (mpF j (gneF (nI i) B (remB (nI p) (nI (q - p)) B E) xs) xs)) (3 * i + 2) (nI 1))), (zt, eI G 64 (wrF lt (8 * ((v + 1) % 8)) 8 (fun kk => numF ((remB (nI p) (nI (q - p)) B E) kk) ((remE (nI p) (nI (q - p)) B E) kk)))), (zq, eI G 4 (qF (n - (q - p)) (v + 1) m j))]) hF 20 rfl (rfl) (by omega) rfl rfl dL_suggestions_498 ?_
    refine z_ws (ws' := [(d0, .inr (4, [.ref t0, .ref r0, .ref q0, .ref y0, .ref d1, .int o, .int (nI v), .ref u0, .ref d2, .ref d3, .ref d4])), (y0, .inr (0, [.ref y1])), (y1, eI G 3600 h), (r0, .inr (2, [.ref r1, .ref r2, .ref r3, .int (nI m)])), (r1, eI G 12 b), (r2, eI G 12 e), (r3, eI G 12 s), (u0, .inr (2, [.ref u1, .ref u2, .ref u3, .int (nI j)])), (u1, eI G 12 b2), (u2, eI G 12 e2), (u3, eI G 12 s2), (t0, .inr (3, [.ref t1, .ref t2, .int (nI n)])), (t1, eI G 60 f), (t2, eI G 60 g), (d2, eI G 10 xl), (d3, eI G 10 xc), (d4, eI G 10 xs), (zd, eI G 60 (va_cpy f f (p + (q - p)) p (n - (p + (q - p))))), (ze, eI G 60 (va_cpy le le (p + (q - p)) p (n - (p + (q - p))))), (zc, eI G 36 (cF s op an qs qa qb)), (zg, eI G 18 (gF xl xc (mpF j (lgF (gonF (nI p) (nI (q - p)) b2 e2 j) (upd xs i (nI 1))) (upd xs i (nI 1))))), (zt, eI G 64 (wrF lt (8 * ((v + 1) % 8)) 8 (fun kk => numF ((remB (nI p) (nI (q - p)) B E) kk) ((remE (nI p) (nI (q - p)) B E) kk)))), (zq, eI G 4 (qF (n - (q - p)) (v + 1) m j))]) (by rw [gF_s2, acc_g hn (by omega) hj hij hRG hBs]) ?_
    refine z_iload hF dL_suggestions_499 rfl ?_
    refine z_ifn_le (tgt := 530) hF (by omega) dL_suggestions_501 (by decide) (fun c_9 => absurd c_9 (by omega)) (fun c_9 => ?_)
    refine z_iload hF dL_suggestions_504 rfl ?_
    refine z_bipush (v := nI 100) hF dL_suggestions_506 (by decide) ?_
    refine z_idiv hF dL_suggestions_508 (by decide) ?_
    refine z_top (y := nI p) (((num_dec hn (hRG (8 + i) (by omega))).2 (by rw [hBp]; exact nI_m1 (by omega))).1.trans hBp) ?_
    refine z_aload hF dL_suggestions_509 rfl ?_
    refine z_iconst (v := nI 3) hF dL_suggestions_511 (by decide) ?_
    refine z_iload hF dL_suggestions_512 rfl ?_
    refine z_imul hF dL_suggestions_514 ?_
    refine z_top (pk_mul 3 i) ?_
    refine z_iald (k := 3 * i) hF 20 rfl (rfl) (by omega) rfl dL_suggestions_515 ?_
    refine z_top (y := xl i) (gF_l0 _ _ _ _) ?_
    refine z_iload hF dL_suggestions_516 rfl ?_
    refine z_aload_n hF dL_suggestions_518 rfl ?_
    refine z_aload hF dL_suggestions_519 rfl ?_
    refine z_aload hF dL_suggestions_521 rfl ?_
    refine z_aload hF dL_suggestions_523 rfl ?_
    refine z_aload hF dL_suggestions_525 rfl ?_
    refine z_S (As := [.int (nI p), .int (xl i), .int (nI z), .ref zd, .ref ze, .ref zc, .ref zt, .ref zq]) (rest := []) (ws' := [(d0, .inr (4, [.ref t0, .ref r0, .ref q0, .ref y0, .ref d1, .int o, .int (nI v), .ref u0, .ref d2, .ref d3, .ref d4])), (y0, .inr (0, [.ref y1])), (y1, eI G 3600 h), (r0, .inr (2, [.ref r1, .ref r2, .ref r3, .int (nI m)])), (r1, eI G 12 b), (r2, eI G 12 e), (r3, eI G 12 s), (u0, .inr (2, [.ref u1, .ref u2, .ref u3, .int (nI j)])), (u1, eI G 12 b2), (u2, eI G 12 e2), (u3, eI G 12 s2), (t0, .inr (3, [.ref t1, .ref t2, .int (nI n)])), (t1, eI G 60 f), (t2, eI G 60 g), (d2, eI G 10 xl), (d3, eI G 10 xc), (d4, eI G 10 xs), (zd, eI G 60 (filF (va_cpy (va_cpy f f (p + (q - p)) p (n - (p + (q - p)))) (va_cpy f f (p + (q - p)) p (n - (p + (q - p)))) p (p + z) ((n - (q - p)) - p)) p (p + z) (xl i))), (ze, eI G 60 (filF (va_cpy (va_cpy le le (p + (q - p)) p (n - (p + (q - p)))) (va_cpy le le (p + (q - p)) p (n - (p + (q - p)))) p (p + z) ((n - (q - p)) - p)) p (p + z) (covF (insB (nI p) (nI z) (remB (nI p) (nI (q - p)) B E) (stF m s)) (insE (nI p) (nI z) (remB (nI p) (nI (q - p)) B E) (remE (nI p) (nI (q - p)) B E) (stF m s)) 14 (nI p)))), (zc, eI G 36 (cF s op an qs qa qb)), (zg, eI G 18 (gF xl xc (mpF j (lgF (gonF (nI p) (nI (q - p)) b2 e2 j) (upd xs i (nI 1))) (upd xs i (nI 1))))), (zt, eI G 64 (wrF (wrF lt (8 * ((v + 1) % 8)) 8 (fun kk => numF ((remB (nI p) (nI (q - p)) B E) kk) ((remE (nI p) (nI (q - p)) B E) kk))) (8 * (((v + 1) + 1) % 8)) 8 (fun kk => numF (insB (nI p) (nI z) (remB (nI p) (nI (q - p)) B E) (stF m s) kk) (insE (nI p) (nI z) (remB (nI p) (nI (q - p)) B E) (remE (nI p) (nI (q - p)) B E) (stF m s) kk)))), (zq, eI G 4 (qF ((n - (q - p)) + z) ((v + 1) + 1) m j))]) (st2 := []) (c2 := 0) (s2 := 0) hF (c_L_inserts G zd ze zc zt zq (n - (q - p)) (v + 1) m j p z (xl i) (va_cpy f f (p + (q - p)) p (n - (p + (q - p)))) (va_cpy le le (p + (q - p)) p (n - (p + (q - p)))) s op an qs qa qb (wrF lt (8 * ((v + 1) % 8)) 8 (fun kk => numF ((remB (nI p) (nI (q - p)) B E) kk) ((remE (nI p) (nI (q - p)) B E) kk))) (remB (nI p) (nI (q - p)) B E) (remE (nI p) (nI (q - p)) B E) (by first | assumption | omega) (by first | assumption | omega) (by first | assumption | omega) (by first | assumption | omega) (by first | assumption | omega) (by first | assumption | omega) (by first | assumption | omega) (by first | assumption | omega) (rg_rem hn (by omega) hRG) (le_rem hn (by omega) hRG hE) (fun i1 h1 h2 => rem_m1 (hB0 i1 h1 h2)) (fun i1 h1 h2 => rem_m1 (hB2 i1 h1 h2))) gL_suggestions_L_inserts rfl rfl rfl hs_L_inserts ⟨⟨Nat.le_of_ble_eq_true rfl, Nat.le_of_ble_eq_true rfl⟩, ⟨Nat.le_of_ble_eq_true rfl, Nat.le_of_ble_eq_true rfl⟩, Nat.le_of_ble_eq_true rfl⟩ [17, 18, 19, 21, 22] rfl rfl rfl rfl rfl rfl rfl rfl rfl rfl dL_suggestions_527 ?_
    have hcl := cntF_le (P := fun kk => ¬ B kk = -1 ∧ (remB (nI p) (nI (q - p)) B E) kk = -1) m
    refine z_aload_n hF dL_suggestions_530 rfl ?_
    refine z_iconst (v := nI 2) hF dL_suggestions_531 (by decide) ?_
    refine z_iload hF dL_suggestions_532 rfl ?_
    refine z_iconst (v := nI 0) hF dL_suggestions_534 (by decide) ?_
    refine z_iconst (v := nI 0) hF dL_suggestions_535 (by decide) ?_
    refine z_SW (As := [.ref d0, .int (nI 2), .int (nI i), .int (nI 0), .int (nI 0)]) (rest := []) (ws' := [(d0, .inr (4, [.ref t0, .ref r0, .ref q0, .ref y0, .ref d1, .int o, .int (nI ((v + 1) + 1)), .ref u0, .ref d2, .ref d3, .ref d4])), (y0, .inr (0, [.ref y1])), (y1, eI G 3600 (wrF (wrF h (v * 12) 12 (fun kk => if kk < m then numF (b kk) (e kk) else -1)) ((v + 1) * 12) 12 (fun kk => if kk < m then numF ((mpF m (remB (nI p) (nI (q - p)) b e) b) kk) ((mpF m (remE (nI p) (nI (q - p)) b e) e) kk) else -1))), (r0, .inr (2, [.ref r1, .ref r2, .ref r3, .int (nI m)])), (r1, eI G 12 (mpF m (insB (nI p) (nI z) (mpF m (remB (nI p) (nI (q - p)) b e) b) s) (mpF m (remB (nI p) (nI (q - p)) b e) b))), (r2, eI G 12 (mpF m (insE (nI p) (nI z) (mpF m (remB (nI p) (nI (q - p)) b e) b) (mpF m (remE (nI p) (nI (q - p)) b e) e) s) (mpF m (remE (nI p) (nI (q - p)) b e) e))), (r3, eI G 12 s), (u0, .inr (2, [.ref u1, .ref u2, .ref u3, .int (nI j)])), (u1, eI G 12 (mpF j (insB (nI p) (nI z) (mpF j (remB (nI p) (nI (q - p)) b2 e2) b2) s2) (mpF j (remB (nI p) (nI (q - p)) b2 e2) b2))), (u2, eI G 12 (mpF j (insE (nI p) (nI z) (mpF j (remB (nI p) (nI (q - p)) b2 e2) b2) (mpF j (remE (nI p) (nI (q - p)) b2 e2) e2) s2) (mpF j (remE (nI p) (nI (q - p)) b2 e2) e2))), (u3, eI G 12 s2), (t0, .inr (3, [.ref t1, .ref t2, .int (nI ((n - (q - p)) + z))])), (t1, eI G 60 (filF (va_cpy (va_cpy f f (p + (q - p)) p (n - (p + (q - p)))) (va_cpy f f (p + (q - p)) p (n - (p + (q - p)))) p (p + z) ((n - (q - p)) - p)) p (p + z) (xl i))), (t2, eI G 60 (mrkF (filF (va_cpy (va_cpy g g (p + (q - p)) p (n - (p + (q - p)))) (va_cpy g g (p + (q - p)) p (n - (p + (q - p)))) p (p + z) ((n - (q - p)) - p)) p (p + z) (nI 0)) p (p + z) (covF (mpF m (insB (nI p) (nI z) (mpF m (remB (nI p) (nI (q - p)) b e) b) s) (mpF m (remB (nI p) (nI (q - p)) b e) b)) (mpF m (insE (nI p) (nI z) (mpF m (remB (nI p) (nI (q - p)) b e) b) (mpF m (remE (nI p) (nI (q - p)) b e) e) s) (mpF m (remE (nI p) (nI (q - p)) b e) e)) m (nI p)))), (d2, eI G 10 xl), (d3, eI G 10 xc), (d4, eI G 10 (mpF j (lgF (gonF (nI p) (nI (q - p)) b2 e2 j) (upd xs i (nI 1))) (upd xs i (nI 1)))), (zd, eI G 60 (filF (va_cpy (va_cpy f f (p + (q - p)) p (n - (p + (q - p)))) (va_cpy f f (p + (q - p)) p (n - (p + (q - p)))) p (p + z) ((n - (q - p)) - p)) p (p + z) (xl i))), (ze, eI G 60 (filF (va_cpy (va_cpy le le (p + (q - p)) p (n - (p + (q - p)))) (va_cpy le le (p + (q - p)) p (n - (p + (q - p)))) p (p + z) ((n - (q - p)) - p)) p (p + z) (covF (insB (nI p) (nI z) (remB (nI p) (nI (q - p)) B E) (stF m s)) (insE (nI p) (nI z) (remB (nI p) (nI (q - p)) B E) (remE (nI p) (nI (q - p)) B E) (stF m s)) 14 (nI p)))), (zc, eI G 36 (cF s op an qs qa qb)), (zg, eI G 18 (gF xl xc (mpF j (lgF (gonF (nI p) (nI (q - p)) b2 e2 j) (upd xs i (nI 1))) (upd xs i (nI 1))))), (zt, eI G 64 (wrF (wrF lt (8 * ((v + 1) % 8)) 8 (fun kk => numF ((remB (nI p) (nI (q - p)) B E) kk) ((remE (nI p) (nI (q - p)) B E) kk))) (8 * (((v + 1) + 1) % 8)) 8 (fun kk => numF (insB (nI p) (nI z) (remB (nI p) (nI (q - p)) B E) (stF m s) kk) (insE (nI p) (nI z) (remB (nI p) (nI (q - p)) B E) (remE (nI p) (nI (q - p)) B E) (stF m s) kk)))), (zq, eI G 4 (qF ((n - (q - p)) + z) ((v + 1) + 1) m j))]) (st2 := [.int (nI ((n - (q - p)) + z))]) (c2 := 0) (s2 := 0) hF (c_L_calls_acc1 G d0 t0 r0 q0 y0 d1 u0 d2 d3 d4 v o t1 t2 n f g r1 r2 r3 m b e s y1 h u1 u2 u3 j b2 e2 s2 xl xc xs i p q z (by first | assumption | omega) (by first | assumption | omega) (by first | assumption | omega) (by first | assumption | omega) (by first | assumption | omega) (by first | assumption | omega) (hbp) (heq) (by first | assumption | omega) (by first | assumption | omega) (by first | assumption | omega) (by first | assumption | omega) (by first | assumption | omega) (by first | assumption | omega) (by first | assumption | omega)) gL_suggestions_L_calls rfl rfl rfl hs_L_calls ⟨⟨Nat.le_of_ble_eq_true rfl, Nat.le_of_ble_eq_true rfl⟩, ⟨Nat.le_of_ble_eq_true rfl, Nat.le_of_ble_eq_true rfl⟩, Nat.le_of_ble_eq_true rfl⟩ [0, 1, 2, 3, 4, 5, 6, 7, 8, 9, 10, 11, 12, 13, 14, 15, 16] rfl rfl rfl rfl rfl rfl rfl rfl rfl rfl dL_suggestions_536 ?_
    refine z_aload hF dL_suggestions_539 rfl ?_
    refine z_iconst (v := nI 0) hF dL_suggestions_541 (by decide) ?_
    refine z_iald (k := 0) hF 22 rfl (rfl) (by omega) rfl dL_suggestions_542 ?_
    refine z_top (y := nI ((n - (q - p)) + z)) (rfl) ?_
    refine z_icn_ne (tgt := 555) hF (by omega) (by omega) dL_suggestions_543 (by decide) (fun c_10 => absurd c_10 (not_not_intro rfl)) (fun c_10 => ?_)
    refine z_iload hF dL_suggestions_546 rfl ?_
    refine z_if_lt (tgt := 555) hF dL_suggestions_548 (by decide) (fun c_11 => absurd c_11 (Int32.not_lt.mpr (nI_pos' (by omega)))) (fun c_11 => ?_)
    refine z_iconst (v := nI 1) hF dL_suggestions_551 (by decide) ?_
    refine z_goto (tgt := 556) hF dL_suggestions_552 (by decide) ?_
    exact hR.i dL_suggestions_556 (Nat.le_of_ble_eq_true rfl) (Nat.le_of_ble_eq_true rfl) (rfl) (rfl)
  refine z_iload_n hF dL_suggestions_0 rfl ?_
  refine z_ifn_eq (tgt := 11) hF (by omega) dL_suggestions_1 (by decide) (fun h1 => ?_) (fun h1 => ?_)
  · refine z_aload hF dL_suggestions_11 rfl ?_
    refine z_iconst (v := nI 3) hF dL_suggestions_13 (by decide) ?_
    refine z_iald (k := 3) hF 22 rfl (rfl) (by omega) rfl dL_suggestions_14 ?_
    refine z_top (y := nI j) (rfl) ?_
    refine z_bipush (v := nI 6) hF dL_suggestions_15 (by decide) ?_
    refine z_icn_ge (tgt := 210) hF (by omega) (by omega) dL_suggestions_17 (by decide) (fun c_12 => ?_) (fun c_12 => absurd c_12 (fun h => hact ⟨h1, h⟩))
    exact J_210  
  · refine z_aload hF dL_suggestions_4 rfl ?_
    refine z_iconst (v := nI 3) hF dL_suggestions_6 (by decide) ?_
    refine z_iald (k := 3) hF 22 rfl (rfl) (by omega) rfl dL_suggestions_7 ?_
    refine z_top (y := nI j) (rfl) ?_
    refine z_ifn_ne (tgt := 210) hF (by omega) dL_suggestions_8 (by decide) (fun c_13 => ?_) (fun c_13 => absurd c_13 (by omega))
    exact J_210  
