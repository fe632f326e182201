set_option maxHeartbeats 4000000 in
set_option maxRecDepth 100000 in
theorem c_L_sug_accr (G : zG) (d0 t0 r0 q0 y0 d1 u0 d2 d3 d4 v : Nat) (o : Int32) (t1 t2 n : Nat) (u1 u2 u3 j : Nat) (b2 : Nat → Int32) (e2 : Nat → Int32) (xc : Nat → Int32) (xs : Nat → Int32) (zd ze zc zg zt zq m : Nat) (f le s op an qs qa qb xl lt B E : Nat → Int32) (x : Int32) (act i p q z : Nat) (hn : n ≤ 60) (hm : m ≤ 6) (hj : j ≤ 6) (hi : lowN x j = i) (hij : i < j) (hact9 : act < 14) (hact : ¬ (act = 0 ∧ j < 6)) (hRG : RGa n B E) (hE : LEa n le B E) (hact1 : ¬ act = 1) (h0 : xs i = 0) (hbp : b2 i = nI p) (heq : e2 i = nI q) (hpq : p < q) (hqn : q ≤ n) (hz : xc i = nI z) (hz5 : z ≤ 5) (hB2 : ∀ i, 8 + j ≤ i → i < 14 → B i = -1) (hw : ∀ k, k < j → xs k = 0 → ¬ B (8 + k) = -1) (hBs : ∀ i, i < j → B (8 + i) = b2 i ∧ E (8 + i) = e2 i) (ho : ovF b2 e2 xs i j = 0) (hr : 60 < n - (q - p) + z) : zM G yL_suggestions wsL_suggestions ({ frames := 9, cells := 1, slots := 6, locals := 161 }) [.ref d0, .int (nI act), .int x, .ref zd, .ref ze, .ref zc, .ref zg, .ref zt, .ref zq] [(d0, .inr (4, [.ref t0, .ref r0, .ref q0, .ref y0, .ref d1, .int o, .int (nI v), .ref u0, .ref d2, .ref d3, .ref d4])), (u0, .inr (2, [.ref u1, .ref u2, .ref u3, .int (nI j)])), (u1, eI G 12 b2), (u2, eI G 12 e2), (t0, .inr (3, [.ref t1, .ref t2, .int (nI n)])), (d3, eI G 10 xc), (d4, eI G 10 xs), (zd, eI G 60 f), (ze, eI G 60 le), (zc, eI G 36 (cF s op an qs qa qb)), (zg, eI G 18 (gF xl xc xs)), (zt, eI G 64 lt), (zq, eI G 4 (qF n v m j))] [(d0, .inr (4, [.ref t0, .ref r0, .ref q0, .ref y0, .ref d1, .int o, .int (nI v), .ref u0, .ref d2, .ref d3, .ref d4])), (u0, .inr (2, [.ref u1, .ref u2, .ref u3, .int (nI j)])), (u1, eI G 12 b2), (u2, eI G 12 e2), (t0, .inr (3, [.ref t1, .ref t2, .int (nI n)])), (d3, eI G 10 xc), (d4, eI G 10 xs), (zd, eI G 60 f), (ze, eI G 60 le), (zc, eI G 36 (cF s op an qs qa qb)), (zg, eI G 18 (gF xl xc xs)), (zt, eI G 64 lt), (zq, eI G 4 (qF n v m j))] (some (.int (nI 1))) 1 6 := by
  refine zM.ofI (own := RL) (cc := cL_suggestions) (maxL := 15) rfl (by decide) rfl rfl (by simp [Value.category]) (Nat.le_of_ble_eq_true rfl) ?_
  intro X hF hR
  refine z_lv (lv' := [some (.ref d0), some (.int (nI act)), some (.int x), some (.ref zd), some (.ref ze), some (.ref zc), some (.ref zg), some (.ref zt), some (.ref zq), none, none, none, none, none, none]) rfl ?_
  have J_210 : zJ G X 210 [(d0, .inr (4, [.ref t0, .ref r0, .ref q0, .ref y0, .ref d1, .int o, .int (nI v), .ref u0, .ref d2, .ref d3, .ref d4])), (u0, .inr (2, [.ref u1, .ref u2, .ref u3, .int (nI j)])), (u1, eI G 12 b2), (u2, eI G 12 e2), (t0, .inr (3, [.ref t1, .ref t2, .int (nI n)])), (d3, eI G 10 xc), (d4, eI G 10 xs), (zd, eI G 60 f), (ze, eI G 60 le), (zc, eI G 36 (cF s op an qs qa qb)), (zg, eI G 18 (gF xl xc xs)), (zt, eI G 64 lt), (zq, eI G 4 (qF n v m j))] [some (.ref d0), some (.int (nI act)), some (.int x), some (.ref zd), some (.ref ze), some (.ref zc), some (.ref zg), some (.ref zt), some (.ref zq), none, none, none, none, none, none] [] 0 0 := by
    refine z_aload hF dL_suggestions_210 rfl ?_
    refine z_iconst (v := nI 3) hF dL_suggestions_212 (by decide) ?_
    refine z_iald (k := 3) hF 12 rfl (rfl) (by omega) rfl dL_suggestions_213 ?_
    refine z_top (y := nI j) (rfl) ?_
    refine z_ifn_ne (tgt := 219) hF (by omega) dL_suggestions_214 (by decide) (fun c_1 => ?_) (fun c_1 => absurd c_1 (by omega))
    refine z_iload_n hF dL_suggestions_219 rfl ?_
    refine z_aload hF dL_suggestions_220 rfl ?_
    refine z_iconst (v := nI 3) hF dL_suggestions_222 (by decide) ?_
    refine z_iald (k := 3) hF 12 rfl (rfl) (by omega) rfl dL_suggestions_223 ?_
    refine z_top (y := nI j) (rfl) ?_
    refine z_S (As := [.int x, .int (nI j)]) (rest := []) (ws' := [(d0, .inr (4, [.ref t0, .ref r0, .ref q0, .ref y0, .ref d1, .int o, .int (nI v), .ref u0, .ref d2, .ref d3, .ref d4])), (u0, .inr (2, [.ref u1, .ref u2, .ref u3, .int (nI j)])), (u1, eI G 12 b2), (u2, eI G 12 e2), (t0, .inr (3, [.ref t1, .ref t2, .int (nI n)])), (d3, eI G 10 xc), (d4, eI G 10 xs), (zd, eI G 60 f), (ze, eI G 60 le), (zc, eI G 36 (cF s op an qs qa qb)), (zg, eI G 18 (gF xl xc xs)), (zt, eI G 64 lt), (zq, eI G 4 (qF n v m j))]) (st2 := [.int (nI (lowN x j))]) (c2 := 0) (s2 := 0) hF (c_L_low G x j (by first | assumption | omega) (by first | assumption | omega)) gL_suggestions_L_low rfl rfl rfl hs_L_low ⟨⟨Nat.le_of_ble_eq_true rfl, Nat.le_of_ble_eq_true rfl⟩, ⟨Nat.le_of_ble_eq_true rfl, Nat.le_of_ble_eq_true rfl⟩, Nat.le_of_ble_eq_true rfl⟩ [] rfl rfl rfl rfl rfl rfl rfl rfl rfl rfl dL_suggestions_224 ?_
    refine z_istore (lv' := [some (.ref d0), some (.int (nI act)), some (.int x), some (.ref zd), some (.ref ze), some (.ref zc), some (.ref zg), some (.ref zt), some (.ref zq), some (.int (nI (lowN x j))), none, none, none, none, none]) hF dL_suggestions_227 rfl rfl ?_
    refine z_lv (lv' := [some (.ref d0), some (.int (nI act)), some (.int x), some (.ref zd), some (.ref ze), some (.ref zc), some (.ref zg), some (.ref zt), some (.ref zq), some (.int (nI i)), none, none, none, none, none]) (by rw [hi]) ?_
    have hBp : B (8 + i) = nI p := (hBs i hij).1.trans hbp
    have hEq : E (8 + i) = nI q := (hBs i hij).2.trans heq
    refine z_bipush (v := nI 8) hF dL_suggestions_229 (by decide) ?_
    refine z_iload hF dL_suggestions_231 rfl ?_
    refine z_iadd hF dL_suggestions_233 ?_
    refine z_top (nI_add 8 i) ?_
    refine z_aload hF dL_suggestions_234 rfl ?_
    refine z_aload hF dL_suggestions_236 rfl ?_
    refine z_S (As := [.int (nI (8 + i)), .ref ze, .ref zq]) (rest := []) (ws' := [(d0, .inr (4, [.ref t0, .ref r0, .ref q0, .ref y0, .ref d1, .int o, .int (nI v), .ref u0, .ref d2, .ref d3, .ref d4])), (u0, .inr (2, [.ref u1, .ref u2, .ref u3, .int (nI j)])), (u1, eI G 12 b2), (u2, eI G 12 e2), (t0, .inr (3, [.ref t1, .ref t2, .int (nI n)])), (d3, eI G 10 xc), (d4, eI G 10 xs), (zd, eI G 60 f), (ze, eI G 60 le), (zc, eI G 36 (cF s op an qs qa qb)), (zg, eI G 18 (gF xl xc xs)), (zt, eI G 64 lt), (zq, eI G 4 (qF n v m j))]) (st2 := [.int (numF (B (8 + i)) (E (8 + i)))]) (c2 := 0) (s2 := 0) hF (c_L_range G ze zq n v m j (8 + i) le B E (by first | assumption | omega) (by first | assumption | omega) (by first | assumption | omega) (by first | assumption | omega)) gL_suggestions_L_range rfl rfl rfl hs_L_range ⟨⟨Nat.le_of_ble_eq_true rfl, Nat.le_of_ble_eq_true rfl⟩, ⟨Nat.le_of_ble_eq_true rfl, Nat.le_of_ble_eq_true rfl⟩, Nat.le_of_ble_eq_true rfl⟩ [8, 12] rfl rfl rfl rfl rfl rfl rfl rfl rfl rfl dL_suggestions_238 ?_
    refine z_istore (lv' := [some (.ref d0), some (.int (nI act)), some (.int x), some (.ref zd), some (.ref ze), some (.ref zc), some (.ref zg), some (.ref zt), some (.ref zq), some (.int (nI i)), some (.int (numF (B (8 + i)) (E (8 + i)))), none, none, none, none]) hF dL_suggestions_241 rfl rfl ?_
    refine z_aload hF dL_suggestions_243 rfl ?_
    refine z_iconst (v := nI 3) hF dL_suggestions_245 (by decide) ?_
    refine z_iload hF dL_suggestions_246 rfl ?_
    refine z_imul hF dL_suggestions_248 ?_
    refine z_top (pk_mul 3 i) ?_
    refine z_iconst (v := nI 2) hF dL_suggestions_249 (by decide) ?_
    refine z_iadd hF dL_suggestions_250 ?_
    refine z_top (nI_add (3 * i) 2) ?_
    refine z_iald (k := 3 * i + 2) hF 10 rfl (rfl) (by omega) rfl dL_suggestions_251 ?_
    refine z_top (y := xs i) (gF_l2 _ _ _ _) ?_
    refine z_if_ne (tgt := 259) hF dL_suggestions_252 (by decide) (fun c_2 => absurd c_2 (not_not_intro h0)) (fun c_2 => ?_)
    refine z_iconst (v := nI 1) hF dL_suggestions_255 (by decide) ?_
    refine z_goto (tgt := 260) hF dL_suggestions_256 (by decide) ?_
    refine z_istore (lv' := [some (.ref d0), some (.int (nI act)), some (.int x), some (.ref zd), some (.ref ze), some (.ref zc), some (.ref zg), some (.ref zt), some (.ref zq), some (.int (nI i)), some (.int (numF (B (8 + i)) (E (8 + i)))), some (.int (nI 1)), none, none, none]) hF dL_suggestions_260 rfl rfl ?_
    refine z_iload_n hF dL_suggestions_262 rfl ?_
    refine z_iconst (v := nI 1) hF dL_suggestions_263 (by decide) ?_
    refine z_icn_ne (tgt := 367) hF (by omega) (by omega) dL_suggestions_264 (by decide) (fun c_3 => ?_) (fun c_3 => absurd c_3 (hact1))
    refine z_aload hF dL_suggestions_367 rfl ?_
    refine z_iconst (v := nI 3) hF dL_suggestions_369 (by decide) ?_
    refine z_iload hF dL_suggestions_370 rfl ?_
    refine z_imul hF dL_suggestions_372 ?_
    refine z_top (pk_mul 3 i) ?_
    refine z_iconst (v := nI 1) hF dL_suggestions_373 (by decide) ?_
    refine z_iadd hF dL_suggestions_374 ?_
    refine z_top (nI_add (3 * i) 1) ?_
    refine z_iald (k := 3 * i + 1) hF 10 rfl (rfl) (by omega) rfl dL_suggestions_375 ?_
    refine z_top (y := xc i) (gF_l1 _ _ _ _) ?_
    refine z_top (y := nI z) hz ?_
    refine z_istore (lv' := [some (.ref d0), some (.int (nI act)), some (.int x), some (.ref zd), some (.ref ze), some (.ref zc), some (.ref zg), some (.ref zt), some (.ref zq), some (.int (nI i)), some (.int (numF (B (8 + i)) (E (8 + i)))), some (.int (nI 1)), some (.int (nI z)), none, none]) hF dL_suggestions_376 rfl rfl ?_
    refine z_iload hF dL_suggestions_378 rfl ?_
    refine z_bipush (v := nI 100) hF dL_suggestions_380 (by decide) ?_
    refine z_irem hF dL_suggestions_382 (by decide) ?_
    refine z_top (y := nI q) (((num_dec hn (hRG (8 + i) (by omega))).2 (by rw [hBp]; exact nI_m1 (by omega))).2.trans hEq) ?_
    refine z_iload hF dL_suggestions_383 rfl ?_
    refine z_bipush (v := nI 100) hF dL_suggestions_385 (by decide) ?_
    refine z_idiv hF dL_suggestions_387 (by decide) ?_
    refine z_top (y := nI p) (((num_dec hn (hRG (8 + i) (by omega))).2 (by rw [hBp]; exact nI_m1 (by omega))).1.trans hBp) ?_
    refine z_isub hF dL_suggestions_388 ?_
    refine z_top (pk_sub (by omega)) ?_
    refine z_istore (lv' := [some (.ref d0), some (.int (nI act)), some (.int x), some (.ref zd), some (.ref ze), some (.ref zc), some (.ref zg), some (.ref zt), some (.ref zq), some (.int (nI i)), some (.int (numF (B (8 + i)) (E (8 + i)))), some (.int (nI 1)), some (.int (nI z)), some (.int (nI (q - p))), none]) hF dL_suggestions_389 rfl rfl ?_
    refine z_iload hF dL_suggestions_391 rfl ?_
    refine z_if_eq (tgt := 446) hF dL_suggestions_393 (by decide) (fun c_4 => absurd c_4 (by decide)) (fun c_4 => ?_)
    refine z_iload hF dL_suggestions_396 rfl ?_
    refine z_aload hF dL_suggestions_398 rfl ?_
    refine z_aload hF dL_suggestions_400 rfl ?_
    refine z_aload hF dL_suggestions_402 rfl ?_
    refine z_S (As := [.int (nI i), .ref ze, .ref zg, .ref zq]) (rest := []) (ws' := [(d0, .inr (4, [.ref t0, .ref r0, .ref q0, .ref y0, .ref d1, .int o, .int (nI v), .ref u0, .ref d2, .ref d3, .ref d4])), (u0, .inr (2, [.ref u1, .ref u2, .ref u3, .int (nI j)])), (u1, eI G 12 b2), (u2, eI G 12 e2), (t0, .inr (3, [.ref t1, .ref t2, .int (nI n)])), (d3, eI G 10 xc), (d4, eI G 10 xs), (zd, eI G 60 f), (ze, eI G 60 le), (zc, eI G 36 (cF s op an qs qa qb)), (zg, eI G 18 (gF xl xc xs)), (zt, eI G 64 lt), (zq, eI G 4 (qF n v m j))]) (st2 := [.int (ovF b2 e2 xs i j)]) (c2 := 0) (s2 := 0) hF (c_L_overlaps G ze zg zq n v m j i le xl xc xs B E b2 e2 (by first | assumption | omega) (by first | assumption | omega) (by first | assumption | omega) (by first | assumption | omega) (by first | assumption | omega) (by first | assumption | omega) (by first | assumption | omega) (by first | assumption | omega) (by first | assumption | omega)) gL_suggestions_L_overlaps rfl rfl rfl hs_L_overlaps ⟨⟨Nat.le_of_ble_eq_true rfl, Nat.le_of_ble_eq_true rfl⟩, ⟨Nat.le_of_ble_eq_true rfl, Nat.le_of_ble_eq_true rfl⟩, Nat.le_of_ble_eq_true rfl⟩ [8, 10, 12] rfl rfl rfl rfl rfl rfl rfl rfl rfl rfl dL_suggestions_404 ?_
    refine z_if_ne (tgt := 446) hF dL_suggestions_407 (by decide) (fun c_5 => absurd c_5 (not_not_intro ho)) (fun c_5 => ?_)
    refine z_aload hF dL_suggestions_410 rfl ?_
    refine z_iconst (v := nI 0) hF dL_suggestions_412 (by decide) ?_
    refine z_iald (k := 0) hF 12 rfl (rfl) (by omega) rfl dL_suggestions_413 ?_
    refine z_top (y := nI n) (rfl) ?_
    refine z_iload hF dL_suggestions_414 rfl ?_
    refine z_isub hF dL_suggestions_416 ?_
    refine z_top (pk_sub (by omega)) ?_
    refine z_iload hF dL_suggestions_417 rfl ?_
    refine z_iadd hF dL_suggestions_419 ?_
    refine z_top (nI_add (n - (q - p)) z) ?_
    refine z_bipush (v := nI 60) hF dL_suggestions_420 (by decide) ?_
    refine z_icn_gt (tgt := 446) hF (by omega) (by omega) dL_suggestions_422 (by decide) (fun c_6 => ?_) (fun c_6 => absurd c_6 (by omega))
    refine z_aload_n hF dL_suggestions_446 rfl ?_
    refine z_iconst (v := nI 2) hF dL_suggestions_447 (by decide) ?_
    refine z_iload hF dL_suggestions_448 rfl ?_
    refine z_iconst (v := nI 0) hF dL_suggestions_450 (by decide) ?_
    refine z_iconst (v := nI 0) hF dL_suggestions_451 (by decide) ?_
    refine z_SW (As := [.ref d0, .int (nI 2), .int (nI i), .int (nI 0), .int (nI 0)]) (rest := []) (ws' := [(d0, .inr (4, [.ref t0, .ref r0, .ref q0, .ref y0, .ref d1, .int o, .int (nI v), .ref u0, .ref d2, .ref d3, .ref d4])), (u0, .inr (2, [.ref u1, .ref u2, .ref u3, .int (nI j)])), (u1, eI G 12 b2), (u2, eI G 12 e2), (t0, .inr (3, [.ref t1, .ref t2, .int (nI n)])), (d3, eI G 10 xc), (d4, eI G 10 xs), (zd, eI G 60 f), (ze, eI G 60 le), (zc, eI G 36 (cF s op an qs qa qb)), (zg, eI G 18 (gF xl xc xs)), (zt, eI G 64 lt), (zq, eI G 4 (qF n v m j))]) (st2 := [.int (-3)]) (c2 := 1) (s2 := 6) hF (c_L_calls_accr G d0 t0 r0 q0 y0 d1 u0 d2 d3 d4 v o t1 t2 n u1 u2 u3 j b2 e2 xc xs i p q z (by first | assumption | omega) (by first | assumption | omega) (by first | assumption | omega) (by first | assumption | omega) (by first | assumption | omega) (by first | assumption | omega) (by first | assumption | omega) (by first | assumption | omega) (by first | assumption | omega) (by first | assumption | omega) (by first | assumption | omega) (by first | assumption | omega)) gL_suggestions_L_calls rfl rfl rfl hs_L_calls ⟨⟨Nat.le_of_ble_eq_true rfl, Nat.le_of_ble_eq_true rfl⟩, ⟨Nat.le_of_ble_eq_true rfl, Nat.le_of_ble_eq_true rfl⟩, Nat.le_of_ble_eq_true rfl⟩ [0, 1, 2, 3, 4, 5, 6] rfl rfl rfl rfl rfl rfl rfl rfl rfl rfl dL_suggestions_452 ?_
    refine z_bipush (v := -3) hF dL_suggestions_455 (by decide) ?_
    refine z_ic_ne (tgt := 464) hF dL_suggestions_457 (by decide) (fun c_7 => absurd c_7 (not_not_intro rfl)) (fun c_7 => ?_)
    refine z_iconst (v := nI 1) hF dL_suggestions_460 (by decide) ?_
    refine z_goto (tgt := 465) hF dL_suggestions_461 (by decide) ?_
    exact hR.i dL_suggestions_465 (Nat.le_of_ble_eq_true rfl) (Nat.le_of_ble_eq_true rfl) (rfl) (rfl)
  refine z_iload_n hF dL_suggestions_0 rfl ?_
  refine z_ifn_eq (tgt := 11) hF (by omega) dL_suggestions_1 (by decide) (fun h1 => ?_) (fun h1 => ?_)
  · refine z_aload hF dL_suggestions_11 rfl ?_
    refine z_iconst (v := nI 3) hF dL_suggestions_13 (by decide) ?_
    refine z_iald (k := 3) hF 12 rfl (rfl) (by omega) rfl dL_suggestions_14 ?_
    refine z_top (y := nI j) (rfl) ?_
    refine z_bipush (v := nI 6) hF dL_suggestions_15 (by decide) ?_
    refine z_icn_ge (tgt := 210) hF (by omega) (by omega) dL_suggestions_17 (by decide) (fun c_8 => ?_) (fun c_8 => absurd c_8 (fun h => hact ⟨h1, h⟩))
    exact J_210  
  · refine z_aload hF dL_suggestions_4 rfl ?_
    refine z_iconst (v := nI 3) hF dL_suggestions_6 (by decide) ?_
    refine z_iald (k := 3) hF 12 rfl (rfl) (by omega) rfl dL_suggestions_7 ?_
    refine z_top (y := nI j) (rfl) ?_
    refine z_ifn_ne (tgt := 210) hF (by omega) dL_suggestions_8 (by decide) (fun c_9 => ?_) (fun c_9 => absurd c_9 (by omega))
    exact J_210  
