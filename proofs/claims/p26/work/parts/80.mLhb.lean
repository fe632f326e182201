set_option maxHeartbeats 4000000 in
set_option maxRecDepth 100000 in
theorem c_L_sug_rej0 (G : zG) (d0 t0 r0 q0 y0 d1 u0 d2 d3 d4 v : Nat) (o : Int32) (u1 u2 u3 j : Nat) (xs : Nat → Int32) (zd ze zc zg zt zq n m : Nat) (f le s op an qs qa qb xl xc lt B E : Nat → Int32) (x : Int32) (act i : Nat) (hn : n ≤ 60) (hm : m ≤ 6) (hj : j ≤ 6) (hi : lowN x j = i) (hij : i < j) (hact9 : act < 14) (hact : ¬ (act = 0 ∧ j < 6)) (hRG : RGa n B E) (hE : LEa n le B E) (hact1 : act = 1) (h0 : xs i = 0) : zM G yL_suggestions wsL_suggestions ({ frames := 3, cells := 0, slots := 0, locals := 80 }) [.ref d0, .int (nI act), .int x, .ref zd, .ref ze, .ref zc, .ref zg, .ref zt, .ref zq] [(d0, .inr (4, [.ref t0, .ref r0, .ref q0, .ref y0, .ref d1, .int o, .int (nI v), .ref u0, .ref d2, .ref d3, .ref d4])), (u0, .inr (2, [.ref u1, .ref u2, .ref u3, .int (nI j)])), (d4, eI G 10 xs), (zd, eI G 60 f), (ze, eI G 60 le), (zc, eI G 36 (cF s op an qs qa qb)), (zg, eI G 18 (gF xl xc xs)), (zt, eI G 64 lt), (zq, eI G 4 (qF n v m j))] [(d0, .inr (4, [.ref t0, .ref r0, .ref q0, .ref y0, .ref d1, .int o, .int (nI v), .ref u0, .ref d2, .ref d3, .ref d4])), (u0, .inr (2, [.ref u1, .ref u2, .ref u3, .int (nI j)])), (d4, eI G 10 (upd xs i (nI 2))), (zd, eI G 60 f), (ze, eI G 60 le), (zc, eI G 36 (cF s op an qs qa qb)), (zg, eI G 18 (gF xl xc (upd xs i (nI 2)))), (zt, eI G 64 lt), (zq, eI G 4 (qF n v m j))] (some (.int (nI 1))) 0 0 := by
  refine zM.ofI (own := RL) (cc := cL_suggestions) (maxL := 15) rfl (by decide) rfl rfl (by simp [Value.category]) (Nat.le_of_ble_eq_true rfl) ?_
  intro X hF hR
  refine z_lv (lv' := [some (.ref d0), some (.int (nI act)), some (.int x), some (.ref zd), some (.ref ze), some (.ref zc), some (.ref zg), some (.ref zt), some (.ref zq), none, none, none, none, none, none]) rfl ?_
  have J_210 : zJ G X 210 [(d0, .inr (4, [.ref t0, .ref r0, .ref q0, .ref y0, .ref d1, .int o, .int (nI v), .ref u0, .ref d2, .ref d3, .ref d4])), (u0, .inr (2, [.ref u1, .ref u2, .ref u3, .int (nI j)])), (d4, eI G 10 xs), (zd, eI G 60 f), (ze, eI G 60 le), (zc, eI G 36 (cF s op an qs qa qb)), (zg, eI G 18 (gF xl xc xs)), (zt, eI G 64 lt), (zq, eI G 4 (qF n v m j))] [some (.ref d0), some (.int (nI act)), some (.int x), some (.ref zd), some (.ref ze), some (.ref zc), some (.ref zg), some (.ref zt), some (.ref zq), none, none, none, none, none, none] [] 0 0 := by
    refine z_aload hF dL_suggestions_210 rfl ?_
    refine z_iconst (v := nI 3) hF dL_suggestions_212 (by decide) ?_
    refine z_iald (k := 3) hF 8 rfl (rfl) (by omega) rfl dL_suggestions_213 ?_
    refine z_top (y := nI j) (rfl) ?_
    refine z_ifn_ne (tgt := 219) hF (by omega) dL_suggestions_214 (by decide) (fun c_1 => ?_) (fun c_1 => absurd c_1 (by omega))
    refine z_iload_n hF dL_suggestions_219 rfl ?_
    refine z_aload hF dL_suggestions_220 rfl ?_
    refine z_iconst (v := nI 3) hF dL_suggestions_222 (by decide) ?_
    refine z_iald (k := 3) hF 8 rfl (rfl) (by omega) rfl dL_suggestions_223 ?_
    refine z_top (y := nI j) (rfl) ?_
    refine z_S (As := [.int x, .int (nI j)]) (rest := []) (ws' := [(d0, .inr (4, [.ref t0, .ref r0, .ref q0, .ref y0, .ref d1, .int o, .int (nI v), .ref u0, .ref d2, .ref d3, .ref d4])), (u0, .inr (2, [.ref u1, .ref u2, .ref u3, .int (nI j)])), (d4, eI G 10 xs), (zd, eI G 60 f), (ze, eI G 60 le), (zc, eI G 36 (cF s op an qs qa qb)), (zg, eI G 18 (gF xl xc xs)), (zt, eI G 64 lt), (zq, eI G 4 (qF n v m j))]) (st2 := [.int (nI (lowN x j))]) (c2 := 0) (s2 := 0) hF (c_L_low G x j (by first | assumption | omega) (by first | assumption | omega)) gL_suggestions_L_low rfl rfl rfl hs_L_low ⟨⟨Nat.le_of_ble_eq_true rfl, Nat.le_of_ble_eq_true rfl⟩, ⟨Nat.le_of_ble_eq_true rfl, Nat.le_of_ble_eq_true rfl⟩, Nat.le_of_ble_eq_true rfl⟩ [] rfl rfl rfl rfl rfl rfl rfl rfl rfl rfl dL_suggestions_224 ?_
    refine z_istore (lv' := [some (.ref d0), some (.int (nI act)), some (.int x), some (.ref zd), some (.ref ze), some (.ref zc), some (.ref zg), some (.ref zt), some (.ref zq), some (.int (nI (lowN x j))), none, none, none, none, none]) hF dL_suggestions_227 rfl rfl ?_
    refine z_lv (lv' := [some (.ref d0), some (.int (nI act)), some (.int x), some (.ref zd), some (.ref ze), some (.ref zc), some (.ref zg), some (.ref zt), some (.ref zq), some (.int (nI i)), none, none, none, none, none]) (by rw [hi]) ?_
    refine z_bipush (v := nI 8) hF dL_suggestions_229 (by decide) ?_
    refine z_iload hF dL_suggestions_231 rfl ?_
    refine z_iadd hF dL_suggestions_233 ?_
    refine z_top (nI_add 8 i) ?_
    refine z_aload hF dL_suggestions_234 rfl ?_
    refine z_aload hF dL_suggestions_236 rfl ?_
    refine z_S (As := [.int (nI (8 + i)), .ref ze, .ref zq]) (rest := []) (ws' := [(d0, .inr (4, [.ref t0, .ref r0, .ref q0, .ref y0, .ref d1, .int o, .int (nI v), .ref u0, .ref d2, .ref d3, .ref d4])), (u0, .inr (2, [.ref u1, .ref u2, .ref u3, .int (nI j)])), (d4, eI G 10 xs), (zd, eI G 60 f), (ze, eI G 60 le), (zc, eI G 36 (cF s op an qs qa qb)), (zg, eI G 18 (gF xl xc xs)), (zt, eI G 64 lt), (zq, eI G 4 (qF n v m j))]) (st2 := [.int (numF (B (8 + i)) (E (8 + i)))]) (c2 := 0) (s2 := 0) hF (c_L_range G ze zq n v m j (8 + i) le B E (by first | assumption | omega) (by first | assumption | omega) (by first | assumption | omega) (by first | assumption | omega)) gL_suggestions_L_range rfl rfl rfl hs_L_range ⟨⟨Nat.le_of_ble_eq_true rfl, Nat.le_of_ble_eq_true rfl⟩, ⟨Nat.le_of_ble_eq_true rfl, Nat.le_of_ble_eq_true rfl⟩, Nat.le_of_ble_eq_true rfl⟩ [4, 8] rfl rfl rfl rfl rfl rfl rfl rfl rfl rfl dL_suggestions_238 ?_
    refine z_istore (lv' := [some (.ref d0), some (.int (nI act)), some (.int x), some (.ref zd), some (.ref ze), some (.ref zc), some (.ref zg), some (.ref zt), some (.ref zq), some (.int (nI i)), some (.int (numF (B (8 + i)) (E (8 + i)))), none, none, none, none]) hF dL_suggestions_241 rfl rfl ?_
    refine z_aload hF dL_suggestions_243 rfl ?_
    refine z_iconst (v := nI 3) hF dL_suggestions_245 (by decide) ?_
    refine z_iload hF dL_suggestions_246 rfl ?_
    refine z_imul hF dL_suggestions_248 ?_
    refine z_top (pk_mul 3 i) ?_
    refine z_iconst (v := nI 2) hF dL_suggestions_249 (by decide) ?_
    refine z_iadd hF dL_suggestions_250 ?_
    refine z_top (nI_add (3 * i) 2) ?_
    refine z_iald (k := 3 * i + 2) hF 6 rfl (rfl) (by omega) rfl dL_suggestions_251 ?_
    refine z_top (y := xs i) (gF_l2 _ _ _ _) ?_
    refine z_if_ne (tgt := 259) hF dL_suggestions_252 (by decide) (fun c_2 => absurd c_2 (not_not_intro h0)) (fun c_2 => ?_)
    refine z_iconst (v := nI 1) hF dL_suggestions_255 (by decide) ?_
    refine z_goto (tgt := 260) hF dL_suggestions_256 (by decide) ?_
    refine z_istore (lv' := [some (.ref d0), some (.int (nI act)), some (.int x), some (.ref zd), some (.ref ze), some (.ref zc), some (.ref zg), some (.ref zt), some (.ref zq), some (.int (nI i)), some (.int (numF (B (8 + i)) (E (8 + i)))), some (.int (nI 1)), none, none, none]) hF dL_suggestions_260 rfl rfl ?_
    refine z_iload_n hF dL_suggestions_262 rfl ?_
    refine z_iconst (v := nI 1) hF dL_suggestions_263 (by decide) ?_
    refine z_icn_ne (tgt := 367) hF (by omega) (by omega) dL_suggestions_264 (by decide) (fun c_3 => absurd c_3 (fun h => h hact1)) (fun c_3 => ?_)
    refine z_iconst (v := nI 0) hF dL_suggestions_267 (by decide) ?_
    refine z_istore (lv' := [some (.ref d0), some (.int (nI act)), some (.int x), some (.ref zd), some (.ref ze), some (.ref zc), some (.ref zg), some (.ref zt), some (.ref zq), some (.int (nI i)), some (.int (numF (B (8 + i)) (E (8 + i)))), some (.int (nI 1)), some (.int (nI 0)), none, none]) hF dL_suggestions_268 rfl rfl ?_
    refine z_aload hF dL_suggestions_270 rfl ?_
    refine z_iconst (v := nI 3) hF dL_suggestions_272 (by decide) ?_
    refine z_iload hF dL_suggestions_273 rfl ?_
    refine z_imul hF dL_suggestions_275 ?_
    refine z_top (pk_mul 3 i) ?_
    refine z_iconst (v := nI 2) hF dL_suggestions_276 (by decide) ?_
    refine z_iadd hF dL_suggestions_277 ?_
    refine z_top (nI_add (3 * i) 2) ?_
    refine z_iload hF dL_suggestions_278 rfl ?_
    refine z_if_eq (tgt := 287) hF dL_suggestions_280 (by decide) (fun c_4 => absurd c_4 (by decide)) (fun c_4 => ?_)
    refine z_iconst (v := nI 2) hF dL_suggestions_283 (by decide) ?_
    refine z_goto (tgt := 296) hF dL_suggestions_284 (by decide) ?_
    refine z_iast (k := 3 * i + 2) (ws' := [(d0, .inr (4, [.ref t0, .ref r0, .ref q0, .ref y0, .ref d1, .int o, .int (nI v), .ref u0, .ref d2, .ref d3, .ref d4])), (u0, .inr (2, [.ref u1, .ref u2, .ref u3, .int (nI j)])), (d4, eI G 10 xs), (zd, eI G 60 f), (ze, eI G 60 le), (zc, eI G 36 (cF s op an qs qa qb)), (zg, eI G 18 (upd (gF xl xc xs) (3 * i + 2) (nI 2))), (zt, eI G 64 lt), (zq, eI G 4 (qF n v m j))]) hF 6 rfl (rfl) (by omega) rfl rfl dL_suggestions_296 ?_
    refine z_ws (ws' := [(d0, .inr (4, [.ref t0, .ref r0, .ref q0, .ref y0, .ref d1, .int o, .int (nI v), .ref u0, .ref d2, .ref d3, .ref d4])), (u0, .inr (2, [.ref u1, .ref u2, .ref u3, .int (nI j)])), (d4, eI G 10 xs), (zd, eI G 60 f), (ze, eI G 60 le), (zc, eI G 36 (cF s op an qs qa qb)), (zg, eI G 18 (gF xl xc (upd xs i (nI 2)))), (zt, eI G 64 lt), (zq, eI G 4 (qF n v m j))]) (by rw [gF_s2]) ?_
    refine z_iconst (v := nI 0) hF dL_suggestions_297 (by decide) ?_
    refine z_istore (lv' := [some (.ref d0), some (.int (nI act)), some (.int x), some (.ref zd), some (.ref ze), some (.ref zc), some (.ref zg), some (.ref zt), some (.ref zq), some (.int (nI i)), some (.int (numF (B (8 + i)) (E (8 + i)))), some (.int (nI 1)), some (.int (nI 0)), some (.int (nI 0)), none]) hF dL_suggestions_298 rfl rfl ?_
    refine z_lv (lv' := [some (.ref d0), some (.int (nI act)), some (.int x), some (.ref zd), some (.ref ze), some (.ref zc), some (.ref zg), some (.ref zt), some (.ref zq), some (.int (nI i)), some (.int (numF (B (8 + i)) (E (8 + i)))), some (.int (nI 1)), some (.int (nI (cntF (fun kk => (upd xs i (nI 2)) kk = 0) 0))), some (.int (nI 0)), none]) (by rfl) ?_
    have J_300 : ∀ (n9 : Nat) (t : Nat), j - t < n9 → (t ≤ j) → zJ G X 300 [(d0, .inr (4, [.ref t0, .ref r0, .ref q0, .ref y0, .ref d1, .int o, .int (nI v), .ref u0, .ref d2, .ref d3, .ref d4])), (u0, .inr (2, [.ref u1, .ref u2, .ref u3, .int (nI j)])), (d4, eI G 10 xs), (zd, eI G 60 f), (ze, eI G 60 le), (zc, eI G 36 (cF s op an qs qa qb)), (zg, eI G 18 (gF xl xc (upd xs i (nI 2)))), (zt, eI G 64 lt), (zq, eI G 4 (qF n v m j))] [some (.ref d0), some (.int (nI act)), some (.int x), some (.ref zd), some (.ref ze), some (.ref zc), some (.ref zg), some (.ref zt), some (.ref zq), some (.int (nI i)), some (.int (numF (B (8 + i)) (E (8 + i)))), some (.int (nI 1)), some (.int (nI (cntF (fun kk => (upd xs i (nI 2)) kk = 0) t))), some (.int (nI t)), none] [] 0 0 := by
      intro n9
      induction n9 with
      | zero => intro t hmu; exact absurd hmu (Nat.not_lt_zero _)
      | succ n9 ih =>
        intro t hmu h2
        refine z_iload hF dL_suggestions_300 rfl ?_
        refine z_aload hF dL_suggestions_302 rfl ?_
        refine z_iconst (v := nI 3) hF dL_suggestions_304 (by decide) ?_
        refine z_iald (k := 3) hF 8 rfl (rfl) (by omega) rfl dL_suggestions_305 ?_
        refine z_top (y := nI j) (rfl) ?_
        refine z_icn_ge (tgt := 337) hF (by omega) (by omega) dL_suggestions_306 (by decide) (fun c_5 => ?_) (fun c_5 => ?_)
        · have ht9 : t = j := by omega
          have hcl := cntF_le (P := fun kk => (upd xs i (nI 2)) kk = 0) j
          refine z_lv (lv' := [some (.ref d0), some (.int (nI act)), some (.int x), some (.ref zd), some (.ref ze), some (.ref zc), some (.ref zg), some (.ref zt), some (.ref zq), some (.int (nI i)), some (.int (numF (B (8 + i)) (E (8 + i)))), some (.int (nI 1)), some (.int (nI (cntF (fun kk => (upd xs i (nI 2)) kk = 0) j))), some (.int (nI t)), none]) (by rw [ht9]) ?_
          refine z_aload_n hF dL_suggestions_337 rfl ?_
          refine z_iconst (v := nI 3) hF dL_suggestions_338 (by decide) ?_
          refine z_iload hF dL_suggestions_339 rfl ?_
          refine z_iconst (v := nI 0) hF dL_suggestions_341 (by decide) ?_
          refine z_iconst (v := nI 0) hF dL_suggestions_342 (by decide) ?_
          refine z_SW (As := [.ref d0, .int (nI 3), .int (nI i), .int (nI 0), .int (nI 0)]) (rest := []) (ws' := [(d0, .inr (4, [.ref t0, .ref r0, .ref q0, .ref y0, .ref d1, .int o, .int (nI v), .ref u0, .ref d2, .ref d3, .ref d4])), (u0, .inr (2, [.ref u1, .ref u2, .ref u3, .int (nI j)])), (d4, eI G 10 (upd xs i (nI 2))), (zd, eI G 60 f), (ze, eI G 60 le), (zc, eI G 36 (cF s op an qs qa qb)), (zg, eI G 18 (gF xl xc (upd xs i (nI 2)))), (zt, eI G 64 lt), (zq, eI G 4 (qF n v m j))]) (st2 := [.int (nI (cntF (fun kk => upd xs i (nI 2) kk = 0) j))]) (c2 := 0) (s2 := 0) hF (c_L_calls_rej0 G d0 t0 r0 q0 y0 d1 u0 d2 d3 d4 v o u1 u2 u3 j xs i (by first | assumption | omega) (by first | assumption | omega) (by first | assumption | omega)) gL_suggestions_L_calls rfl rfl rfl hs_L_calls ⟨⟨Nat.le_of_ble_eq_true rfl, Nat.le_of_ble_eq_true rfl⟩, ⟨Nat.le_of_ble_eq_true rfl, Nat.le_of_ble_eq_true rfl⟩, Nat.le_of_ble_eq_true rfl⟩ [0, 1, 2] rfl rfl rfl rfl rfl rfl rfl rfl rfl rfl dL_suggestions_343 ?_
          refine z_iload hF dL_suggestions_346 rfl ?_
          refine z_if_eq (tgt := 356) hF dL_suggestions_348 (by decide) (fun c_6 => absurd c_6 (by decide)) (fun c_6 => ?_)
          refine z_iload hF dL_suggestions_351 rfl ?_
          refine z_goto (tgt := 358) hF dL_suggestions_353 (by decide) ?_
          refine z_icn_ne (tgt := 365) hF (by omega) (by omega) dL_suggestions_358 (by decide) (fun c_7 => absurd c_7 (not_not_intro rfl)) (fun c_7 => ?_)
          refine z_iconst (v := nI 1) hF dL_suggestions_361 (by decide) ?_
          refine z_goto (tgt := 366) hF dL_suggestions_362 (by decide) ?_
          exact hR.i dL_suggestions_366 (Nat.le_of_ble_eq_true rfl) (Nat.le_of_ble_eq_true rfl) (rfl) (rfl)
        · refine z_iload hF dL_suggestions_309 rfl ?_
          refine z_aload hF dL_suggestions_311 rfl ?_
          refine z_iconst (v := nI 3) hF dL_suggestions_313 (by decide) ?_
          refine z_iload hF dL_suggestions_314 rfl ?_
          refine z_imul hF dL_suggestions_316 ?_
          refine z_top (pk_mul 3 t) ?_
          refine z_iconst (v := nI 2) hF dL_suggestions_317 (by decide) ?_
          refine z_iadd hF dL_suggestions_318 ?_
          refine z_top (nI_add (3 * t) 2) ?_
          refine z_iald (k := 3 * t + 2) hF 6 rfl (rfl) (by omega) rfl dL_suggestions_319 ?_
          refine z_top (y := (upd xs i (nI 2)) t) (gF_l2 _ _ _ _) ?_
          refine z_if_ne (tgt := 327) hF dL_suggestions_320 (by decide) (fun h320 => ?_) (fun h320 => ?_)
          · refine z_iconst (v := nI 0) hF dL_suggestions_327 (by decide) ?_
            refine z_iadd hF dL_suggestions_328 ?_
            refine z_top (nI_add (cntF (fun kk => (upd xs i (nI 2)) kk = 0) t) 0) ?_
            refine z_istore (lv' := [some (.ref d0), some (.int (nI act)), some (.int x), some (.ref zd), some (.ref ze), some (.ref zc), some (.ref zg), some (.ref zt), some (.ref zq), some (.int (nI i)), some (.int (numF (B (8 + i)) (E (8 + i)))), some (.int (nI 1)), some (.int (nI (cntF (fun kk => (upd xs i (nI 2)) kk = 0) t + 0))), some (.int (nI t)), none]) hF dL_suggestions_329 rfl rfl ?_
            refine z_lv (lv' := [some (.ref d0), some (.int (nI act)), some (.int x), some (.ref zd), some (.ref ze), some (.ref zc), some (.ref zg), some (.ref zt), some (.ref zq), some (.int (nI i)), some (.int (numF (B (8 + i)) (E (8 + i)))), some (.int (nI 1)), some (.int (nI (cntF (fun kk => (upd xs i (nI 2)) kk = 0) (t + 1)))), some (.int (nI t)), none]) (by rw [Nat.add_zero, cntF_f (k := t) h320]) ?_
            refine z_iinc (v := nI (t + 1)) (lv' := [some (.ref d0), some (.int (nI act)), some (.int x), some (.ref zd), some (.ref ze), some (.ref zc), some (.ref zg), some (.ref zt), some (.ref zq), some (.int (nI i)), some (.int (numF (B (8 + i)) (E (8 + i)))), some (.int (nI 1)), some (.int (nI (cntF (fun kk => (upd xs i (nI 2)) kk = 0) (t + 1)))), some (.int (nI (t + 1))), none]) hF dL_suggestions_331 rfl (nI_1 t) rfl rfl ?_
            refine z_goto (tgt := 300) hF dL_suggestions_334 (by decide) ?_
            exact ih (t + 1) (by omega) (by omega)
          · refine z_iconst (v := nI 1) hF dL_suggestions_323 (by decide) ?_
            refine z_goto (tgt := 328) hF dL_suggestions_324 (by decide) ?_
            refine z_iadd hF dL_suggestions_328 ?_
            refine z_top (nI_add (cntF (fun kk => (upd xs i (nI 2)) kk = 0) t) 1) ?_
            refine z_istore (lv' := [some (.ref d0), some (.int (nI act)), some (.int x), some (.ref zd), some (.ref ze), some (.ref zc), some (.ref zg), some (.ref zt), some (.ref zq), some (.int (nI i)), some (.int (numF (B (8 + i)) (E (8 + i)))), some (.int (nI 1)), some (.int (nI (cntF (fun kk => (upd xs i (nI 2)) kk = 0) t + 1))), some (.int (nI t)), none]) hF dL_suggestions_329 rfl rfl ?_
            refine z_lv (lv' := [some (.ref d0), some (.int (nI act)), some (.int x), some (.ref zd), some (.ref ze), some (.ref zc), some (.ref zg), some (.ref zt), some (.ref zq), some (.int (nI i)), some (.int (numF (B (8 + i)) (E (8 + i)))), some (.int (nI 1)), some (.int (nI (cntF (fun kk => (upd xs i (nI 2)) kk = 0) (t + 1)))), some (.int (nI t)), none]) (by rw [cntF_t (k := t) h320]) ?_
            refine z_iinc (v := nI (t + 1)) (lv' := [some (.ref d0), some (.int (nI act)), some (.int x), some (.ref zd), some (.ref ze), some (.ref zc), some (.ref zg), some (.ref zt), some (.ref zq), some (.int (nI i)), some (.int (numF (B (8 + i)) (E (8 + i)))), some (.int (nI 1)), some (.int (nI (cntF (fun kk => (upd xs i (nI 2)) kk = 0) (t + 1)))), some (.int (nI (t + 1))), none]) hF dL_suggestions_331 rfl (nI_1 t) rfl rfl ?_
            refine z_goto (tgt := 300) hF dL_suggestions_334 (by decide) ?_
            exact ih (t + 1) (by omega) (by omega)
    exact J_300 ((j - 0) + 1) 0 (Nat.lt_succ_self _) (by omega)
  refine z_iload_n hF dL_suggestions_0 rfl ?_
  refine z_ifn_eq (tgt := 11) hF (by omega) dL_suggestions_1 (by decide) (fun h1 => ?_) (fun h1 => ?_)
  · refine z_aload hF dL_suggestions_11 rfl ?_
    refine z_iconst (v := nI 3) hF dL_suggestions_13 (by decide) ?_
    refine z_iald (k := 3) hF 8 rfl (rfl) (by omega) rfl dL_suggestions_14 ?_
    refine z_top (y := nI j) (rfl) ?_
    refine z_bipush (v := nI 6) hF dL_suggestions_15 (by decide) ?_
    refine z_icn_ge (tgt := 210) hF (by omega) (by omega) dL_suggestions_17 (by decide) (fun c_8 => ?_) (fun c_8 => absurd c_8 (fun h => hact ⟨h1, h⟩))
    exact J_210  
  · refine z_aload hF dL_suggestions_4 rfl ?_
    refine z_iconst (v := nI 3) hF dL_suggestions_6 (by decide) ?_
    refine z_iald (k := 3) hF 8 rfl (rfl) (by omega) rfl dL_suggestions_7 ?_
    refine z_top (y := nI j) (rfl) ?_
    refine z_ifn_ne (tgt := 210) hF (by omega) dL_suggestions_8 (by decide) (fun c_9 => ?_) (fun c_9 => absurd c_9 (by omega))
    exact J_210  
