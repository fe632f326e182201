set_option maxHeartbeats 4000000 in
set_option maxRecDepth 100000 in
theorem c_L_comm_ans (G : zG) (d0 t0 r0 q0 y0 d1 u0 d2 d3 d4 v : Nat) (o : Int32) (r1 r2 r3 m : Nat) (an : Nat → Int32) (zd ze zc zk zt zq n j : Nat) (f le s op qs qa qb ql lt : Nat → Int32) (x : Int32) (i : Nat) (hn : n ≤ 60) (hm : m ≤ 6) (hv : v ≤ 300) (hi : lowN x m = i) (him : i < m) : zM G yL_comments wsL_comments ({ frames := 2, cells := 0, slots := 0, locals := 54 }) [.ref d0, .int (nI 1), .int x, .ref zd, .ref ze, .ref zc, .ref zk, .ref zt, .ref zq] [(d0, .inr (4, [.ref t0, .ref r0, .ref q0, .ref y0, .ref d1, .int o, .int (nI v), .ref u0, .ref d2, .ref d3, .ref d4])), (r0, .inr (2, [.ref r1, .ref r2, .ref r3, .int (nI m)])), (d1, eI G 12 an), (zd, eI G 60 f), (ze, eI G 60 le), (zc, eI G 36 (cF s op an qs qa qb)), (zk, eI G 48 (kF ql)), (zt, eI G 64 lt), (zq, eI G 4 (qF n v m j))] [(d0, .inr (4, [.ref t0, .ref r0, .ref q0, .ref y0, .ref d1, .int (o ||| bitF (nI i)), .int (nI v), .ref u0, .ref d2, .ref d3, .ref d4])), (r0, .inr (2, [.ref r1, .ref r2, .ref r3, .int (nI m)])), (d1, eI G 12 (upd an i (an i + nI 1))), (zd, eI G 60 f), (ze, eI G 60 le), (zc, eI G 36 (cF s (upd op i (nI 1)) (upd an i (an i + nI 1)) qs qa qb)), (zk, eI G 48 (kF ql)), (zt, eI G 64 lt), (zq, eI G 4 (qF n v m j))] (some (.int (nI 1))) 0 0 := by
  refine zM.ofI (own := RL) (cc := cL_comments) (maxL := 13) rfl (by decide) rfl rfl (by simp [Value.category]) (Nat.le_of_ble_eq_true rfl) ?_
  intro X hF hR
  refine z_lv (lv' := [some (.ref d0), some (.int (nI 1)), some (.int x), some (.ref zd), some (.ref ze), some (.ref zc), some (.ref zk), some (.ref zt), some (.ref zq), none, none, none, none]) rfl ?_
  refine z_iload_n hF dL_comments_0 rfl ?_
  refine z_if_eq (tgt := 11) hF dL_comments_1 (by decide) (fun c_1 => absurd c_1 (by decide)) (fun c_1 => ?_)
  refine z_aload hF dL_comments_4 rfl ?_
  refine z_iconst (v := nI 2) hF dL_comments_6 (by decide) ?_
  refine z_iald (k := 2) hF 8 rfl (rfl) (by omega) rfl dL_comments_7 ?_
  refine z_top (y := nI m) (rfl) ?_
  refine z_ifn_ne (tgt := 270) hF (by omega) dL_comments_8 (by decide) (fun c_2 => ?_) (fun c_2 => absurd c_2 (by omega))
  refine z_aload hF dL_comments_270 rfl ?_
  refine z_iconst (v := nI 2) hF dL_comments_272 (by decide) ?_
  refine z_iald (k := 2) hF 8 rfl (rfl) (by omega) rfl dL_comments_273 ?_
  refine z_top (y := nI m) (rfl) ?_
  refine z_ifn_ne (tgt := 279) hF (by omega) dL_comments_274 (by decide) (fun c_3 => ?_) (fun c_3 => absurd c_3 (by omega))
  refine z_iload_n hF dL_comments_279 rfl ?_
  refine z_aload hF dL_comments_280 rfl ?_
  refine z_iconst (v := nI 2) hF dL_comments_282 (by decide) ?_
  refine z_iald (k := 2) hF 8 rfl (rfl) (by omega) rfl dL_comments_283 ?_
  refine z_top (y := nI m) (rfl) ?_
  refine z_S (As := [.int x, .int (nI m)]) (rest := []) (ws' := [(d0, .inr (4, [.ref t0, .ref r0, .ref q0, .ref y0, .ref d1, .int o, .int (nI v), .ref u0, .ref d2, .ref d3, .ref d4])), (r0, .inr (2, [.ref r1, .ref r2, .ref r3, .int (nI m)])), (d1, eI G 12 an), (zd, eI G 60 f), (ze, eI G 60 le), (zc, eI G 36 (cF s op an qs qa qb)), (zk, eI G 48 (kF ql)), (zt, eI G 64 lt), (zq, eI G 4 (qF n v m j))]) (st2 := [.int (nI (lowN x m))]) (c2 := 0) (s2 := 0) hF (c_L_low G x m (by first | assumption | omega) (by first | assumption | omega)) gL_comments_L_low rfl rfl rfl hs_L_low ⟨⟨Nat.le_of_ble_eq_true rfl, Nat.le_of_ble_eq_true rfl⟩, ⟨Nat.le_of_ble_eq_true rfl, Nat.le_of_ble_eq_true rfl⟩, Nat.le_of_ble_eq_true rfl⟩ [] rfl rfl rfl rfl rfl rfl rfl rfl rfl rfl dL_comments_284 ?_
  refine z_istore (lv' := [some (.ref d0), some (.int (nI 1)), some (.int x), some (.ref zd), some (.ref ze), some (.ref zc), some (.ref zk), some (.ref zt), some (.ref zq), some (.int (nI (lowN x m))), none, none, none]) hF dL_comments_287 rfl rfl ?_
  refine z_lv (lv' := [some (.ref d0), some (.int (nI 1)), some (.int x), some (.ref zd), some (.ref ze), some (.ref zc), some (.ref zk), some (.ref zt), some (.ref zq), some (.int (nI i)), none, none, none]) (by rw [hi]) ?_
  refine z_iload_n hF dL_comments_289 rfl ?_
  refine z_iconst (v := nI 1) hF dL_comments_290 (by decide) ?_
  refine z_icn_ne (tgt := 344) hF (by omega) (by omega) dL_comments_291 (by decide) (fun c_4 => absurd c_4 (not_not_intro rfl)) (fun c_4 => ?_)
  refine z_aload hF dL_comments_294 rfl ?_
  refine z_bipush (v := nI 6) hF dL_comments_296 (by decide) ?_
  refine z_iload hF dL_comments_298 rfl ?_
  refine z_imul hF dL_comments_300 ?_
  refine z_top (pk_mul 6 i) ?_
  refine z_iconst (v := nI 1) hF dL_comments_301 (by decide) ?_
  refine z_iadd hF dL_comments_302 ?_
  refine z_top (nI_add (6 * i) 1) ?_
  refine z_iconst (v := nI 1) hF dL_comments_303 (by decide) ?_
  refine z_iast (k := 6 * i + 1) (ws' := [(d0, .inr (4, [.ref t0, .ref r0, .ref q0, .ref y0, .ref d1, .int o, .int (nI v), .ref u0, .ref d2, .ref d3, .ref d4])), (r0, .inr (2, [.ref r1, .ref r2, .ref r3, .int (nI m)])), (d1, eI G 12 an), (zd, eI G 60 f), (ze, eI G 60 le), (zc, eI G 36 (upd (cF s op an qs qa qb) (6 * i + 1) (nI 1))), (zk, eI G 48 (kF ql)), (zt, eI G 64 lt), (zq, eI G 4 (qF n v m j))]) hF 5 rfl (rfl) (by omega) rfl rfl dL_comments_304 ?_
  refine z_ws (ws' := [(d0, .inr (4, [.ref t0, .ref r0, .ref q0, .ref y0, .ref d1, .int o, .int (nI v), .ref u0, .ref d2, .ref d3, .ref d4])), (r0, .inr (2, [.ref r1, .ref r2, .ref r3, .int (nI m)])), (d1, eI G 12 an), (zd, eI G 60 f), (ze, eI G 60 le), (zc, eI G 36 (cF s (upd op i (nI 1)) an qs qa qb)), (zk, eI G 48 (kF ql)), (zt, eI G 64 lt), (zq, eI G 4 (qF n v m j))]) (by rw [cF_s1]) ?_
  refine z_aload hF dL_comments_305 rfl ?_
  refine z_bipush (v := nI 6) hF dL_comments_307 (by decide) ?_
  refine z_iload hF dL_comments_309 rfl ?_
  refine z_imul hF dL_comments_311 ?_
  refine z_top (pk_mul 6 i) ?_
  refine z_iconst (v := nI 2) hF dL_comments_312 (by decide) ?_
  refine z_iadd hF dL_comments_313 ?_
  refine z_top (nI_add (6 * i) 2) ?_
  refine z_dup2 hF dL_comments_314 rfl rfl ?_
  refine z_iald (k := 6 * i + 2) hF 5 rfl (rfl) (by omega) rfl dL_comments_315 ?_
  refine z_top (y := an i) (cF_l2 _ _ _ _ _ _ _) ?_
  refine z_iconst (v := nI 1) hF dL_comments_316 (by decide) ?_
  refine z_iadd hF dL_comments_317 ?_
  refine z_iast (k := 6 * i + 2) (ws' := [(d0, .inr (4, [.ref t0, .ref r0, .ref q0, .ref y0, .ref d1, .int o, .int (nI v), .ref u0, .ref d2, .ref d3, .ref d4])), (r0, .inr (2, [.ref r1, .ref r2, .ref r3, .int (nI m)])), (d1, eI G 12 an), (zd, eI G 60 f), (ze, eI G 60 le), (zc, eI G 36 (upd (cF s (upd op i (nI 1)) an qs qa qb) (6 * i + 2) ((an i) + (nI 1)))), (zk, eI G 48 (kF ql)), (zt, eI G 64 lt), (zq, eI G 4 (qF n v m j))]) hF 5 rfl (rfl) (by omega) rfl rfl dL_comments_318 ?_
  refine z_ws (ws' := [(d0, .inr (4, [.ref t0, .ref r0, .ref q0, .ref y0, .ref d1, .int o, .int (nI v), .ref u0, .ref d2, .ref d3, .ref d4])), (r0, .inr (2, [.ref r1, .ref r2, .ref r3, .int (nI m)])), (d1, eI G 12 an), (zd, eI G 60 f), (ze, eI G 60 le), (zc, eI G 36 (cF s (upd op i (nI 1)) (upd an i ((an i) + (nI 1))) qs qa qb)), (zk, eI G 48 (kF ql)), (zt, eI G 64 lt), (zq, eI G 4 (qF n v m j))]) (by rw [cF_s2]) ?_
  refine z_aload_n hF dL_comments_319 rfl ?_
  refine z_iload hF dL_comments_320 rfl ?_
  refine z_V (As := [.int (nI i)]) (rest := []) (ws' := [(d0, .inr (4, [.ref t0, .ref r0, .ref q0, .ref y0, .ref d1, .int (o ||| bitF (nI i)), .int (nI v), .ref u0, .ref d2, .ref d3, .ref d4])), (r0, .inr (2, [.ref r1, .ref r2, .ref r3, .int (nI m)])), (d1, eI G 12 (upd an i (an i + nI 1))), (zd, eI G 60 f), (ze, eI G 60 le), (zc, eI G 36 (cF s (upd op i (nI 1)) (upd an i ((an i) + (nI 1))) qs qa qb)), (zk, eI G 48 (kF ql)), (zt, eI G 64 lt), (zq, eI G 4 (qF n v m j))]) (st2 := [.int (an i + nI 1)]) (c2 := 0) (s2 := 0) hF (c_X4_answer G d0 t0 r0 q0 y0 d1 u0 d2 d3 d4 v o r1 r2 r3 m an i (by first | assumption | omega) (by first | assumption | omega)) gL_comments_X4_answer rfl rfl rfl hd_X4_answer ⟨⟨Nat.le_of_ble_eq_true rfl, Nat.le_of_ble_eq_true rfl⟩, ⟨Nat.le_of_ble_eq_true rfl, Nat.le_of_ble_eq_true rfl⟩, Nat.le_of_ble_eq_true rfl⟩ [0, 1, 2] rfl rfl 0 rfl rfl rfl rfl rfl rfl rfl rfl rfl rfl dL_comments_322 ?_
  refine z_aload hF dL_comments_325 rfl ?_
  refine z_bipush (v := nI 6) hF dL_comments_327 (by decide) ?_
  refine z_iload hF dL_comments_329 rfl ?_
  refine z_imul hF dL_comments_331 ?_
  refine z_top (pk_mul 6 i) ?_
  refine z_iconst (v := nI 2) hF dL_comments_332 (by decide) ?_
  refine z_iadd hF dL_comments_333 ?_
  refine z_top (nI_add (6 * i) 2) ?_
  refine z_iald (k := 6 * i + 2) hF 5 rfl (rfl) (by omega) rfl dL_comments_334 ?_
  refine z_top (y := an i + nI 1) ((cF_l2 _ _ _ _ _ _ _).trans (upd_same _ _ _)) ?_
  refine z_ic_ne (tgt := 342) hF dL_comments_335 (by decide) (fun c_5 => absurd c_5 (not_not_intro rfl)) (fun c_5 => ?_)
  refine z_iconst (v := nI 1) hF dL_comments_338 (by decide) ?_
  refine z_goto (tgt := 343) hF dL_comments_339 (by decide) ?_
  exact hR.i dL_comments_343 (Nat.le_of_ble_eq_true rfl) (Nat.le_of_ble_eq_true rfl) (rfl) (rfl)
set_option maxHeartbeats 4000000 in
set_option maxRecDepth 100000 in
theorem c_L_comm_res (G : zG) (d0 t0 r0 q0 y0 d1 u0 d2 d3 d4 v : Nat) (o : Int32) (r1 r2 r3 m : Nat) (zd ze zc zk zt zq n j : Nat) (f le s op an qs qa qb ql lt : Nat → Int32) (x : Int32) (i : Nat) (hn : n ≤ 60) (hm : m ≤ 6) (hv : v ≤ 300) (hi : lowN x m = i) (him : i < m) (ho : o = cov (fun kk => ¬ op kk = 0) m) (hop : op i = nI 0 ∨ op i = nI 1) : zM G yL_comments wsL_comments ({ frames := 2, cells := 0, slots := 0, locals := 55 }) [.ref d0, .int (nI 2), .int x, .ref zd, .ref ze, .ref zc, .ref zk, .ref zt, .ref zq] [(d0, .inr (4, [.ref t0, .ref r0, .ref q0, .ref y0, .ref d1, .int o, .int (nI v), .ref u0, .ref d2, .ref d3, .ref d4])), (r0, .inr (2, [.ref r1, .ref r2, .ref r3, .int (nI m)])), (zd, eI G 60 f), (ze, eI G 60 le), (zc, eI G 36 (cF s op an qs qa qb)), (zk, eI G 48 (kF ql)), (zt, eI G 64 lt), (zq, eI G 4 (qF n v m j))] [(d0, .inr (4, [.ref t0, .ref r0, .ref q0, .ref y0, .ref d1, .int (o &&& ((bitF (nI i)) ^^^ (-1))), .int (nI v), .ref u0, .ref d2, .ref d3, .ref d4])), (r0, .inr (2, [.ref r1, .ref r2, .ref r3, .int (nI m)])), (zd, eI G 60 f), (ze, eI G 60 le), (zc, eI G 36 (cF s (upd op i (nI 0)) an qs qa qb)), (zk, eI G 48 (kF ql)), (zt, eI G 64 lt), (zq, eI G 4 (qF n v m j))] (some (.int (nI 1))) 0 0 := by
  refine zM.ofI (own := RL) (cc := cL_comments) (maxL := 13) rfl (by decide) rfl rfl (by simp [Value.category]) (Nat.le_of_ble_eq_true rfl) ?_
  intro X hF hR
  refine z_lv (lv' := [some (.ref d0), some (.int (nI 2)), some (.int x), some (.ref zd), some (.ref ze), some (.ref zc), some (.ref zk), some (.ref zt), some (.ref zq), none, none, none, none]) rfl ?_
  refine z_iload_n hF dL_comments_0 rfl ?_
  refine z_if_eq (tgt := 11) hF dL_comments_1 (by decide) (fun c_1 => absurd c_1 (by decide)) (fun c_1 => ?_)
  refine z_aload hF dL_comments_4 rfl ?_
  refine z_iconst (v := nI 2) hF dL_comments_6 (by decide) ?_
  refine z_iald (k := 2) hF 7 rfl (rfl) (by omega) rfl dL_comments_7 ?_
  refine z_top (y := nI m) (rfl) ?_
  refine z_ifn_ne (tgt := 270) hF (by omega) dL_comments_8 (by decide) (fun c_2 => ?_) (fun c_2 => absurd c_2 (by omega))
  refine z_aload hF dL_comments_270 rfl ?_
  refine z_iconst (v := nI 2) hF dL_comments_272 (by decide) ?_
  refine z_iald (k := 2) hF 7 rfl (rfl) (by omega) rfl dL_comments_273 ?_
  refine z_top (y := nI m) (rfl) ?_
  refine z_ifn_ne (tgt := 279) hF (by omega) dL_comments_274 (by decide) (fun c_3 => ?_) (fun c_3 => absurd c_3 (by omega))
  refine z_iload_n hF dL_comments_279 rfl ?_
  refine z_aload hF dL_comments_280 rfl ?_
  refine z_iconst (v := nI 2) hF dL_comments_282 (by decide) ?_
  refine z_iald (k := 2) hF 7 rfl (rfl) (by omega) rfl dL_comments_283 ?_
  refine z_top (y := nI m) (rfl) ?_
  refine z_S (As := [.int x, .int (nI m)]) (rest := []) (ws' := [(d0, .inr (4, [.ref t0, .ref r0, .ref q0, .ref y0, .ref d1, .int o, .int (nI v), .ref u0, .ref d2, .ref d3, .ref d4])), (r0, .inr (2, [.ref r1, .ref r2, .ref r3, .int (nI m)])), (zd, eI G 60 f), (ze, eI G 60 le), (zc, eI G 36 (cF s op an qs qa qb)), (zk, eI G 48 (kF ql)), (zt, eI G 64 lt), (zq, eI G 4 (qF n v m j))]) (st2 := [.int (nI (lowN x m))]) (c2 := 0) (s2 := 0) hF (c_L_low G x m (by first | assumption | omega) (by first | assumption | omega)) gL_comments_L_low rfl rfl rfl hs_L_low ⟨⟨Nat.le_of_ble_eq_true rfl, Nat.le_of_ble_eq_true rfl⟩, ⟨Nat.le_of_ble_eq_true rfl, Nat.le_of_ble_eq_true rfl⟩, Nat.le_of_ble_eq_true rfl⟩ [] rfl rfl rfl rfl rfl rfl rfl rfl rfl rfl dL_comments_284 ?_
  refine z_istore (lv' := [some (.ref d0), some (.int (nI 2)), some (.int x), some (.ref zd), some (.ref ze), some (.ref zc), some (.ref zk), some (.ref zt), some (.ref zq), some (.int (nI (lowN x m))), none, none, none]) hF dL_comments_287 rfl rfl ?_
  refine z_lv (lv' := [some (.ref d0), some (.int (nI 2)), some (.int x), some (.ref zd), some (.ref ze), some (.ref zc), some (.ref zk), some (.ref zt), some (.ref zq), some (.int (nI i)), none, none, none]) (by rw [hi]) ?_
  refine z_iload_n hF dL_comments_289 rfl ?_
  refine z_iconst (v := nI 1) hF dL_comments_290 (by decide) ?_
  refine z_icn_ne (tgt := 344) hF (by omega) (by omega) dL_comments_291 (by decide) (fun c_4 => ?_) (fun c_4 => absurd c_4 (by decide))
  refine z_iload_n hF dL_comments_344 rfl ?_
  refine z_iconst (v := nI 2) hF dL_comments_345 (by decide) ?_
  refine z_icn_ne (tgt := 398) hF (by omega) (by omega) dL_comments_346 (by decide) (fun c_5 => absurd c_5 (not_not_intro rfl)) (fun c_5 => ?_)
  have J_368 : zJ G X 368 [(d0, .inr (4, [.ref t0, .ref r0, .ref q0, .ref y0, .ref d1, .int o, .int (nI v), .ref u0, .ref d2, .ref d3, .ref d4])), (r0, .inr (2, [.ref r1, .ref r2, .ref r3, .int (nI m)])), (zd, eI G 60 f), (ze, eI G 60 le), (zc, eI G 36 (cF s op an qs qa qb)), (zk, eI G 48 (kF ql)), (zt, eI G 64 lt), (zq, eI G 4 (qF n v m j))] [some (.ref d0), some (.int (nI 2)), some (.int x), some (.ref zd), some (.ref ze), some (.ref zc), some (.ref zk), some (.ref zt), some (.ref zq), some (.int (nI i)), none, none, none] [.int (zb (op i = nI 1))] 0 0 := by
    refine z_istore (lv' := [some (.ref d0), some (.int (nI 2)), some (.int x), some (.ref zd), some (.ref ze), some (.ref zc), some (.ref zk), some (.ref zt), some (.ref zq), some (.int (nI i)), some (.int (zb (op i = nI 1))), none, none]) hF dL_comments_368 rfl rfl ?_
    refine z_aload hF dL_comments_370 rfl ?_
    refine z_bipush (v := nI 6) hF dL_comments_372 (by decide) ?_
    refine z_iload hF dL_comments_374 rfl ?_
    refine z_imul hF dL_comments_376 ?_
    refine z_top (pk_mul 6 i) ?_
    refine z_iconst (v := nI 1) hF dL_comments_377 (by decide) ?_
    refine z_iadd hF dL_comments_378 ?_
    refine z_top (nI_add (6 * i) 1) ?_
    refine z_iconst (v := nI 0) hF dL_comments_379 (by decide) ?_
    refine z_iast (k := 6 * i + 1) (ws' := [(d0, .inr (4, [.ref t0, .ref r0, .ref q0, .ref y0, .ref d1, .int o, .int (nI v), .ref u0, .ref d2, .ref d3, .ref d4])), (r0, .inr (2, [.ref r1, .ref r2, .ref r3, .int (nI m)])), (zd, eI G 60 f), (ze, eI G 60 le), (zc, eI G 36 (upd (cF s op an qs qa qb) (6 * i + 1) (nI 0))), (zk, eI G 48 (kF ql)), (zt, eI G 64 lt), (zq, eI G 4 (qF n v m j))]) hF 4 rfl (rfl) (by omega) rfl rfl dL_comments_380 ?_
    refine z_ws (ws' := [(d0, .inr (4, [.ref t0, .ref r0, .ref q0, .ref y0, .ref d1, .int o, .int (nI v), .ref u0, .ref d2, .ref d3, .ref d4])), (r0, .inr (2, [.ref r1, .ref r2, .ref r3, .int (nI m)])), (zd, eI G 60 f), (ze, eI G 60 le), (zc, eI G 36 (cF s (upd op i (nI 0)) an qs qa qb)), (zk, eI G 48 (kF ql)), (zt, eI G 64 lt), (zq, eI G 4 (qF n v m j))]) (by rw [cF_s1]) ?_
    refine z_aload_n hF dL_comments_381 rfl ?_
    refine z_iload hF dL_comments_382 rfl ?_
    refine z_V (As := [.int (nI i)]) (rest := []) (ws' := [(d0, .inr (4, [.ref t0, .ref r0, .ref q0, .ref y0, .ref d1, .int (o &&& ((bitF (nI i)) ^^^ (-1))), .int (nI v), .ref u0, .ref d2, .ref d3, .ref d4])), (r0, .inr (2, [.ref r1, .ref r2, .ref r3, .int (nI m)])), (zd, eI G 60 f), (ze, eI G 60 le), (zc, eI G 36 (cF s (upd op i (nI 0)) an qs qa qb)), (zk, eI G 48 (kF ql)), (zt, eI G 64 lt), (zq, eI G 4 (qF n v m j))]) (st2 := [.int (zb (¬ o &&& bitF (nI i) = 0))]) (c2 := 0) (s2 := 0) hF (c_X4_resolve G d0 t0 r0 q0 y0 d1 u0 d2 d3 d4 v o r1 r2 r3 m i (by first | assumption | omega) (by first | assumption | omega)) gL_comments_X4_resolve rfl rfl rfl hd_X4_resolve ⟨⟨Nat.le_of_ble_eq_true rfl, Nat.le_of_ble_eq_true rfl⟩, ⟨Nat.le_of_ble_eq_true rfl, Nat.le_of_ble_eq_true rfl⟩, Nat.le_of_ble_eq_true rfl⟩ [0, 1] rfl rfl 0 rfl rfl rfl rfl rfl rfl rfl rfl rfl rfl dL_comments_384 ?_
    refine z_iload hF dL_comments_387 rfl ?_
    refine z_ic_ne (tgt := 396) hF dL_comments_389 (by decide) (fun c_6 => absurd c_6 (not_not_intro (zb_iff (res_iff ho him hm hop)))) (fun c_6 => ?_)
    refine z_iconst (v := nI 1) hF dL_comments_392 (by decide) ?_
    refine z_goto (tgt := 397) hF dL_comments_393 (by decide) ?_
    exact hR.i dL_comments_397 (Nat.le_of_ble_eq_true rfl) (Nat.le_of_ble_eq_true rfl) (rfl) (rfl)
  refine z_aload hF dL_comments_349 rfl ?_
  refine z_bipush (v := nI 6) hF dL_comments_351 (by decide) ?_
  refine z_iload hF dL_comments_353 rfl ?_
  refine z_imul hF dL_comments_355 ?_
  refine z_top (pk_mul 6 i) ?_
  refine z_iconst (v := nI 1) hF dL_comments_356 (by decide) ?_
  refine z_iadd hF dL_comments_357 ?_
  refine z_top (nI_add (6 * i) 1) ?_
  refine z_iald (k := 6 * i + 1) hF 4 rfl (rfl) (by omega) rfl dL_comments_358 ?_
  refine z_top (y := op i) (cF_l1 _ _ _ _ _ _ _) ?_
  refine z_iconst (v := nI 1) hF dL_comments_359 (by decide) ?_
  refine z_ic_ne (tgt := 367) hF dL_comments_360 (by decide) (fun c_7 => ?_) (fun c_7 => ?_)
  · refine z_iconst (v := nI 0) hF dL_comments_367 (by decide) ?_
    refine z_top (y := zb (op i = nI 1)) (zb0 (by first | assumption | grind)) ?_
    exact J_368  
  · refine z_iconst (v := nI 1) hF dL_comments_363 (by decide) ?_
    refine z_goto (tgt := 368) hF dL_comments_364 (by decide) ?_
    refine z_top (y := zb (op i = nI 1)) (zb1 (by first | assumption | grind)) ?_
    exact J_368  
