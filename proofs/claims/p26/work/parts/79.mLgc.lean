set_option maxHeartbeats 4000000 in
set_option maxRecDepth 100000 in
theorem c_L_comm_find3 (G : zG) (d0 t0 r0 q0 y0 d1 u0 d2 d3 d4 v : Nat) (o : Int32) (t1 t2 n : Nat) (f : Nat → Int32) (g : Nat → Int32) (r1 r2 r3 m : Nat) (b : Nat → Int32) (e : Nat → Int32) (q1 q2 q3 q4 : Nat) (ql : Nat → Int32) (qs : Nat → Int32) (qa : Nat → Int32) (qb : Nat → Int32) (zd ze zc zk zt zq j : Nat) (le s op an lt B E : Nat → Int32) (x : Int32) (act i : Nat) (hn : n ≤ 60) (hm : m ≤ 6) (hv : v ≤ 300) (hi : lowN x m = i) (him : i < m) (hact9 : act < 14) (hact : ¬ (act = 0 ∧ m < 6)) (h1a : ¬ act = 1) (h2a : ¬ act = 2) (hRG : RGa n B E) (hE : LEa n le B E) (hB0 : ∀ i, m ≤ i → i < 8 → B i = -1) (hBi : B i = b i) (hb : ¬ b i = -1) : zM G yL_comments wsL_comments ({ frames := 8, cells := 1, slots := 6, locals := 138 }) [.ref d0, .int (nI act), .int x, .ref zd, .ref ze, .ref zc, .ref zk, .ref zt, .ref zq] [(d0, .inr (4, [.ref t0, .ref r0, .ref q0, .ref y0, .ref d1, .int o, .int (nI v), .ref u0, .ref d2, .ref d3, .ref d4])), (r0, .inr (2, [.ref r1, .ref r2, .ref r3, .int (nI m)])), (r1, eI G 12 b), (r2, eI G 12 e), (q0, .inr (1, [.ref q1, .ref q2, .ref q3, .ref q4])), (q1, eI G 720 ql), (q2, eI G 12 qs), (q3, eI G 12 qa), (q4, eI G 12 qb), (t0, .inr (3, [.ref t1, .ref t2, .int (nI n)])), (t1, eI G 60 f), (t2, eI G 60 g), (zd, eI G 60 f), (ze, eI G 60 le), (zc, eI G 36 (cF s op an qs qa qb)), (zk, eI G 48 (kF ql)), (zt, eI G 64 lt), (zq, eI G 4 (qF n v m j))] [(d0, .inr (4, [.ref t0, .ref r0, .ref q0, .ref y0, .ref d1, .int o, .int (nI v), .ref u0, .ref d2, .ref d3, .ref d4])), (r0, .inr (2, [.ref r1, .ref r2, .ref r3, .int (nI m)])), (r1, eI G 12 b), (r2, eI G 12 e), (q0, .inr (1, [.ref q1, .ref q2, .ref q3, .ref q4])), (q1, eI G 720 ql), (q2, eI G 12 qs), (q3, eI G 12 qa), (q4, eI G 12 qb), (t0, .inr (3, [.ref t1, .ref t2, .int (nI n)])), (t1, eI G 60 f), (t2, eI G 60 g), (zd, eI G 60 f), (ze, eI G 60 le), (zc, eI G 36 (cF s op an qs qa qb)), (zk, eI G 48 (kF ql)), (zt, eI G 64 lt), (zq, eI G 4 (qF n v m j))] (some (.int (nI 1))) 1 6 := by
  refine zM.ofI (own := RL) (cc := cL_comments) (maxL := 13) rfl (by decide) rfl rfl (by simp [Value.category]) (Nat.le_of_ble_eq_true rfl) ?_
  intro X hF hR
  refine z_lv (lv' := [some (.ref d0), some (.int (nI act)), some (.int x), some (.ref zd), some (.ref ze), some (.ref zc), some (.ref zk), some (.ref zt), some (.ref zq), none, none, none, none]) rfl ?_
  have J_270 : zJ G X 270 [(d0, .inr (4, [.ref t0, .ref r0, .ref q0, .ref y0, .ref d1, .int o, .int (nI v), .ref u0, .ref d2, .ref d3, .ref d4])), (r0, .inr (2, [.ref r1, .ref r2, .ref r3, .int (nI m)])), (r1, eI G 12 b), (r2, eI G 12 e), (q0, .inr (1, [.ref q1, .ref q2, .ref q3, .ref q4])), (q1, eI G 720 ql), (q2, eI G 12 qs), (q3, eI G 12 qa), (q4, eI G 12 qb), (t0, .inr (3, [.ref t1, .ref t2, .int (nI n)])), (t1, eI G 60 f), (t2, eI G 60 g), (zd, eI G 60 f), (ze, eI G 60 le), (zc, eI G 36 (cF s op an qs qa qb)), (zk, eI G 48 (kF ql)), (zt, eI G 64 lt), (zq, eI G 4 (qF n v m j))] [some (.ref d0), some (.int (nI act)), some (.int x), some (.ref zd), some (.ref ze), some (.ref zc), some (.ref zk), some (.ref zt), some (.ref zq), none, none, none, none] [] 0 0 := by
    refine z_aload hF dL_comments_270 rfl ?_
    refine z_iconst (v := nI 2) hF dL_comments_272 (by decide) ?_
    refine z_iald (k := 2) hF 17 rfl (rfl) (by omega) rfl dL_comments_273 ?_
    refine z_top (y := nI m) (rfl) ?_
    refine z_ifn_ne (tgt := 279) hF (by omega) dL_comments_274 (by decide) (fun c_1 => ?_) (fun c_1 => absurd c_1 (by omega))
    refine z_iload_n hF dL_comments_279 rfl ?_
    refine z_aload hF dL_comments_280 rfl ?_
    refine z_iconst (v := nI 2) hF dL_comments_282 (by decide) ?_
    refine z_iald (k := 2) hF 17 rfl (rfl) (by omega) rfl dL_comments_283 ?_
    refine z_top (y := nI m) (rfl) ?_
    refine z_S (As := [.int x, .int (nI m)]) (rest := []) (ws' := [(d0, .inr (4, [.ref t0, .ref r0, .ref q0, .ref y0, .ref d1, .int o, .int (nI v), .ref u0, .ref d2, .ref d3, .ref d4])), (r0, .inr (2, [.ref r1, .ref r2, .ref r3, .int (nI m)])), (r1, eI G 12 b), (r2, eI G 12 e), (q0, .inr (1, [.ref q1, .ref q2, .ref q3, .ref q4])), (q1, eI G 720 ql), (q2, eI G 12 qs), (q3, eI G 12 qa), (q4, eI G 12 qb), (t0, .inr (3, [.ref t1, .ref t2, .int (nI n)])), (t1, eI G 60 f), (t2, eI G 60 g), (zd, eI G 60 f), (ze, eI G 60 le), (zc, eI G 36 (cF s op an qs qa qb)), (zk, eI G 48 (kF ql)), (zt, eI G 64 lt), (zq, eI G 4 (qF n v m j))]) (st2 := [.int (nI (lowN x m))]) (c2 := 0) (s2 := 0) hF (c_L_low G x m (by first | assumption | omega) (by first | assumption | omega)) gL_comments_L_low rfl rfl rfl hs_L_low ⟨⟨Nat.le_of_ble_eq_true rfl, Nat.le_of_ble_eq_true rfl⟩, ⟨Nat.le_of_ble_eq_true rfl, Nat.le_of_ble_eq_true rfl⟩, Nat.le_of_ble_eq_true rfl⟩ [] rfl rfl rfl rfl rfl rfl rfl rfl rfl rfl dL_comments_284 ?_
    refine z_istore (lv' := [some (.ref d0), some (.int (nI act)), some (.int x), some (.ref zd), some (.ref ze), some (.ref zc), some (.ref zk), some (.ref zt), some (.ref zq), some (.int (nI (lowN x m))), none, none, none]) hF dL_comments_287 rfl rfl ?_
    refine z_lv (lv' := [some (.ref d0), some (.int (nI act)), some (.int x), some (.ref zd), some (.ref ze), some (.ref zc), some (.ref zk), some (.ref zt), some (.ref zq), some (.int (nI i)), none, none, none]) (by rw [hi]) ?_
    refine z_iload_n hF dL_comments_289 rfl ?_
    refine z_iconst (v := nI 1) hF dL_comments_290 (by decide) ?_
    refine z_icn_ne (tgt := 344) hF (by omega) (by omega) dL_comments_291 (by decide) (fun c_2 => ?_) (fun c_2 => absurd c_2 (h1a))
    refine z_iload_n hF dL_comments_344 rfl ?_
    refine z_iconst (v := nI 2) hF dL_comments_345 (by decide) ?_
    refine z_icn_ne (tgt := 398) hF (by omega) (by omega) dL_comments_346 (by decide) (fun c_3 => ?_) (fun c_3 => absurd c_3 (h2a))
    refine z_aload_n hF dL_comments_398 rfl ?_
    refine z_iconst (v := nI 1) hF dL_comments_399 (by decide) ?_
    refine z_iload hF dL_comments_400 rfl ?_
    refine z_iconst (v := nI 0) hF dL_comments_402 (by decide) ?_
    refine z_iconst (v := nI 0) hF dL_comments_403 (by decide) ?_
    refine z_SW (As := [.ref d0, .int (nI 1), .int (nI i), .int (nI 0), .int (nI 0)]) (rest := []) (ws' := [(d0, .inr (4, [.ref t0, .ref r0, .ref q0, .ref y0, .ref d1, .int o, .int (nI v), .ref u0, .ref d2, .ref d3, .ref d4])), (r0, .inr (2, [.ref r1, .ref r2, .ref r3, .int (nI m)])), (r1, eI G 12 b), (r2, eI G 12 e), (q0, .inr (1, [.ref q1, .ref q2, .ref q3, .ref q4])), (q1, eI G 720 ql), (q2, eI G 12 qs), (q3, eI G 12 qa), (q4, eI G 12 qb), (t0, .inr (3, [.ref t1, .ref t2, .int (nI n)])), (t1, eI G 60 f), (t2, eI G 60 g), (zd, eI G 60 f), (ze, eI G 60 le), (zc, eI G 36 (cF s op an qs qa qb)), (zk, eI G 48 (kF ql)), (zt, eI G 64 lt), (zq, eI G 4 (qF n v m j))]) (st2 := [.int (-3)]) (c2 := 1) (s2 := 6) hF (c_L_calls_find3 G d0 t0 r0 q0 y0 d1 u0 d2 d3 d4 v o r1 r2 r3 m b i (by first | assumption | omega) (by first | assumption | omega) (by first | assumption | omega)) gL_comments_L_calls rfl rfl rfl hs_L_calls ⟨⟨Nat.le_of_ble_eq_true rfl, Nat.le_of_ble_eq_true rfl⟩, ⟨Nat.le_of_ble_eq_true rfl, Nat.le_of_ble_eq_true rfl⟩, Nat.le_of_ble_eq_true rfl⟩ [0, 1, 2] rfl rfl rfl rfl rfl rfl rfl rfl rfl rfl dL_comments_404 ?_
    refine z_iload hF dL_comments_407 rfl ?_
    refine z_aload_n hF dL_comments_409 rfl ?_
    refine z_aload hF dL_comments_410 rfl ?_
    refine z_aload hF dL_comments_412 rfl ?_
    refine z_aload hF dL_comments_414 rfl ?_
    refine z_aload hF dL_comments_416 rfl ?_
    refine z_aload hF dL_comments_418 rfl ?_
    refine z_S (As := [.int (nI i), .ref zd, .ref ze, .ref zc, .ref zk, .ref zt, .ref zq]) (rest := [.int (-3)]) (ws' := [(d0, .inr (4, [.ref t0, .ref r0, .ref q0, .ref y0, .ref d1, .int o, .int (nI v), .ref u0, .ref d2, .ref d3, .ref d4])), (r0, .inr (2, [.ref r1, .ref r2, .ref r3, .int (nI m)])), (r1, eI G 12 b), (r2, eI G 12 e), (q0, .inr (1, [.ref q1, .ref q2, .ref q3, .ref q4])), (q1, eI G 720 ql), (q2, eI G 12 qs), (q3, eI G 12 qa), (q4, eI G 12 qb), (t0, .inr (3, [.ref t1, .ref t2, .int (nI n)])), (t1, eI G 60 f), (t2, eI G 60 g), (zd, eI G 60 f), (ze, eI G 60 le), (zc, eI G 36 (cF s op an qs qa qb)), (zk, eI G 48 (kF ql)), (zt, eI G 64 lt), (zq, eI G 4 (qF n v m j))]) (st2 := [.int (-3), .int (-3)]) (c2 := 1) (s2 := 6) hF (c_L_finds3 G zd ze zc zk zt zq n v m j i f le s op an ql qs qa qb lt B E (by first | assumption | omega) (by first | assumption | omega) (by first | assumption | omega) (by first | assumption | omega) (by first | assumption | omega) (by first | assumption | omega) (by first | assumption | omega) (fun h => hb (hBi.symm.trans h))) gL_comments_L_finds rfl rfl rfl hs_L_finds ⟨⟨Nat.le_of_ble_eq_true rfl, Nat.le_of_ble_eq_true rfl⟩, ⟨Nat.le_of_ble_eq_true rfl, Nat.le_of_ble_eq_true rfl⟩, Nat.le_of_ble_eq_true rfl⟩ [12, 13, 14, 15, 16, 17] rfl rfl rfl rfl rfl rfl rfl rfl rfl rfl dL_comments_420 ?_
    refine z_ic_ne (tgt := 430) hF dL_comments_423 (by decide) (fun c_4 => absurd c_4 (not_not_intro rfl)) (fun c_4 => ?_)
    refine z_iconst (v := nI 1) hF dL_comments_426 (by decide) ?_
    refine z_goto (tgt := 431) hF dL_comments_427 (by decide) ?_
    exact hR.i dL_comments_431 (Nat.le_of_ble_eq_true rfl) (Nat.le_of_ble_eq_true rfl) (rfl) (rfl)
  refine z_iload_n hF dL_comments_0 rfl ?_
  refine z_ifn_eq (tgt := 11) hF (by omega) dL_comments_1 (by decide) (fun h1 => ?_) (fun h1 => ?_)
  · refine z_aload hF dL_comments_11 rfl ?_
    refine z_iconst (v := nI 2) hF dL_comments_13 (by decide) ?_
    refine z_iald (k := 2) hF 17 rfl (rfl) (by omega) rfl dL_comments_14 ?_
    refine z_top (y := nI m) (rfl) ?_
    refine z_bipush (v := nI 6) hF dL_comments_15 (by decide) ?_
    refine z_icn_ge (tgt := 270) hF (by omega) (by omega) dL_comments_17 (by decide) (fun c_5 => ?_) (fun c_5 => absurd c_5 (fun h => hact ⟨h1, h⟩))
    exact J_270  
  · refine z_aload hF dL_comments_4 rfl ?_
    refine z_iconst (v := nI 2) hF dL_comments_6 (by decide) ?_
    refine z_iald (k := 2) hF 17 rfl (rfl) (by omega) rfl dL_comments_7 ?_
    refine z_top (y := nI m) (rfl) ?_
    refine z_ifn_ne (tgt := 270) hF (by omega) dL_comments_8 (by decide) (fun c_6 => ?_) (fun c_6 => absurd c_6 (by omega))
    exact J_270  
set_option maxHeartbeats 4000000 in
set_option maxRecDepth 100000 in
theorem c_L_comm_find0 (G : zG) (d0 t0 r0 q0 y0 d1 u0 d2 d3 d4 v : Nat) (o : Int32) (t1 t2 n : Nat) (f : Nat → Int32) (g : Nat → Int32) (r1 r2 r3 m : Nat) (b : Nat → Int32) (e : Nat → Int32) (q1 q2 q3 q4 : Nat) (ql : Nat → Int32) (qs : Nat → Int32) (qa : Nat → Int32) (qb : Nat → Int32) (zd ze zc zk zt zq j : Nat) (le s op an lt B E : Nat → Int32) (x : Int32) (act i z : Nat) (hn : n ≤ 60) (hm : m ≤ 6) (hv : v ≤ 300) (hi : lowN x m = i) (him : i < m) (hact9 : act < 14) (hact : ¬ (act = 0 ∧ m < 6)) (h1a : ¬ act = 1) (h2a : ¬ act = 2) (hRG : RGa n B E) (hE : LEa n le B E) (hB0 : ∀ i, m ≤ i → i < 8 → B i = -1) (hBi : B i = b i) (hb : b i = -1) (hz : qs i = nI z) (hz1 : 1 ≤ z) (hz8 : z ≤ 8) (h0 : bfF n z i ql qa qb f = -1) : zM G yL_comments wsL_comments ({ frames := 6, cells := 0, slots := 0, locals := 153 }) [.ref d0, .int (nI act), .int x, .ref zd, .ref ze, .ref zc, .ref zk, .ref zt, .ref zq] [(d0, .inr (4, [.ref t0, .ref r0, .ref q0, .ref y0, .ref d1, .int o, .int (nI v), .ref u0, .ref d2, .ref d3, .ref d4])), (r0, .inr (2, [.ref r1, .ref r2, .ref r3, .int (nI m)])), (r1, eI G 12 b), (r2, eI G 12 e), (q0, .inr (1, [.ref q1, .ref q2, .ref q3, .ref q4])), (q1, eI G 720 ql), (q2, eI G 12 qs), (q3, eI G 12 qa), (q4, eI G 12 qb), (t0, .inr (3, [.ref t1, .ref t2, .int (nI n)])), (t1, eI G 60 f), (t2, eI G 60 g), (zd, eI G 60 f), (ze, eI G 60 le), (zc, eI G 36 (cF s op an qs qa qb)), (zk, eI G 48 (kF ql)), (zt, eI G 64 lt), (zq, eI G 4 (qF n v m j))] [(d0, .inr (4, [.ref t0, .ref r0, .ref q0, .ref y0, .ref d1, .int o, .int (nI v), .ref u0, .ref d2, .ref d3, .ref d4])), (r0, .inr (2, [.ref r1, .ref r2, .ref r3, .int (nI m)])), (r1, eI G 12 b), (r2, eI G 12 e), (q0, .inr (1, [.ref q1, .ref q2, .ref q3, .ref q4])), (q1, eI G 720 ql), (q2, eI G 12 qs), (q3, eI G 12 qa), (q4, eI G 12 qb), (t0, .inr (3, [.ref t1, .ref t2, .int (nI n)])), (t1, eI G 60 f), (t2, eI G 60 g), (zd, eI G 60 f), (ze, eI G 60 le), (zc, eI G 36 (cF s op an qs qa qb)), (zk, eI G 48 (kF ql)), (zt, eI G 64 (wrF lt (8 * (v % 8)) 8 (fun kk => numF (B kk) (E kk)))), (zq, eI G 4 (qF n v m j))] (some (.int (nI 1))) 0 0 := by
  refine zM.ofI (own := RL) (cc := cL_comments) (maxL := 13) rfl (by decide) rfl rfl (by simp [Value.category]) (Nat.le_of_ble_eq_true rfl) ?_
  intro X hF hR
  refine z_lv (lv' := [some (.ref d0), some (.int (nI act)), some (.int x), some (.ref zd), some (.ref ze), some (.ref zc), some (.ref zk), some (.ref zt), some (.ref zq), none, none, none, none]) rfl ?_
  have J_270 : zJ G X 270 [(d0, .inr (4, [.ref t0, .ref r0, .ref q0, .ref y0, .ref d1, .int o, .int (nI v), .ref u0, .ref d2, .ref d3, .ref d4])), (r0, .inr (2, [.ref r1, .ref r2, .ref r3, .int (nI m)])), (r1, eI G 12 b), (r2, eI G 12 e), (q0, .inr (1, [.ref q1, .ref q2, .ref q3, .ref q4])), (q1, eI G 720 ql), (q2, eI G 12 qs), (q3, eI G 12 qa), (q4, eI G 12 qb), (t0, .inr (3, [.ref t1, .ref t2, .int (nI n)])), (t1, eI G 60 f), (t2, eI G 60 g), (zd, eI G 60 f), (ze, eI G 60 le), (zc, eI G 36 (cF s op an qs qa qb)), (zk, eI G 48 (kF ql)), (zt, eI G 64 lt), (zq, eI G 4 (qF n v m j))] [some (.ref d0), some (.int (nI act)), some (.int x), some (.ref zd), some (.ref ze), some (.ref zc), some (.ref zk), some (.ref zt), some (.ref zq), none, none, none, none] [] 0 0 := by
    refine z_aload hF dL_comments_270 rfl ?_
    refine z_iconst (v := nI 2) hF dL_comments_272 (by decide) ?_
    refine z_iald (k := 2) hF 17 rfl (rfl) (by omega) rfl dL_comments_273 ?_
    refine z_top (y := nI m) (rfl) ?_
    refine z_ifn_ne (tgt := 279) hF (by omega) dL_comments_274 (by decide) (fun c_1 => ?_) (fun c_1 => absurd c_1 (by omega))
    refine z_iload_n hF dL_comments_279 rfl ?_
    refine z_aload hF dL_comments_280 rfl ?_
    refine z_iconst (v := nI 2) hF dL_comments_282 (by decide) ?_
    refine z_iald (k := 2) hF 17 rfl (rfl) (by omega) rfl dL_comments_283 ?_
    refine z_top (y := nI m) (rfl) ?_
    refine z_S (As := [.int x, .int (nI m)]) (rest := []) (ws' := [(d0, .inr (4, [.ref t0, .ref r0, .ref q0, .ref y0, .ref d1, .int o, .int (nI v), .ref u0, .ref d2, .ref d3, .ref d4])), (r0, .inr (2, [.ref r1, .ref r2, .ref r3, .int (nI m)])), (r1, eI G 12 b), (r2, eI G 12 e), (q0, .inr (1, [.ref q1, .ref q2, .ref q3, .ref q4])), (q1, eI G 720 ql), (q2, eI G 12 qs), (q3, eI G 12 qa), (q4, eI G 12 qb), (t0, .inr (3, [.ref t1, .ref t2, .int (nI n)])), (t1, eI G 60 f), (t2, eI G 60 g), (zd, eI G 60 f), (ze, eI G 60 le), (zc, eI G 36 (cF s op an qs qa qb)), (zk, eI G 48 (kF ql)), (zt, eI G 64 lt), (zq, eI G 4 (qF n v m j))]) (st2 := [.int (nI (lowN x m))]) (c2 := 0) (s2 := 0) hF (c_L_low G x m (by first | assumption | omega) (by first | assumption | omega)) gL_comments_L_low rfl rfl rfl hs_L_low ⟨⟨Nat.le_of_ble_eq_true rfl, Nat.le_of_ble_eq_true rfl⟩, ⟨Nat.le_of_ble_eq_true rfl, Nat.le_of_ble_eq_true rfl⟩, Nat.le_of_ble_eq_true rfl⟩ [] rfl rfl rfl rfl rfl rfl rfl rfl rfl rfl dL_comments_284 ?_
    refine z_istore (lv' := [some (.ref d0), some (.int (nI act)), some (.int x), some (.ref zd), some (.ref ze), some (.ref zc), some (.ref zk), some (.ref zt), some (.ref zq), some (.int (nI (lowN x m))), none, none, none]) hF dL_comments_287 rfl rfl ?_
    refine z_lv (lv' := [some (.ref d0), some (.int (nI act)), some (.int x), some (.ref zd), some (.ref ze), some (.ref zc), some (.ref zk), some (.ref zt), some (.ref zq), some (.int (nI i)), none, none, none]) (by rw [hi]) ?_
    refine z_iload_n hF dL_comments_289 rfl ?_
    refine z_iconst (v := nI 1) hF dL_comments_290 (by decide) ?_
    refine z_icn_ne (tgt := 344) hF (by omega) (by omega) dL_comments_291 (by decide) (fun c_2 => ?_) (fun c_2 => absurd c_2 (h1a))
    refine z_iload_n hF dL_comments_344 rfl ?_
    refine z_iconst (v := nI 2) hF dL_comments_345 (by decide) ?_
    refine z_icn_ne (tgt := 398) hF (by omega) (by omega) dL_comments_346 (by decide) (fun c_3 => ?_) (fun c_3 => absurd c_3 (h2a))
    refine z_aload_n hF dL_comments_398 rfl ?_
    refine z_iconst (v := nI 1) hF dL_comments_399 (by decide) ?_
    refine z_iload hF dL_comments_400 rfl ?_
    refine z_iconst (v := nI 0) hF dL_comments_402 (by decide) ?_
    refine z_iconst (v := nI 0) hF dL_comments_403 (by decide) ?_
    refine z_SW (As := [.ref d0, .int (nI 1), .int (nI i), .int (nI 0), .int (nI 0)]) (rest := []) (ws' := [(d0, .inr (4, [.ref t0, .ref r0, .ref q0, .ref y0, .ref d1, .int o, .int (nI v), .ref u0, .ref d2, .ref d3, .ref d4])), (r0, .inr (2, [.ref r1, .ref r2, .ref r3, .int (nI m)])), (r1, eI G 12 b), (r2, eI G 12 e), (q0, .inr (1, [.ref q1, .ref q2, .ref q3, .ref q4])), (q1, eI G 720 ql), (q2, eI G 12 qs), (q3, eI G 12 qa), (q4, eI G 12 qb), (t0, .inr (3, [.ref t1, .ref t2, .int (nI n)])), (t1, eI G 60 f), (t2, eI G 60 g), (zd, eI G 60 f), (ze, eI G 60 le), (zc, eI G 36 (cF s op an qs qa qb)), (zk, eI G 48 (kF ql)), (zt, eI G 64 lt), (zq, eI G 4 (qF n v m j))]) (st2 := [.int (bfF n z i ql qa qb f)]) (c2 := 0) (s2 := 0) hF (c_L_calls_find0 G d0 t0 r0 q0 y0 d1 u0 d2 d3 d4 v o t1 t2 n f g r1 r2 r3 m b e q1 q2 q3 q4 ql qs qa qb i z (by first | assumption | omega) (by first | assumption | omega) (by first | assumption | omega) (by first | assumption | omega) (by first | assumption | omega) (by omega) (by first | assumption | omega)) gL_comments_L_calls rfl rfl rfl hs_L_calls ⟨⟨Nat.le_of_ble_eq_true rfl, Nat.le_of_ble_eq_true rfl⟩, ⟨Nat.le_of_ble_eq_true rfl, Nat.le_of_ble_eq_true rfl⟩, Nat.le_of_ble_eq_true rfl⟩ [0, 1, 2, 3, 4, 5, 6, 7, 8, 9, 10, 11] rfl rfl rfl rfl rfl rfl rfl rfl rfl rfl dL_comments_404 ?_
    refine z_iload hF dL_comments_407 rfl ?_
    refine z_aload_n hF dL_comments_409 rfl ?_
    refine z_aload hF dL_comments_410 rfl ?_
    refine z_aload hF dL_comments_412 rfl ?_
    refine z_aload hF dL_comments_414 rfl ?_
    refine z_aload hF dL_comments_416 rfl ?_
    refine z_aload hF dL_comments_418 rfl ?_
    refine z_S (As := [.int (nI i), .ref zd, .ref ze, .ref zc, .ref zk, .ref zt, .ref zq]) (rest := [.int (bfF n z i ql qa qb f)]) (ws' := [(d0, .inr (4, [.ref t0, .ref r0, .ref q0, .ref y0, .ref d1, .int o, .int (nI v), .ref u0, .ref d2, .ref d3, .ref d4])), (r0, .inr (2, [.ref r1, .ref r2, .ref r3, .int (nI m)])), (r1, eI G 12 b), (r2, eI G 12 e), (q0, .inr (1, [.ref q1, .ref q2, .ref q3, .ref q4])), (q1, eI G 720 ql), (q2, eI G 12 qs), (q3, eI G 12 qa), (q4, eI G 12 qb), (t0, .inr (3, [.ref t1, .ref t2, .int (nI n)])), (t1, eI G 60 f), (t2, eI G 60 g), (zd, eI G 60 f), (ze, eI G 60 le), (zc, eI G 36 (cF s op an qs qa qb)), (zk, eI G 48 (kF ql)), (zt, eI G 64 (wrF lt (8 * (v % 8)) 8 (fun kk => numF (B kk) (E kk)))), (zq, eI G 4 (qF n v m j))]) (st2 := [.int (bfF n z i ql qa qb f), .int (bfF n z i ql qa qb f)]) (c2 := 0) (s2 := 0) hF (c_L_finds0 G zd ze zc zk zt zq n v m j i z f le s op an ql qs qa qb lt B E (by first | assumption | omega) (by first | assumption | omega) (by first | assumption | omega) (by first | assumption | omega) (by first | assumption | omega) (by first | assumption | omega) (by first | assumption | omega) (hBi.trans hb) (by first | assumption | omega) (by first | assumption | omega) (by first | assumption | omega) (by first | assumption | omega)) gL_comments_L_finds rfl rfl rfl hs_L_finds ⟨⟨Nat.le_of_ble_eq_true rfl, Nat.le_of_ble_eq_true rfl⟩, ⟨Nat.le_of_ble_eq_true rfl, Nat.le_of_ble_eq_true rfl⟩, Nat.le_of_ble_eq_true rfl⟩ [12, 13, 14, 15, 16, 17] rfl rfl rfl rfl rfl rfl rfl rfl rfl rfl dL_comments_420 ?_
    refine z_ic_ne (tgt := 430) hF dL_comments_423 (by decide) (fun c_4 => absurd c_4 (not_not_intro rfl)) (fun c_4 => ?_)
    refine z_iconst (v := nI 1) hF dL_comments_426 (by decide) ?_
    refine z_goto (tgt := 431) hF dL_comments_427 (by decide) ?_
    exact hR.i dL_comments_431 (Nat.le_of_ble_eq_true rfl) (Nat.le_of_ble_eq_true rfl) (rfl) (rfl)
  refine z_iload_n hF dL_comments_0 rfl ?_
  refine z_ifn_eq (tgt := 11) hF (by omega) dL_comments_1 (by decide) (fun h1 => ?_) (fun h1 => ?_)
  · refine z_aload hF dL_comments_11 rfl ?_
    refine z_iconst (v := nI 2) hF dL_comments_13 (by decide) ?_
    refine z_iald (k := 2) hF 17 rfl (rfl) (by omega) rfl dL_comments_14 ?_
    refine z_top (y := nI m) (rfl) ?_
    refine z_bipush (v := nI 6) hF dL_comments_15 (by decide) ?_
    refine z_icn_ge (tgt := 270) hF (by omega) (by omega) dL_comments_17 (by decide) (fun c_5 => ?_) (fun c_5 => absurd c_5 (fun h => hact ⟨h1, h⟩))
    exact J_270  
  · refine z_aload hF dL_comments_4 rfl ?_
    refine z_iconst (v := nI 2) hF dL_comments_6 (by decide) ?_
    refine z_iald (k := 2) hF 17 rfl (rfl) (by omega) rfl dL_comments_7 ?_
    refine z_top (y := nI m) (rfl) ?_
    refine z_ifn_ne (tgt := 270) hF (by omega) dL_comments_8 (by decide) (fun c_6 => ?_) (fun c_6 => absurd c_6 (by omega))
    exact J_270  
set_option maxHeartbeats 4000000 in
set_option maxRecDepth 100000 in
theorem c_L_comm_find1 (G : zG) (d0 t0 r0 q0 y0 d1 u0 d2 d3 d4 v : Nat) (o : Int32) (t1 t2 n : Nat) (f : Nat → Int32) (g : Nat → Int32) (r1 r2 r3 m : Nat) (b : Nat → Int32) (e : Nat → Int32) (q1 q2 q3 q4 : Nat) (ql : Nat → Int32) (qs : Nat → Int32) (qa : Nat → Int32) (qb : Nat → Int32) (zd ze zc zk zt zq j : Nat) (le s op an lt B E : Nat → Int32) (x : Int32) (act i z : Nat) (hn : n ≤ 60) (hm : m ≤ 6) (hv : v ≤ 300) (hi : lowN x m = i) (him : i < m) (hact9 : act < 14) (hact : ¬ (act = 0 ∧ m < 6)) (h1a : ¬ act = 1) (h2a : ¬ act = 2) (hRG : RGa n B E) (hE : LEa n le B E) (hB0 : ∀ i, m ≤ i → i < 8 → B i = -1) (hBi : B i = b i) (hb : b i = -1) (hz : qs i = nI z) (hz1 : 1 ≤ z) (hz8 : z ≤ 8) (h0 : ¬ bfF n z i ql qa qb f = -1) : zM G yL_comments wsL_comments ({ frames := 6, cells := 0, slots := 0, locals := 153 }) [.ref d0, .int (nI act), .int x, .ref zd, .ref ze, .ref zc, .ref zk, .ref zt, .ref zq] [(d0, .inr (4, [.ref t0, .ref r0, .ref q0, .ref y0, .ref d1, .int o, .int (nI v), .ref u0, .ref d2, .ref d3, .ref d4])), (r0, .inr (2, [.ref r1, .ref r2, .ref r3, .int (nI m)])), (r1, eI G 12 b), (r2, eI G 12 e), (q0, .inr (1, [.ref q1, .ref q2, .ref q3, .ref q4])), (q1, eI G 720 ql), (q2, eI G 12 qs), (q3, eI G 12 qa), (q4, eI G 12 qb), (t0, .inr (3, [.ref t1, .ref t2, .int (nI n)])), (t1, eI G 60 f), (t2, eI G 60 g), (zd, eI G 60 f), (ze, eI G 60 le), (zc, eI G 36 (cF s op an qs qa qb)), (zk, eI G 48 (kF ql)), (zt, eI G 64 lt), (zq, eI G 4 (qF n v m j))] [(d0, .inr (4, [.ref t0, .ref r0, .ref q0, .ref y0, .ref d1, .int o, .int (nI v), .ref u0, .ref d2, .ref d3, .ref d4])), (r0, .inr (2, [.ref r1, .ref r2, .ref r3, .int (nI m)])), (r1, eI G 12 (upd b i (nI (bfF n z i ql qa qb f).toNatClampNeg))), (r2, eI G 12 (upd e i (nI ((bfF n z i ql qa qb f).toNatClampNeg + z)))), (q0, .inr (1, [.ref q1, .ref q2, .ref q3, .ref q4])), (q1, eI G 720 ql), (q2, eI G 12 qs), (q3, eI G 12 qa), (q4, eI G 12 qb), (t0, .inr (3, [.ref t1, .ref t2, .int (nI n)])), (t1, eI G 60 f), (t2, eI G 60 (mrkF g (bfF n z i ql qa qb f).toNatClampNeg ((bfF n z i ql qa qb f).toNatClampNeg + z) (bitF (nI i)))), (zd, eI G 60 f), (ze, eI G 60 (mrkF le (bfF n z i ql qa qb f).toNatClampNeg ((bfF n z i ql qa qb f).toNatClampNeg + z) (bitF (nI i)))), (zc, eI G 36 (cF s op an qs qa qb)), (zk, eI G 48 (kF ql)), (zt, eI G 64 (wrF lt (8 * (v % 8)) 8 (fun kk => numF ((upd B i (nI (bfF n z i ql qa qb f).toNatClampNeg)) kk) ((upd E i (nI ((bfF n z i ql qa qb f).toNatClampNeg + z))) kk)))), (zq, eI G 4 (qF n v m j))] (some (.int (nI 1))) 0 0 := by
  refine zM.ofI (own := RL) (cc := cL_comments) (maxL := 13) rfl (by decide) rfl rfl (by simp [Value.category]) (Nat.le_of_ble_eq_true rfl) ?_
  intro X hF hR
  refine z_lv (lv' := [some (.ref d0), some (.int (nI act)), some (.int x), some (.ref zd), some (.ref ze), some (.ref zc), some (.ref zk), some (.ref zt), some (.ref zq), none, none, none, none]) rfl ?_
  have J_270 : zJ G X 270 [(d0, .inr (4, [.ref t0, .ref r0, .ref q0, .ref y0, .ref d1, .int o, .int (nI v), .ref u0, .ref d2, .ref d3, .ref d4])), (r0, .inr (2, [.ref r1, .ref r2, .ref r3, .int (nI m)])), (r1, eI G 12 b), (r2, eI G 12 e), (q0, .inr (1, [.ref q1, .ref q2, .ref q3, .ref q4])), (q1, eI G 720 ql), (q2, eI G 12 qs), (q3, eI G 12 qa), (q4, eI G 12 qb), (t0, .inr (3, [.ref t1, .ref t2, .int (nI n)])), (t1, eI G 60 f), (t2, eI G 60 g), (zd, eI G 60 f), (ze, eI G 60 le), (zc, eI G 36 (cF s op an qs qa qb)), (zk, eI G 48 (kF ql)), (zt, eI G 64 lt), (zq, eI G 4 (qF n v m j))] [some (.ref d0), some (.int (nI act)), some (.int x), some (.ref zd), some (.ref ze), some (.ref zc), some (.ref zk), some (.ref zt), some (.ref zq), none, none, none, none] [] 0 0 := by
    refine z_aload hF dL_comments_270 rfl ?_
    refine z_iconst (v := nI 2) hF dL_comments_272 (by decide) ?_
    refine z_iald (k := 2) hF 17 rfl (rfl) (by omega) rfl dL_comments_273 ?_
    refine z_top (y := nI m) (rfl) ?_
    refine z_ifn_ne (tgt := 279) hF (by omega) dL_comments_274 (by decide) (fun c_1 => ?_) (fun c_1 => absurd c_1 (by omega))
    refine z_iload_n hF dL_comments_279 rfl ?_
    refine z_aload hF dL_comments_280 rfl ?_
    refine z_iconst (v := nI 2) hF dL_comments_282 (by decide) ?_
    refine z_iald (k := 2) hF 17 rfl (rfl) (by omega) rfl dL_comments_283 ?_
    refine z_top (y := nI m) (rfl) ?_
    refine z_S (As := [.int x, .int (nI m)]) (rest := []) (ws' := [(d0, .inr (4, [.ref t0, .ref r0, .ref q0, .ref y0, .ref d1, .int o, .int (nI v), .ref u0, .ref d2, .ref d3, .ref d4])), (r0, .inr (2, [.ref r1, .ref r2, .ref r3, .int (nI m)])), (r1, eI G 12 b), (r2, eI G 12 e), (q0, .inr (1, [.ref q1, .ref q2, .ref q3, .ref q4])), (q1, eI G 720 ql), (q2, eI G 12 qs), (q3, eI G 12 qa), (q4, eI G 12 qb), (t0, .inr (3, [.ref t1, .ref t2, .int (nI n)])), (t1, eI G 60 f), (t2, eI G 60 g), (zd, eI G 60 f), (ze, eI G 60 le), (zc, eI G 36 (cF s op an qs qa qb)), (zk, eI G 48 (kF ql)), (zt, eI G 64 lt), (zq, eI G 4 (qF n v m j))]) (st2 := [.int (nI (lowN x m))]) (c2 := 0) (s2 := 0) hF (c_L_low G x m (by first | assumption | omega) (by first | assumption | omega)) gL_comments_L_low rfl rfl rfl hs_L_low ⟨⟨Nat.le_of_ble_eq_true rfl, Nat.le_of_ble_eq_true rfl⟩, ⟨Nat.le_of_ble_eq_true rfl, Nat.le_of_ble_eq_true rfl⟩, Nat.le_of_ble_eq_true rfl⟩ [] rfl rfl rfl rfl rfl rfl rfl rfl rfl rfl dL_comments_284 ?_
    refine z_istore (lv' := [some (.ref d0), some (.int (nI act)), some (.int x), some (.ref zd), some (.ref ze), some (.ref zc), some (.ref zk), some (.ref zt), some (.ref zq), some (.int (nI (lowN x m))), none, none, none]) hF dL_comments_287 rfl rfl ?_
    refine z_lv (lv' := [some (.ref d0), some (.int (nI act)), some (.int x), some (.ref zd), some (.ref ze), some (.ref zc), some (.ref zk), some (.ref zt), some (.ref zq), some (.int (nI i)), none, none, none]) (by rw [hi]) ?_
    refine z_iload_n hF dL_comments_289 rfl ?_
    refine z_iconst (v := nI 1) hF dL_comments_290 (by decide) ?_
    refine z_icn_ne (tgt := 344) hF (by omega) (by omega) dL_comments_291 (by decide) (fun c_2 => ?_) (fun c_2 => absurd c_2 (h1a))
    refine z_iload_n hF dL_comments_344 rfl ?_
    refine z_iconst (v := nI 2) hF dL_comments_345 (by decide) ?_
    refine z_icn_ne (tgt := 398) hF (by omega) (by omega) dL_comments_346 (by decide) (fun c_3 => ?_) (fun c_3 => absurd c_3 (h2a))
    refine z_aload_n hF dL_comments_398 rfl ?_
    refine z_iconst (v := nI 1) hF dL_comments_399 (by decide) ?_
    refine z_iload hF dL_comments_400 rfl ?_
    refine z_iconst (v := nI 0) hF dL_comments_402 (by decide) ?_
    refine z_iconst (v := nI 0) hF dL_comments_403 (by decide) ?_
    refine z_SW (As := [.ref d0, .int (nI 1), .int (nI i), .int (nI 0), .int (nI 0)]) (rest := []) (ws' := [(d0, .inr (4, [.ref t0, .ref r0, .ref q0, .ref y0, .ref d1, .int o, .int (nI v), .ref u0, .ref d2, .ref d3, .ref d4])), (r0, .inr (2, [.ref r1, .ref r2, .ref r3, .int (nI m)])), (r1, eI G 12 (upd b i (nI (bfF n z i ql qa qb f).toNatClampNeg))), (r2, eI G 12 (upd e i (nI ((bfF n z i ql qa qb f).toNatClampNeg + z)))), (q0, .inr (1, [.ref q1, .ref q2, .ref q3, .ref q4])), (q1, eI G 720 ql), (q2, eI G 12 qs), (q3, eI G 12 qa), (q4, eI G 12 qb), (t0, .inr (3, [.ref t1, .ref t2, .int (nI n)])), (t1, eI G 60 f), (t2, eI G 60 (mrkF g (bfF n z i ql qa qb f).toNatClampNeg ((bfF n z i ql qa qb f).toNatClampNeg + z) (bitF (nI i)))), (zd, eI G 60 f), (ze, eI G 60 le), (zc, eI G 36 (cF s op an qs qa qb)), (zk, eI G 48 (kF ql)), (zt, eI G 64 lt), (zq, eI G 4 (qF n v m j))]) (st2 := [.int (bfF n z i ql qa qb f)]) (c2 := 0) (s2 := 0) hF (c_L_calls_find1 G d0 t0 r0 q0 y0 d1 u0 d2 d3 d4 v o t1 t2 n f g r1 r2 r3 m b e q1 q2 q3 q4 ql qs qa qb i z (by first | assumption | omega) (by first | assumption | omega) (by first | assumption | omega) (by first | assumption | omega) (by first | assumption | omega) (by omega) (by first | assumption | omega)) gL_comments_L_calls rfl rfl rfl hs_L_calls ⟨⟨Nat.le_of_ble_eq_true rfl, Nat.le_of_ble_eq_true rfl⟩, ⟨Nat.le_of_ble_eq_true rfl, Nat.le_of_ble_eq_true rfl⟩, Nat.le_of_ble_eq_true rfl⟩ [0, 1, 2, 3, 4, 5, 6, 7, 8, 9, 10, 11] rfl rfl rfl rfl rfl rfl rfl rfl rfl rfl dL_comments_404 ?_
    refine z_iload hF dL_comments_407 rfl ?_
    refine z_aload_n hF dL_comments_409 rfl ?_
    refine z_aload hF dL_comments_410 rfl ?_
    refine z_aload hF dL_comments_412 rfl ?_
    refine z_aload hF dL_comments_414 rfl ?_
    refine z_aload hF dL_comments_416 rfl ?_
    refine z_aload hF dL_comments_418 rfl ?_
    refine z_S (As := [.int (nI i), .ref zd, .ref ze, .ref zc, .ref zk, .ref zt, .ref zq]) (rest := [.int (bfF n z i ql qa qb f)]) (ws' := [(d0, .inr (4, [.ref t0, .ref r0, .ref q0, .ref y0, .ref d1, .int o, .int (nI v), .ref u0, .ref d2, .ref d3, .ref d4])), (r0, .inr (2, [.ref r1, .ref r2, .ref r3, .int (nI m)])), (r1, eI G 12 (upd b i (nI (bfF n z i ql qa qb f).toNatClampNeg))), (r2, eI G 12 (upd e i (nI ((bfF n z i ql qa qb f).toNatClampNeg + z)))), (q0, .inr (1, [.ref q1, .ref q2, .ref q3, .ref q4])), (q1, eI G 720 ql), (q2, eI G 12 qs), (q3, eI G 12 qa), (q4, eI G 12 qb), (t0, .inr (3, [.ref t1, .ref t2, .int (nI n)])), (t1, eI G 60 f), (t2, eI G 60 (mrkF g (bfF n z i ql qa qb f).toNatClampNeg ((bfF n z i ql qa qb f).toNatClampNeg + z) (bitF (nI i)))), (zd, eI G 60 f), (ze, eI G 60 (mrkF le (bfF n z i ql qa qb f).toNatClampNeg ((bfF n z i ql qa qb f).toNatClampNeg + z) (bitF (nI i)))), (zc, eI G 36 (cF s op an qs qa qb)), (zk, eI G 48 (kF ql)), (zt, eI G 64 (wrF lt (8 * (v % 8)) 8 (fun kk => numF ((upd B i (nI (bfF n z i ql qa qb f).toNatClampNeg)) kk) ((upd E i (nI ((bfF n z i ql qa qb f).toNatClampNeg + z))) kk)))), (zq, eI G 4 (qF n v m j))]) (st2 := [.int (bfF n z i ql qa qb f), .int (bfF n z i ql qa qb f)]) (c2 := 0) (s2 := 0) hF (c_L_finds1 G zd ze zc zk zt zq n v m j i z f le s op an ql qs qa qb lt B E (by first | assumption | omega) (by first | assumption | omega) (by first | assumption | omega) (by first | assumption | omega) (by first | assumption | omega) (by first | assumption | omega) (by first | assumption | omega) (hBi.trans hb) (by first | assumption | omega) (by first | assumption | omega) (by first | assumption | omega) (by first | assumption | omega)) gL_comments_L_finds rfl rfl rfl hs_L_finds ⟨⟨Nat.le_of_ble_eq_true rfl, Nat.le_of_ble_eq_true rfl⟩, ⟨Nat.le_of_ble_eq_true rfl, Nat.le_of_ble_eq_true rfl⟩, Nat.le_of_ble_eq_true rfl⟩ [12, 13, 14, 15, 16, 17] rfl rfl rfl rfl rfl rfl rfl rfl rfl rfl dL_comments_420 ?_
    refine z_ic_ne (tgt := 430) hF dL_comments_423 (by decide) (fun c_4 => absurd c_4 (not_not_intro rfl)) (fun c_4 => ?_)
    refine z_iconst (v := nI 1) hF dL_comments_426 (by decide) ?_
    refine z_goto (tgt := 431) hF dL_comments_427 (by decide) ?_
    exact hR.i dL_comments_431 (Nat.le_of_ble_eq_true rfl) (Nat.le_of_ble_eq_true rfl) (rfl) (rfl)
  refine z_iload_n hF dL_comments_0 rfl ?_
  refine z_ifn_eq (tgt := 11) hF (by omega) dL_comments_1 (by decide) (fun h1 => ?_) (fun h1 => ?_)
  · refine z_aload hF dL_comments_11 rfl ?_
    refine z_iconst (v := nI 2) hF dL_comments_13 (by decide) ?_
    refine z_iald (k := 2) hF 17 rfl (rfl) (by omega) rfl dL_comments_14 ?_
    refine z_top (y := nI m) (rfl) ?_
    refine z_bipush (v := nI 6) hF dL_comments_15 (by decide) ?_
    refine z_icn_ge (tgt := 270) hF (by omega) (by omega) dL_comments_17 (by decide) (fun c_5 => ?_) (fun c_5 => absurd c_5 (fun h => hact ⟨h1, h⟩))
    exact J_270  
  · refine z_aload hF dL_comments_4 rfl ?_
    refine z_iconst (v := nI 2) hF dL_comments_6 (by decide) ?_
    refine z_iald (k := 2) hF 17 rfl (rfl) (by omega) rfl dL_comments_7 ?_
    refine z_top (y := nI m) (rfl) ?_
    refine z_ifn_ne (tgt := 270) hF (by omega) dL_comments_8 (by decide) (fun c_6 => ?_) (fun c_6 => absurd c_6 (by omega))
    exact J_270  
