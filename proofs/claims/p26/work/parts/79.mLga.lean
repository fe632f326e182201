set_option maxHeartbeats 4000000 in
set_option maxRecDepth 100000 in
theorem c_L_comm_new (G : zG) (d0 t0 r0 q0 y0 d1 u0 d2 d3 d4 v : Nat) (o : Int32) (t1 t2 n : Nat) (f : Nat → Int32) (g : Nat → Int32) (r1 r2 r3 m : Nat) (b : Nat → Int32) (e : Nat → Int32) (s : Nat → Int32) (q1 q2 q3 q4 : Nat) (ql : Nat → Int32) (qs : Nat → Int32) (qa : Nat → Int32) (qb : Nat → Int32) (zd ze zc zk zt zq j : Nat) (le op an lt B E : Nat → Int32) (x : Int32) (act a r k l0 : Nat) (hn : n ≤ 60) (hm : m < 6) (hv : v ≤ 300) (hact9 : act < 14) (hc : act = 0 ∨ m = 0) (ha : lowN x n = a) (hr : (if n - a < 8 then n - a else 8) = r) (hk : 1 + lowN (x >>> ((nI 4) &&& 31)) r = k) (hl : lowN (x >>> ((nI 8) &&& 31)) 4 = l0) (ha2 : a < n) (hr1 : 1 ≤ r) (hr8 : r ≤ 8) (hk1 : 1 ≤ k) (hk8 : k ≤ 8) (hak : a + k ≤ n) (hl3 : l0 ≤ 3) (hRG : RGa n B E) (hE : LEa n le B E) (hB0 : ∀ i, m ≤ i → i < 8 → B i = -1) : zM G yL_comments wsL_comments ({ frames := 4, cells := 0, slots := 0, locals := 102 }) [.ref d0, .int (nI act), .int x, .ref zd, .ref ze, .ref zc, .ref zk, .ref zt, .ref zq] [(d0, .inr (4, [.ref t0, .ref r0, .ref q0, .ref y0, .ref d1, .int o, .int (nI v), .ref u0, .ref d2, .ref d3, .ref d4])), (t0, .inr (3, [.ref t1, .ref t2, .int (nI n)])), (t1, eI G 60 f), (t2, eI G 60 g), (r0, .inr (2, [.ref r1, .ref r2, .ref r3, .int (nI m)])), (r1, eI G 12 b), (r2, eI G 12 e), (r3, eI G 12 s), (q0, .inr (1, [.ref q1, .ref q2, .ref q3, .ref q4])), (q1, eI G 720 ql), (q2, eI G 12 qs), (q3, eI G 12 qa), (q4, eI G 12 qb), (zd, eI G 60 f), (ze, eI G 60 le), (zc, eI G 36 (cF s op an qs qa qb)), (zk, eI G 48 (kF ql)), (zt, eI G 64 lt), (zq, eI G 4 (qF n v m j))] [(d0, .inr (4, [.ref t0, .ref r0, .ref q0, .ref y0, .ref d1, .int (o ||| bitF (nI m)), .int (nI v), .ref u0, .ref d2, .ref d3, .ref d4])), (t0, .inr (3, [.ref t1, .ref t2, .int (nI n)])), (t1, eI G 60 f), (t2, eI G 60 (mrkF g a (a + k) (bitF (nI m)))), (r0, .inr (2, [.ref r1, .ref r2, .ref r3, .int (nI (m + 1))])), (r1, eI G 12 (upd b m (nI a))), (r2, eI G 12 (upd e m (nI (a + k)))), (r3, eI G 12 (upd s m (nI l0))), (q0, .inr (1, [.ref q1, .ref q2, .ref q3, .ref q4])), (q1, eI G 720 (va_cpy f ql a (m * 60) k)), (q2, eI G 12 (upd qs m (nI k))), (q3, eI G 12 (upd qa m (letF n f (nI a - nI 1)))), (q4, eI G 12 (upd qb m (letF n f (nI (a + k))))), (zd, eI G 60 f), (ze, eI G 60 (mrkF le a (a + k) (bitF (nI m)))), (zc, eI G 36 (cF (upd s m (nI l0)) (upd op m (nI 1)) an (upd qs m (nI k)) (upd qa m (letF n f (nI a - nI 1))) (upd qb m (letF n f (nI (a + k)))))), (zk, eI G 48 (kF (va_cpy f ql a (m * 60) k))), (zt, eI G 64 (wrF lt (8 * (v % 8)) 8 (fun kk => numF ((upd B m (nI a)) kk) ((upd E m (nI (a + k))) kk)))), (zq, eI G 4 (qF n v (m + 1) j))] (some (.int (nI 1))) 0 0 := by
  refine zM.ofI (own := RL) (cc := cL_comments) (maxL := 13) rfl (by decide) rfl rfl (by simp [Value.category]) (Nat.le_of_ble_eq_true rfl) ?_
  intro X hF hR
  refine z_lv (lv' := [some (.ref d0), some (.int (nI act)), some (.int x), some (.ref zd), some (.ref ze), some (.ref zc), some (.ref zk), some (.ref zt), some (.ref zq), none, none, none, none]) rfl ?_
  have J_11 : zJ G X 11 [(d0, .inr (4, [.ref t0, .ref r0, .ref q0, .ref y0, .ref d1, .int o, .int (nI v), .ref u0, .ref d2, .ref d3, .ref d4])), (t0, .inr (3, [.ref t1, .ref t2, .int (nI n)])), (t1, eI G 60 f), (t2, eI G 60 g), (r0, .inr (2, [.ref r1, .ref r2, .ref r3, .int (nI m)])), (r1, eI G 12 b), (r2, eI G 12 e), (r3, eI G 12 s), (q0, .inr (1, [.ref q1, .ref q2, .ref q3, .ref q4])), (q1, eI G 720 ql), (q2, eI G 12 qs), (q3, eI G 12 qa), (q4, eI G 12 qb), (zd, eI G 60 f), (ze, eI G 60 le), (zc, eI G 36 (cF s op an qs qa qb)), (zk, eI G 48 (kF ql)), (zt, eI G 64 lt), (zq, eI G 4 (qF n v m j))] [some (.ref d0), some (.int (nI act)), some (.int x), some (.ref zd), some (.ref ze), some (.ref zc), some (.ref zk), some (.ref zt), some (.ref zq), none, none, none, none] [] 0 0 := by
    refine z_aload hF dL_comments_11 rfl ?_
    refine z_iconst (v := nI 2) hF dL_comments_13 (by decide) ?_
    refine z_iald (k := 2) hF 18 rfl (rfl) (by omega) rfl dL_comments_14 ?_
    refine z_top (y := nI m) (rfl) ?_
    refine z_bipush (v := nI 6) hF dL_comments_15 (by decide) ?_
    refine z_icn_ge (tgt := 270) hF (by omega) (by omega) dL_comments_17 (by decide) (fun c_1 => absurd c_1 (by omega)) (fun c_1 => ?_)
    refine z_aload hF dL_comments_20 rfl ?_
    refine z_iconst (v := nI 0) hF dL_comments_22 (by decide) ?_
    refine z_iald (k := 0) hF 18 rfl (rfl) (by omega) rfl dL_comments_23 ?_
    refine z_top (y := nI n) (rfl) ?_
    refine z_ifn_le (tgt := 270) hF (by omega) dL_comments_24 (by decide) (fun c_2 => absurd c_2 (by omega)) (fun c_2 => ?_)
    refine z_aload hF dL_comments_27 rfl ?_
    refine z_iconst (v := nI 2) hF dL_comments_29 (by decide) ?_
    refine z_iald (k := 2) hF 18 rfl (rfl) (by omega) rfl dL_comments_30 ?_
    refine z_top (y := nI m) (rfl) ?_
    refine z_istore (lv' := [some (.ref d0), some (.int (nI act)), some (.int x), some (.ref zd), some (.ref ze), some (.ref zc), some (.ref zk), some (.ref zt), some (.ref zq), some (.int (nI m)), none, none, none]) hF dL_comments_31 rfl rfl ?_
    refine z_iload_n hF dL_comments_33 rfl ?_
    refine z_aload hF dL_comments_34 rfl ?_
    refine z_iconst (v := nI 0) hF dL_comments_36 (by decide) ?_
    refine z_iald (k := 0) hF 18 rfl (rfl) (by omega) rfl dL_comments_37 ?_
    refine z_top (y := nI n) (rfl) ?_
    refine z_S (As := [.int x, .int (nI n)]) (rest := []) (ws' := [(d0, .inr (4, [.ref t0, .ref r0, .ref q0, .ref y0, .ref d1, .int o, .int (nI v), .ref u0, .ref d2, .ref d3, .ref d4])), (t0, .inr (3, [.ref t1, .ref t2, .int (nI n)])), (t1, eI G 60 f), (t2, eI G 60 g), (r0, .inr (2, [.ref r1, .ref r2, .ref r3, .int (nI m)])), (r1, eI G 12 b), (r2, eI G 12 e), (r3, eI G 12 s), (q0, .inr (1, [.ref q1, .ref q2, .ref q3, .ref q4])), (q1, eI G 720 ql), (q2, eI G 12 qs), (q3, eI G 12 qa), (q4, eI G 12 qb), (zd, eI G 60 f), (ze, eI G 60 le), (zc, eI G 36 (cF s op an qs qa qb)), (zk, eI G 48 (kF ql)), (zt, eI G 64 lt), (zq, eI G 4 (qF n v m j))]) (st2 := [.int (nI (lowN x n))]) (c2 := 0) (s2 := 0) hF (c_L_low G x n (by first | assumption | omega) (by first | assumption | omega)) gL_comments_L_low rfl rfl rfl hs_L_low ⟨⟨Nat.le_of_ble_eq_true rfl, Nat.le_of_ble_eq_true rfl⟩, ⟨Nat.le_of_ble_eq_true rfl, Nat.le_of_ble_eq_true rfl⟩, Nat.le_of_ble_eq_true rfl⟩ [] rfl rfl rfl rfl rfl rfl rfl rfl rfl rfl dL_comments_38 ?_
    refine z_istore (lv' := [some (.ref d0), some (.int (nI act)), some (.int x), some (.ref zd), some (.ref ze), some (.ref zc), some (.ref zk), some (.ref zt), some (.ref zq), some (.int (nI m)), some (.int (nI (lowN x n))), none, none]) hF dL_comments_41 rfl rfl ?_
    refine z_lv (lv' := [some (.ref d0), some (.int (nI act)), some (.int x), some (.ref zd), some (.ref ze), some (.ref zc), some (.ref zk), some (.ref zt), some (.ref zq), some (.int (nI m)), some (.int (nI a)), none, none]) (by rw [ha]) ?_
    have J_71 : zJ G X 71 [(d0, .inr (4, [.ref t0, .ref r0, .ref q0, .ref y0, .ref d1, .int o, .int (nI v), .ref u0, .ref d2, .ref d3, .ref d4])), (t0, .inr (3, [.ref t1, .ref t2, .int (nI n)])), (t1, eI G 60 f), (t2, eI G 60 g), (r0, .inr (2, [.ref r1, .ref r2, .ref r3, .int (nI m)])), (r1, eI G 12 b), (r2, eI G 12 e), (r3, eI G 12 s), (q0, .inr (1, [.ref q1, .ref q2, .ref q3, .ref q4])), (q1, eI G 720 ql), (q2, eI G 12 qs), (q3, eI G 12 qa), (q4, eI G 12 qb), (zd, eI G 60 f), (ze, eI G 60 le), (zc, eI G 36 (cF s op an qs qa qb)), (zk, eI G 48 (kF ql)), (zt, eI G 64 lt), (zq, eI G 4 (qF n v m j))] [some (.ref d0), some (.int (nI act)), some (.int x), some (.ref zd), some (.ref ze), some (.ref zc), some (.ref zk), some (.ref zt), some (.ref zq), some (.int (nI m)), some (.int (nI a)), none, none] [.int (nI r), .int (x >>> ((nI 4) &&& 31)), .int (nI 1)] 0 0 := by
      refine z_S (As := [.int (x >>> ((nI 4) &&& 31)), .int (nI r)]) (rest := [.int (nI 1)]) (ws' := [(d0, .inr (4, [.ref t0, .ref r0, .ref q0, .ref y0, .ref d1, .int o, .int (nI v), .ref u0, .ref d2, .ref d3, .ref d4])), (t0, .inr (3, [.ref t1, .ref t2, .int (nI n)])), (t1, eI G 60 f), (t2, eI G 60 g), (r0, .inr (2, [.ref r1, .ref r2, .ref r3, .int (nI m)])), (r1, eI G 12 b), (r2, eI G 12 e), (r3, eI G 12 s), (q0, .inr (1, [.ref q1, .ref q2, .ref q3, .ref q4])), (q1, eI G 720 ql), (q2, eI G 12 qs), (q3, eI G 12 qa), (q4, eI G 12 qb), (zd, eI G 60 f), (ze, eI G 60 le), (zc, eI G 36 (cF s op an qs qa qb)), (zk, eI G 48 (kF ql)), (zt, eI G 64 lt), (zq, eI G 4 (qF n v m j))]) (st2 := [.int (nI (lowN (x >>> ((nI 4) &&& 31)) r)), .int (nI 1)]) (c2 := 0) (s2 := 0) hF (c_L_low G (x >>> ((nI 4) &&& 31)) r (by first | assumption | omega) (by first | assumption | omega)) gL_comments_L_low rfl rfl rfl hs_L_low ⟨⟨Nat.le_of_ble_eq_true rfl, Nat.le_of_ble_eq_true rfl⟩, ⟨Nat.le_of_ble_eq_true rfl, Nat.le_of_ble_eq_true rfl⟩, Nat.le_of_ble_eq_true rfl⟩ [] rfl rfl rfl rfl rfl rfl rfl rfl rfl rfl dL_comments_71 ?_
      refine z_iadd hF dL_comments_74 ?_
      refine z_top (nI_add 1 (lowN (x >>> ((nI 4) &&& 31)) r)) ?_
      refine z_istore (lv' := [some (.ref d0), some (.int (nI act)), some (.int x), some (.ref zd), some (.ref ze), some (.ref zc), some (.ref zk), some (.ref zt), some (.ref zq), some (.int (nI m)), some (.int (nI a)), some (.int (nI (1 + (lowN (x >>> ((nI 4) &&& 31)) r)))), none]) hF dL_comments_75 rfl rfl ?_
      refine z_lv (lv' := [some (.ref d0), some (.int (nI act)), some (.int x), some (.ref zd), some (.ref ze), some (.ref zc), some (.ref zk), some (.ref zt), some (.ref zq), some (.int (nI m)), some (.int (nI a)), some (.int (nI k)), none]) (by rw [hk]) ?_
      refine z_aload hF dL_comments_77 rfl ?_
      refine z_bipush (v := nI 6) hF dL_comments_79 (by decide) ?_
      refine z_iload hF dL_comments_81 rfl ?_
      refine z_imul hF dL_comments_83 ?_
      refine z_top (pk_mul 6 m) ?_
      refine z_iload_n hF dL_comments_84 rfl ?_
      refine z_bipush (v := nI 8) hF dL_comments_85 (by decide) ?_
      refine z_ishr hF dL_comments_87 ?_
      refine z_iconst (v := nI 4) hF dL_comments_88 (by decide) ?_
      refine z_S (As := [.int (x >>> ((nI 8) &&& 31)), .int (nI 4)]) (rest := [.int (nI (6 * m)), .ref zc]) (ws' := [(d0, .inr (4, [.ref t0, .ref r0, .ref q0, .ref y0, .ref d1, .int o, .int (nI v), .ref u0, .ref d2, .ref d3, .ref d4])), (t0, .inr (3, [.ref t1, .ref t2, .int (nI n)])), (t1, eI G 60 f), (t2, eI G 60 g), (r0, .inr (2, [.ref r1, .ref r2, .ref r3, .int (nI m)])), (r1, eI G 12 b), (r2, eI G 12 e), (r3, eI G 12 s), (q0, .inr (1, [.ref q1, .ref q2, .ref q3, .ref q4])), (q1, eI G 720 ql), (q2, eI G 12 qs), (q3, eI G 12 qa), (q4, eI G 12 qb), (zd, eI G 60 f), (ze, eI G 60 le), (zc, eI G 36 (cF s op an qs qa qb)), (zk, eI G 48 (kF ql)), (zt, eI G 64 lt), (zq, eI G 4 (qF n v m j))]) (st2 := [.int (nI (lowN (x >>> ((nI 8) &&& 31)) 4)), .int (nI (6 * m)), .ref zc]) (c2 := 0) (s2 := 0) hF (c_L_low G (x >>> ((nI 8) &&& 31)) 4 (by first | assumption | omega) (by first | assumption | omega)) gL_comments_L_low rfl rfl rfl hs_L_low ⟨⟨Nat.le_of_ble_eq_true rfl, Nat.le_of_ble_eq_true rfl⟩, ⟨Nat.le_of_ble_eq_true rfl, Nat.le_of_ble_eq_true rfl⟩, Nat.le_of_ble_eq_true rfl⟩ [] rfl rfl rfl rfl rfl rfl rfl rfl rfl rfl dL_comments_89 ?_
      refine z_top (y := nI l0) (by rw [hl]) ?_
      refine z_iast (k := 6 * m) (ws' := [(d0, .inr (4, [.ref t0, .ref r0, .ref q0, .ref y0, .ref d1, .int o, .int (nI v), .ref u0, .ref d2, .ref d3, .ref d4])), (t0, .inr (3, [.ref t1, .ref t2, .int (nI n)])), (t1, eI G 60 f), (t2, eI G 60 g), (r0, .inr (2, [.ref r1, .ref r2, .ref r3, .int (nI m)])), (r1, eI G 12 b), (r2, eI G 12 e), (r3, eI G 12 s), (q0, .inr (1, [.ref q1, .ref q2, .ref q3, .ref q4])), (q1, eI G 720 ql), (q2, eI G 12 qs), (q3, eI G 12 qa), (q4, eI G 12 qb), (zd, eI G 60 f), (ze, eI G 60 le), (zc, eI G 36 (upd (cF s op an qs qa qb) (6 * m) (nI l0))), (zk, eI G 48 (kF ql)), (zt, eI G 64 lt), (zq, eI G 4 (qF n v m j))]) hF 15 rfl (rfl) (by omega) rfl rfl dL_comments_92 ?_
      refine z_ws (ws' := [(d0, .inr (4, [.ref t0, .ref r0, .ref q0, .ref y0, .ref d1, .int o, .int (nI v), .ref u0, .ref d2, .ref d3, .ref d4])), (t0, .inr (3, [.ref t1, .ref t2, .int (nI n)])), (t1, eI G 60 f), (t2, eI G 60 g), (r0, .inr (2, [.ref r1, .ref r2, .ref r3, .int (nI m)])), (r1, eI G 12 b), (r2, eI G 12 e), (r3, eI G 12 s), (q0, .inr (1, [.ref q1, .ref q2, .ref q3, .ref q4])), (q1, eI G 720 ql), (q2, eI G 12 qs), (q3, eI G 12 qa), (q4, eI G 12 qb), (zd, eI G 60 f), (ze, eI G 60 le), (zc, eI G 36 (cF (upd s m (nI l0)) op an qs qa qb)), (zk, eI G 48 (kF ql)), (zt, eI G 64 lt), (zq, eI G 4 (qF n v m j))]) (by rw [cF_s0]) ?_
      refine z_aload hF dL_comments_93 rfl ?_
      refine z_bipush (v := nI 6) hF dL_comments_95 (by decide) ?_
      refine z_iload hF dL_comments_97 rfl ?_
      refine z_imul hF dL_comments_99 ?_
      refine z_top (pk_mul 6 m) ?_
      refine z_iconst (v := nI 1) hF dL_comments_100 (by decide) ?_
      refine z_iadd hF dL_comments_101 ?_
      refine z_top (nI_add (6 * m) 1) ?_
      refine z_iconst (v := nI 1) hF dL_comments_102 (by decide) ?_
      refine z_iast (k := 6 * m + 1) (ws' := [(d0, .inr (4, [.ref t0, .ref r0, .ref q0, .ref y0, .ref d1, .int o, .int (nI v), .ref u0, .ref d2, .ref d3, .ref d4])), (t0, .inr (3, [.ref t1, .ref t2, .int (nI n)])), (t1, eI G 60 f), (t2, eI G 60 g), (r0, .inr (2, [.ref r1, .ref r2, .ref r3, .int (nI m)])), (r1, eI G 12 b), (r2, eI G 12 e), (r3, eI G 12 s), (q0, .inr (1, [.ref q1, .ref q2, .ref q3, .ref q4])), (q1, eI G 720 ql), (q2, eI G 12 qs), (q3, eI G 12 qa), (q4, eI G 12 qb), (zd, eI G 60 f), (ze, eI G 60 le), (zc, eI G 36 (upd (cF (upd s m (nI l0)) op an qs qa qb) (6 * m + 1) (nI 1))), (zk, eI G 48 (kF ql)), (zt, eI G 64 lt), (zq, eI G 4 (qF n v m j))]) hF 15 rfl (rfl) (by omega) rfl rfl dL_comments_103 ?_
      refine z_ws (ws' := [(d0, .inr (4, [.ref t0, .ref r0, .ref q0, .ref y0, .ref d1, .int o, .int (nI v), .ref u0, .ref d2, .ref d3, .ref d4])), (t0, .inr (3, [.ref t1, .ref t2, .int (nI n)])), (t1, eI G 60 f), (t2, eI G 60 g), (r0, .inr (2, [.ref r1, .ref r2, .ref r3, .int (nI m)])), (r1, eI G 12 b), (r2, eI G 12 e), (r3, eI G 12 s), (q0, .inr (1, [.ref q1, .ref q2, .ref q3, .ref q4])), (q1, eI G 720 ql), (q2, eI G 12 qs), (q3, eI G 12 qa), (q4, eI G 12 qb), (zd, eI G 60 f), (ze, eI G 60 le), (zc, eI G 36 (cF (upd s m (nI l0)) (upd op m (nI 1)) an qs qa qb)), (zk, eI G 48 (kF ql)), (zt, eI G 64 lt), (zq, eI G 4 (qF n v m j))]) (by rw [cF_s1]) ?_
      refine z_aload hF dL_comments_104 rfl ?_
      refine z_bipush (v := nI 6) hF dL_comments_106 (by decide) ?_
      refine z_iload hF dL_comments_108 rfl ?_
      refine z_imul hF dL_comments_110 ?_
      refine z_top (pk_mul 6 m) ?_
      refine z_iconst (v := nI 3) hF dL_comments_111 (by decide) ?_
      refine z_iadd hF dL_comments_112 ?_
      refine z_top (nI_add (6 * m) 3) ?_
      refine z_iload hF dL_comments_113 rfl ?_
      refine z_iast (k := 6 * m + 3) (ws' := [(d0, .inr (4, [.ref t0, .ref r0, .ref q0, .ref y0, .ref d1, .int o, .int (nI v), .ref u0, .ref d2, .ref d3, .ref d4])), (t0, .inr (3, [.ref t1, .ref t2, .int (nI n)])), (t1, eI G 60 f), (t2, eI G 60 g), (r0, .inr (2, [.ref r1, .ref r2, .ref r3, .int (nI m)])), (r1, eI G 12 b), (r2, eI G 12 e), (r3, eI G 12 s), (q0, .inr (1, [.ref q1, .ref q2, .ref q3, .ref q4])), (q1, eI G 720 ql), (q2, eI G 12 qs), (q3, eI G 12 qa), (q4, eI G 12 qb), (zd, eI G 60 f), (ze, eI G 60 le), (zc, eI G 36 (upd (cF (upd s m (nI l0)) (upd op m (nI 1)) an qs qa qb) (6 * m + 3) (nI k))), (zk, eI G 48 (kF ql)), (zt, eI G 64 lt), (zq, eI G 4 (qF n v m j))]) hF 15 rfl (rfl) (by omega) rfl rfl dL_comments_115 ?_
      refine z_ws (ws' := [(d0, .inr (4, [.ref t0, .ref r0, .ref q0, .ref y0, .ref d1, .int o, .int (nI v), .ref u0, .ref d2, .ref d3, .ref d4])), (t0, .inr (3, [.ref t1, .ref t2, .int (nI n)])), (t1, eI G 60 f), (t2, eI G 60 g), (r0, .inr (2, [.ref r1, .ref r2, .ref r3, .int (nI m)])), (r1, eI G 12 b), (r2, eI G 12 e), (r3, eI G 12 s), (q0, .inr (1, [.ref q1, .ref q2, .ref q3, .ref q4])), (q1, eI G 720 ql), (q2, eI G 12 qs), (q3, eI G 12 qa), (q4, eI G 12 qb), (zd, eI G 60 f), (ze, eI G 60 le), (zc, eI G 36 (cF (upd s m (nI l0)) (upd op m (nI 1)) an (upd qs m (nI k)) qa qb)), (zk, eI G 48 (kF ql)), (zt, eI G 64 lt), (zq, eI G 4 (qF n v m j))]) (by rw [cF_s3]) ?_
      refine z_aload hF dL_comments_116 rfl ?_
      refine z_bipush (v := nI 6) hF dL_comments_118 (by decide) ?_
      refine z_iload hF dL_comments_120 rfl ?_
      refine z_imul hF dL_comments_122 ?_
      refine z_top (pk_mul 6 m) ?_
      refine z_iconst (v := nI 4) hF dL_comments_123 (by decide) ?_
      refine z_iadd hF dL_comments_124 ?_
      refine z_top (nI_add (6 * m) 4) ?_
      have J_140 : zJ G X 140 [(d0, .inr (4, [.ref t0, .ref r0, .ref q0, .ref y0, .ref d1, .int o, .int (nI v), .ref u0, .ref d2, .ref d3, .ref d4])), (t0, .inr (3, [.ref t1, .ref t2, .int (nI n)])), (t1, eI G 60 f), (t2, eI G 60 g), (r0, .inr (2, [.ref r1, .ref r2, .ref r3, .int (nI m)])), (r1, eI G 12 b), (r2, eI G 12 e), (r3, eI G 12 s), (q0, .inr (1, [.ref q1, .ref q2, .ref q3, .ref q4])), (q1, eI G 720 ql), (q2, eI G 12 qs), (q3, eI G 12 qa), (q4, eI G 12 qb), (zd, eI G 60 f), (ze, eI G 60 le), (zc, eI G 36 (cF (upd s m (nI l0)) (upd op m (nI 1)) an (upd qs m (nI k)) qa qb)), (zk, eI G 48 (kF ql)), (zt, eI G 64 lt), (zq, eI G 4 (qF n v m j))] [some (.ref d0), some (.int (nI act)), some (.int x), some (.ref zd), some (.ref ze), some (.ref zc), some (.ref zk), some (.ref zt), some (.ref zq), some (.int (nI m)), some (.int (nI a)), some (.int (nI k)), none] [.int (letF n f (nI a - nI 1)), .int (nI (6 * m + 4)), .ref zc] 0 0 := by
        refine z_iast (k := 6 * m + 4) (ws' := [(d0, .inr (4, [.ref t0, .ref r0, .ref q0, .ref y0, .ref d1, .int o, .int (nI v), .ref u0, .ref d2, .ref d3, .ref d4])), (t0, .inr (3, [.ref t1, .ref t2, .int (nI n)])), (t1, eI G 60 f), (t2, eI G 60 g), (r0, .inr (2, [.ref r1, .ref r2, .ref r3, .int (nI m)])), (r1, eI G 12 b), (r2, eI G 12 e), (r3, eI G 12 s), (q0, .inr (1, [.ref q1, .ref q2, .ref q3, .ref q4])), (q1, eI G 720 ql), (q2, eI G 12 qs), (q3, eI G 12 qa), (q4, eI G 12 qb), (zd, eI G 60 f), (ze, eI G 60 le), (zc, eI G 36 (upd (cF (upd s m (nI l0)) (upd op m (nI 1)) an (upd qs m (nI k)) qa qb) (6 * m + 4) (letF n f (nI a - nI 1)))), (zk, eI G 48 (kF ql)), (zt, eI G 64 lt), (zq, eI G 4 (qF n v m j))]) hF 15 rfl (rfl) (by omega) rfl rfl dL_comments_140 ?_
        refine z_ws (ws' := [(d0, .inr (4, [.ref t0, .ref r0, .ref q0, .ref y0, .ref d1, .int o, .int (nI v), .ref u0, .ref d2, .ref d3, .ref d4])), (t0, .inr (3, [.ref t1, .ref t2, .int (nI n)])), (t1, eI G 60 f), (t2, eI G 60 g), (r0, .inr (2, [.ref r1, .ref r2, .ref r3, .int (nI m)])), (r1, eI G 12 b), (r2, eI G 12 e), (r3, eI G 12 s), (q0, .inr (1, [.ref q1, .ref q2, .ref q3, .ref q4])), (q1, eI G 720 ql), (q2, eI G 12 qs), (q3, eI G 12 qa), (q4, eI G 12 qb), (zd, eI G 60 f), (ze, eI G 60 le), (zc, eI G 36 (cF (upd s m (nI l0)) (upd op m (nI 1)) an (upd qs m (nI k)) (upd qa m (letF n f (nI a - nI 1))) qb)), (zk, eI G 48 (kF ql)), (zt, eI G 64 lt), (zq, eI G 4 (qF n v m j))]) (by rw [cF_s4]) ?_
        refine z_aload hF dL_comments_141 rfl ?_
        refine z_bipush (v := nI 6) hF dL_comments_143 (by decide) ?_
        refine z_iload hF dL_comments_145 rfl ?_
        refine z_imul hF dL_comments_147 ?_
        refine z_top (pk_mul 6 m) ?_
        refine z_iconst (v := nI 5) hF dL_comments_148 (by decide) ?_
        refine z_iadd hF dL_comments_149 ?_
        refine z_top (nI_add (6 * m) 5) ?_
        have J_173 : zJ G X 173 [(d0, .inr (4, [.ref t0, .ref r0, .ref q0, .ref y0, .ref d1, .int o, .int (nI v), .ref u0, .ref d2, .ref d3, .ref d4])), (t0, .inr (3, [.ref t1, .ref t2, .int (nI n)])), (t1, eI G 60 f), (t2, eI G 60 g), (r0, .inr (2, [.ref r1, .ref r2, .ref r3, .int (nI m)])), (r1, eI G 12 b), (r2, eI G 12 e), (r3, eI G 12 s), (q0, .inr (1, [.ref q1, .ref q2, .ref q3, .ref q4])), (q1, eI G 720 ql), (q2, eI G 12 qs), (q3, eI G 12 qa), (q4, eI G 12 qb), (zd, eI G 60 f), (ze, eI G 60 le), (zc, eI G 36 (cF (upd s m (nI l0)) (upd op m (nI 1)) an (upd qs m (nI k)) (upd qa m (letF n f (nI a - nI 1))) qb)), (zk, eI G 48 (kF ql)), (zt, eI G 64 lt), (zq, eI G 4 (qF n v m j))] [some (.ref d0), some (.int (nI act)), some (.int x), some (.ref zd), some (.ref ze), some (.ref zc), some (.ref zk), some (.ref zt), some (.ref zq), some (.int (nI m)), some (.int (nI a)), some (.int (nI k)), none] [.int (letF n f (nI (a + k))), .int (nI (6 * m + 5)), .ref zc] 0 0 := by
          refine z_iast (k := 6 * m + 5) (ws' := [(d0, .inr (4, [.ref t0, .ref r0, .ref q0, .ref y0, .ref d1, .int o, .int (nI v), .ref u0, .ref d2, .ref d3, .ref d4])), (t0, .inr (3, [.ref t1, .ref t2, .int (nI n)])), (t1, eI G 60 f), (t2, eI G 60 g), (r0, .inr (2, [.ref r1, .ref r2, .ref r3, .int (nI m)])), (r1, eI G 12 b), (r2, eI G 12 e), (r3, eI G 12 s), (q0, .inr (1, [.ref q1, .ref q2, .ref q3, .ref q4])), (q1, eI G 720 ql), (q2, eI G 12 qs), (q3, eI G 12 qa), (q4, eI G 12 qb), (zd, eI G 60 f), (ze, eI G 60 le), (zc, eI G 36 (upd (cF (upd s m (nI l0)) (upd op m (nI 1)) an (upd qs m (nI k)) (upd qa m (letF n f (nI a - nI 1))) qb) (6 * m + 5) (letF n f (nI (a + k))))), (zk, eI G 48 (kF ql)), (zt, eI G 64 lt), (zq, eI G 4 (qF n v m j))]) hF 15 rfl (rfl) (by omega) rfl rfl dL_comments_173 ?_
          refine z_ws (ws' := [(d0, .inr (4, [.ref t0, .ref r0, .ref q0, .ref y0, .ref d1, .int o, .int (nI v), .ref u0, .ref d2, .ref d3, .ref d4])), (t0, .inr (3, [.ref t1, .ref t2, .int (nI n)])), (t1, eI G 60 f), (t2, eI G 60 g), (r0, .inr (2, [.ref r1, .ref r2, .ref r3, .int (nI m)])), (r1, eI G 12 b), (r2, eI G 12 e), (r3, eI G 12 s), (q0, .inr (1, [.ref q1, .ref q2, .ref q3, .ref q4])), (q1, eI G 720 ql), (q2, eI G 12 qs), (q3, eI G 12 qa), (q4, eI G 12 qb), (zd, eI G 60 f), (ze, eI G 60 le), (zc, eI G 36 (cF (upd s m (nI l0)) (upd op m (nI 1)) an (upd qs m (nI k)) (upd qa m (letF n f (nI a - nI 1))) (upd qb m (letF n f (nI (a + k)))))), (zk, eI G 48 (kF ql)), (zt, eI G 64 lt), (zq, eI G 4 (qF n v m j))]) (by rw [cF_s5]) ?_
          refine z_iconst (v := nI 0) hF dL_comments_174 (by decide) ?_
          refine z_istore (lv' := [some (.ref d0), some (.int (nI act)), some (.int x), some (.ref zd), some (.ref ze), some (.ref zc), some (.ref zk), some (.ref zt), some (.ref zq), some (.int (nI m)), some (.int (nI a)), some (.int (nI k)), some (.int (nI 0))]) hF dL_comments_175 rfl rfl ?_
          refine z_ws (ws' := [(d0, .inr (4, [.ref t0, .ref r0, .ref q0, .ref y0, .ref d1, .int o, .int (nI v), .ref u0, .ref d2, .ref d3, .ref d4])), (t0, .inr (3, [.ref t1, .ref t2, .int (nI n)])), (t1, eI G 60 f), (t2, eI G 60 g), (r0, .inr (2, [.ref r1, .ref r2, .ref r3, .int (nI m)])), (r1, eI G 12 b), (r2, eI G 12 e), (r3, eI G 12 s), (q0, .inr (1, [.ref q1, .ref q2, .ref q3, .ref q4])), (q1, eI G 720 ql), (q2, eI G 12 qs), (q3, eI G 12 qa), (q4, eI G 12 qb), (zd, eI G 60 f), (ze, eI G 60 le), (zc, eI G 36 (cF (upd s m (nI l0)) (upd op m (nI 1)) an (upd qs m (nI k)) (upd qa m (letF n f (nI a - nI 1))) (upd qb m (letF n f (nI (a + k)))))), (zk, eI G 48 (kF (va_cpy f ql a (m * 60) 0))), (zt, eI G 64 lt), (zq, eI G 4 (qF n v m j))]) (by rw [← kF_0]) ?_
          refine z_ws (ws' := [(d0, .inr (4, [.ref t0, .ref r0, .ref q0, .ref y0, .ref d1, .int o, .int (nI v), .ref u0, .ref d2, .ref d3, .ref d4])), (t0, .inr (3, [.ref t1, .ref t2, .int (nI n)])), (t1, eI G 60 f), (t2, eI G 60 g), (r0, .inr (2, [.ref r1, .ref r2, .ref r3, .int (nI m)])), (r1, eI G 12 b), (r2, eI G 12 e), (r3, eI G 12 s), (q0, .inr (1, [.ref q1, .ref q2, .ref q3, .ref q4])), (q1, eI G 720 ql), (q2, eI G 12 qs), (q3, eI G 12 qa), (q4, eI G 12 qb), (zd, eI G 60 f), (ze, eI G 60 (mrkF le a (a + 0) (bitF (nI m)))), (zc, eI G 36 (cF (upd s m (nI l0)) (upd op m (nI 1)) an (upd qs m (nI k)) (upd qa m (letF n f (nI a - nI 1))) (upd qb m (letF n f (nI (a + k)))))), (zk, eI G 48 (kF (va_cpy f ql a (m * 60) 0))), (zt, eI G 64 lt), (zq, eI G 4 (qF n v m j))]) (by rw [mrkF_0 le _ (by omega)]) ?_
          have J_177 : ∀ (n9 : Nat) (t : Nat), k - t < n9 → (t ≤ k) → zJ G X 177 [(d0, .inr (4, [.ref t0, .ref r0, .ref q0, .ref y0, .ref d1, .int o, .int (nI v), .ref u0, .ref d2, .ref d3, .ref d4])), (t0, .inr (3, [.ref t1, .ref t2, .int (nI n)])), (t1, eI G 60 f), (t2, eI G 60 g), (r0, .inr (2, [.ref r1, .ref r2, .ref r3, .int (nI m)])), (r1, eI G 12 b), (r2, eI G 12 e), (r3, eI G 12 s), (q0, .inr (1, [.ref q1, .ref q2, .ref q3, .ref q4])), (q1, eI G 720 ql), (q2, eI G 12 qs), (q3, eI G 12 qa), (q4, eI G 12 qb), (zd, eI G 60 f), (ze, eI G 60 (mrkF le a (a + t) (bitF (nI m)))), (zc, eI G 36 (cF (upd s m (nI l0)) (upd op m (nI 1)) an (upd qs m (nI k)) (upd qa m (letF n f (nI a - nI 1))) (upd qb m (letF n f (nI (a + k)))))), (zk, eI G 48 (kF (va_cpy f ql a (m * 60) t))), (zt, eI G 64 lt), (zq, eI G 4 (qF n v m j))] [some (.ref d0), some (.int (nI act)), some (.int x), some (.ref zd), some (.ref ze), some (.ref zc), some (.ref zk), some (.ref zt), some (.ref zq), some (.int (nI m)), some (.int (nI a)), some (.int (nI k)), some (.int (nI t))] [] 0 0 := by
            intro n9
            induction n9 with
            | zero => intro t hmu; exact absurd hmu (Nat.not_lt_zero _)
            | succ n9 ih =>
              intro t hmu h2
              refine z_iload hF dL_comments_177 rfl ?_
              refine z_iload hF dL_comments_179 rfl ?_
              refine z_icn_ge (tgt := 223) hF (by omega) (by omega) dL_comments_181 (by decide) (fun c_3 => ?_) (fun c_3 => ?_)
              · have ht9 : t = k := by omega
                refine z_ws (ws' := [(d0, .inr (4, [.ref t0, .ref r0, .ref q0, .ref y0, .ref d1, .int o, .int (nI v), .ref u0, .ref d2, .ref d3, .ref d4])), (t0, .inr (3, [.ref t1, .ref t2, .int (nI n)])), (t1, eI G 60 f), (t2, eI G 60 g), (r0, .inr (2, [.ref r1, .ref r2, .ref r3, .int (nI m)])), (r1, eI G 12 b), (r2, eI G 12 e), (r3, eI G 12 s), (q0, .inr (1, [.ref q1, .ref q2, .ref q3, .ref q4])), (q1, eI G 720 ql), (q2, eI G 12 qs), (q3, eI G 12 qa), (q4, eI G 12 qb), (zd, eI G 60 f), (ze, eI G 60 (mrkF le a (a + t) (bitF (nI m)))), (zc, eI G 36 (cF (upd s m (nI l0)) (upd op m (nI 1)) an (upd qs m (nI k)) (upd qa m (letF n f (nI a - nI 1))) (upd qb m (letF n f (nI (a + k)))))), (zk, eI G 48 (kF (va_cpy f ql a (m * 60) k))), (zt, eI G 64 lt), (zq, eI G 4 (qF n v m j))]) (by rw [ht9]) ?_
                refine z_ws (ws' := [(d0, .inr (4, [.ref t0, .ref r0, .ref q0, .ref y0, .ref d1, .int o, .int (nI v), .ref u0, .ref d2, .ref d3, .ref d4])), (t0, .inr (3, [.ref t1, .ref t2, .int (nI n)])), (t1, eI G 60 f), (t2, eI G 60 g), (r0, .inr (2, [.ref r1, .ref r2, .ref r3, .int (nI m)])), (r1, eI G 12 b), (r2, eI G 12 e), (r3, eI G 12 s), (q0, .inr (1, [.ref q1, .ref q2, .ref q3, .ref q4])), (q1, eI G 720 ql), (q2, eI G 12 qs), (q3, eI G 12 qa), (q4, eI G 12 qb), (zd, eI G 60 f), (ze, eI G 60 (mrkF le a (a + k) (bitF (nI m)))), (zc, eI G 36 (cF (upd s m (nI l0)) (upd op m (nI 1)) an (upd qs m (nI k)) (upd qa m (letF n f (nI a - nI 1))) (upd qb m (letF n f (nI (a + k)))))), (zk, eI G 48 (kF (va_cpy f ql a (m * 60) k))), (zt, eI G 64 lt), (zq, eI G 4 (qF n v m j))]) (by rw [ht9]) ?_
                refine z_aload hF dL_comments_223 rfl ?_
                refine z_iconst (v := nI 2) hF dL_comments_225 (by decide) ?_
                refine z_dup2 hF dL_comments_226 rfl rfl ?_
                refine z_iald (k := 2) hF 18 rfl (rfl) (by omega) rfl dL_comments_227 ?_
                refine z_top (y := nI m) (rfl) ?_
                refine z_iconst (v := nI 1) hF dL_comments_228 (by decide) ?_
                refine z_iadd hF dL_comments_229 ?_
                refine z_top (nI_add m 1) ?_
                refine z_iast (k := 2) (ws' := [(d0, .inr (4, [.ref t0, .ref r0, .ref q0, .ref y0, .ref d1, .int o, .int (nI v), .ref u0, .ref d2, .ref d3, .ref d4])), (t0, .inr (3, [.ref t1, .ref t2, .int (nI n)])), (t1, eI G 60 f), (t2, eI G 60 g), (r0, .inr (2, [.ref r1, .ref r2, .ref r3, .int (nI m)])), (r1, eI G 12 b), (r2, eI G 12 e), (r3, eI G 12 s), (q0, .inr (1, [.ref q1, .ref q2, .ref q3, .ref q4])), (q1, eI G 720 ql), (q2, eI G 12 qs), (q3, eI G 12 qa), (q4, eI G 12 qb), (zd, eI G 60 f), (ze, eI G 60 (mrkF le a (a + k) (bitF (nI m)))), (zc, eI G 36 (cF (upd s m (nI l0)) (upd op m (nI 1)) an (upd qs m (nI k)) (upd qa m (letF n f (nI a - nI 1))) (upd qb m (letF n f (nI (a + k)))))), (zk, eI G 48 (kF (va_cpy f ql a (m * 60) k))), (zt, eI G 64 lt), (zq, eI G 4 (upd (qF n v m j) 2 (nI (m + 1))))]) hF 18 rfl (rfl) (by omega) rfl rfl dL_comments_230 ?_
                refine z_ws (ws' := [(d0, .inr (4, [.ref t0, .ref r0, .ref q0, .ref y0, .ref d1, .int o, .int (nI v), .ref u0, .ref d2, .ref d3, .ref d4])), (t0, .inr (3, [.ref t1, .ref t2, .int (nI n)])), (t1, eI G 60 f), (t2, eI G 60 g), (r0, .inr (2, [.ref r1, .ref r2, .ref r3, .int (nI m)])), (r1, eI G 12 b), (r2, eI G 12 e), (r3, eI G 12 s), (q0, .inr (1, [.ref q1, .ref q2, .ref q3, .ref q4])), (q1, eI G 720 ql), (q2, eI G 12 qs), (q3, eI G 12 qa), (q4, eI G 12 qb), (zd, eI G 60 f), (ze, eI G 60 (mrkF le a (a + k) (bitF (nI m)))), (zc, eI G 36 (cF (upd s m (nI l0)) (upd op m (nI 1)) an (upd qs m (nI k)) (upd qa m (letF n f (nI a - nI 1))) (upd qb m (letF n f (nI (a + k)))))), (zk, eI G 48 (kF (va_cpy f ql a (m * 60) k))), (zt, eI G 64 lt), (zq, eI G 4 (qF n v (m + 1) j))]) (by rw [qF_2]) ?_
                refine z_aload hF dL_comments_231 rfl ?_
                refine z_aload hF dL_comments_233 rfl ?_
                refine z_aload hF dL_comments_235 rfl ?_
                refine z_S (As := [.ref ze, .ref zt, .ref zq]) (rest := []) (ws' := [(d0, .inr (4, [.ref t0, .ref r0, .ref q0, .ref y0, .ref d1, .int o, .int (nI v), .ref u0, .ref d2, .ref d3, .ref d4])), (t0, .inr (3, [.ref t1, .ref t2, .int (nI n)])), (t1, eI G 60 f), (t2, eI G 60 g), (r0, .inr (2, [.ref r1, .ref r2, .ref r3, .int (nI m)])), (r1, eI G 12 b), (r2, eI G 12 e), (r3, eI G 12 s), (q0, .inr (1, [.ref q1, .ref q2, .ref q3, .ref q4])), (q1, eI G 720 ql), (q2, eI G 12 qs), (q3, eI G 12 qa), (q4, eI G 12 qb), (zd, eI G 60 f), (ze, eI G 60 (mrkF le a (a + k) (bitF (nI m)))), (zc, eI G 36 (cF (upd s m (nI l0)) (upd op m (nI 1)) an (upd qs m (nI k)) (upd qa m (letF n f (nI a - nI 1))) (upd qb m (letF n f (nI (a + k)))))), (zk, eI G 48 (kF (va_cpy f ql a (m * 60) k))), (zt, eI G 64 (wrF lt (8 * (v % 8)) 8 (fun kk => numF ((upd B m (nI a)) kk) ((upd E m (nI (a + k))) kk)))), (zq, eI G 4 (qF n v (m + 1) j))]) (st2 := []) (c2 := 0) (s2 := 0) hF (c_L_keeps G ze zt zq n v (m + 1) j (mrkF le a (a + k) (bitF (nI m))) lt (upd B m (nI a)) (upd E m (nI (a + k))) (by first | assumption | omega) (by first | assumption | omega) (by first | assumption | omega) (rg_upd hRG (by omega) hak) (le_mark hn (by omega) hRG hE (hB0 m (Nat.le_refl m) (by omega)) hak (by omega)) (fun i1 h1 h2 => by rw [upd_ne _ _ (by omega)]; exact hB0 i1 (by omega) h2)) gL_comments_L_keeps rfl rfl rfl hs_L_keeps ⟨⟨Nat.le_of_ble_eq_true rfl, Nat.le_of_ble_eq_true rfl⟩, ⟨Nat.le_of_ble_eq_true rfl, Nat.le_of_ble_eq_true rfl⟩, Nat.le_of_ble_eq_true rfl⟩ [14, 17, 18] rfl rfl rfl rfl rfl rfl rfl rfl rfl rfl dL_comments_237 ?_
                refine z_aload_n hF dL_comments_240 rfl ?_
                refine z_iload hF dL_comments_241 rfl ?_
                refine z_iload hF dL_comments_243 rfl ?_
                refine z_iload hF dL_comments_245 rfl ?_
                refine z_iadd hF dL_comments_247 ?_
                refine z_top (nI_add a k) ?_
                refine z_aload hF dL_comments_248 rfl ?_
                refine z_bipush (v := nI 6) hF dL_comments_250 (by decide) ?_
                refine z_iload hF dL_comments_252 rfl ?_
                refine z_imul hF dL_comments_254 ?_
                refine z_top (pk_mul 6 m) ?_
                refine z_iald (k := 6 * m) hF 15 rfl (rfl) (by omega) rfl dL_comments_255 ?_
                refine z_top (y := (upd s m (nI l0)) m) (cF_l0 _ _ _ _ _ _ _) ?_
                refine z_top (y := nI l0) (upd_same _ _ _) ?_
                refine z_V (As := [.int (nI a), .int (nI (a + k)), .int (nI l0)]) (rest := []) (ws' := [(d0, .inr (4, [.ref t0, .ref r0, .ref q0, .ref y0, .ref d1, .int (o ||| bitF (nI m)), .int (nI v), .ref u0, .ref d2, .ref d3, .ref d4])), (t0, .inr (3, [.ref t1, .ref t2, .int (nI n)])), (t1, eI G 60 f), (t2, eI G 60 (mrkF g a (a + k) (bitF (nI m)))), (r0, .inr (2, [.ref r1, .ref r2, .ref r3, .int (nI (m + 1))])), (r1, eI G 12 (upd b m (nI a))), (r2, eI G 12 (upd e m (nI (a + k)))), (r3, eI G 12 (upd s m (nI l0))), (q0, .inr (1, [.ref q1, .ref q2, .ref q3, .ref q4])), (q1, eI G 720 (va_cpy f ql a (m * 60) ((a + k) - a))), (q2, eI G 12 (upd qs m (nI ((a + k) - a)))), (q3, eI G 12 (upd qa m (letF n f (nI a - nI 1)))), (q4, eI G 12 (upd qb m (letF n f (nI (a + k))))), (zd, eI G 60 f), (ze, eI G 60 (mrkF le a (a + k) (bitF (nI m)))), (zc, eI G 36 (cF (upd s m (nI l0)) (upd op m (nI 1)) an (upd qs m (nI k)) (upd qa m (letF n f (nI a - nI 1))) (upd qb m (letF n f (nI (a + k)))))), (zk, eI G 48 (kF (va_cpy f ql a (m * 60) k))), (zt, eI G 64 (wrF lt (8 * (v % 8)) 8 (fun kk => numF ((upd B m (nI a)) kk) ((upd E m (nI (a + k))) kk)))), (zq, eI G 4 (qF n v (m + 1) j))]) (st2 := [.int (nI m)]) (c2 := 0) (s2 := 0) hF (c_X4_comment G d0 t0 r0 q0 y0 d1 u0 d2 d3 d4 v o t1 t2 n f g r1 r2 r3 m b e s q1 q2 q3 q4 ql qs qa qb a (a + k) (nI l0) l0 (by first | assumption | omega) (by first | assumption | omega) (by first | assumption | omega) (by first | assumption | omega) (rfl) (by first | assumption | omega)) gL_comments_X4_comment rfl rfl rfl hd_X4_comment ⟨⟨Nat.le_of_ble_eq_true rfl, Nat.le_of_ble_eq_true rfl⟩, ⟨Nat.le_of_ble_eq_true rfl, Nat.le_of_ble_eq_true rfl⟩, Nat.le_of_ble_eq_true rfl⟩ [0, 1, 2, 3, 4, 5, 6, 7, 8, 9, 10, 11, 12] rfl rfl 0 rfl rfl rfl rfl rfl rfl rfl rfl rfl rfl dL_comments_256 ?_
                refine z_ws (ws' := [(d0, .inr (4, [.ref t0, .ref r0, .ref q0, .ref y0, .ref d1, .int (o ||| bitF (nI m)), .int (nI v), .ref u0, .ref d2, .ref d3, .ref d4])), (t0, .inr (3, [.ref t1, .ref t2, .int (nI n)])), (t1, eI G 60 f), (t2, eI G 60 (mrkF g a (a + k) (bitF (nI m)))), (r0, .inr (2, [.ref r1, .ref r2, .ref r3, .int (nI (m + 1))])), (r1, eI G 12 (upd b m (nI a))), (r2, eI G 12 (upd e m (nI (a + k)))), (r3, eI G 12 (upd s m (nI l0))), (q0, .inr (1, [.ref q1, .ref q2, .ref q3, .ref q4])), (q1, eI G 720 (va_cpy f ql a (m * 60) k)), (q2, eI G 12 (upd qs m (nI ((a + k) - a)))), (q3, eI G 12 (upd qa m (letF n f (nI a - nI 1)))), (q4, eI G 12 (upd qb m (letF n f (nI (a + k))))), (zd, eI G 60 f), (ze, eI G 60 (mrkF le a (a + k) (bitF (nI m)))), (zc, eI G 36 (cF (upd s m (nI l0)) (upd op m (nI 1)) an (upd qs m (nI k)) (upd qa m (letF n f (nI a - nI 1))) (upd qb m (letF n f (nI (a + k)))))), (zk, eI G 48 (kF (va_cpy f ql a (m * 60) k))), (zt, eI G 64 (wrF lt (8 * (v % 8)) 8 (fun kk => numF ((upd B m (nI a)) kk) ((upd E m (nI (a + k))) kk)))), (zq, eI G 4 (qF n v (m + 1) j))]) (by rw [Nat.add_sub_cancel_left]) ?_
                refine z_ws (ws' := [(d0, .inr (4, [.ref t0, .ref r0, .ref q0, .ref y0, .ref d1, .int (o ||| bitF (nI m)), .int (nI v), .ref u0, .ref d2, .ref d3, .ref d4])), (t0, .inr (3, [.ref t1, .ref t2, .int (nI n)])), (t1, eI G 60 f), (t2, eI G 60 (mrkF g a (a + k) (bitF (nI m)))), (r0, .inr (2, [.ref r1, .ref r2, .ref r3, .int (nI (m + 1))])), (r1, eI G 12 (upd b m (nI a))), (r2, eI G 12 (upd e m (nI (a + k)))), (r3, eI G 12 (upd s m (nI l0))), (q0, .inr (1, [.ref q1, .ref q2, .ref q3, .ref q4])), (q1, eI G 720 (va_cpy f ql a (m * 60) k)), (q2, eI G 12 (upd qs m (nI k))), (q3, eI G 12 (upd qa m (letF n f (nI a - nI 1)))), (q4, eI G 12 (upd qb m (letF n f (nI (a + k))))), (zd, eI G 60 f), (ze, eI G 60 (mrkF le a (a + k) (bitF (nI m)))), (zc, eI G 36 (cF (upd s m (nI l0)) (upd op m (nI 1)) an (upd qs m (nI k)) (upd qa m (letF n f (nI a - nI 1))) (upd qb m (letF n f (nI (a + k)))))), (zk, eI G 48 (kF (va_cpy f ql a (m * 60) k))), (zt, eI G 64 (wrF lt (8 * (v % 8)) 8 (fun kk => numF ((upd B m (nI a)) kk) ((upd E m (nI (a + k))) kk)))), (zq, eI G 4 (qF n v (m + 1) j))]) (by rw [Nat.add_sub_cancel_left]) ?_
                refine z_iload hF dL_comments_259 rfl ?_
                refine z_icn_ne (tgt := 268) hF (by omega) (by omega) dL_comments_261 (by decide) (fun c_4 => absurd c_4 (not_not_intro rfl)) (fun c_4 => ?_)
                refine z_iconst (v := nI 1) hF dL_comments_264 (by decide) ?_
                refine z_goto (tgt := 269) hF dL_comments_265 (by decide) ?_
                exact hR.i dL_comments_269 (Nat.le_of_ble_eq_true rfl) (Nat.le_of_ble_eq_true rfl) (rfl) (rfl)
              · refine z_aload hF dL_comments_184 rfl ?_
                refine z_bipush (v := nI 8) hF dL_comments_186 (by decide) ?_
                refine z_iload hF dL_comments_188 rfl ?_
                refine z_imul hF dL_comments_190 ?_
                refine z_top (pk_mul 8 m) ?_
                refine z_iload hF dL_comments_191 rfl ?_
                refine z_iadd hF dL_comments_193 ?_
                refine z_top (nI_add (8 * m) t) ?_
                refine z_aload_n hF dL_comments_194 rfl ?_
                refine z_iload hF dL_comments_195 rfl ?_
                refine z_iload hF dL_comments_197 rfl ?_
                refine z_iadd hF dL_comments_199 ?_
                refine z_top (nI_add a t) ?_
                refine z_iald (k := a + t) hF 13 rfl (rfl) (by omega) rfl dL_comments_200 ?_
                refine z_iast (k := 8 * m + t) (ws' := [(d0, .inr (4, [.ref t0, .ref r0, .ref q0, .ref y0, .ref d1, .int o, .int (nI v), .ref u0, .ref d2, .ref d3, .ref d4])), (t0, .inr (3, [.ref t1, .ref t2, .int (nI n)])), (t1, eI G 60 f), (t2, eI G 60 g), (r0, .inr (2, [.ref r1, .ref r2, .ref r3, .int (nI m)])), (r1, eI G 12 b), (r2, eI G 12 e), (r3, eI G 12 s), (q0, .inr (1, [.ref q1, .ref q2, .ref q3, .ref q4])), (q1, eI G 720 ql), (q2, eI G 12 qs), (q3, eI G 12 qa), (q4, eI G 12 qb), (zd, eI G 60 f), (ze, eI G 60 (mrkF le a (a + t) (bitF (nI m)))), (zc, eI G 36 (cF (upd s m (nI l0)) (upd op m (nI 1)) an (upd qs m (nI k)) (upd qa m (letF n f (nI a - nI 1))) (upd qb m (letF n f (nI (a + k)))))), (zk, eI G 48 (upd (kF (va_cpy f ql a (m * 60) t)) (8 * m + t) (f (a + t)))), (zt, eI G 64 lt), (zq, eI G 4 (qF n v m j))]) hF 16 rfl (rfl) (by omega) rfl rfl dL_comments_201 ?_
                refine z_ws (ws' := [(d0, .inr (4, [.ref t0, .ref r0, .ref q0, .ref y0, .ref d1, .int o, .int (nI v), .ref u0, .ref d2, .ref d3, .ref d4])), (t0, .inr (3, [.ref t1, .ref t2, .int (nI n)])), (t1, eI G 60 f), (t2, eI G 60 g), (r0, .inr (2, [.ref r1, .ref r2, .ref r3, .int (nI m)])), (r1, eI G 12 b), (r2, eI G 12 e), (r3, eI G 12 s), (q0, .inr (1, [.ref q1, .ref q2, .ref q3, .ref q4])), (q1, eI G 720 ql), (q2, eI G 12 qs), (q3, eI G 12 qa), (q4, eI G 12 qb), (zd, eI G 60 f), (ze, eI G 60 (mrkF le a (a + t) (bitF (nI m)))), (zc, eI G 36 (cF (upd s m (nI l0)) (upd op m (nI 1)) an (upd qs m (nI k)) (upd qa m (letF n f (nI a - nI 1))) (upd qb m (letF n f (nI (a + k)))))), (zk, eI G 48 (kF (va_cpy f ql a (m * 60) (t + 1)))), (zt, eI G 64 lt), (zq, eI G 4 (qF n v m j))]) (by rw [kF_s f ql m a t (by omega) (by omega)]) ?_
                refine z_aload hF dL_comments_202 rfl ?_
                refine z_iload hF dL_comments_204 rfl ?_
                refine z_iload hF dL_comments_206 rfl ?_
                refine z_iadd hF dL_comments_208 ?_
                refine z_top (nI_add a t) ?_
                refine z_dup2 hF dL_comments_209 rfl rfl ?_
                refine z_iald (k := a + t) hF 14 rfl (rfl) (by omega) rfl dL_comments_210 ?_
                refine z_top (y := le (a + t)) (mrkF_at le _ _ _) ?_
                refine z_iconst (v := nI 1) hF dL_comments_211 (by decide) ?_
                refine z_iload hF dL_comments_212 rfl ?_
                refine z_ishl hF dL_comments_214 ?_
                refine z_top (y := bitF (nI m)) rfl ?_
                refine z_ior hF dL_comments_215 ?_
                refine z_iast (k := a + t) (ws' := [(d0, .inr (4, [.ref t0, .ref r0, .ref q0, .ref y0, .ref d1, .int o, .int (nI v), .ref u0, .ref d2, .ref d3, .ref d4])), (t0, .inr (3, [.ref t1, .ref t2, .int (nI n)])), (t1, eI G 60 f), (t2, eI G 60 g), (r0, .inr (2, [.ref r1, .ref r2, .ref r3, .int (nI m)])), (r1, eI G 12 b), (r2, eI G 12 e), (r3, eI G 12 s), (q0, .inr (1, [.ref q1, .ref q2, .ref q3, .ref q4])), (q1, eI G 720 ql), (q2, eI G 12 qs), (q3, eI G 12 qa), (q4, eI G 12 qb), (zd, eI G 60 f), (ze, eI G 60 (upd (mrkF le a (a + t) (bitF (nI m))) (a + t) ((le (a + t)) ||| (bitF (nI m))))), (zc, eI G 36 (cF (upd s m (nI l0)) (upd op m (nI 1)) an (upd qs m (nI k)) (upd qa m (letF n f (nI a - nI 1))) (upd qb m (letF n f (nI (a + k)))))), (zk, eI G 48 (kF (va_cpy f ql a (m * 60) (t + 1)))), (zt, eI G 64 lt), (zq, eI G 4 (qF n v m j))]) hF 14 rfl (rfl) (by omega) rfl rfl dL_comments_216 ?_
                refine z_ws (ws' := [(d0, .inr (4, [.ref t0, .ref r0, .ref q0, .ref y0, .ref d1, .int o, .int (nI v), .ref u0, .ref d2, .ref d3, .ref d4])), (t0, .inr (3, [.ref t1, .ref t2, .int (nI n)])), (t1, eI G 60 f), (t2, eI G 60 g), (r0, .inr (2, [.ref r1, .ref r2, .ref r3, .int (nI m)])), (r1, eI G 12 b), (r2, eI G 12 e), (r3, eI G 12 s), (q0, .inr (1, [.ref q1, .ref q2, .ref q3, .ref q4])), (q1, eI G 720 ql), (q2, eI G 12 qs), (q3, eI G 12 qa), (q4, eI G 12 qb), (zd, eI G 60 f), (ze, eI G 60 (mrkF le a (a + (t + 1)) (bitF (nI m)))), (zc, eI G 36 (cF (upd s m (nI l0)) (upd op m (nI 1)) an (upd qs m (nI k)) (upd qa m (letF n f (nI a - nI 1))) (upd qb m (letF n f (nI (a + k)))))), (zk, eI G 48 (kF (va_cpy f ql a (m * 60) (t + 1)))), (zt, eI G 64 lt), (zq, eI G 4 (qF n v m j))]) (by rw [mrkF_up le _ (by omega)]; rfl) ?_
                refine z_iinc (v := nI (t + 1)) (lv' := [some (.ref d0), some (.int (nI act)), some (.int x), some (.ref zd), some (.ref ze), some (.ref zc), some (.ref zk), some (.ref zt), some (.ref zq), some (.int (nI m)), some (.int (nI a)), some (.int (nI k)), some (.int (nI (t + 1)))]) hF dL_comments_217 rfl (nI_1 t) rfl rfl ?_
                refine z_goto (tgt := 177) hF dL_comments_220 (by decide) ?_
                exact ih (t + 1) (by omega) (by omega)
          exact J_177 ((k - 0) + 1) 0 (Nat.lt_succ_self _) (by omega)
        refine z_iload hF dL_comments_150 rfl ?_
        refine z_iload hF dL_comments_152 rfl ?_
        refine z_iadd hF dL_comments_154 ?_
        refine z_top (nI_add a k) ?_
        refine z_aload hF dL_comments_155 rfl ?_
        refine z_iconst (v := nI 0) hF dL_comments_157 (by decide) ?_
        refine z_iald (k := 0) hF 18 rfl (rfl) (by omega) rfl dL_comments_158 ?_
        refine z_top (y := nI n) (rfl) ?_
        refine z_icn_ne (tgt := 166) hF (by omega) (by omega) dL_comments_159 (by decide) (fun h159 => ?_) (fun h159 => ?_)
        · refine z_aload_n hF dL_comments_166 rfl ?_
          refine z_iload hF dL_comments_167 rfl ?_
          refine z_iload hF dL_comments_169 rfl ?_
          refine z_iadd hF dL_comments_171 ?_
          refine z_top (nI_add a k) ?_
          refine z_iald (k := a + k) hF 13 rfl (rfl) (by omega) rfl dL_comments_172 ?_
          refine z_top (y := letF n f (nI (a + k))) (let_i (by omega) hn) ?_
          exact J_173  
        · refine z_iconst (v := -1) hF dL_comments_162 (by decide) ?_
          refine z_goto (tgt := 173) hF dL_comments_163 (by decide) ?_
          refine z_top (y := letF n f (nI (a + k))) (let_e h159 hn) ?_
          exact J_173  
      refine z_iload hF dL_comments_125 rfl ?_
      refine z_ifn_ne (tgt := 134) hF (by omega) dL_comments_127 (by decide) (fun h127 => ?_) (fun h127 => ?_)
      · refine z_aload_n hF dL_comments_134 rfl ?_
        refine z_iload hF dL_comments_135 rfl ?_
        refine z_iconst (v := nI 1) hF dL_comments_137 (by decide) ?_
        refine z_isub hF dL_comments_138 ?_
        refine z_top (pk_sub (by omega)) ?_
        refine z_iald (k := a - 1) hF 13 rfl (rfl) (by omega) rfl dL_comments_139 ?_
        refine z_top (y := letF n f (nI a - nI 1)) (let_s (Nat.pos_of_ne_zero h127) (by omega) hn) ?_
        exact J_140  
      · refine z_iconst (v := -1) hF dL_comments_130 (by decide) ?_
        refine z_goto (tgt := 140) hF dL_comments_131 (by decide) ?_
        refine z_top (y := letF n f (nI a - nI 1)) (let_0 h127) ?_
        exact J_140  
    refine z_iconst (v := nI 1) hF dL_comments_43 (by decide) ?_
    refine z_iload_n hF dL_comments_44 rfl ?_
    refine z_iconst (v := nI 4) hF dL_comments_45 (by decide) ?_
    refine z_ishr hF dL_comments_46 ?_
    refine z_aload hF dL_comments_47 rfl ?_
    refine z_iconst (v := nI 0) hF dL_comments_49 (by decide) ?_
    refine z_iald (k := 0) hF 18 rfl (rfl) (by omega) rfl dL_comments_50 ?_
    refine z_top (y := nI n) (rfl) ?_
    refine z_iload hF dL_comments_51 rfl ?_
    refine z_isub hF dL_comments_53 ?_
    refine z_top (pk_sub (by omega)) ?_
    refine z_bipush (v := nI 8) hF dL_comments_54 (by decide) ?_
    refine z_icn_ge (tgt := 69) hF (by omega) (by omega) dL_comments_56 (by decide) (fun c_5 => ?_) (fun c_5 => ?_)
    · refine z_bipush (v := nI 8) hF dL_comments_69 (by decide) ?_
      refine z_top (y := nI r) (by rw [← hr, if_neg (by omega)]) ?_
      exact J_71  
    · refine z_aload hF dL_comments_59 rfl ?_
      refine z_iconst (v := nI 0) hF dL_comments_61 (by decide) ?_
      refine z_iald (k := 0) hF 18 rfl (rfl) (by omega) rfl dL_comments_62 ?_
      refine z_top (y := nI n) (rfl) ?_
      refine z_iload hF dL_comments_63 rfl ?_
      refine z_isub hF dL_comments_65 ?_
      refine z_top (pk_sub (by omega)) ?_
      refine z_goto (tgt := 71) hF dL_comments_66 (by decide) ?_
      refine z_top (y := nI r) (by rw [← hr, if_pos (by omega)]) ?_
      exact J_71  
  refine z_iload_n hF dL_comments_0 rfl ?_
  refine z_ifn_eq (tgt := 11) hF (by omega) dL_comments_1 (by decide) (fun h1 => ?_) (fun h1 => ?_)
  · exact J_11
  · refine z_aload hF dL_comments_4 rfl ?_
    refine z_iconst (v := nI 2) hF dL_comments_6 (by decide) ?_
    refine z_iald (k := 2) hF 18 rfl (rfl) (by omega) rfl dL_comments_7 ?_
    refine z_top (y := nI m) (rfl) ?_
    refine z_ifn_ne (tgt := 270) hF (by omega) dL_comments_8 (by decide) (fun c_6 => absurd c_6 (fun h => hc.elim h1 h)) (fun c_6 => ?_)
    exact J_11  
