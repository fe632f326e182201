set_option maxHeartbeats 4000000 in
set_option maxRecDepth 100000 in
theorem c_L_sug_new (G : zG) (d0 t0 r0 q0 y0 d1 u0 d2 d3 d4 v : Nat) (o : Int32) (t1 t2 n : Nat) (u1 u2 u3 j : Nat) (b2 : Nat → Int32) (e2 : Nat → Int32) (s2 : Nat → Int32) (xl : Nat → Int32) (xc : Nat → Int32) (xs : Nat → Int32) (zd ze zc zg zt zq m : Nat) (f le s op an qs qa qb lt : Nat → Int32) (x : Int32) (act a r k l0 w0 : Nat) (hn : n ≤ 60) (hj : j < 6) (hact9 : act < 14) (hc : act = 0 ∨ j = 0) (ha : lowN x n = a) (hr : (if n - a < 5 then n - a else 5) = r) (hk : 1 + lowN (x >>> ((nI 4) &&& 31)) r = k) (hl : lowN (x >>> ((nI 7) &&& 31)) 3 = l0) (hw : lowN (x >>> ((nI 9) &&& 31)) 6 = w0) (ha2 : a < n) (hr1 : 1 ≤ r) (hr8 : r ≤ 5) (hk1 : 1 ≤ k) (hk8 : k ≤ 5) (hak : a + k ≤ n) (hl3 : l0 ≤ 2) (hw5 : w0 ≤ 5) : zM G yL_suggestions wsL_suggestions ({ frames := 3, cells := 0, slots := 0, locals := 81 }) [.ref d0, .int (nI act), .int x, .ref zd, .ref ze, .ref zc, .ref zg, .ref zt, .ref zq] [(d0, .inr (4, [.ref t0, .ref r0, .ref q0, .ref y0, .ref d1, .int o, .int (nI v), .ref u0, .ref d2, .ref d3, .ref d4])), (t0, .inr (3, [.ref t1, .ref t2, .int (nI n)])), (u0, .inr (2, [.ref u1, .ref u2, .ref u3, .int (nI j)])), (u1, eI G 12 b2), (u2, eI G 12 e2), (u3, eI G 12 s2), (d2, eI G 10 xl), (d3, eI G 10 xc), (d4, eI G 10 xs), (zd, eI G 60 f), (ze, eI G 60 le), (zc, eI G 36 (cF s op an qs qa qb)), (zg, eI G 18 (gF xl xc xs)), (zt, eI G 64 lt), (zq, eI G 4 (qF n v m j))] [(d0, .inr (4, [.ref t0, .ref r0, .ref q0, .ref y0, .ref d1, .int o, .int (nI v), .ref u0, .ref d2, .ref d3, .ref d4])), (t0, .inr (3, [.ref t1, .ref t2, .int (nI n)])), (u0, .inr (2, [.ref u1, .ref u2, .ref u3, .int (nI (j + 1))])), (u1, eI G 12 (upd b2 j (nI a))), (u2, eI G 12 (upd e2 j (nI (a + k)))), (u3, eI G 12 (upd s2 j (nI 0))), (d2, eI G 10 (upd xl j (nI l0))), (d3, eI G 10 (upd xc j (nI w0))), (d4, eI G 10 (upd xs j (nI 0))), (zd, eI G 60 f), (ze, eI G 60 (mrkF le a (a + k) (bitF (nI (8 + j))))), (zc, eI G 36 (cF s op an qs qa qb)), (zg, eI G 18 (gF (upd xl j (nI l0)) (upd xc j (nI w0)) (upd xs j (nI 0)))), (zt, eI G 64 lt), (zq, eI G 4 (qF n v m (j + 1)))] (some (.int (nI 1))) 0 0 := by
  refine zM.ofI (own := RL) (cc := cL_suggestions) (maxL := 15) rfl (by decide) rfl rfl (by simp [Value.category]) (Nat.le_of_ble_eq_true rfl) ?_
  intro X hF hR
  refine z_lv (lv' := [some (.ref d0), some (.int (nI act)), some (.int x), some (.ref zd), some (.ref ze), some (.ref zc), some (.ref zg), some (.ref zt), some (.ref zq), none, none, none, none, none, none]) rfl ?_
  have J_11 : zJ G X 11 [(d0, .inr (4, [.ref t0, .ref r0, .ref q0, .ref y0, .ref d1, .int o, .int (nI v), .ref u0, .ref d2, .ref d3, .ref d4])), (t0, .inr (3, [.ref t1, .ref t2, .int (nI n)])), (u0, .inr (2, [.ref u1, .ref u2, .ref u3, .int (nI j)])), (u1, eI G 12 b2), (u2, eI G 12 e2), (u3, eI G 12 s2), (d2, eI G 10 xl), (d3, eI G 10 xc), (d4, eI G 10 xs), (zd, eI G 60 f), (ze, eI G 60 le), (zc, eI G 36 (cF s op an qs qa qb)), (zg, eI G 18 (gF xl xc xs)), (zt, eI G 64 lt), (zq, eI G 4 (qF n v m j))] [some (.ref d0), some (.int (nI act)), some (.int x), some (.ref zd), some (.ref ze), some (.ref zc), some (.ref zg), some (.ref zt), some (.ref zq), none, none, none, none, none, none] [] 0 0 := by
    refine z_aload hF dL_suggestions_11 rfl ?_
    refine z_iconst (v := nI 3) hF dL_suggestions_13 (by decide) ?_
    refine z_iald (k := 3) hF 14 rfl (rfl) (by omega) rfl dL_suggestions_14 ?_
    refine z_top (y := nI j) (rfl) ?_
    refine z_bipush (v := nI 6) hF dL_suggestions_15 (by decide) ?_
    refine z_icn_ge (tgt := 210) hF (by omega) (by omega) dL_suggestions_17 (by decide) (fun c_1 => absurd c_1 (by omega)) (fun c_1 => ?_)
    refine z_aload hF dL_suggestions_20 rfl ?_
    refine z_iconst (v := nI 0) hF dL_suggestions_22 (by decide) ?_
    refine z_iald (k := 0) hF 14 rfl (rfl) (by omega) rfl dL_suggestions_23 ?_
    refine z_top (y := nI n) (rfl) ?_
    refine z_ifn_le (tgt := 210) hF (by omega) dL_suggestions_24 (by decide) (fun c_2 => absurd c_2 (by omega)) (fun c_2 => ?_)
    refine z_iload_n hF dL_suggestions_27 rfl ?_
    refine z_aload hF dL_suggestions_28 rfl ?_
    refine z_iconst (v := nI 0) hF dL_suggestions_30 (by decide) ?_
    refine z_iald (k := 0) hF 14 rfl (rfl) (by omega) rfl dL_suggestions_31 ?_
    refine z_top (y := nI n) (rfl) ?_
    refine z_S (As := [.int x, .int (nI n)]) (rest := []) (ws' := [(d0, .inr (4, [.ref t0, .ref r0, .ref q0, .ref y0, .ref d1, .int o, .int (nI v), .ref u0, .ref d2, .ref d3, .ref d4])), (t0, .inr (3, [.ref t1, .ref t2, .int (nI n)])), (u0, .inr (2, [.ref u1, .ref u2, .ref u3, .int (nI j)])), (u1, eI G 12 b2), (u2, eI G 12 e2), (u3, eI G 12 s2), (d2, eI G 10 xl), (d3, eI G 10 xc), (d4, eI G 10 xs), (zd, eI G 60 f), (ze, eI G 60 le), (zc, eI G 36 (cF s op an qs qa qb)), (zg, eI G 18 (gF xl xc xs)), (zt, eI G 64 lt), (zq, eI G 4 (qF n v m j))]) (st2 := [.int (nI (lowN x n))]) (c2 := 0) (s2 := 0) hF (c_L_low G x n (by first | assumption | omega) (by first | assumption | omega)) gL_suggestions_L_low rfl rfl rfl hs_L_low ⟨⟨Nat.le_of_ble_eq_true rfl, Nat.le_of_ble_eq_true rfl⟩, ⟨Nat.le_of_ble_eq_true rfl, Nat.le_of_ble_eq_true rfl⟩, Nat.le_of_ble_eq_true rfl⟩ [] rfl rfl rfl rfl rfl rfl rfl rfl rfl rfl dL_suggestions_32 ?_
    refine z_istore (lv' := [some (.ref d0), some (.int (nI act)), some (.int x), some (.ref zd), some (.ref ze), some (.ref zc), some (.ref zg), some (.ref zt), some (.ref zq), some (.int (nI (lowN x n))), none, none, none, none, none]) hF dL_suggestions_35 rfl rfl ?_
    refine z_lv (lv' := [some (.ref d0), some (.int (nI act)), some (.int x), some (.ref zd), some (.ref ze), some (.ref zc), some (.ref zg), some (.ref zt), some (.ref zq), some (.int (nI a)), none, none, none, none, none]) (by rw [ha]) ?_
    have J_63 : zJ G X 63 [(d0, .inr (4, [.ref t0, .ref r0, .ref q0, .ref y0, .ref d1, .int o, .int (nI v), .ref u0, .ref d2, .ref d3, .ref d4])), (t0, .inr (3, [.ref t1, .ref t2, .int (nI n)])), (u0, .inr (2, [.ref u1, .ref u2, .ref u3, .int (nI j)])), (u1, eI G 12 b2), (u2, eI G 12 e2), (u3, eI G 12 s2), (d2, eI G 10 xl), (d3, eI G 10 xc), (d4, eI G 10 xs), (zd, eI G 60 f), (ze, eI G 60 le), (zc, eI G 36 (cF s op an qs qa qb)), (zg, eI G 18 (gF xl xc xs)), (zt, eI G 64 lt), (zq, eI G 4 (qF n v m j))] [some (.ref d0), some (.int (nI act)), some (.int x), some (.ref zd), some (.ref ze), some (.ref zc), some (.ref zg), some (.ref zt), some (.ref zq), some (.int (nI a)), none, none, none, none, none] [.int (nI r), .int (x >>> ((nI 4) &&& 31)), .int (nI 1)] 0 0 := by
      refine z_S (As := [.int (x >>> ((nI 4) &&& 31)), .int (nI r)]) (rest := [.int (nI 1)]) (ws' := [(d0, .inr (4, [.ref t0, .ref r0, .ref q0, .ref y0, .ref d1, .int o, .int (nI v), .ref u0, .ref d2, .ref d3, .ref d4])), (t0, .inr (3, [.ref t1, .ref t2, .int (nI n)])), (u0, .inr (2, [.ref u1, .ref u2, .ref u3, .int (nI j)])), (u1, eI G 12 b2), (u2, eI G 12 e2), (u3, eI G 12 s2), (d2, eI G 10 xl), (d3, eI G 10 xc), (d4, eI G 10 xs), (zd, eI G 60 f), (ze, eI G 60 le), (zc, eI G 36 (cF s op an qs qa qb)), (zg, eI G 18 (gF xl xc xs)), (zt, eI G 64 lt), (zq, eI G 4 (qF n v m j))]) (st2 := [.int (nI (lowN (x >>> ((nI 4) &&& 31)) r)), .int (nI 1)]) (c2 := 0) (s2 := 0) hF (c_L_low G (x >>> ((nI 4) &&& 31)) r (by first | assumption | omega) (by first | assumption | omega)) gL_suggestions_L_low rfl rfl rfl hs_L_low ⟨⟨Nat.le_of_ble_eq_true rfl, Nat.le_of_ble_eq_true rfl⟩, ⟨Nat.le_of_ble_eq_true rfl, Nat.le_of_ble_eq_true rfl⟩, Nat.le_of_ble_eq_true rfl⟩ [] rfl rfl rfl rfl rfl rfl rfl rfl rfl rfl dL_suggestions_63 ?_
      refine z_iadd hF dL_suggestions_66 ?_
      refine z_top (nI_add 1 (lowN (x >>> ((nI 4) &&& 31)) r)) ?_
      refine z_istore (lv' := [some (.ref d0), some (.int (nI act)), some (.int x), some (.ref zd), some (.ref ze), some (.ref zc), some (.ref zg), some (.ref zt), some (.ref zq), some (.int (nI a)), some (.int (nI (1 + (lowN (x >>> ((nI 4) &&& 31)) r)))), none, none, none, none]) hF dL_suggestions_67 rfl rfl ?_
      refine z_lv (lv' := [some (.ref d0), some (.int (nI act)), some (.int x), some (.ref zd), some (.ref ze), some (.ref zc), some (.ref zg), some (.ref zt), some (.ref zq), some (.int (nI a)), some (.int (nI k)), none, none, none, none]) (by rw [hk]) ?_
      refine z_aload hF dL_suggestions_69 rfl ?_
      refine z_iconst (v := nI 3) hF dL_suggestions_71 (by decide) ?_
      refine z_aload hF dL_suggestions_72 rfl ?_
      refine z_iconst (v := nI 3) hF dL_suggestions_74 (by decide) ?_
      refine z_iald (k := 3) hF 14 rfl (rfl) (by omega) rfl dL_suggestions_75 ?_
      refine z_top (y := nI j) (rfl) ?_
      refine z_imul hF dL_suggestions_76 ?_
      refine z_top (pk_mul 3 j) ?_
      refine z_iload_n hF dL_suggestions_77 rfl ?_
      refine z_bipush (v := nI 7) hF dL_suggestions_78 (by decide) ?_
      refine z_ishr hF dL_suggestions_80 ?_
      refine z_iconst (v := nI 3) hF dL_suggestions_81 (by decide) ?_
      refine z_S (As := [.int (x >>> ((nI 7) &&& 31)), .int (nI 3)]) (rest := [.int (nI (3 * j)), .ref zg]) (ws' := [(d0, .inr (4, [.ref t0, .ref r0, .ref q0, .ref y0, .ref d1, .int o, .int (nI v), .ref u0, .ref d2, .ref d3, .ref d4])), (t0, .inr (3, [.ref t1, .ref t2, .int (nI n)])), (u0, .inr (2, [.ref u1, .ref u2, .ref u3, .int (nI j)])), (u1, eI G 12 b2), (u2, eI G 12 e2), (u3, eI G 12 s2), (d2, eI G 10 xl), (d3, eI G 10 xc), (d4, eI G 10 xs), (zd, eI G 60 f), (ze, eI G 60 le), (zc, eI G 36 (cF s op an qs qa qb)), (zg, eI G 18 (gF xl xc xs)), (zt, eI G 64 lt), (zq, eI G 4 (qF n v m j))]) (st2 := [.int (nI (lowN (x >>> ((nI 7) &&& 31)) 3)), .int (nI (3 * j)), .ref zg]) (c2 := 0) (s2 := 0) hF (c_L_low G (x >>> ((nI 7) &&& 31)) 3 (by first | assumption | omega) (by first | assumption | omega)) gL_suggestions_L_low rfl rfl rfl hs_L_low ⟨⟨Nat.le_of_ble_eq_true rfl, Nat.le_of_ble_eq_true rfl⟩, ⟨Nat.le_of_ble_eq_true rfl, Nat.le_of_ble_eq_true rfl⟩, Nat.le_of_ble_eq_true rfl⟩ [] rfl rfl rfl rfl rfl rfl rfl rfl rfl rfl dL_suggestions_82 ?_
      refine z_top (y := nI l0) (by rw [hl]) ?_
      refine z_iast (k := 3 * j) (ws' := [(d0, .inr (4, [.ref t0, .ref r0, .ref q0, .ref y0, .ref d1, .int o, .int (nI v), .ref u0, .ref d2, .ref d3, .ref d4])), (t0, .inr (3, [.ref t1, .ref t2, .int (nI n)])), (u0, .inr (2, [.ref u1, .ref u2, .ref u3, .int (nI j)])), (u1, eI G 12 b2), (u2, eI G 12 e2), (u3, eI G 12 s2), (d2, eI G 10 xl), (d3, eI G 10 xc), (d4, eI G 10 xs), (zd, eI G 60 f), (ze, eI G 60 le), (zc, eI G 36 (cF s op an qs qa qb)), (zg, eI G 18 (upd (gF xl xc xs) (3 * j) (nI l0))), (zt, eI G 64 lt), (zq, eI G 4 (qF n v m j))]) hF 12 rfl (rfl) (by omega) rfl rfl dL_suggestions_85 ?_
      refine z_ws (ws' := [(d0, .inr (4, [.ref t0, .ref r0, .ref q0, .ref y0, .ref d1, .int o, .int (nI v), .ref u0, .ref d2, .ref d3, .ref d4])), (t0, .inr (3, [.ref t1, .ref t2, .int (nI n)])), (u0, .inr (2, [.ref u1, .ref u2, .ref u3, .int (nI j)])), (u1, eI G 12 b2), (u2, eI G 12 e2), (u3, eI G 12 s2), (d2, eI G 10 xl), (d3, eI G 10 xc), (d4, eI G 10 xs), (zd, eI G 60 f), (ze, eI G 60 le), (zc, eI G 36 (cF s op an qs qa qb)), (zg, eI G 18 (gF (upd xl j (nI l0)) xc xs)), (zt, eI G 64 lt), (zq, eI G 4 (qF n v m j))]) (by rw [gF_s0]) ?_
      refine z_aload hF dL_suggestions_86 rfl ?_
      refine z_iconst (v := nI 3) hF dL_suggestions_88 (by decide) ?_
      refine z_aload hF dL_suggestions_89 rfl ?_
      refine z_iconst (v := nI 3) hF dL_suggestions_91 (by decide) ?_
      refine z_iald (k := 3) hF 14 rfl (rfl) (by omega) rfl dL_suggestions_92 ?_
      refine z_top (y := nI j) (rfl) ?_
      refine z_imul hF dL_suggestions_93 ?_
      refine z_top (pk_mul 3 j) ?_
      refine z_iconst (v := nI 1) hF dL_suggestions_94 (by decide) ?_
      refine z_iadd hF dL_suggestions_95 ?_
      refine z_top (nI_add (3 * j) 1) ?_
      refine z_iload_n hF dL_suggestions_96 rfl ?_
      refine z_bipush (v := nI 9) hF dL_suggestions_97 (by decide) ?_
      refine z_ishr hF dL_suggestions_99 ?_
      refine z_bipush (v := nI 6) hF dL_suggestions_100 (by decide) ?_
      refine z_S (As := [.int (x >>> ((nI 9) &&& 31)), .int (nI 6)]) (rest := [.int (nI (3 * j + 1)), .ref zg]) (ws' := [(d0, .inr (4, [.ref t0, .ref r0, .ref q0, .ref y0, .ref d1, .int o, .int (nI v), .ref u0, .ref d2, .ref d3, .ref d4])), (t0, .inr (3, [.ref t1, .ref t2, .int (nI n)])), (u0, .inr (2, [.ref u1, .ref u2, .ref u3, .int (nI j)])), (u1, eI G 12 b2), (u2, eI G 12 e2), (u3, eI G 12 s2), (d2, eI G 10 xl), (d3, eI G 10 xc), (d4, eI G 10 xs), (zd, eI G 60 f), (ze, eI G 60 le), (zc, eI G 36 (cF s op an qs qa qb)), (zg, eI G 18 (gF (upd xl j (nI l0)) xc xs)), (zt, eI G 64 lt), (zq, eI G 4 (qF n v m j))]) (st2 := [.int (nI (lowN (x >>> ((nI 9) &&& 31)) 6)), .int (nI (3 * j + 1)), .ref zg]) (c2 := 0) (s2 := 0) hF (c_L_low G (x >>> ((nI 9) &&& 31)) 6 (by first | assumption | omega) (by first | assumption | omega)) gL_suggestions_L_low rfl rfl rfl hs_L_low ⟨⟨Nat.le_of_ble_eq_true rfl, Nat.le_of_ble_eq_true rfl⟩, ⟨Nat.le_of_ble_eq_true rfl, Nat.le_of_ble_eq_true rfl⟩, Nat.le_of_ble_eq_true rfl⟩ [] rfl rfl rfl rfl rfl rfl rfl rfl rfl rfl dL_suggestions_102 ?_
      refine z_top (y := nI w0) (by rw [hw]) ?_
      refine z_iast (k := 3 * j + 1) (ws' := [(d0, .inr (4, [.ref t0, .ref r0, .ref q0, .ref y0, .ref d1, .int o, .int (nI v), .ref u0, .ref d2, .ref d3, .ref d4])), (t0, .inr (3, [.ref t1, .ref t2, .int (nI n)])), (u0, .inr (2, [.ref u1, .ref u2, .ref u3, .int (nI j)])), (u1, eI G 12 b2), (u2, eI G 12 e2), (u3, eI G 12 s2), (d2, eI G 10 xl), (d3, eI G 10 xc), (d4, eI G 10 xs), (zd, eI G 60 f), (ze, eI G 60 le), (zc, eI G 36 (cF s op an qs qa qb)), (zg, eI G 18 (upd (gF (upd xl j (nI l0)) xc xs) (3 * j + 1) (nI w0))), (zt, eI G 64 lt), (zq, eI G 4 (qF n v m j))]) hF 12 rfl (rfl) (by omega) rfl rfl dL_suggestions_105 ?_
      refine z_ws (ws' := [(d0, .inr (4, [.ref t0, .ref r0, .ref q0, .ref y0, .ref d1, .int o, .int (nI v), .ref u0, .ref d2, .ref d3, .ref d4])), (t0, .inr (3, [.ref t1, .ref t2, .int (nI n)])), (u0, .inr (2, [.ref u1, .ref u2, .ref u3, .int (nI j)])), (u1, eI G 12 b2), (u2, eI G 12 e2), (u3, eI G 12 s2), (d2, eI G 10 xl), (d3, eI G 10 xc), (d4, eI G 10 xs), (zd, eI G 60 f), (ze, eI G 60 le), (zc, eI G 36 (cF s op an qs qa qb)), (zg, eI G 18 (gF (upd xl j (nI l0)) (upd xc j (nI w0)) xs)), (zt, eI G 64 lt), (zq, eI G 4 (qF n v m j))]) (by rw [gF_s1]) ?_
      refine z_aload hF dL_suggestions_106 rfl ?_
      refine z_iconst (v := nI 3) hF dL_suggestions_108 (by decide) ?_
      refine z_aload hF dL_suggestions_109 rfl ?_
      refine z_iconst (v := nI 3) hF dL_suggestions_111 (by decide) ?_
      refine z_iald (k := 3) hF 14 rfl (rfl) (by omega) rfl dL_suggestions_112 ?_
      refine z_top (y := nI j) (rfl) ?_
      refine z_imul hF dL_suggestions_113 ?_
      refine z_top (pk_mul 3 j) ?_
      refine z_iconst (v := nI 2) hF dL_suggestions_114 (by decide) ?_
      refine z_iadd hF dL_suggestions_115 ?_
      refine z_top (nI_add (3 * j) 2) ?_
      refine z_iconst (v := nI 0) hF dL_suggestions_116 (by decide) ?_
      refine z_iast (k := 3 * j + 2) (ws' := [(d0, .inr (4, [.ref t0, .ref r0, .ref q0, .ref y0, .ref d1, .int o, .int (nI v), .ref u0, .ref d2, .ref d3, .ref d4])), (t0, .inr (3, [.ref t1, .ref t2, .int (nI n)])), (u0, .inr (2, [.ref u1, .ref u2, .ref u3, .int (nI j)])), (u1, eI G 12 b2), (u2, eI G 12 e2), (u3, eI G 12 s2), (d2, eI G 10 xl), (d3, eI G 10 xc), (d4, eI G 10 xs), (zd, eI G 60 f), (ze, eI G 60 le), (zc, eI G 36 (cF s op an qs qa qb)), (zg, eI G 18 (upd (gF (upd xl j (nI l0)) (upd xc j (nI w0)) xs) (3 * j + 2) (nI 0))), (zt, eI G 64 lt), (zq, eI G 4 (qF n v m j))]) hF 12 rfl (rfl) (by omega) rfl rfl dL_suggestions_117 ?_
      refine z_ws (ws' := [(d0, .inr (4, [.ref t0, .ref r0, .ref q0, .ref y0, .ref d1, .int o, .int (nI v), .ref u0, .ref d2, .ref d3, .ref d4])), (t0, .inr (3, [.ref t1, .ref t2, .int (nI n)])), (u0, .inr (2, [.ref u1, .ref u2, .ref u3, .int (nI j)])), (u1, eI G 12 b2), (u2, eI G 12 e2), (u3, eI G 12 s2), (d2, eI G 10 xl), (d3, eI G 10 xc), (d4, eI G 10 xs), (zd, eI G 60 f), (ze, eI G 60 le), (zc, eI G 36 (cF s op an qs qa qb)), (zg, eI G 18 (gF (upd xl j (nI l0)) (upd xc j (nI w0)) (upd xs j (nI 0)))), (zt, eI G 64 lt), (zq, eI G 4 (qF n v m j))]) (by rw [gF_s2]) ?_
      refine z_iload hF dL_suggestions_118 rfl ?_
      refine z_istore (lv' := [some (.ref d0), some (.int (nI act)), some (.int x), some (.ref zd), some (.ref ze), some (.ref zc), some (.ref zg), some (.ref zt), some (.ref zq), some (.int (nI a)), some (.int (nI k)), some (.int (nI a)), none, none, none]) hF dL_suggestions_120 rfl rfl ?_
      refine z_ws (ws' := [(d0, .inr (4, [.ref t0, .ref r0, .ref q0, .ref y0, .ref d1, .int o, .int (nI v), .ref u0, .ref d2, .ref d3, .ref d4])), (t0, .inr (3, [.ref t1, .ref t2, .int (nI n)])), (u0, .inr (2, [.ref u1, .ref u2, .ref u3, .int (nI j)])), (u1, eI G 12 b2), (u2, eI G 12 e2), (u3, eI G 12 s2), (d2, eI G 10 xl), (d3, eI G 10 xc), (d4, eI G 10 xs), (zd, eI G 60 f), (ze, eI G 60 (mrkF le a (a + 0) (bitF (nI (8 + j))))), (zc, eI G 36 (cF s op an qs qa qb)), (zg, eI G 18 (gF (upd xl j (nI l0)) (upd xc j (nI w0)) (upd xs j (nI 0)))), (zt, eI G 64 lt), (zq, eI G 4 (qF n v m j))]) (by rw [mrkF_0 le _ (by omega)]) ?_
      have J_122 : ∀ (n9 : Nat) (t : Nat), k - t < n9 → (t ≤ k) → zJ G X 122 [(d0, .inr (4, [.ref t0, .ref r0, .ref q0, .ref y0, .ref d1, .int o, .int (nI v), .ref u0, .ref d2, .ref d3, .ref d4])), (t0, .inr (3, [.ref t1, .ref t2, .int (nI n)])), (u0, .inr (2, [.ref u1, .ref u2, .ref u3, .int (nI j)])), (u1, eI G 12 b2), (u2, eI G 12 e2), (u3, eI G 12 s2), (d2, eI G 10 xl), (d3, eI G 10 xc), (d4, eI G 10 xs), (zd, eI G 60 f), (ze, eI G 60 (mrkF le a (a + t) (bitF (nI (8 + j))))), (zc, eI G 36 (cF s op an qs qa qb)), (zg, eI G 18 (gF (upd xl j (nI l0)) (upd xc j (nI w0)) (upd xs j (nI 0)))), (zt, eI G 64 lt), (zq, eI G 4 (qF n v m j))] [some (.ref d0), some (.int (nI act)), some (.int x), some (.ref zd), some (.ref ze), some (.ref zc), some (.ref zg), some (.ref zt), some (.ref zq), some (.int (nI a)), some (.int (nI k)), some (.int (nI (a + t))), none, none, none] [] 0 0 := by
        intro n9
        induction n9 with
        | zero => intro t hmu; exact absurd hmu (Nat.not_lt_zero _)
        | succ n9 ih =>
          intro t hmu h2
          refine z_iload hF dL_suggestions_122 rfl ?_
          refine z_iload hF dL_suggestions_124 rfl ?_
          refine z_iload hF dL_suggestions_126 rfl ?_
          refine z_iadd hF dL_suggestions_128 ?_
          refine z_top (nI_add a k) ?_
          refine z_icn_ge (tgt := 154) hF (by omega) (by omega) dL_suggestions_129 (by decide) (fun c_3 => ?_) (fun c_3 => ?_)
          · have ht9 : t = k := by omega
            refine z_ws (ws' := [(d0, .inr (4, [.ref t0, .ref r0, .ref q0, .ref y0, .ref d1, .int o, .int (nI v), .ref u0, .ref d2, .ref d3, .ref d4])), (t0, .inr (3, [.ref t1, .ref t2, .int (nI n)])), (u0, .inr (2, [.ref u1, .ref u2, .ref u3, .int (nI j)])), (u1, eI G 12 b2), (u2, eI G 12 e2), (u3, eI G 12 s2), (d2, eI G 10 xl), (d3, eI G 10 xc), (d4, eI G 10 xs), (zd, eI G 60 f), (ze, eI G 60 (mrkF le a (a + k) (bitF (nI (8 + j))))), (zc, eI G 36 (cF s op an qs qa qb)), (zg, eI G 18 (gF (upd xl j (nI l0)) (upd xc j (nI w0)) (upd xs j (nI 0)))), (zt, eI G 64 lt), (zq, eI G 4 (qF n v m j))]) (by rw [ht9]) ?_
            refine z_aload hF dL_suggestions_154 rfl ?_
            refine z_iconst (v := nI 3) hF dL_suggestions_156 (by decide) ?_
            refine z_dup2 hF dL_suggestions_157 rfl rfl ?_
            refine z_iald (k := 3) hF 14 rfl (rfl) (by omega) rfl dL_suggestions_158 ?_
            refine z_top (y := nI j) (rfl) ?_
            refine z_iconst (v := nI 1) hF dL_suggestions_159 (by decide) ?_
            refine z_iadd hF dL_suggestions_160 ?_
            refine z_top (nI_add j 1) ?_
            refine z_iast (k := 3) (ws' := [(d0, .inr (4, [.ref t0, .ref r0, .ref q0, .ref y0, .ref d1, .int o, .int (nI v), .ref u0, .ref d2, .ref d3, .ref d4])), (t0, .inr (3, [.ref t1, .ref t2, .int (nI n)])), (u0, .inr (2, [.ref u1, .ref u2, .ref u3, .int (nI j)])), (u1, eI G 12 b2), (u2, eI G 12 e2), (u3, eI G 12 s2), (d2, eI G 10 xl), (d3, eI G 10 xc), (d4, eI G 10 xs), (zd, eI G 60 f), (ze, eI G 60 (mrkF le a (a + k) (bitF (nI (8 + j))))), (zc, eI G 36 (cF s op an qs qa qb)), (zg, eI G 18 (gF (upd xl j (nI l0)) (upd xc j (nI w0)) (upd xs j (nI 0)))), (zt, eI G 64 lt), (zq, eI G 4 (upd (qF n v m j) 3 (nI (j + 1))))]) hF 14 rfl (rfl) (by omega) rfl rfl dL_suggestions_161 ?_
            refine z_ws (ws' := [(d0, .inr (4, [.ref t0, .ref r0, .ref q0, .ref y0, .ref d1, .int o, .int (nI v), .ref u0, .ref d2, .ref d3, .ref d4])), (t0, .inr (3, [.ref t1, .ref t2, .int (nI n)])), (u0, .inr (2, [.ref u1, .ref u2, .ref u3, .int (nI j)])), (u1, eI G 12 b2), (u2, eI G 12 e2), (u3, eI G 12 s2), (d2, eI G 10 xl), (d3, eI G 10 xc), (d4, eI G 10 xs), (zd, eI G 60 f), (ze, eI G 60 (mrkF le a (a + k) (bitF (nI (8 + j))))), (zc, eI G 36 (cF s op an qs qa qb)), (zg, eI G 18 (gF (upd xl j (nI l0)) (upd xc j (nI w0)) (upd xs j (nI 0)))), (zt, eI G 64 lt), (zq, eI G 4 (qF n v m (j + 1)))]) (by rw [qF_3]) ?_
            refine z_aload_n hF dL_suggestions_162 rfl ?_
            refine z_iload hF dL_suggestions_163 rfl ?_
            refine z_iload hF dL_suggestions_165 rfl ?_
            refine z_iload hF dL_suggestions_167 rfl ?_
            refine z_iadd hF dL_suggestions_169 ?_
            refine z_top (nI_add a k) ?_
            refine z_aload hF dL_suggestions_170 rfl ?_
            refine z_iconst (v := nI 3) hF dL_suggestions_172 (by decide) ?_
            refine z_aload hF dL_suggestions_173 rfl ?_
            refine z_iconst (v := nI 3) hF dL_suggestions_175 (by decide) ?_
            refine z_iald (k := 3) hF 14 rfl (rfl) (by omega) rfl dL_suggestions_176 ?_
            refine z_top (y := nI (j + 1)) (rfl) ?_
            refine z_imul hF dL_suggestions_177 ?_
            refine z_top (pk_mul 3 (j + 1)) ?_
            refine z_iconst (v := nI 3) hF dL_suggestions_178 (by decide) ?_
            refine z_isub hF dL_suggestions_179 ?_
            refine z_top (pk_sub (by omega)) ?_
            refine z_iald (k := 3 * j) hF 12 rfl (by rw [show 3 * (j + 1) - 3 = 3 * j by omega]) (by omega) rfl dL_suggestions_180 ?_
            refine z_top (y := nI l0) ((gF_l0 _ _ _ _).trans (upd_same _ _ _)) ?_
            refine z_aload hF dL_suggestions_181 rfl ?_
            refine z_iconst (v := nI 3) hF dL_suggestions_183 (by decide) ?_
            refine z_aload hF dL_suggestions_184 rfl ?_
            refine z_iconst (v := nI 3) hF dL_suggestions_186 (by decide) ?_
            refine z_iald (k := 3) hF 14 rfl (rfl) (by omega) rfl dL_suggestions_187 ?_
            refine z_top (y := nI (j + 1)) (rfl) ?_
            refine z_imul hF dL_suggestions_188 ?_
            refine z_top (pk_mul 3 (j + 1)) ?_
            refine z_iconst (v := nI 2) hF dL_suggestions_189 (by decide) ?_
            refine z_isub hF dL_suggestions_190 ?_
            refine z_top (pk_sub (by omega)) ?_
            refine z_iald (k := 3 * j + 1) hF 12 rfl (by rw [show 3 * (j + 1) - 2 = 3 * j + 1 by omega]) (by omega) rfl dL_suggestions_191 ?_
            refine z_top (y := nI w0) ((gF_l1 _ _ _ _).trans (upd_same _ _ _)) ?_
            refine z_V (As := [.int (nI a), .int (nI (a + k)), .int (nI l0), .int (nI w0)]) (rest := []) (ws' := [(d0, .inr (4, [.ref t0, .ref r0, .ref q0, .ref y0, .ref d1, .int o, .int (nI v), .ref u0, .ref d2, .ref d3, .ref d4])), (t0, .inr (3, [.ref t1, .ref t2, .int (nI n)])), (u0, .inr (2, [.ref u1, .ref u2, .ref u3, .int (nI (j + 1))])), (u1, eI G 12 (upd b2 j (nI a))), (u2, eI G 12 (upd e2 j (nI (a + k)))), (u3, eI G 12 (upd s2 j (nI 0))), (d2, eI G 10 (upd xl j (nI l0))), (d3, eI G 10 (upd xc j (nI w0))), (d4, eI G 10 (upd xs j (nI 0))), (zd, eI G 60 f), (ze, eI G 60 (mrkF le a (a + k) (bitF (nI (8 + j))))), (zc, eI G 36 (cF s op an qs qa qb)), (zg, eI G 18 (gF (upd xl j (nI l0)) (upd xc j (nI w0)) (upd xs j (nI 0)))), (zt, eI G 64 lt), (zq, eI G 4 (qF n v m (j + 1)))]) (st2 := [.int (nI j)]) (c2 := 0) (s2 := 0) hF (c_X4_suggest G d0 t0 r0 q0 y0 d1 u0 d2 d3 d4 v o t1 t2 n u1 u2 u3 j b2 e2 s2 xl xc xs a (a + k) (nI l0) (nI w0) l0 w0 (by first | assumption | omega) (by first | assumption | omega) (by first | assumption | omega) (by first | assumption | omega) (rfl) (by first | assumption | omega) (rfl) (by first | assumption | omega)) gL_suggestions_X4_suggest rfl rfl rfl hd_X4_suggest ⟨⟨Nat.le_of_ble_eq_true rfl, Nat.le_of_ble_eq_true rfl⟩, ⟨Nat.le_of_ble_eq_true rfl, Nat.le_of_ble_eq_true rfl⟩, Nat.le_of_ble_eq_true rfl⟩ [0, 1, 2, 3, 4, 5, 6, 7, 8] rfl rfl 0 rfl rfl rfl rfl rfl rfl rfl rfl rfl rfl dL_suggestions_192 ?_
            refine z_aload hF dL_suggestions_195 rfl ?_
            refine z_iconst (v := nI 3) hF dL_suggestions_197 (by decide) ?_
            refine z_iald (k := 3) hF 14 rfl (rfl) (by omega) rfl dL_suggestions_198 ?_
            refine z_top (y := nI (j + 1)) (rfl) ?_
            refine z_iconst (v := nI 1) hF dL_suggestions_199 (by decide) ?_
            refine z_isub hF dL_suggestions_200 ?_
            refine z_top (pk_sub (by omega)) ?_
            refine z_icn_ne (tgt := 208) hF (by omega) (by omega) dL_suggestions_201 (by decide) (fun c_4 => absurd c_4 (not_not_intro (by omega))) (fun c_4 => ?_)
            refine z_iconst (v := nI 1) hF dL_suggestions_204 (by decide) ?_
            refine z_goto (tgt := 209) hF dL_suggestions_205 (by decide) ?_
            exact hR.i dL_suggestions_209 (Nat.le_of_ble_eq_true rfl) (Nat.le_of_ble_eq_true rfl) (rfl) (rfl)
          · refine z_aload hF dL_suggestions_132 rfl ?_
            refine z_iload hF dL_suggestions_134 rfl ?_
            refine z_dup2 hF dL_suggestions_136 rfl rfl ?_
            refine z_iald (k := a + t) hF 10 rfl (rfl) (by omega) rfl dL_suggestions_137 ?_
            refine z_top (y := le (a + t)) (mrkF_at le _ _ _) ?_
            refine z_sipush (v := nI 256) hF dL_suggestions_138 (by decide) ?_
            refine z_aload hF dL_suggestions_141 rfl ?_
            refine z_iconst (v := nI 3) hF dL_suggestions_143 (by decide) ?_
            refine z_iald (k := 3) hF 14 rfl (rfl) (by omega) rfl dL_suggestions_144 ?_
            refine z_top (y := nI j) (rfl) ?_
            refine z_ishl hF dL_suggestions_145 ?_
            refine z_top (y := bitF (nI (8 + j))) (sug_bit hj) ?_
            refine z_ior hF dL_suggestions_146 ?_
            refine z_iast (k := a + t) (ws' := [(d0, .inr (4, [.ref t0, .ref r0, .ref q0, .ref y0, .ref d1, .int o, .int (nI v), .ref u0, .ref d2, .ref d3, .ref d4])), (t0, .inr (3, [.ref t1, .ref t2, .int (nI n)])), (u0, .inr (2, [.ref u1, .ref u2, .ref u3, .int (nI j)])), (u1, eI G 12 b2), (u2, eI G 12 e2), (u3, eI G 12 s2), (d2, eI G 10 xl), (d3, eI G 10 xc), (d4, eI G 10 xs), (zd, eI G 60 f), (ze, eI G 60 (upd (mrkF le a (a + t) (bitF (nI (8 + j)))) (a + t) ((le (a + t)) ||| (bitF (nI (8 + j)))))), (zc, eI G 36 (cF s op an qs qa qb)), (zg, eI G 18 (gF (upd xl j (nI l0)) (upd xc j (nI w0)) (upd xs j (nI 0)))), (zt, eI G 64 lt), (zq, eI G 4 (qF n v m j))]) hF 10 rfl (rfl) (by omega) rfl rfl dL_suggestions_147 ?_
            refine z_ws (ws' := [(d0, .inr (4, [.ref t0, .ref r0, .ref q0, .ref y0, .ref d1, .int o, .int (nI v), .ref u0, .ref d2, .ref d3, .ref d4])), (t0, .inr (3, [.ref t1, .ref t2, .int (nI n)])), (u0, .inr (2, [.ref u1, .ref u2, .ref u3, .int (nI j)])), (u1, eI G 12 b2), (u2, eI G 12 e2), (u3, eI G 12 s2), (d2, eI G 10 xl), (d3, eI G 10 xc), (d4, eI G 10 xs), (zd, eI G 60 f), (ze, eI G 60 (mrkF le a (a + (t + 1)) (bitF (nI (8 + j))))), (zc, eI G 36 (cF s op an qs qa qb)), (zg, eI G 18 (gF (upd xl j (nI l0)) (upd xc j (nI w0)) (upd xs j (nI 0)))), (zt, eI G 64 lt), (zq, eI G 4 (qF n v m j))]) (by rw [mrkF_up le _ (by omega)]; rfl) ?_
            refine z_iinc (v := nI (a + t + 1)) (lv' := [some (.ref d0), some (.int (nI act)), some (.int x), some (.ref zd), some (.ref ze), some (.ref zc), some (.ref zg), some (.ref zt), some (.ref zq), some (.int (nI a)), some (.int (nI k)), some (.int (nI (a + t + 1))), none, none, none]) hF dL_suggestions_148 rfl (nI_1 (a + t)) rfl rfl ?_
            refine z_goto (tgt := 122) hF dL_suggestions_151 (by decide) ?_
            refine z_lv (lv' := [some (.ref d0), some (.int (nI act)), some (.int x), some (.ref zd), some (.ref ze), some (.ref zc), some (.ref zg), some (.ref zt), some (.ref zq), some (.int (nI a)), some (.int (nI k)), some (.int (nI (a + (t + 1)))), none, none, none]) (rfl) ?_
            exact ih (t + 1) (by omega) (by omega)
      refine z_lv (lv' := [some (.ref d0), some (.int (nI act)), some (.int x), some (.ref zd), some (.ref ze), some (.ref zc), some (.ref zg), some (.ref zt), some (.ref zq), some (.int (nI a)), some (.int (nI k)), some (.int (nI (a + 0))), none, none, none]) (rfl) ?_
      exact J_122 ((k - 0) + 1) 0 (Nat.lt_succ_self _) (by omega)
    refine z_iconst (v := nI 1) hF dL_suggestions_37 (by decide) ?_
    refine z_iload_n hF dL_suggestions_38 rfl ?_
    refine z_iconst (v := nI 4) hF dL_suggestions_39 (by decide) ?_
    refine z_ishr hF dL_suggestions_40 ?_
    refine z_aload hF dL_suggestions_41 rfl ?_
    refine z_iconst (v := nI 0) hF dL_suggestions_43 (by decide) ?_
    refine z_iald (k := 0) hF 14 rfl (rfl) (by omega) rfl dL_suggestions_44 ?_
    refine z_top (y := nI n) (rfl) ?_
    refine z_iload hF dL_suggestions_45 rfl ?_
    refine z_isub hF dL_suggestions_47 ?_
    refine z_top (pk_sub (by omega)) ?_
    refine z_iconst (v := nI 5) hF dL_suggestions_48 (by decide) ?_
    refine z_icn_ge (tgt := 62) hF (by omega) (by omega) dL_suggestions_49 (by decide) (fun c_5 => ?_) (fun c_5 => ?_)
    · refine z_iconst (v := nI 5) hF dL_suggestions_62 (by decide) ?_
      refine z_top (y := nI r) (by rw [← hr, if_neg (by omega)]) ?_
      exact J_63  
    · refine z_aload hF dL_suggestions_52 rfl ?_
      refine z_iconst (v := nI 0) hF dL_suggestions_54 (by decide) ?_
      refine z_iald (k := 0) hF 14 rfl (rfl) (by omega) rfl dL_suggestions_55 ?_
      refine z_top (y := nI n) (rfl) ?_
      refine z_iload hF dL_suggestions_56 rfl ?_
      refine z_isub hF dL_suggestions_58 ?_
      refine z_top (pk_sub (by omega)) ?_
      refine z_goto (tgt := 63) hF dL_suggestions_59 (by decide) ?_
      refine z_top (y := nI r) (by rw [← hr, if_pos (by omega)]) ?_
      exact J_63  
  refine z_iload_n hF dL_suggestions_0 rfl ?_
  refine z_ifn_eq (tgt := 11) hF (by omega) dL_suggestions_1 (by decide) (fun h1 => ?_) (fun h1 => ?_)
  · exact J_11
  · refine z_aload hF dL_suggestions_4 rfl ?_
    refine z_iconst (v := nI 3) hF dL_suggestions_6 (by decide) ?_
    refine z_iald (k := 3) hF 14 rfl (rfl) (by omega) rfl dL_suggestions_7 ?_
    refine z_top (y := nI j) (rfl) ?_
    refine z_ifn_ne (tgt := 210) hF (by omega) dL_suggestions_8 (by decide) (fun c_6 => absurd c_6 (fun h => hc.elim h1 h)) (fun c_6 => ?_)
    exact J_11  
