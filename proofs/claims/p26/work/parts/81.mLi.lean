set_option maxHeartbeats 4000000 in
set_option maxRecDepth 100000 in
theorem c_L_isSo (G : zG) (d0 t0 r0 q0 y0 d1 u0 d2 d3 d4 v : Nat) (o : Int32) (t1 t2 n : Nat) (f : Nat → Int32) (g : Nat → Int32) (r1 r2 r3 m : Nat) (b : Nat → Int32) (e : Nat → Int32) (y1 : Nat) (h : Nat → Int32) (u1 u2 u3 j : Nat) (b2 : Nat → Int32) (e2 : Nat → Int32) (xs : Nat → Int32) (zd ze zc zg zt zq : Nat) (le s op an qs qa qb xl xc lt B E : Nat → Int32) (x : Int32) (hn : n ≤ 60) (hm : m ≤ 6) (hj : j ≤ 6) (hv : v ≤ 290) (hRG : RGa n B E) (hE : LEa n le B E) (hBb : ∀ i, i < m → B i = b i ∧ E i = e i) (hBs : ∀ i, i < j → B (8 + i) = b2 i ∧ E (8 + i) = e2 i) (hB2 : ∀ i, 8 + j ≤ i → i < 14 → B i = -1) (hw : ∀ k, k < j → xs k = 0 → ¬ B (8 + k) = -1) (hG : ∀ t, t < n → g t = covF b e m (nI t)) (ho : o = cov (fun kk => ¬ op kk = 0) m) (hop : ∀ i, i < m → op i = nI 0 ∨ op i = nI 1) (hT : InT v h lt B E) : zM G yL_isSo wsL_isSo ({ frames := 4, cells := 0, slots := 0, locals := 99 }) [.ref d0, .int x, .ref zd, .ref ze, .ref zc, .ref zg, .ref zt, .ref zq] [(d0, .inr (4, [.ref t0, .ref r0, .ref q0, .ref y0, .ref d1, .int o, .int (nI v), .ref u0, .ref d2, .ref d3, .ref d4])), (t0, .inr (3, [.ref t1, .ref t2, .int (nI n)])), (t1, eI G 60 f), (t2, eI G 60 g), (r0, .inr (2, [.ref r1, .ref r2, .ref r3, .int (nI m)])), (r1, eI G 12 b), (r2, eI G 12 e), (y0, .inr (0, [.ref y1])), (y1, eI G 3600 h), (u0, .inr (2, [.ref u1, .ref u2, .ref u3, .int (nI j)])), (u1, eI G 12 b2), (u2, eI G 12 e2), (d4, eI G 10 xs), (zd, eI G 60 f), (ze, eI G 60 le), (zc, eI G 36 (cF s op an qs qa qb)), (zg, eI G 18 (gF xl xc xs)), (zt, eI G 64 lt), (zq, eI G 4 (qF n v m j))] [(d0, .inr (4, [.ref t0, .ref r0, .ref q0, .ref y0, .ref d1, .int o, .int (nI v), .ref u0, .ref d2, .ref d3, .ref d4])), (t0, .inr (3, [.ref t1, .ref t2, .int (nI n)])), (t1, eI G 60 f), (t2, eI G 60 g), (r0, .inr (2, [.ref r1, .ref r2, .ref r3, .int (nI m)])), (r1, eI G 12 b), (r2, eI G 12 e), (y0, .inr (0, [.ref y1])), (y1, eI G 3600 h), (u0, .inr (2, [.ref u1, .ref u2, .ref u3, .int (nI j)])), (u1, eI G 12 b2), (u2, eI G 12 e2), (d4, eI G 10 xs), (zd, eI G 60 f), (ze, eI G 60 le), (zc, eI G 36 (cF s op an qs qa qb)), (zg, eI G 18 (gF xl xc xs)), (zt, eI G 64 lt), (zq, eI G 4 (qF n v m j))] (some (.int (nI 1))) 0 0 := by
  refine zM.ofI (own := RL) (cc := cL_isSo) (maxL := 15) rfl (by decide) rfl rfl (by simp [Value.category]) (Nat.le_of_ble_eq_true rfl) ?_
  intro X hF hR
  refine z_lv (lv' := [some (.ref d0), some (.int x), some (.ref zd), some (.ref ze), some (.ref zc), some (.ref zg), some (.ref zt), some (.ref zq), none, none, none, none, none, none, none]) rfl ?_
  refine z_aload_n hF dL_isSo_0 rfl ?_
  refine z_V (As := []) (rest := []) (ws' := [(d0, .inr (4, [.ref t0, .ref r0, .ref q0, .ref y0, .ref d1, .int o, .int (nI v), .ref u0, .ref d2, .ref d3, .ref d4])), (t0, .inr (3, [.ref t1, .ref t2, .int (nI n)])), (t1, eI G 60 f), (t2, eI G 60 g), (r0, .inr (2, [.ref r1, .ref r2, .ref r3, .int (nI m)])), (r1, eI G 12 b), (r2, eI G 12 e), (y0, .inr (0, [.ref y1])), (y1, eI G 3600 h), (u0, .inr (2, [.ref u1, .ref u2, .ref u3, .int (nI j)])), (u1, eI G 12 b2), (u2, eI G 12 e2), (d4, eI G 10 xs), (zd, eI G 60 f), (ze, eI G 60 le), (zc, eI G 36 (cF s op an qs qa qb)), (zg, eI G 18 (gF xl xc xs)), (zt, eI G 64 lt), (zq, eI G 4 (qF n v m j))]) (st2 := [.int (nI n)]) (c2 := 0) (s2 := 0) hF (c_X4_length G d0 t0 r0 q0 y0 d1 u0 d2 d3 d4 v o t1 t2 n) gL_isSo_X4_length rfl rfl rfl hd_X4_length ⟨⟨Nat.le_of_ble_eq_true rfl, Nat.le_of_ble_eq_true rfl⟩, ⟨Nat.le_of_ble_eq_true rfl, Nat.le_of_ble_eq_true rfl⟩, Nat.le_of_ble_eq_true rfl⟩ [0, 1] rfl rfl 0 rfl rfl rfl rfl rfl rfl rfl rfl rfl rfl dL_isSo_1 ?_
  refine z_aload hF dL_isSo_4 rfl ?_
  refine z_iconst (v := nI 0) hF dL_isSo_6 (by decide) ?_
  refine z_iald (k := 0) hF 18 rfl (rfl) (by omega) rfl dL_isSo_7 ?_
  refine z_top (y := nI n) (rfl) ?_
  refine z_icn_ne (tgt := 60) hF (by omega) (by omega) dL_isSo_8 (by decide) (fun c_1 => absurd c_1 (not_not_intro rfl)) (fun c_1 => ?_)
  refine z_aload_n hF dL_isSo_11 rfl ?_
  refine z_V (As := []) (rest := []) (ws' := [(d0, .inr (4, [.ref t0, .ref r0, .ref q0, .ref y0, .ref d1, .int o, .int (nI v), .ref u0, .ref d2, .ref d3, .ref d4])), (t0, .inr (3, [.ref t1, .ref t2, .int (nI n)])), (t1, eI G 60 f), (t2, eI G 60 g), (r0, .inr (2, [.ref r1, .ref r2, .ref r3, .int (nI m)])), (r1, eI G 12 b), (r2, eI G 12 e), (y0, .inr (0, [.ref y1])), (y1, eI G 3600 h), (u0, .inr (2, [.ref u1, .ref u2, .ref u3, .int (nI j)])), (u1, eI G 12 b2), (u2, eI G 12 e2), (d4, eI G 10 xs), (zd, eI G 60 f), (ze, eI G 60 le), (zc, eI G 36 (cF s op an qs qa qb)), (zg, eI G 18 (gF xl xc xs)), (zt, eI G 64 lt), (zq, eI G 4 (qF n v m j))]) (st2 := [.int (nI v)]) (c2 := 0) (s2 := 0) hF (c_X4_version G d0 t0 r0 q0 y0 d1 u0 d2 d3 d4 v o) gL_isSo_X4_version rfl rfl rfl hd_X4_version ⟨⟨Nat.le_of_ble_eq_true rfl, Nat.le_of_ble_eq_true rfl⟩, ⟨Nat.le_of_ble_eq_true rfl, Nat.le_of_ble_eq_true rfl⟩, Nat.le_of_ble_eq_true rfl⟩ [0] rfl rfl 0 rfl rfl rfl rfl rfl rfl rfl rfl rfl rfl dL_isSo_12 ?_
  refine z_aload hF dL_isSo_15 rfl ?_
  refine z_iconst (v := nI 1) hF dL_isSo_17 (by decide) ?_
  refine z_iald (k := 1) hF 18 rfl (rfl) (by omega) rfl dL_isSo_18 ?_
  refine z_top (y := nI v) (rfl) ?_
  refine z_icn_ne (tgt := 60) hF (by omega) (by omega) dL_isSo_19 (by decide) (fun c_2 => absurd c_2 (not_not_intro rfl)) (fun c_2 => ?_)
  refine z_aload_n hF dL_isSo_22 rfl ?_
  refine z_V (As := []) (rest := []) (ws' := [(d0, .inr (4, [.ref t0, .ref r0, .ref q0, .ref y0, .ref d1, .int o, .int (nI v), .ref u0, .ref d2, .ref d3, .ref d4])), (t0, .inr (3, [.ref t1, .ref t2, .int (nI n)])), (t1, eI G 60 f), (t2, eI G 60 g), (r0, .inr (2, [.ref r1, .ref r2, .ref r3, .int (nI m)])), (r1, eI G 12 b), (r2, eI G 12 e), (y0, .inr (0, [.ref y1])), (y1, eI G 3600 h), (u0, .inr (2, [.ref u1, .ref u2, .ref u3, .int (nI j)])), (u1, eI G 12 b2), (u2, eI G 12 e2), (d4, eI G 10 xs), (zd, eI G 60 f), (ze, eI G 60 le), (zc, eI G 36 (cF s op an qs qa qb)), (zg, eI G 18 (gF xl xc xs)), (zt, eI G 64 lt), (zq, eI G 4 (qF n v m j))]) (st2 := [.int (nI m)]) (c2 := 0) (s2 := 0) hF (c_X4_comments G d0 t0 r0 q0 y0 d1 u0 d2 d3 d4 v o r1 r2 r3 m) gL_isSo_X4_comments rfl rfl rfl hd_X4_comments ⟨⟨Nat.le_of_ble_eq_true rfl, Nat.le_of_ble_eq_true rfl⟩, ⟨Nat.le_of_ble_eq_true rfl, Nat.le_of_ble_eq_true rfl⟩, Nat.le_of_ble_eq_true rfl⟩ [0, 4] rfl rfl 0 rfl rfl rfl rfl rfl rfl rfl rfl rfl rfl dL_isSo_23 ?_
  refine z_aload hF dL_isSo_26 rfl ?_
  refine z_iconst (v := nI 2) hF dL_isSo_28 (by decide) ?_
  refine z_iald (k := 2) hF 18 rfl (rfl) (by omega) rfl dL_isSo_29 ?_
  refine z_top (y := nI m) (rfl) ?_
  refine z_icn_ne (tgt := 60) hF (by omega) (by omega) dL_isSo_30 (by decide) (fun c_3 => absurd c_3 (not_not_intro rfl)) (fun c_3 => ?_)
  refine z_aload_n hF dL_isSo_33 rfl ?_
  refine z_aload hF dL_isSo_34 rfl ?_
  refine z_iconst (v := nI 0) hF dL_isSo_36 (by decide) ?_
  refine z_iald (k := 0) hF 18 rfl (rfl) (by omega) rfl dL_isSo_37 ?_
  refine z_top (y := nI n) (rfl) ?_
  refine z_V (As := [.int (nI n)]) (rest := []) (ws' := [(d0, .inr (4, [.ref t0, .ref r0, .ref q0, .ref y0, .ref d1, .int o, .int (nI v), .ref u0, .ref d2, .ref d3, .ref d4])), (t0, .inr (3, [.ref t1, .ref t2, .int (nI n)])), (t1, eI G 60 f), (t2, eI G 60 g), (r0, .inr (2, [.ref r1, .ref r2, .ref r3, .int (nI m)])), (r1, eI G 12 b), (r2, eI G 12 e), (y0, .inr (0, [.ref y1])), (y1, eI G 3600 h), (u0, .inr (2, [.ref u1, .ref u2, .ref u3, .int (nI j)])), (u1, eI G 12 b2), (u2, eI G 12 e2), (d4, eI G 10 xs), (zd, eI G 60 f), (ze, eI G 60 le), (zc, eI G 36 (cF s op an qs qa qb)), (zg, eI G 18 (gF xl xc xs)), (zt, eI G 64 lt), (zq, eI G 4 (qF n v m j))]) (st2 := [.int (letF n f (nI n))]) (c2 := 0) (s2 := 0) hF (c_X4_letterAt G d0 t0 r0 q0 y0 d1 u0 d2 d3 d4 v o t1 t2 n f n (by first | assumption | omega) (by first | assumption | omega)) gL_isSo_X4_letterAt rfl rfl rfl hd_X4_letterAt ⟨⟨Nat.le_of_ble_eq_true rfl, Nat.le_of_ble_eq_true rfl⟩, ⟨Nat.le_of_ble_eq_true rfl, Nat.le_of_ble_eq_true rfl⟩, Nat.le_of_ble_eq_true rfl⟩ [0, 1, 2] rfl rfl 0 rfl rfl rfl rfl rfl rfl rfl rfl rfl rfl dL_isSo_38 ?_
  refine z_iconst (v := -1) hF dL_isSo_41 (by decide) ?_
  refine z_ic_ne (tgt := 60) hF dL_isSo_42 (by decide) (fun c_4 => absurd c_4 (not_not_intro (let_e rfl hn).symm)) (fun c_4 => ?_)
  refine z_aload_n hF dL_isSo_45 rfl ?_
  refine z_aload hF dL_isSo_46 rfl ?_
  refine z_iconst (v := nI 0) hF dL_isSo_48 (by decide) ?_
  refine z_iald (k := 0) hF 18 rfl (rfl) (by omega) rfl dL_isSo_49 ?_
  refine z_top (y := nI n) (rfl) ?_
  refine z_V (As := [.int (nI n)]) (rest := []) (ws' := [(d0, .inr (4, [.ref t0, .ref r0, .ref q0, .ref y0, .ref d1, .int o, .int (nI v), .ref u0, .ref d2, .ref d3, .ref d4])), (t0, .inr (3, [.ref t1, .ref t2, .int (nI n)])), (t1, eI G 60 f), (t2, eI G 60 g), (r0, .inr (2, [.ref r1, .ref r2, .ref r3, .int (nI m)])), (r1, eI G 12 b), (r2, eI G 12 e), (y0, .inr (0, [.ref y1])), (y1, eI G 3600 h), (u0, .inr (2, [.ref u1, .ref u2, .ref u3, .int (nI j)])), (u1, eI G 12 b2), (u2, eI G 12 e2), (d4, eI G 10 xs), (zd, eI G 60 f), (ze, eI G 60 le), (zc, eI G 36 (cF s op an qs qa qb)), (zg, eI G 18 (gF xl xc xs)), (zt, eI G 64 lt), (zq, eI G 4 (qF n v m j))]) (st2 := [.int (covF b e m (nI n))]) (c2 := 0) (s2 := 0) hF (c_X4_cover G d0 t0 r0 q0 y0 d1 u0 d2 d3 d4 v o t1 t2 n r1 r2 r3 m b e n (by first | assumption | omega) (by first | assumption | omega) (by first | assumption | omega)) gL_isSo_X4_cover rfl rfl rfl hd_X4_cover ⟨⟨Nat.le_of_ble_eq_true rfl, Nat.le_of_ble_eq_true rfl⟩, ⟨Nat.le_of_ble_eq_true rfl, Nat.le_of_ble_eq_true rfl⟩, Nat.le_of_ble_eq_true rfl⟩ [0, 1, 4, 5, 6] rfl rfl 0 rfl rfl rfl rfl rfl rfl rfl rfl rfl rfl dL_isSo_50 ?_
  refine z_if_ne (tgt := 60) hF dL_isSo_53 (by decide) (fun c_5 => absurd c_5 (not_not_intro (cov_end hn hm hRG hBb))) (fun c_5 => ?_)
  refine z_iconst (v := nI 1) hF dL_isSo_56 (by decide) ?_
  refine z_goto (tgt := 61) hF dL_isSo_57 (by decide) ?_
  refine z_istore (lv' := [some (.ref d0), some (.int x), some (.ref zd), some (.ref ze), some (.ref zc), some (.ref zg), some (.ref zt), some (.ref zq), some (.int (nI 1)), none, none, none, none, none, none]) hF dL_isSo_61 rfl rfl ?_
  refine z_iconst (v := nI 1) hF dL_isSo_63 (by decide) ?_
  refine z_aload hF dL_isSo_64 rfl ?_
  refine z_iconst (v := nI 2) hF dL_isSo_66 (by decide) ?_
  refine z_iald (k := 2) hF 18 rfl (rfl) (by omega) rfl dL_isSo_67 ?_
  refine z_top (y := nI m) (rfl) ?_
  refine z_ishl hF dL_isSo_68 ?_
  refine z_iconst (v := nI 1) hF dL_isSo_69 (by decide) ?_
  refine z_isub hF dL_isSo_70 ?_
  refine z_istore (lv' := [some (.ref d0), some (.int x), some (.ref zd), some (.ref ze), some (.ref zc), some (.ref zg), some (.ref zt), some (.ref zq), some (.int (nI 1)), some (.int (((nI 1) <<< ((nI m) &&& 31)) - (nI 1))), none, none, none, none, none]) hF dL_isSo_71 rfl rfl ?_
  refine z_iconst (v := nI 0) hF dL_isSo_73 (by decide) ?_
  refine z_istore (lv' := [some (.ref d0), some (.int x), some (.ref zd), some (.ref ze), some (.ref zc), some (.ref zg), some (.ref zt), some (.ref zq), some (.int (nI 1)), some (.int (((nI 1) <<< ((nI m) &&& 31)) - (nI 1))), some (.int (nI 0)), none, none, none, none]) hF dL_isSo_74 rfl rfl ?_
  refine z_iconst (v := nI 0) hF dL_isSo_76 (by decide) ?_
  refine z_istore (lv' := [some (.ref d0), some (.int x), some (.ref zd), some (.ref ze), some (.ref zc), some (.ref zg), some (.ref zt), some (.ref zq), some (.int (nI 1)), some (.int (((nI 1) <<< ((nI m) &&& 31)) - (nI 1))), some (.int (nI 0)), some (.int (nI 0)), none, none, none]) hF dL_isSo_77 rfl rfl ?_
  refine z_iconst (v := nI 0) hF dL_isSo_79 (by decide) ?_
  refine z_istore (lv' := [some (.ref d0), some (.int x), some (.ref zd), some (.ref ze), some (.ref zc), some (.ref zg), some (.ref zt), some (.ref zq), some (.int (nI 1)), some (.int (((nI 1) <<< ((nI m) &&& 31)) - (nI 1))), some (.int (nI 0)), some (.int (nI 0)), some (.int (nI 0)), none, none]) hF dL_isSo_80 rfl rfl ?_
  refine z_lv (lv' := [some (.ref d0), some (.int x), some (.ref zd), some (.ref ze), some (.ref zc), some (.ref zg), some (.ref zt), some (.ref zq), some (.int (nI 1)), some (.int (((nI 1) <<< ((nI m) &&& 31)) - (nI 1))), some (.int (nI (cntF (pcP b e m) 0))), some (.int (nI 0)), some (.int (nI 0)), none, none]) (by rfl) ?_
  refine z_lv (lv' := [some (.ref d0), some (.int x), some (.ref zd), some (.ref ze), some (.ref zc), some (.ref zg), some (.ref zt), some (.ref zq), some (.int (nI 1)), some (.int (((nI 1) <<< ((nI m) &&& 31)) - (nI 1))), some (.int (nI (cntF (pcP b e m) 0))), some (.int (cov (hadP B E 0) 14)), some (.int (nI 0)), none, none]) (by rw [← had_0 B E ⟨n, hn, hRG⟩]) ?_
  have J_82 : ∀ (n9 : Nat) (p : Nat), n - p < n9 → (p ≤ n) → zJ G X 82 [(d0, .inr (4, [.ref t0, .ref r0, .ref q0, .ref y0, .ref d1, .int o, .int (nI v), .ref u0, .ref d2, .ref d3, .ref d4])), (t0, .inr (3, [.ref t1, .ref t2, .int (nI n)])), (t1, eI G 60 f), (t2, eI G 60 g), (r0, .inr (2, [.ref r1, .ref r2, .ref r3, .int (nI m)])), (r1, eI G 12 b), (r2, eI G 12 e), (y0, .inr (0, [.ref y1])), (y1, eI G 3600 h), (u0, .inr (2, [.ref u1, .ref u2, .ref u3, .int (nI j)])), (u1, eI G 12 b2), (u2, eI G 12 e2), (d4, eI G 10 xs), (zd, eI G 60 f), (ze, eI G 60 le), (zc, eI G 36 (cF s op an qs qa qb)), (zg, eI G 18 (gF xl xc xs)), (zt, eI G 64 lt), (zq, eI G 4 (qF n v m j))] [some (.ref d0), some (.int x), some (.ref zd), some (.ref ze), some (.ref zc), some (.ref zg), some (.ref zt), some (.ref zq), some (.int (nI 1)), some (.int (((nI 1) <<< ((nI m) &&& 31)) - (nI 1))), some (.int (nI (cntF (pcP b e m) p))), some (.int (cov (hadP B E p) 14)), some (.int (nI p)), none, none] [] 0 0 := by
    intro n9
    induction n9 with
    | zero => intro p hmu; exact absurd hmu (Nat.not_lt_zero _)
    | succ n9 ih =>
      intro p hmu h2
      refine z_iload hF dL_isSo_82 rfl ?_
      refine z_aload hF dL_isSo_84 rfl ?_
      refine z_iconst (v := nI 0) hF dL_isSo_86 (by decide) ?_
      refine z_iald (k := 0) hF 18 rfl (rfl) (by omega) rfl dL_isSo_87 ?_
      refine z_top (y := nI n) (rfl) ?_
      refine z_icn_ge (tgt := 223) hF (by omega) (by omega) dL_isSo_88 (by decide) (fun c_6 => ?_) (fun c_6 => ?_)
      · have hp9 : p = n := by omega
        refine z_lv (lv' := [some (.ref d0), some (.int x), some (.ref zd), some (.ref ze), some (.ref zc), some (.ref zg), some (.ref zt), some (.ref zq), some (.int (nI 1)), some (.int (((nI 1) <<< ((nI m) &&& 31)) - (nI 1))), some (.int (nI (cntF (pcP b e m) n))), some (.int (cov (hadP B E p) 14)), some (.int (nI p)), none, none]) (by rw [hp9]) ?_
        refine z_lv (lv' := [some (.ref d0), some (.int x), some (.ref zd), some (.ref ze), some (.ref zc), some (.ref zg), some (.ref zt), some (.ref zq), some (.int (nI 1)), some (.int (((nI 1) <<< ((nI m) &&& 31)) - (nI 1))), some (.int (nI (cntF (pcP b e m) n))), some (.int (cov (hadP B E n) 14)), some (.int (nI p)), none, none]) (by rw [hp9]) ?_
        refine z_iconst (v := nI 0) hF dL_isSo_223 (by decide) ?_
        refine z_istore (lv' := [some (.ref d0), some (.int x), some (.ref zd), some (.ref ze), some (.ref zc), some (.ref zg), some (.ref zt), some (.ref zq), some (.int (nI 1)), some (.int (((nI 1) <<< ((nI m) &&& 31)) - (nI 1))), some (.int (nI (cntF (pcP b e m) n))), some (.int (cov (hadP B E n) 14)), some (.int (nI 0)), none, none]) hF dL_isSo_224 rfl rfl ?_
        have hl1 := lowN_lt x (n := v + 1) (by omega)
        have hl8 := lowN_lt x (n := 8) (by omega)
        have J_259 : ∀ (w : Nat), (w ≤ v) → (v < w + 8) → zJ G X 259 [(d0, .inr (4, [.ref t0, .ref r0, .ref q0, .ref y0, .ref d1, .int o, .int (nI v), .ref u0, .ref d2, .ref d3, .ref d4])), (t0, .inr (3, [.ref t1, .ref t2, .int (nI n)])), (t1, eI G 60 f), (t2, eI G 60 g), (r0, .inr (2, [.ref r1, .ref r2, .ref r3, .int (nI m)])), (r1, eI G 12 b), (r2, eI G 12 e), (y0, .inr (0, [.ref y1])), (y1, eI G 3600 h), (u0, .inr (2, [.ref u1, .ref u2, .ref u3, .int (nI j)])), (u1, eI G 12 b2), (u2, eI G 12 e2), (d4, eI G 10 xs), (zd, eI G 60 f), (ze, eI G 60 le), (zc, eI G 36 (cF s op an qs qa qb)), (zg, eI G 18 (gF xl xc xs)), (zt, eI G 64 lt), (zq, eI G 4 (qF n v m j))] [some (.ref d0), some (.int x), some (.ref zd), some (.ref ze), some (.ref zc), some (.ref zg), some (.ref zt), some (.ref zq), some (.int (nI 1)), some (.int (((nI 1) <<< ((nI m) &&& 31)) - (nI 1))), some (.int (nI (cntF (pcP b e m) n))), some (.int (cov (hadP B E n) 14)), some (.int (nI 0)), none, none] [.int (nI w)] 0 0 := by
          intro w hw1 hw8
          refine z_istore (lv' := [some (.ref d0), some (.int x), some (.ref zd), some (.ref ze), some (.ref zc), some (.ref zg), some (.ref zt), some (.ref zq), some (.int (nI 1)), some (.int (((nI 1) <<< ((nI m) &&& 31)) - (nI 1))), some (.int (nI (cntF (pcP b e m) n))), some (.int (cov (hadP B E n) 14)), some (.int (nI 0)), some (.int (nI w)), none]) hF dL_isSo_259 rfl rfl ?_
          refine z_iconst (v := nI 0) hF dL_isSo_261 (by decide) ?_
          refine z_istore (lv' := [some (.ref d0), some (.int x), some (.ref zd), some (.ref ze), some (.ref zc), some (.ref zg), some (.ref zt), some (.ref zq), some (.int (nI 1)), some (.int (((nI 1) <<< ((nI m) &&& 31)) - (nI 1))), some (.int (nI (cntF (pcP b e m) n))), some (.int (cov (hadP B E n) 14)), some (.int (nI 0)), some (.int (nI w)), some (.int (nI 0))]) hF dL_isSo_262 rfl rfl ?_
          refine z_lv (lv' := [some (.ref d0), some (.int x), some (.ref zd), some (.ref ze), some (.ref zc), some (.ref zg), some (.ref zt), some (.ref zq), some (.int (nI 1)), some (.int (((nI 1) <<< ((nI m) &&& 31)) - (nI 1))), some (.int (nI (cntF (pcP b e m) n))), some (.int (cov (hadP B E n) 14)), some (.int (cov (fun kk => ¬ op kk = 0) 0)), some (.int (nI w)), some (.int (nI 0))]) (by rfl) ?_
          have J_264 : ∀ (n9 : Nat) (i : Nat), m - i < n9 → (i ≤ m) → zJ G X 264 [(d0, .inr (4, [.ref t0, .ref r0, .ref q0, .ref y0, .ref d1, .int o, .int (nI v), .ref u0, .ref d2, .ref d3, .ref d4])), (t0, .inr (3, [.ref t1, .ref t2, .int (nI n)])), (t1, eI G 60 f), (t2, eI G 60 g), (r0, .inr (2, [.ref r1, .ref r2, .ref r3, .int (nI m)])), (r1, eI G 12 b), (r2, eI G 12 e), (y0, .inr (0, [.ref y1])), (y1, eI G 3600 h), (u0, .inr (2, [.ref u1, .ref u2, .ref u3, .int (nI j)])), (u1, eI G 12 b2), (u2, eI G 12 e2), (d4, eI G 10 xs), (zd, eI G 60 f), (ze, eI G 60 le), (zc, eI G 36 (cF s op an qs qa qb)), (zg, eI G 18 (gF xl xc xs)), (zt, eI G 64 lt), (zq, eI G 4 (qF n v m j))] [some (.ref d0), some (.int x), some (.ref zd), some (.ref ze), some (.ref zc), some (.ref zg), some (.ref zt), some (.ref zq), some (.int (nI 1)), some (.int (((nI 1) <<< ((nI m) &&& 31)) - (nI 1))), some (.int (nI (cntF (pcP b e m) n))), some (.int (cov (hadP B E n) 14)), some (.int (cov (fun kk => ¬ op kk = 0) i)), some (.int (nI w)), some (.int (nI i))] [] 0 0 := by
            intro n9
            induction n9 with
            | zero => intro i hmu; exact absurd hmu (Nat.not_lt_zero _)
            | succ n9 ih =>
              intro i hmu h2
              refine z_iload hF dL_isSo_264 rfl ?_
              refine z_aload hF dL_isSo_266 rfl ?_
              refine z_iconst (v := nI 2) hF dL_isSo_268 (by decide) ?_
              refine z_iald (k := 2) hF 18 rfl (rfl) (by omega) rfl dL_isSo_269 ?_
              refine z_top (y := nI m) (rfl) ?_
              refine z_icn_ge (tgt := 351) hF (by omega) (by omega) dL_isSo_270 (by decide) (fun c_7 => ?_) (fun c_7 => ?_)
              · have hi9 : i = m := by omega
                refine z_lv (lv' := [some (.ref d0), some (.int x), some (.ref zd), some (.ref ze), some (.ref zc), some (.ref zg), some (.ref zt), some (.ref zq), some (.int (nI 1)), some (.int (((nI 1) <<< ((nI m) &&& 31)) - (nI 1))), some (.int (nI (cntF (pcP b e m) n))), some (.int (cov (hadP B E n) 14)), some (.int (cov (fun kk => ¬ op kk = 0) m)), some (.int (nI w)), some (.int (nI i))]) (by rw [hi9]) ?_
                refine z_iconst (v := nI 0) hF dL_isSo_351 (by decide) ?_
                refine z_istore (lv' := [some (.ref d0), some (.int x), some (.ref zd), some (.ref ze), some (.ref zc), some (.ref zg), some (.ref zt), some (.ref zq), some (.int (nI 1)), some (.int (((nI 1) <<< ((nI m) &&& 31)) - (nI 1))), some (.int (nI (cntF (pcP b e m) n))), some (.int (cov (hadP B E n) 14)), some (.int (cov (fun kk => ¬ op kk = 0) m)), some (.int (nI w)), some (.int (nI 0))]) hF dL_isSo_352 rfl rfl ?_
                have J_354 : ∀ (n9 : Nat) (i : Nat), j - i < n9 → (i ≤ j) → zJ G X 354 [(d0, .inr (4, [.ref t0, .ref r0, .ref q0, .ref y0, .ref d1, .int o, .int (nI v), .ref u0, .ref d2, .ref d3, .ref d4])), (t0, .inr (3, [.ref t1, .ref t2, .int (nI n)])), (t1, eI G 60 f), (t2, eI G 60 g), (r0, .inr (2, [.ref r1, .ref r2, .ref r3, .int (nI m)])), (r1, eI G 12 b), (r2, eI G 12 e), (y0, .inr (0, [.ref y1])), (y1, eI G 3600 h), (u0, .inr (2, [.ref u1, .ref u2, .ref u3, .int (nI j)])), (u1, eI G 12 b2), (u2, eI G 12 e2), (d4, eI G 10 xs), (zd, eI G 60 f), (ze, eI G 60 le), (zc, eI G 36 (cF s op an qs qa qb)), (zg, eI G 18 (gF xl xc xs)), (zt, eI G 64 lt), (zq, eI G 4 (qF n v m j))] [some (.ref d0), some (.int x), some (.ref zd), some (.ref ze), some (.ref zc), some (.ref zg), some (.ref zt), some (.ref zq), some (.int (nI 1)), some (.int (((nI 1) <<< ((nI m) &&& 31)) - (nI 1))), some (.int (nI (cntF (pcP b e m) n))), some (.int (cov (hadP B E n) 14)), some (.int (cov (fun kk => ¬ op kk = 0) m)), some (.int (nI w)), some (.int (nI i))] [] 0 0 := by
                  intro n9
                  induction n9 with
                  | zero => intro i hmu; exact absurd hmu (Nat.not_lt_zero _)
                  | succ n9 ih =>
                    intro i hmu h2
                    refine z_iload hF dL_isSo_354 rfl ?_
                    refine z_aload hF dL_isSo_356 rfl ?_
                    refine z_iconst (v := nI 3) hF dL_isSo_358 (by decide) ?_
                    refine z_iald (k := 3) hF 18 rfl (rfl) (by omega) rfl dL_isSo_359 ?_
                    refine z_top (y := nI j) (rfl) ?_
                    refine z_icn_ge (tgt := 418) hF (by omega) (by omega) dL_isSo_360 (by decide) (fun c_8 => ?_) (fun c_8 => ?_)
                    · have hcl := cntF_le (P := pcP b e m) n
                      refine z_iload hF dL_isSo_418 rfl ?_
                      refine z_if_eq (tgt := 459) hF dL_isSo_420 (by decide) (fun c_9 => absurd c_9 (by decide)) (fun c_9 => ?_)
                      refine z_aload_n hF dL_isSo_423 rfl ?_
                      refine z_V (As := []) (rest := []) (ws' := [(d0, .inr (4, [.ref t0, .ref r0, .ref q0, .ref y0, .ref d1, .int o, .int (nI v), .ref u0, .ref d2, .ref d3, .ref d4])), (t0, .inr (3, [.ref t1, .ref t2, .int (nI n)])), (t1, eI G 60 f), (t2, eI G 60 g), (r0, .inr (2, [.ref r1, .ref r2, .ref r3, .int (nI m)])), (r1, eI G 12 b), (r2, eI G 12 e), (y0, .inr (0, [.ref y1])), (y1, eI G 3600 h), (u0, .inr (2, [.ref u1, .ref u2, .ref u3, .int (nI j)])), (u1, eI G 12 b2), (u2, eI G 12 e2), (d4, eI G 10 xs), (zd, eI G 60 f), (ze, eI G 60 le), (zc, eI G 36 (cF s op an qs qa qb)), (zg, eI G 18 (gF xl xc xs)), (zt, eI G 64 lt), (zq, eI G 4 (qF n v m j))]) (st2 := [.int (nI (cntF (pcP b e m) n))]) (c2 := 0) (s2 := 0) hF (c_X4_pieces G d0 t0 r0 q0 y0 d1 u0 d2 d3 d4 v o t1 t2 n r1 r2 r3 m b e (by first | assumption | omega) (by first | assumption | omega)) gL_isSo_X4_pieces rfl rfl rfl hd_X4_pieces ⟨⟨Nat.le_of_ble_eq_true rfl, Nat.le_of_ble_eq_true rfl⟩, ⟨Nat.le_of_ble_eq_true rfl, Nat.le_of_ble_eq_true rfl⟩, Nat.le_of_ble_eq_true rfl⟩ [0, 1, 4, 5, 6] rfl rfl 0 rfl rfl rfl rfl rfl rfl rfl rfl rfl rfl dL_isSo_424 ?_
                      refine z_iload hF dL_isSo_427 rfl ?_
                      refine z_icn_ne (tgt := 459) hF (by omega) (by omega) dL_isSo_429 (by decide) (fun c_10 => absurd c_10 (not_not_intro rfl)) (fun c_10 => ?_)
                      refine z_aload_n hF dL_isSo_432 rfl ?_
                      refine z_V (As := []) (rest := []) (ws' := [(d0, .inr (4, [.ref t0, .ref r0, .ref q0, .ref y0, .ref d1, .int o, .int (nI v), .ref u0, .ref d2, .ref d3, .ref d4])), (t0, .inr (3, [.ref t1, .ref t2, .int (nI n)])), (t1, eI G 60 f), (t2, eI G 60 g), (r0, .inr (2, [.ref r1, .ref r2, .ref r3, .int (nI m)])), (r1, eI G 12 b), (r2, eI G 12 e), (y0, .inr (0, [.ref y1])), (y1, eI G 3600 h), (u0, .inr (2, [.ref u1, .ref u2, .ref u3, .int (nI j)])), (u1, eI G 12 b2), (u2, eI G 12 e2), (d4, eI G 10 xs), (zd, eI G 60 f), (ze, eI G 60 le), (zc, eI G 36 (cF s op an qs qa qb)), (zg, eI G 18 (gF xl xc xs)), (zt, eI G 64 lt), (zq, eI G 4 (qF n v m j))]) (st2 := [.int o]) (c2 := 0) (s2 := 0) hF (c_X4_open G d0 t0 r0 q0 y0 d1 u0 d2 d3 d4 v o) gL_isSo_X4_open rfl rfl rfl hd_X4_open ⟨⟨Nat.le_of_ble_eq_true rfl, Nat.le_of_ble_eq_true rfl⟩, ⟨Nat.le_of_ble_eq_true rfl, Nat.le_of_ble_eq_true rfl⟩, Nat.le_of_ble_eq_true rfl⟩ [0] rfl rfl 0 rfl rfl rfl rfl rfl rfl rfl rfl rfl rfl dL_isSo_433 ?_
                      refine z_iload hF dL_isSo_436 rfl ?_
                      refine z_ic_ne (tgt := 459) hF dL_isSo_438 (by decide) (fun c_11 => absurd c_11 (not_not_intro ho)) (fun c_11 => ?_)
                      refine z_aload_n hF dL_isSo_441 rfl ?_
                      refine z_V (As := []) (rest := []) (ws' := [(d0, .inr (4, [.ref t0, .ref r0, .ref q0, .ref y0, .ref d1, .int o, .int (nI v), .ref u0, .ref d2, .ref d3, .ref d4])), (t0, .inr (3, [.ref t1, .ref t2, .int (nI n)])), (t1, eI G 60 f), (t2, eI G 60 g), (r0, .inr (2, [.ref r1, .ref r2, .ref r3, .int (nI m)])), (r1, eI G 12 b), (r2, eI G 12 e), (y0, .inr (0, [.ref y1])), (y1, eI G 3600 h), (u0, .inr (2, [.ref u1, .ref u2, .ref u3, .int (nI j)])), (u1, eI G 12 b2), (u2, eI G 12 e2), (d4, eI G 10 xs), (zd, eI G 60 f), (ze, eI G 60 le), (zc, eI G 36 (cF s op an qs qa qb)), (zg, eI G 18 (gF xl xc xs)), (zt, eI G 64 lt), (zq, eI G 4 (qF n v m j))]) (st2 := [.int (cov (fun kk => b kk = -1) m)]) (c2 := 0) (s2 := 0) hF (c_X4_orphans G d0 t0 r0 q0 y0 d1 u0 d2 d3 d4 v o r1 r2 r3 m b (by first | assumption | omega)) gL_isSo_X4_orphans rfl rfl rfl hd_X4_orphans ⟨⟨Nat.le_of_ble_eq_true rfl, Nat.le_of_ble_eq_true rfl⟩, ⟨Nat.le_of_ble_eq_true rfl, Nat.le_of_ble_eq_true rfl⟩, Nat.le_of_ble_eq_true rfl⟩ [0, 4, 5] rfl rfl 0 rfl rfl rfl rfl rfl rfl rfl rfl rfl rfl dL_isSo_442 ?_
                      refine z_iload hF dL_isSo_445 rfl ?_
                      refine z_iload hF dL_isSo_447 rfl ?_
                      refine z_iconst (v := -1) hF dL_isSo_449 (by decide) ?_
                      refine z_ixor hF dL_isSo_450 ?_
                      refine z_iand hF dL_isSo_451 ?_
                      refine z_ic_ne (tgt := 459) hF dL_isSo_452 (by decide) (fun c_12 => absurd c_12 (not_not_intro (orp_eq hn hm hRG hBb))) (fun c_12 => ?_)
                      refine z_iconst (v := nI 1) hF dL_isSo_455 (by decide) ?_
                      refine z_goto (tgt := 460) hF dL_isSo_456 (by decide) ?_
                      exact hR.i dL_isSo_460 (Nat.le_of_ble_eq_true rfl) (Nat.le_of_ble_eq_true rfl) (rfl) (rfl)
                    · refine z_iload hF dL_isSo_363 rfl ?_
                      refine z_if_eq (tgt := 418) hF dL_isSo_365 (by decide) (fun c_13 => absurd c_13 (by decide)) (fun c_13 => ?_)
                      refine z_aload_n hF dL_isSo_368 rfl ?_
                      refine z_iload hF dL_isSo_369 rfl ?_
                      refine z_V (As := [.int (nI i)]) (rest := []) (ws' := [(d0, .inr (4, [.ref t0, .ref r0, .ref q0, .ref y0, .ref d1, .int o, .int (nI v), .ref u0, .ref d2, .ref d3, .ref d4])), (t0, .inr (3, [.ref t1, .ref t2, .int (nI n)])), (t1, eI G 60 f), (t2, eI G 60 g), (r0, .inr (2, [.ref r1, .ref r2, .ref r3, .int (nI m)])), (r1, eI G 12 b), (r2, eI G 12 e), (y0, .inr (0, [.ref y1])), (y1, eI G 3600 h), (u0, .inr (2, [.ref u1, .ref u2, .ref u3, .int (nI j)])), (u1, eI G 12 b2), (u2, eI G 12 e2), (d4, eI G 10 xs), (zd, eI G 60 f), (ze, eI G 60 le), (zc, eI G 36 (cF s op an qs qa qb)), (zg, eI G 18 (gF xl xc xs)), (zt, eI G 64 lt), (zq, eI G 4 (qF n v m j))]) (st2 := [.int (xs i)]) (c2 := 0) (s2 := 0) hF (c_X4_stateOf G d0 t0 r0 q0 y0 d1 u0 d2 d3 d4 v o u1 u2 u3 j xs i (by first | assumption | omega) (by first | assumption | omega)) gL_isSo_X4_stateOf rfl rfl rfl hd_X4_stateOf ⟨⟨Nat.le_of_ble_eq_true rfl, Nat.le_of_ble_eq_true rfl⟩, ⟨Nat.le_of_ble_eq_true rfl, Nat.le_of_ble_eq_true rfl⟩, Nat.le_of_ble_eq_true rfl⟩ [0, 9, 12] rfl rfl 0 rfl rfl rfl rfl rfl rfl rfl rfl rfl rfl dL_isSo_371 ?_
                      refine z_aload hF dL_isSo_374 rfl ?_
                      refine z_iconst (v := nI 3) hF dL_isSo_376 (by decide) ?_
                      refine z_iload hF dL_isSo_377 rfl ?_
                      refine z_imul hF dL_isSo_379 ?_
                      refine z_top (pk_mul 3 i) ?_
                      refine z_iconst (v := nI 2) hF dL_isSo_380 (by decide) ?_
                      refine z_iadd hF dL_isSo_381 ?_
                      refine z_top (nI_add (3 * i) 2) ?_
                      refine z_iald (k := 3 * i + 2) hF 16 rfl (rfl) (by omega) rfl dL_isSo_382 ?_
                      refine z_top (y := xs i) (gF_l2 _ _ _ _) ?_
                      refine z_ic_ne (tgt := 409) hF dL_isSo_383 (by decide) (fun c_14 => absurd c_14 (not_not_intro rfl)) (fun c_14 => ?_)
                      refine z_aload_n hF dL_isSo_386 rfl ?_
                      refine z_iload hF dL_isSo_387 rfl ?_
                      refine z_V (As := [.int (nI i)]) (rest := []) (ws' := [(d0, .inr (4, [.ref t0, .ref r0, .ref q0, .ref y0, .ref d1, .int o, .int (nI v), .ref u0, .ref d2, .ref d3, .ref d4])), (t0, .inr (3, [.ref t1, .ref t2, .int (nI n)])), (t1, eI G 60 f), (t2, eI G 60 g), (r0, .inr (2, [.ref r1, .ref r2, .ref r3, .int (nI m)])), (r1, eI G 12 b), (r2, eI G 12 e), (y0, .inr (0, [.ref y1])), (y1, eI G 3600 h), (u0, .inr (2, [.ref u1, .ref u2, .ref u3, .int (nI j)])), (u1, eI G 12 b2), (u2, eI G 12 e2), (d4, eI G 10 xs), (zd, eI G 60 f), (ze, eI G 60 le), (zc, eI G 36 (cF s op an qs qa qb)), (zg, eI G 18 (gF xl xc xs)), (zt, eI G 64 lt), (zq, eI G 4 (qF n v m j))]) (st2 := [.int (ovF b2 e2 xs i j)]) (c2 := 0) (s2 := 0) hF (c_X4_overlaps G d0 t0 r0 q0 y0 d1 u0 d2 d3 d4 v o u1 u2 u3 j b2 e2 xs i (by first | assumption | omega) (by first | assumption | omega)) gL_isSo_X4_overlaps rfl rfl rfl hd_X4_overlaps ⟨⟨Nat.le_of_ble_eq_true rfl, Nat.le_of_ble_eq_true rfl⟩, ⟨Nat.le_of_ble_eq_true rfl, Nat.le_of_ble_eq_true rfl⟩, Nat.le_of_ble_eq_true rfl⟩ [0, 9, 10, 11, 12] rfl rfl 0 rfl rfl rfl rfl rfl rfl rfl rfl rfl rfl dL_isSo_389 ?_
                      refine z_iload hF dL_isSo_392 rfl ?_
                      refine z_aload_n hF dL_isSo_394 rfl ?_
                      refine z_aload hF dL_isSo_395 rfl ?_
                      refine z_aload hF dL_isSo_397 rfl ?_
                      refine z_S (As := [.int (nI i), .ref ze, .ref zg, .ref zq]) (rest := [.int (ovF b2 e2 xs i j)]) (ws' := [(d0, .inr (4, [.ref t0, .ref r0, .ref q0, .ref y0, .ref d1, .int o, .int (nI v), .ref u0, .ref d2, .ref d3, .ref d4])), (t0, .inr (3, [.ref t1, .ref t2, .int (nI n)])), (t1, eI G 60 f), (t2, eI G 60 g), (r0, .inr (2, [.ref r1, .ref r2, .ref r3, .int (nI m)])), (r1, eI G 12 b), (r2, eI G 12 e), (y0, .inr (0, [.ref y1])), (y1, eI G 3600 h), (u0, .inr (2, [.ref u1, .ref u2, .ref u3, .int (nI j)])), (u1, eI G 12 b2), (u2, eI G 12 e2), (d4, eI G 10 xs), (zd, eI G 60 f), (ze, eI G 60 le), (zc, eI G 36 (cF s op an qs qa qb)), (zg, eI G 18 (gF xl xc xs)), (zt, eI G 64 lt), (zq, eI G 4 (qF n v m j))]) (st2 := [.int (ovF b2 e2 xs i j), .int (ovF b2 e2 xs i j)]) (c2 := 0) (s2 := 0) hF (c_L_overlaps G ze zg zq n v m j i le xl xc xs B E b2 e2 (by first | assumption | omega) (by first | assumption | omega) (by first | assumption | omega) (by first | assumption | omega) (by first | assumption | omega) (by first | assumption | omega) (by first | assumption | omega) (by first | assumption | omega) (by first | assumption | omega)) gL_isSo_L_overlaps rfl rfl rfl hs_L_overlaps ⟨⟨Nat.le_of_ble_eq_true rfl, Nat.le_of_ble_eq_true rfl⟩, ⟨Nat.le_of_ble_eq_true rfl, Nat.le_of_ble_eq_true rfl⟩, Nat.le_of_ble_eq_true rfl⟩ [14, 16, 18] rfl rfl rfl rfl rfl rfl rfl rfl rfl rfl dL_isSo_399 ?_
                      refine z_ic_ne (tgt := 409) hF dL_isSo_402 (by decide) (fun c_15 => absurd c_15 (not_not_intro rfl)) (fun c_15 => ?_)
                      refine z_iconst (v := nI 1) hF dL_isSo_405 (by decide) ?_
                      refine z_goto (tgt := 410) hF dL_isSo_406 (by decide) ?_
                      refine z_istore (lv' := [some (.ref d0), some (.int x), some (.ref zd), some (.ref ze), some (.ref zc), some (.ref zg), some (.ref zt), some (.ref zq), some (.int (nI 1)), some (.int (((nI 1) <<< ((nI m) &&& 31)) - (nI 1))), some (.int (nI (cntF (pcP b e m) n))), some (.int (cov (hadP B E n) 14)), some (.int (cov (fun kk => ¬ op kk = 0) m)), some (.int (nI w)), some (.int (nI i))]) hF dL_isSo_410 rfl rfl ?_
                      refine z_iinc (v := nI (i + 1)) (lv' := [some (.ref d0), some (.int x), some (.ref zd), some (.ref ze), some (.ref zc), some (.ref zg), some (.ref zt), some (.ref zq), some (.int (nI 1)), some (.int (((nI 1) <<< ((nI m) &&& 31)) - (nI 1))), some (.int (nI (cntF (pcP b e m) n))), some (.int (cov (hadP B E n) 14)), some (.int (cov (fun kk => ¬ op kk = 0) m)), some (.int (nI w)), some (.int (nI (i + 1)))]) hF dL_isSo_412 rfl (nI_1 i) rfl rfl ?_
                      refine z_goto (tgt := 354) hF dL_isSo_415 (by decide) ?_
                      exact ih (i + 1) (by omega) (by omega)
                exact J_354 ((j - 0) + 1) 0 (Nat.lt_succ_self _) (by omega)
              · refine z_iload hF dL_isSo_273 rfl ?_
                refine z_if_eq (tgt := 351) hF dL_isSo_275 (by decide) (fun c_16 => absurd c_16 (by decide)) (fun c_16 => ?_)
                refine z_iload hF dL_isSo_278 rfl ?_
                refine z_aload hF dL_isSo_280 rfl ?_
                refine z_bipush (v := nI 6) hF dL_isSo_282 (by decide) ?_
                refine z_iload hF dL_isSo_284 rfl ?_
                refine z_imul hF dL_isSo_286 ?_
                refine z_top (pk_mul 6 i) ?_
                refine z_iconst (v := nI 1) hF dL_isSo_287 (by decide) ?_
                refine z_iadd hF dL_isSo_288 ?_
                refine z_top (nI_add (6 * i) 1) ?_
                refine z_iald (k := 6 * i + 1) hF 15 rfl (rfl) (by omega) rfl dL_isSo_289 ?_
                refine z_top (y := op i) (cF_l1 _ _ _ _ _ _ _) ?_
                refine z_iload hF dL_isSo_290 rfl ?_
                refine z_ishl hF dL_isSo_292 ?_
                refine z_ior hF dL_isSo_293 ?_
                refine z_top (y := cov (fun kk => ¬ op kk = 0) (i + 1)) (opn_s (hop i (by omega)) (by omega)) ?_
                refine z_istore (lv' := [some (.ref d0), some (.int x), some (.ref zd), some (.ref ze), some (.ref zc), some (.ref zg), some (.ref zt), some (.ref zq), some (.int (nI 1)), some (.int (((nI 1) <<< ((nI m) &&& 31)) - (nI 1))), some (.int (nI (cntF (pcP b e m) n))), some (.int (cov (hadP B E n) 14)), some (.int (cov (fun kk => ¬ op kk = 0) (i + 1))), some (.int (nI w)), some (.int (nI i))]) hF dL_isSo_294 rfl rfl ?_
                refine z_aload_n hF dL_isSo_296 rfl ?_
                refine z_iload hF dL_isSo_297 rfl ?_
                refine z_V (As := [.int (nI i)]) (rest := []) (ws' := [(d0, .inr (4, [.ref t0, .ref r0, .ref q0, .ref y0, .ref d1, .int o, .int (nI v), .ref u0, .ref d2, .ref d3, .ref d4])), (t0, .inr (3, [.ref t1, .ref t2, .int (nI n)])), (t1, eI G 60 f), (t2, eI G 60 g), (r0, .inr (2, [.ref r1, .ref r2, .ref r3, .int (nI m)])), (r1, eI G 12 b), (r2, eI G 12 e), (y0, .inr (0, [.ref y1])), (y1, eI G 3600 h), (u0, .inr (2, [.ref u1, .ref u2, .ref u3, .int (nI j)])), (u1, eI G 12 b2), (u2, eI G 12 e2), (d4, eI G 10 xs), (zd, eI G 60 f), (ze, eI G 60 le), (zc, eI G 36 (cF s op an qs qa qb)), (zg, eI G 18 (gF xl xc xs)), (zt, eI G 64 lt), (zq, eI G 4 (qF n v m j))]) (st2 := [.int (numF (b i) (e i))]) (c2 := 0) (s2 := 0) hF (c_X4_rangeOf G d0 t0 r0 q0 y0 d1 u0 d2 d3 d4 v o r1 r2 r3 m b e i (by first | assumption | omega) (by first | assumption | omega)) gL_isSo_X4_rangeOf rfl rfl rfl hd_X4_rangeOf ⟨⟨Nat.le_of_ble_eq_true rfl, Nat.le_of_ble_eq_true rfl⟩, ⟨Nat.le_of_ble_eq_true rfl, Nat.le_of_ble_eq_true rfl⟩, Nat.le_of_ble_eq_true rfl⟩ [0, 4, 5, 6] rfl rfl 0 rfl rfl rfl rfl rfl rfl rfl rfl rfl rfl dL_isSo_299 ?_
                refine z_iload hF dL_isSo_302 rfl ?_
                refine z_aload_n hF dL_isSo_304 rfl ?_
                refine z_aload hF dL_isSo_305 rfl ?_
                refine z_S (As := [.int (nI i), .ref ze, .ref zq]) (rest := [.int (numF (b i) (e i))]) (ws' := [(d0, .inr (4, [.ref t0, .ref r0, .ref q0, .ref y0, .ref d1, .int o, .int (nI v), .ref u0, .ref d2, .ref d3, .ref d4])), (t0, .inr (3, [.ref t1, .ref t2, .int (nI n)])), (t1, eI G 60 f), (t2, eI G 60 g), (r0, .inr (2, [.ref r1, .ref r2, .ref r3, .int (nI m)])), (r1, eI G 12 b), (r2, eI G 12 e), (y0, .inr (0, [.ref y1])), (y1, eI G 3600 h), (u0, .inr (2, [.ref u1, .ref u2, .ref u3, .int (nI j)])), (u1, eI G 12 b2), (u2, eI G 12 e2), (d4, eI G 10 xs), (zd, eI G 60 f), (ze, eI G 60 le), (zc, eI G 36 (cF s op an qs qa qb)), (zg, eI G 18 (gF xl xc xs)), (zt, eI G 64 lt), (zq, eI G 4 (qF n v m j))]) (st2 := [.int (numF (B i) (E i)), .int (numF (b i) (e i))]) (c2 := 0) (s2 := 0) hF (c_L_range G ze zq n v m j i le B E (by first | assumption | omega) (by first | assumption | omega) (by first | assumption | omega) (by first | assumption | omega)) gL_isSo_L_range rfl rfl rfl hs_L_range ⟨⟨Nat.le_of_ble_eq_true rfl, Nat.le_of_ble_eq_true rfl⟩, ⟨Nat.le_of_ble_eq_true rfl, Nat.le_of_ble_eq_true rfl⟩, Nat.le_of_ble_eq_true rfl⟩ [14, 18] rfl rfl rfl rfl rfl rfl rfl rfl rfl rfl dL_isSo_307 ?_
                refine z_ic_ne (tgt := 342) hF dL_isSo_310 (by decide) (fun c_17 => absurd c_17 (not_not_intro (by rw [(hBb i (by omega)).1, (hBb i (by omega)).2]))) (fun c_17 => ?_)
                refine z_aload_n hF dL_isSo_313 rfl ?_
                refine z_iload hF dL_isSo_314 rfl ?_
                refine z_iload hF dL_isSo_316 rfl ?_
                refine z_V (As := [.int (nI i), .int (nI w)]) (rest := []) (ws' := [(d0, .inr (4, [.ref t0, .ref r0, .ref q0, .ref y0, .ref d1, .int o, .int (nI v), .ref u0, .ref d2, .ref d3, .ref d4])), (t0, .inr (3, [.ref t1, .ref t2, .int (nI n)])), (t1, eI G 60 f), (t2, eI G 60 g), (r0, .inr (2, [.ref r1, .ref r2, .ref r3, .int (nI m)])), (r1, eI G 12 b), (r2, eI G 12 e), (y0, .inr (0, [.ref y1])), (y1, eI G 3600 h), (u0, .inr (2, [.ref u1, .ref u2, .ref u3, .int (nI j)])), (u1, eI G 12 b2), (u2, eI G 12 e2), (d4, eI G 10 xs), (zd, eI G 60 f), (ze, eI G 60 le), (zc, eI G 36 (cF s op an qs qa qb)), (zg, eI G 18 (gF xl xc xs)), (zt, eI G 64 lt), (zq, eI G 4 (qF n v m j))]) (st2 := [.int (if w = v then numF (b i) (e i) else h (w * 12 + i))]) (c2 := 0) (s2 := 0) hF (c_X4_rangeThen G d0 t0 r0 q0 y0 d1 u0 d2 d3 d4 v o r1 r2 r3 m b e y1 h i w (by first | assumption | omega) (by first | assumption | omega) (by first | assumption | omega) (by first | assumption | omega)) gL_isSo_X4_rangeThen rfl rfl rfl hd_X4_rangeThen ⟨⟨Nat.le_of_ble_eq_true rfl, Nat.le_of_ble_eq_true rfl⟩, ⟨Nat.le_of_ble_eq_true rfl, Nat.le_of_ble_eq_true rfl⟩, Nat.le_of_ble_eq_true rfl⟩ [0, 4, 5, 6, 7, 8] rfl rfl 0 rfl rfl rfl rfl rfl rfl rfl rfl rfl rfl dL_isSo_318 ?_
                refine z_aload hF dL_isSo_321 rfl ?_
                refine z_bipush (v := nI 8) hF dL_isSo_323 (by decide) ?_
                refine z_iload hF dL_isSo_325 rfl ?_
                refine z_bipush (v := nI 8) hF dL_isSo_327 (by decide) ?_
                refine z_irem hF dL_isSo_329 (by decide) ?_
                refine z_top (pk_rem (by omega) (by omega) (by omega)) ?_
                refine z_imul hF dL_isSo_330 ?_
                refine z_top (pk_mul 8 (w % 8)) ?_
                refine z_iload hF dL_isSo_331 rfl ?_
                refine z_iadd hF dL_isSo_333 ?_
                refine z_top (nI_add (8 * (w % 8)) i) ?_
                refine z_iald (k := 8 * (w % 8) + i) hF 17 rfl (rfl) (by omega) rfl dL_isSo_334 ?_
                refine z_ic_ne (tgt := 342) hF dL_isSo_335 (by decide) (fun c_18 => absurd c_18 (not_not_intro (thn_eq hT hw1 hw8 (by omega) (hBb i (by omega))))) (fun c_18 => ?_)
                refine z_iconst (v := nI 1) hF dL_isSo_338 (by decide) ?_
                refine z_goto (tgt := 343) hF dL_isSo_339 (by decide) ?_
                refine z_istore (lv' := [some (.ref d0), some (.int x), some (.ref zd), some (.ref ze), some (.ref zc), some (.ref zg), some (.ref zt), some (.ref zq), some (.int (nI 1)), some (.int (((nI 1) <<< ((nI m) &&& 31)) - (nI 1))), some (.int (nI (cntF (pcP b e m) n))), some (.int (cov (hadP B E n) 14)), some (.int (cov (fun kk => ¬ op kk = 0) (i + 1))), some (.int (nI w)), some (.int (nI i))]) hF dL_isSo_343 rfl rfl ?_
                refine z_iinc (v := nI (i + 1)) (lv' := [some (.ref d0), some (.int x), some (.ref zd), some (.ref ze), some (.ref zc), some (.ref zg), some (.ref zt), some (.ref zq), some (.int (nI 1)), some (.int (((nI 1) <<< ((nI m) &&& 31)) - (nI 1))), some (.int (nI (cntF (pcP b e m) n))), some (.int (cov (hadP B E n) 14)), some (.int (cov (fun kk => ¬ op kk = 0) (i + 1))), some (.int (nI w)), some (.int (nI (i + 1)))]) hF dL_isSo_345 rfl (nI_1 i) rfl rfl ?_
                refine z_goto (tgt := 264) hF dL_isSo_348 (by decide) ?_
                exact ih (i + 1) (by omega) (by omega)
          exact J_264 ((m - 0) + 1) 0 (Nat.lt_succ_self _) (by omega)
        refine z_aload hF dL_isSo_226 rfl ?_
        refine z_iconst (v := nI 1) hF dL_isSo_228 (by decide) ?_
        refine z_iald (k := 1) hF 18 rfl (rfl) (by omega) rfl dL_isSo_229 ?_
        refine z_top (y := nI v) (rfl) ?_
        refine z_bipush (v := nI 8) hF dL_isSo_230 (by decide) ?_
        refine z_icn_ge (tgt := 248) hF (by omega) (by omega) dL_isSo_232 (by decide) (fun c_19 => ?_) (fun c_19 => ?_)
        · refine z_aload hF dL_isSo_248 rfl ?_
          refine z_iconst (v := nI 1) hF dL_isSo_250 (by decide) ?_
          refine z_iald (k := 1) hF 18 rfl (rfl) (by omega) rfl dL_isSo_251 ?_
          refine z_top (y := nI v) (rfl) ?_
          refine z_iload_n hF dL_isSo_252 rfl ?_
          refine z_bipush (v := nI 8) hF dL_isSo_253 (by decide) ?_
          refine z_S (As := [.int x, .int (nI 8)]) (rest := [.int (nI v)]) (ws' := [(d0, .inr (4, [.ref t0, .ref r0, .ref q0, .ref y0, .ref d1, .int o, .int (nI v), .ref u0, .ref d2, .ref d3, .ref d4])), (t0, .inr (3, [.ref t1, .ref t2, .int (nI n)])), (t1, eI G 60 f), (t2, eI G 60 g), (r0, .inr (2, [.ref r1, .ref r2, .ref r3, .int (nI m)])), (r1, eI G 12 b), (r2, eI G 12 e), (y0, .inr (0, [.ref y1])), (y1, eI G 3600 h), (u0, .inr (2, [.ref u1, .ref u2, .ref u3, .int (nI j)])), (u1, eI G 12 b2), (u2, eI G 12 e2), (d4, eI G 10 xs), (zd, eI G 60 f), (ze, eI G 60 le), (zc, eI G 36 (cF s op an qs qa qb)), (zg, eI G 18 (gF xl xc xs)), (zt, eI G 64 lt), (zq, eI G 4 (qF n v m j))]) (st2 := [.int (nI (lowN x 8)), .int (nI v)]) (c2 := 0) (s2 := 0) hF (c_L_low G x 8 (by first | assumption | omega) (by first | assumption | omega)) gL_isSo_L_low rfl rfl rfl hs_L_low ⟨⟨Nat.le_of_ble_eq_true rfl, Nat.le_of_ble_eq_true rfl⟩, ⟨Nat.le_of_ble_eq_true rfl, Nat.le_of_ble_eq_true rfl⟩, Nat.le_of_ble_eq_true rfl⟩ [] rfl rfl rfl rfl rfl rfl rfl rfl rfl rfl dL_isSo_255 ?_
          refine z_isub hF dL_isSo_258 ?_
          refine z_top (pk_sub (by omega)) ?_
          exact J_259 (v - (lowN x 8)) (by omega) (by omega)
        · refine z_iload_n hF dL_isSo_235 rfl ?_
          refine z_aload hF dL_isSo_236 rfl ?_
          refine z_iconst (v := nI 1) hF dL_isSo_238 (by decide) ?_
          refine z_iald (k := 1) hF 18 rfl (rfl) (by omega) rfl dL_isSo_239 ?_
          refine z_top (y := nI v) (rfl) ?_
          refine z_iconst (v := nI 1) hF dL_isSo_240 (by decide) ?_
          refine z_iadd hF dL_isSo_241 ?_
          refine z_top (nI_add v 1) ?_
          refine z_S (As := [.int x, .int (nI (v + 1))]) (rest := []) (ws' := [(d0, .inr (4, [.ref t0, .ref r0, .ref q0, .ref y0, .ref d1, .int o, .int (nI v), .ref u0, .ref d2, .ref d3, .ref d4])), (t0, .inr (3, [.ref t1, .ref t2, .int (nI n)])), (t1, eI G 60 f), (t2, eI G 60 g), (r0, .inr (2, [.ref r1, .ref r2, .ref r3, .int (nI m)])), (r1, eI G 12 b), (r2, eI G 12 e), (y0, .inr (0, [.ref y1])), (y1, eI G 3600 h), (u0, .inr (2, [.ref u1, .ref u2, .ref u3, .int (nI j)])), (u1, eI G 12 b2), (u2, eI G 12 e2), (d4, eI G 10 xs), (zd, eI G 60 f), (ze, eI G 60 le), (zc, eI G 36 (cF s op an qs qa qb)), (zg, eI G 18 (gF xl xc xs)), (zt, eI G 64 lt), (zq, eI G 4 (qF n v m j))]) (st2 := [.int (nI (lowN x (v + 1)))]) (c2 := 0) (s2 := 0) hF (c_L_low G x (v + 1) (by first | assumption | omega) (by first | assumption | omega)) gL_isSo_L_low rfl rfl rfl hs_L_low ⟨⟨Nat.le_of_ble_eq_true rfl, Nat.le_of_ble_eq_true rfl⟩, ⟨Nat.le_of_ble_eq_true rfl, Nat.le_of_ble_eq_true rfl⟩, Nat.le_of_ble_eq_true rfl⟩ [] rfl rfl rfl rfl rfl rfl rfl rfl rfl rfl dL_isSo_242 ?_
          refine z_goto (tgt := 259) hF dL_isSo_245 (by decide) ?_
          exact J_259 (lowN x (v + 1)) (by omega) (by omega)
      · refine z_iload hF dL_isSo_91 rfl ?_
        refine z_if_eq (tgt := 223) hF dL_isSo_93 (by decide) (fun c_20 => absurd c_20 (by decide)) (fun c_20 => ?_)
        have J_123 : zJ G X 123 [(d0, .inr (4, [.ref t0, .ref r0, .ref q0, .ref y0, .ref d1, .int o, .int (nI v), .ref u0, .ref d2, .ref d3, .ref d4])), (t0, .inr (3, [.ref t1, .ref t2, .int (nI n)])), (t1, eI G 60 f), (t2, eI G 60 g), (r0, .inr (2, [.ref r1, .ref r2, .ref r3, .int (nI m)])), (r1, eI G 12 b), (r2, eI G 12 e), (y0, .inr (0, [.ref y1])), (y1, eI G 3600 h), (u0, .inr (2, [.ref u1, .ref u2, .ref u3, .int (nI j)])), (u1, eI G 12 b2), (u2, eI G 12 e2), (d4, eI G 10 xs), (zd, eI G 60 f), (ze, eI G 60 le), (zc, eI G 36 (cF s op an qs qa qb)), (zg, eI G 18 (gF xl xc xs)), (zt, eI G 64 lt), (zq, eI G 4 (qF n v m j))] [some (.ref d0), some (.int x), some (.ref zd), some (.ref ze), some (.ref zc), some (.ref zg), some (.ref zt), some (.ref zq), some (.int (nI 1)), some (.int (((nI 1) <<< ((nI m) &&& 31)) - (nI 1))), some (.int (nI (cntF (pcP b e m) p))), some (.int (cov (hadP B E p) 14)), some (.int (nI p)), none, none] [.int (zb (pcP b e m p))] 0 0 := by
          refine z_istore (lv' := [some (.ref d0), some (.int x), some (.ref zd), some (.ref ze), some (.ref zc), some (.ref zg), some (.ref zt), some (.ref zq), some (.int (nI 1)), some (.int (((nI 1) <<< ((nI m) &&& 31)) - (nI 1))), some (.int (nI (cntF (pcP b e m) p))), some (.int (cov (hadP B E p) 14)), some (.int (nI p)), some (.int (zb (pcP b e m p))), none]) hF dL_isSo_123 rfl rfl ?_
          refine z_iload hF dL_isSo_125 rfl ?_
          refine z_aload_n hF dL_isSo_127 rfl ?_
          refine z_iload hF dL_isSo_128 rfl ?_
          refine z_iald (k := p) hF 14 rfl (rfl) (by omega) rfl dL_isSo_130 ?_
          refine z_top (y := covF B E 14 (nI p)) (hE (p) (by omega)) ?_
          refine z_ior hF dL_isSo_131 ?_
          refine z_top (y := cov (hadP B E (p + 1)) 14) (had_s hn (by omega) hRG) ?_
          refine z_istore (lv' := [some (.ref d0), some (.int x), some (.ref zd), some (.ref ze), some (.ref zc), some (.ref zg), some (.ref zt), some (.ref zq), some (.int (nI 1)), some (.int (((nI 1) <<< ((nI m) &&& 31)) - (nI 1))), some (.int (nI (cntF (pcP b e m) p))), some (.int (cov (hadP B E (p + 1)) 14)), some (.int (nI p)), some (.int (zb (pcP b e m p))), none]) hF dL_isSo_132 rfl rfl ?_
          have J_200 : zJ G X 200 [(d0, .inr (4, [.ref t0, .ref r0, .ref q0, .ref y0, .ref d1, .int o, .int (nI v), .ref u0, .ref d2, .ref d3, .ref d4])), (t0, .inr (3, [.ref t1, .ref t2, .int (nI n)])), (t1, eI G 60 f), (t2, eI G 60 g), (r0, .inr (2, [.ref r1, .ref r2, .ref r3, .int (nI m)])), (r1, eI G 12 b), (r2, eI G 12 e), (y0, .inr (0, [.ref y1])), (y1, eI G 3600 h), (u0, .inr (2, [.ref u1, .ref u2, .ref u3, .int (nI j)])), (u1, eI G 12 b2), (u2, eI G 12 e2), (d4, eI G 10 xs), (zd, eI G 60 f), (ze, eI G 60 le), (zc, eI G 36 (cF s op an qs qa qb)), (zg, eI G 18 (gF xl xc xs)), (zt, eI G 64 lt), (zq, eI G 4 (qF n v m j))] [some (.ref d0), some (.int x), some (.ref zd), some (.ref ze), some (.ref zc), some (.ref zg), some (.ref zt), some (.ref zq), some (.int (nI 1)), some (.int (((nI 1) <<< ((nI m) &&& 31)) - (nI 1))), some (.int (nI (cntF (pcP b e m) p))), some (.int (cov (hadP B E (p + 1)) 14)), some (.int (nI p)), some (.int (zb (pcP b e m p))), none] [.int (nI 1)] 0 0 := by
            refine z_istore (lv' := [some (.ref d0), some (.int x), some (.ref zd), some (.ref ze), some (.ref zc), some (.ref zg), some (.ref zt), some (.ref zq), some (.int (nI 1)), some (.int (((nI 1) <<< ((nI m) &&& 31)) - (nI 1))), some (.int (nI (cntF (pcP b e m) p))), some (.int (cov (hadP B E (p + 1)) 14)), some (.int (nI p)), some (.int (zb (pcP b e m p))), none]) hF dL_isSo_200 rfl rfl ?_
            refine z_iload hF dL_isSo_202 rfl ?_
            refine z_iload hF dL_isSo_204 rfl ?_
            refine z_if_eq_b (tgt := 213) hF dL_isSo_206 (by decide) (fun h206 => ?_) (fun h206 => ?_)
            · refine z_iconst (v := nI 0) hF dL_isSo_213 (by decide) ?_
              refine z_iadd hF dL_isSo_214 ?_
              refine z_top (nI_add (cntF (pcP b e m) p) 0) ?_
              refine z_istore (lv' := [some (.ref d0), some (.int x), some (.ref zd), some (.ref ze), some (.ref zc), some (.ref zg), some (.ref zt), some (.ref zq), some (.int (nI 1)), some (.int (((nI 1) <<< ((nI m) &&& 31)) - (nI 1))), some (.int (nI (cntF (pcP b e m) p + 0))), some (.int (cov (hadP B E (p + 1)) 14)), some (.int (nI p)), some (.int (zb (pcP b e m p))), none]) hF dL_isSo_215 rfl rfl ?_
              refine z_lv (lv' := [some (.ref d0), some (.int x), some (.ref zd), some (.ref ze), some (.ref zc), some (.ref zg), some (.ref zt), some (.ref zq), some (.int (nI 1)), some (.int (((nI 1) <<< ((nI m) &&& 31)) - (nI 1))), some (.int (nI (cntF (pcP b e m) (p + 1)))), some (.int (cov (hadP B E (p + 1)) 14)), some (.int (nI p)), some (.int (zb (pcP b e m p))), none]) (by rw [Nat.add_zero, cntF_f (k := p) h206]) ?_
              refine z_iinc (v := nI (p + 1)) (lv' := [some (.ref d0), some (.int x), some (.ref zd), some (.ref ze), some (.ref zc), some (.ref zg), some (.ref zt), some (.ref zq), some (.int (nI 1)), some (.int (((nI 1) <<< ((nI m) &&& 31)) - (nI 1))), some (.int (nI (cntF (pcP b e m) (p + 1)))), some (.int (cov (hadP B E (p + 1)) 14)), some (.int (nI (p + 1))), some (.int (zb (pcP b e m p))), none]) hF dL_isSo_217 rfl (nI_1 p) rfl rfl ?_
              refine z_goto (tgt := 82) hF dL_isSo_220 (by decide) ?_
              refine z_forget (lv' := [some (.ref d0), some (.int x), some (.ref zd), some (.ref ze), some (.ref zc), some (.ref zg), some (.ref zt), some (.ref zq), some (.int (nI 1)), some (.int (((nI 1) <<< ((nI m) &&& 31)) - (nI 1))), some (.int (nI (cntF (pcP b e m) (p + 1)))), some (.int (cov (hadP B E (p + 1)) 14)), some (.int (nI (p + 1))), none, none]) ⟨rfl, ⟨rfl, ⟨rfl, ⟨rfl, ⟨rfl, ⟨rfl, ⟨rfl, ⟨rfl, ⟨rfl, ⟨rfl, ⟨rfl, ⟨rfl, ⟨rfl, trivial⟩⟩⟩⟩⟩⟩⟩⟩⟩⟩⟩⟩⟩ ?_
              exact ih (p + 1) (by omega) (by omega)
            · refine z_iconst (v := nI 1) hF dL_isSo_209 (by decide) ?_
              refine z_goto (tgt := 214) hF dL_isSo_210 (by decide) ?_
              refine z_iadd hF dL_isSo_214 ?_
              refine z_top (nI_add (cntF (pcP b e m) p) 1) ?_
              refine z_istore (lv' := [some (.ref d0), some (.int x), some (.ref zd), some (.ref ze), some (.ref zc), some (.ref zg), some (.ref zt), some (.ref zq), some (.int (nI 1)), some (.int (((nI 1) <<< ((nI m) &&& 31)) - (nI 1))), some (.int (nI (cntF (pcP b e m) p + 1))), some (.int (cov (hadP B E (p + 1)) 14)), some (.int (nI p)), some (.int (zb (pcP b e m p))), none]) hF dL_isSo_215 rfl rfl ?_
              refine z_lv (lv' := [some (.ref d0), some (.int x), some (.ref zd), some (.ref ze), some (.ref zc), some (.ref zg), some (.ref zt), some (.ref zq), some (.int (nI 1)), some (.int (((nI 1) <<< ((nI m) &&& 31)) - (nI 1))), some (.int (nI (cntF (pcP b e m) (p + 1)))), some (.int (cov (hadP B E (p + 1)) 14)), some (.int (nI p)), some (.int (zb (pcP b e m p))), none]) (by rw [cntF_t (k := p) h206]) ?_
              refine z_iinc (v := nI (p + 1)) (lv' := [some (.ref d0), some (.int x), some (.ref zd), some (.ref ze), some (.ref zc), some (.ref zg), some (.ref zt), some (.ref zq), some (.int (nI 1)), some (.int (((nI 1) <<< ((nI m) &&& 31)) - (nI 1))), some (.int (nI (cntF (pcP b e m) (p + 1)))), some (.int (cov (hadP B E (p + 1)) 14)), some (.int (nI (p + 1))), some (.int (zb (pcP b e m p))), none]) hF dL_isSo_217 rfl (nI_1 p) rfl rfl ?_
              refine z_goto (tgt := 82) hF dL_isSo_220 (by decide) ?_
              refine z_forget (lv' := [some (.ref d0), some (.int x), some (.ref zd), some (.ref ze), some (.ref zc), some (.ref zg), some (.ref zt), some (.ref zq), some (.int (nI 1)), some (.int (((nI 1) <<< ((nI m) &&& 31)) - (nI 1))), some (.int (nI (cntF (pcP b e m) (p + 1)))), some (.int (cov (hadP B E (p + 1)) 14)), some (.int (nI (p + 1))), none, none]) ⟨rfl, ⟨rfl, ⟨rfl, ⟨rfl, ⟨rfl, ⟨rfl, ⟨rfl, ⟨rfl, ⟨rfl, ⟨rfl, ⟨rfl, ⟨rfl, ⟨rfl, trivial⟩⟩⟩⟩⟩⟩⟩⟩⟩⟩⟩⟩⟩ ?_
              exact ih (p + 1) (by omega) (by omega)
          refine z_aload_n hF dL_isSo_134 rfl ?_
          refine z_iload hF dL_isSo_135 rfl ?_
          refine z_V (As := [.int (nI p)]) (rest := []) (ws' := [(d0, .inr (4, [.ref t0, .ref r0, .ref q0, .ref y0, .ref d1, .int o, .int (nI v), .ref u0, .ref d2, .ref d3, .ref d4])), (t0, .inr (3, [.ref t1, .ref t2, .int (nI n)])), (t1, eI G 60 f), (t2, eI G 60 g), (r0, .inr (2, [.ref r1, .ref r2, .ref r3, .int (nI m)])), (r1, eI G 12 b), (r2, eI G 12 e), (y0, .inr (0, [.ref y1])), (y1, eI G 3600 h), (u0, .inr (2, [.ref u1, .ref u2, .ref u3, .int (nI j)])), (u1, eI G 12 b2), (u2, eI G 12 e2), (d4, eI G 10 xs), (zd, eI G 60 f), (ze, eI G 60 le), (zc, eI G 36 (cF s op an qs qa qb)), (zg, eI G 18 (gF xl xc xs)), (zt, eI G 64 lt), (zq, eI G 4 (qF n v m j))]) (st2 := [.int (letF n f (nI p))]) (c2 := 0) (s2 := 0) hF (c_X4_letterAt G d0 t0 r0 q0 y0 d1 u0 d2 d3 d4 v o t1 t2 n f p (by first | assumption | omega) (by first | assumption | omega)) gL_isSo_X4_letterAt rfl rfl rfl hd_X4_letterAt ⟨⟨Nat.le_of_ble_eq_true rfl, Nat.le_of_ble_eq_true rfl⟩, ⟨Nat.le_of_ble_eq_true rfl, Nat.le_of_ble_eq_true rfl⟩, Nat.le_of_ble_eq_true rfl⟩ [0, 1, 2] rfl rfl 0 rfl rfl rfl rfl rfl rfl rfl rfl rfl rfl dL_isSo_137 ?_
          refine z_aload_n hF dL_isSo_140 rfl ?_
          refine z_iload hF dL_isSo_141 rfl ?_
          refine z_iald (k := p) hF 13 rfl (rfl) (by omega) rfl dL_isSo_143 ?_
          refine z_ic_ne (tgt := 199) hF dL_isSo_144 (by decide) (fun c_21 => absurd c_21 (not_not_intro (let_i (by omega) hn).symm)) (fun c_21 => ?_)
          refine z_aload_n hF dL_isSo_147 rfl ?_
          refine z_iload hF dL_isSo_148 rfl ?_
          refine z_V (As := [.int (nI p)]) (rest := []) (ws' := [(d0, .inr (4, [.ref t0, .ref r0, .ref q0, .ref y0, .ref d1, .int o, .int (nI v), .ref u0, .ref d2, .ref d3, .ref d4])), (t0, .inr (3, [.ref t1, .ref t2, .int (nI n)])), (t1, eI G 60 f), (t2, eI G 60 g), (r0, .inr (2, [.ref r1, .ref r2, .ref r3, .int (nI m)])), (r1, eI G 12 b), (r2, eI G 12 e), (y0, .inr (0, [.ref y1])), (y1, eI G 3600 h), (u0, .inr (2, [.ref u1, .ref u2, .ref u3, .int (nI j)])), (u1, eI G 12 b2), (u2, eI G 12 e2), (d4, eI G 10 xs), (zd, eI G 60 f), (ze, eI G 60 le), (zc, eI G 36 (cF s op an qs qa qb)), (zg, eI G 18 (gF xl xc xs)), (zt, eI G 64 lt), (zq, eI G 4 (qF n v m j))]) (st2 := [.int (covF b e m (nI p))]) (c2 := 0) (s2 := 0) hF (c_X4_cover G d0 t0 r0 q0 y0 d1 u0 d2 d3 d4 v o t1 t2 n r1 r2 r3 m b e p (by first | assumption | omega) (by first | assumption | omega) (by first | assumption | omega)) gL_isSo_X4_cover rfl rfl rfl hd_X4_cover ⟨⟨Nat.le_of_ble_eq_true rfl, Nat.le_of_ble_eq_true rfl⟩, ⟨Nat.le_of_ble_eq_true rfl, Nat.le_of_ble_eq_true rfl⟩, Nat.le_of_ble_eq_true rfl⟩ [0, 1, 4, 5, 6] rfl rfl 0 rfl rfl rfl rfl rfl rfl rfl rfl rfl rfl dL_isSo_150 ?_
          refine z_aload_n hF dL_isSo_153 rfl ?_
          refine z_iload hF dL_isSo_154 rfl ?_
          refine z_iald (k := p) hF 14 rfl (rfl) (by omega) rfl dL_isSo_156 ?_
          refine z_top (y := covF B E 14 (nI p)) (hE (p) (by omega)) ?_
          refine z_iload hF dL_isSo_157 rfl ?_
          refine z_iand hF dL_isSo_159 ?_
          refine z_ic_ne (tgt := 199) hF dL_isSo_160 (by decide) (fun c_22 => absurd c_22 (not_not_intro (cv_low hm hBb).symm)) (fun c_22 => ?_)
          refine z_aload_n hF dL_isSo_163 rfl ?_
          refine z_iload hF dL_isSo_164 rfl ?_
          refine z_V (As := [.int (nI p)]) (rest := []) (ws' := [(d0, .inr (4, [.ref t0, .ref r0, .ref q0, .ref y0, .ref d1, .int o, .int (nI v), .ref u0, .ref d2, .ref d3, .ref d4])), (t0, .inr (3, [.ref t1, .ref t2, .int (nI n)])), (t1, eI G 60 f), (t2, eI G 60 g), (r0, .inr (2, [.ref r1, .ref r2, .ref r3, .int (nI m)])), (r1, eI G 12 b), (r2, eI G 12 e), (y0, .inr (0, [.ref y1])), (y1, eI G 3600 h), (u0, .inr (2, [.ref u1, .ref u2, .ref u3, .int (nI j)])), (u1, eI G 12 b2), (u2, eI G 12 e2), (d4, eI G 10 xs), (zd, eI G 60 f), (ze, eI G 60 le), (zc, eI G 36 (cF s op an qs qa qb)), (zg, eI G 18 (gF xl xc xs)), (zt, eI G 64 lt), (zq, eI G 4 (qF n v m j))]) (st2 := [.int (marF n g (nI p))]) (c2 := 0) (s2 := 0) hF (c_X4_coverByLetters G d0 t0 r0 q0 y0 d1 u0 d2 d3 d4 v o t1 t2 n g p (by first | assumption | omega) (by first | assumption | omega)) gL_isSo_X4_coverByLetters rfl rfl rfl hd_X4_coverByLetters ⟨⟨Nat.le_of_ble_eq_true rfl, Nat.le_of_ble_eq_true rfl⟩, ⟨Nat.le_of_ble_eq_true rfl, Nat.le_of_ble_eq_true rfl⟩, Nat.le_of_ble_eq_true rfl⟩ [0, 1, 3] rfl rfl 0 rfl rfl rfl rfl rfl rfl rfl rfl rfl rfl dL_isSo_166 ?_
          refine z_top (y := covF b e m (nI p)) ((mar_in hn (by omega)).trans (hG p (by omega))) ?_
          refine z_aload_n hF dL_isSo_169 rfl ?_
          refine z_iload hF dL_isSo_170 rfl ?_
          refine z_iald (k := p) hF 14 rfl (rfl) (by omega) rfl dL_isSo_172 ?_
          refine z_top (y := covF B E 14 (nI p)) (hE (p) (by omega)) ?_
          refine z_iload hF dL_isSo_173 rfl ?_
          refine z_iand hF dL_isSo_175 ?_
          refine z_ic_ne (tgt := 199) hF dL_isSo_176 (by decide) (fun c_23 => absurd c_23 (not_not_intro (cv_low hm hBb).symm)) (fun c_23 => ?_)
          refine z_iload hF dL_isSo_179 rfl ?_
          refine z_if_eq_b (tgt := 195) hF dL_isSo_181 (by decide) (fun h181 => ?_) (fun h181 => ?_)
          · refine z_iconst (v := nI 1) hF dL_isSo_195 (by decide) ?_
            refine z_goto (tgt := 200) hF dL_isSo_196 (by decide) ?_
            exact J_200  
          · refine z_aload_n hF dL_isSo_184 rfl ?_
            refine z_iload hF dL_isSo_185 rfl ?_
            refine z_V (As := [.int (nI (cntF (pcP b e m) p))]) (rest := []) (ws' := [(d0, .inr (4, [.ref t0, .ref r0, .ref q0, .ref y0, .ref d1, .int o, .int (nI v), .ref u0, .ref d2, .ref d3, .ref d4])), (t0, .inr (3, [.ref t1, .ref t2, .int (nI n)])), (t1, eI G 60 f), (t2, eI G 60 g), (r0, .inr (2, [.ref r1, .ref r2, .ref r3, .int (nI m)])), (r1, eI G 12 b), (r2, eI G 12 e), (y0, .inr (0, [.ref y1])), (y1, eI G 3600 h), (u0, .inr (2, [.ref u1, .ref u2, .ref u3, .int (nI j)])), (u1, eI G 12 b2), (u2, eI G 12 e2), (d4, eI G 10 xs), (zd, eI G 60 f), (ze, eI G 60 le), (zc, eI G 36 (cF s op an qs qa qb)), (zg, eI G 18 (gF xl xc xs)), (zt, eI G 64 lt), (zq, eI G 4 (qF n v m j))]) (st2 := [.int (fndF (pcP b e m) (nI (cntF (pcP b e m) p)) n)]) (c2 := 0) (s2 := 0) hF (c_X4_pieceAt G d0 t0 r0 q0 y0 d1 u0 d2 d3 d4 v o t1 t2 n r1 r2 r3 m b e (nI (cntF (pcP b e m) p)) (by first | assumption | omega) (by first | assumption | omega) (by rw [pc_at (P := pcP b e m) hn (by omega) h181]; exact nI_m1 (by omega))) gL_isSo_X4_pieceAt rfl rfl rfl hd_X4_pieceAt ⟨⟨Nat.le_of_ble_eq_true rfl, Nat.le_of_ble_eq_true rfl⟩, ⟨Nat.le_of_ble_eq_true rfl, Nat.le_of_ble_eq_true rfl⟩, Nat.le_of_ble_eq_true rfl⟩ [0, 1, 4, 5, 6] rfl rfl 0 rfl rfl rfl rfl rfl rfl rfl rfl rfl rfl dL_isSo_187 ?_
            refine z_top (y := nI p) (pc_at (P := pcP b e m) hn (by omega) h181) ?_
            refine z_iload hF dL_isSo_190 rfl ?_
            refine z_icn_ne (tgt := 199) hF (by omega) (by omega) dL_isSo_192 (by decide) (fun c_24 => absurd c_24 (not_not_intro rfl)) (fun c_24 => ?_)
            refine z_iconst (v := nI 1) hF dL_isSo_195 (by decide) ?_
            refine z_goto (tgt := 200) hF dL_isSo_196 (by decide) ?_
            exact J_200  
        refine z_iload hF dL_isSo_96 rfl ?_
        refine z_ifn_eq (tgt := 118) hF (by omega) dL_isSo_98 (by decide) (fun h98 => ?_) (fun h98 => ?_)
        · refine z_iconst (v := nI 1) hF dL_isSo_118 (by decide) ?_
          refine z_goto (tgt := 123) hF dL_isSo_119 (by decide) ?_
          refine z_top (y := zb (pcP b e m p)) (zb1 (Or.inl h98)) ?_
          exact J_123  
        · refine z_aload_n hF dL_isSo_101 rfl ?_
          refine z_iload hF dL_isSo_102 rfl ?_
          refine z_iald (k := p) hF 14 rfl (rfl) (by omega) rfl dL_isSo_104 ?_
          refine z_top (y := covF B E 14 (nI p)) (hE (p) (by omega)) ?_
          refine z_aload_n hF dL_isSo_105 rfl ?_
          refine z_iload hF dL_isSo_106 rfl ?_
          refine z_iconst (v := nI 1) hF dL_isSo_108 (by decide) ?_
          refine z_isub hF dL_isSo_109 ?_
          refine z_top (pk_sub (by omega)) ?_
          refine z_iald (k := p - 1) hF 14 rfl (rfl) (by omega) rfl dL_isSo_110 ?_
          refine z_top (y := covF B E 14 (nI (p - 1))) (hE (p - 1) (by omega)) ?_
          refine z_ixor hF dL_isSo_111 ?_
          refine z_iload hF dL_isSo_112 rfl ?_
          refine z_iand hF dL_isSo_114 ?_
          refine z_if_eq (tgt := 122) hF dL_isSo_115 (by decide) (fun h115 => ?_) (fun h115 => ?_)
          · refine z_iconst (v := nI 0) hF dL_isSo_122 (by decide) ?_
            refine z_top (y := zb (pcP b e m p)) (zb0 (fun z => z.elim h98 (fun z => z ((beg_iff hm hBb).mp h115)))) ?_
            exact J_123  
          · refine z_iconst (v := nI 1) hF dL_isSo_118 (by decide) ?_
            refine z_goto (tgt := 123) hF dL_isSo_119 (by decide) ?_
            refine z_top (y := zb (pcP b e m p)) (zb1 (Or.inr (fun z => h115 ((beg_iff hm hBb).mpr z)))) ?_
            exact J_123  
  exact J_82 ((n - 0) + 1) 0 (Nat.lt_succ_self _) (by omega)
