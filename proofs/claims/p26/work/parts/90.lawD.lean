/-! the roads of a turn, joined -/
theorem lw_insA {G : zG} {X : zT} {b0 L : Nat} {zs : Nat → Int32} (hF : zF G X room_1 cL_law wsL_law RL) (hSc : zSc X b0 L zs) (hL : L ≤ 2560) (d0 t0 t1 t2 r0 r1 r2 r3 q0 q1 q2 q3 q4 y0 y1 d1 u0 u1 u2 u3 d2 d3 d4 zq zd ze zc zk zg zt : Nat) (n m v j : Nat) (o : Int32) (f g b e s h ql qs qa qb an op b2 e2 s2 xl xc xs le lt B E : Nat → Int32) (t : Nat) (zz : Int32) (cells slots : Nat) (hcl : cells + 1 ≤ room_1.cells) (hsl : slots + 6 ≤ room_1.slots) (hI : InvP n m v j o b e s g h op qs b2 e2 s2 xc xs le lt B E) (hv2 : v ≤ 2 * t) (ht : t < 100)   (kk : lwK G X b0 t zz d0 t0 t1 t2 r0 r1 r2 r3 q0 q1 q2 q3 q4 y0 y1 d1 u0 u1 u2 u3 d2 d3 d4 zq zd ze zc zk zg zt (cells + 1) (slots + 6)) : zJ G X 111 (wL G d0 t0 t1 t2 r0 r1 r2 r3 q0 q1 q2 q3 q4 y0 y1 d1 u0 u1 u2 u3 d2 d3 d4 zq zd ze zc zk zg zt n m v j o f g b e s h ql qs qa qb an op b2 e2 s2 xl xc xs le lt) [some (.ref b0), some (.ref d0), some (.ref zq), some (.ref zd), some (.ref ze), some (.ref zc), some (.ref zk), some (.ref zg), some (.ref zt), some (.int (nI t)), some (.int zz), none, none, none, none, none, none] [] cells slots := by
  obtain ⟨⟨hn, hm, hj⟩, hRG, hE, hBb, hBs, hB0, hB2, hs, hG, ho, hop, hq, hs2, hxc, hw, hT⟩ := id hI
  by_cases hk60 : n + (1 + lowN (zz >>> (nI 9 &&& 31)) (if lowN (zz >>> (nI 14 &&& 31)) 3 = 0 then 10 else 4)) ≤ 60
  · exact lw_ins0 hF hSc hL d0 t0 t1 t2 r0 r1 r2 r3 q0 q1 q2 q3 q4 y0 y1 d1 u0 u1 u2 u3 d2 d3 d4 zq zd ze zc zk zg zt n m v j o f g b e s h ql qs qa qb an op b2 e2 s2 xl xc xs le lt B E t zz cells slots hcl hsl hI hv2 ht _ _ _ _ rfl rfl rfl rfl hk60 kk
  · exact lw_ins3 hF hSc hL d0 t0 t1 t2 r0 r1 r2 r3 q0 q1 q2 q3 q4 y0 y1 d1 u0 u1 u2 u3 d2 d3 d4 zq zd ze zc zk zg zt n m v j o f g b e s h ql qs qa qb an op b2 e2 s2 xl xc xs le lt B E t zz cells slots hcl hsl hI hv2 ht _ _ _ _ rfl rfl rfl rfl (by omega) kk
theorem lw_comA {G : zG} {X : zT} {b0 L : Nat} {zs : Nat → Int32} (hF : zF G X room_1 cL_law wsL_law RL) (hSc : zSc X b0 L zs) (hL : L ≤ 2560) (d0 t0 t1 t2 r0 r1 r2 r3 q0 q1 q2 q3 q4 y0 y1 d1 u0 u1 u2 u3 d2 d3 d4 zq zd ze zc zk zg zt : Nat) (n m v j : Nat) (o : Int32) (f g b e s h ql qs qa qb an op b2 e2 s2 xl xc xs le lt B E : Nat → Int32) (t : Nat) (zz : Int32) (cells slots : Nat) (hcl : cells + 1 ≤ room_1.cells) (hsl : slots + 6 ≤ room_1.slots) (hI : InvP n m v j o b e s g h op qs b2 e2 s2 xc xs le lt B E) (hv2 : v ≤ 2 * t) (ht : t < 100) (w : Nat) (hw3 : w ≤ 3) (hn0 : 0 < n) (kk : lwK G X b0 t zz d0 t0 t1 t2 r0 r1 r2 r3 q0 q1 q2 q3 q4 y0 y1 d1 u0 u1 u2 u3 d2 d3 d4 zq zd ze zc zk zg zt (cells + 1) (slots + 6)) : zJ G X 361 (wL G d0 t0 t1 t2 r0 r1 r2 r3 q0 q1 q2 q3 q4 y0 y1 d1 u0 u1 u2 u3 d2 d3 d4 zq zd ze zc zk zg zt n m v j o f g b e s h ql qs qa qb an op b2 e2 s2 xl xc xs le lt) [some (.ref b0), some (.ref d0), some (.ref zq), some (.ref zd), some (.ref ze), some (.ref zc), some (.ref zk), some (.ref zg), some (.ref zt), some (.int (nI t)), some (.int zz), none, none, none, none, none, none] [.int (nI w), .ref d0] cells slots := by
  obtain ⟨⟨hn, hm, hj⟩, hRG, hE, hBb, hBs, hB0, hB2, hs, hG, ho, hop, hq, hs2, hxc, hw, hT⟩ := id hI
  by_cases hnew : (w = 0 ∨ m = 0) ∧ m < 6
  · exact lw_comNew hF hSc hL d0 t0 t1 t2 r0 r1 r2 r3 q0 q1 q2 q3 q4 y0 y1 d1 u0 u1 u2 u3 d2 d3 d4 zq zd ze zc zk zg zt n m v j o f g b e s h ql qs qa qb an op b2 e2 s2 xl xc xs le lt B E t zz cells slots hcl hsl hI hv2 ht w _ _ _ _ hw3 hn0 hnew.2 hnew.1 rfl rfl rfl rfl kk
  · have hm0 : 0 < m := (Nat.eq_zero_or_pos m).elim (fun q => absurd ⟨Or.inr q, by omega⟩ hnew) id
    by_cases h1 : w = 1
    · subst h1
      exact lw_comAns hF hSc hL d0 t0 t1 t2 r0 r1 r2 r3 q0 q1 q2 q3 q4 y0 y1 d1 u0 u1 u2 u3 d2 d3 d4 zq zd ze zc zk zg zt n m v j o f g b e s h ql qs qa qb an op b2 e2 s2 xl xc xs le lt B E t zz cells slots hcl hsl hI hv2 ht _ rfl hm0 kk
    · by_cases h2 : w = 2
      · subst h2
        exact lw_comRes hF hSc hL d0 t0 t1 t2 r0 r1 r2 r3 q0 q1 q2 q3 q4 y0 y1 d1 u0 u1 u2 u3 d2 d3 d4 zq zd ze zc zk zg zt n m v j o f g b e s h ql qs qa qb an op b2 e2 s2 xl xc xs le lt B E t zz cells slots hcl hsl hI hv2 ht _ rfl hm0 kk
      · have hact : ¬ (w = 0 ∧ m < 6) := fun q => hnew ⟨Or.inl q.1, q.2⟩
        have him := lowN_lt (zz >>> (nI 4 &&& 31)) hm0
        by_cases hb : b (lowN (zz >>> (nI 4 &&& 31)) m) = -1
        · obtain ⟨z, hz, hz1, hz8⟩ := hq _ him
          by_cases h0 : bfF n z (lowN (zz >>> (nI 4 &&& 31)) m) ql qa qb f = -1
          · exact lw_comFind0 hF hSc hL d0 t0 t1 t2 r0 r1 r2 r3 q0 q1 q2 q3 q4 y0 y1 d1 u0 u1 u2 u3 d2 d3 d4 zq zd ze zc zk zg zt n m v j o f g b e s h ql qs qa qb an op b2 e2 s2 xl xc xs le lt B E t zz cells slots hcl hsl hI hv2 ht w _ z rfl hm0 hw3 hact h1 h2 hb hz hz1 hz8 h0 kk
          · exact lw_comFind1 hF hSc hL d0 t0 t1 t2 r0 r1 r2 r3 q0 q1 q2 q3 q4 y0 y1 d1 u0 u1 u2 u3 d2 d3 d4 zq zd ze zc zk zg zt n m v j o f g b e s h ql qs qa qb an op b2 e2 s2 xl xc xs le lt B E t zz cells slots hcl hsl hI hv2 ht w _ z rfl hm0 hw3 hact h1 h2 hb hz hz1 hz8 h0 kk
        · exact lw_comFind3 hF hSc hL d0 t0 t1 t2 r0 r1 r2 r3 q0 q1 q2 q3 q4 y0 y1 d1 u0 u1 u2 u3 d2 d3 d4 zq zd ze zc zk zg zt n m v j o f g b e s h ql qs qa qb an op b2 e2 s2 xl xc xs le lt B E t zz cells slots hcl hsl hI hv2 ht w _ rfl hm0 hw3 hact h1 h2 hb kk
theorem lw_sugA {G : zG} {X : zT} {b0 L : Nat} {zs : Nat → Int32} (hF : zF G X room_1 cL_law wsL_law RL) (hSc : zSc X b0 L zs) (hL : L ≤ 2560) (d0 t0 t1 t2 r0 r1 r2 r3 q0 q1 q2 q3 q4 y0 y1 d1 u0 u1 u2 u3 d2 d3 d4 zq zd ze zc zk zg zt : Nat) (n m v j : Nat) (o : Int32) (f g b e s h ql qs qa qb an op b2 e2 s2 xl xc xs le lt B E : Nat → Int32) (t : Nat) (zz : Int32) (cells slots : Nat) (hcl : cells + 1 ≤ room_1.cells) (hsl : slots + 6 ≤ room_1.slots) (hI : InvP n m v j o b e s g h op qs b2 e2 s2 xc xs le lt B E) (hv2 : v ≤ 2 * t) (ht : t < 100) (w : Nat) (hw3 : w ≤ 2) (hn0 : 0 < n) (kk : lwK G X b0 t zz d0 t0 t1 t2 r0 r1 r2 r3 q0 q1 q2 q3 q4 y0 y1 d1 u0 u1 u2 u3 d2 d3 d4 zq zd ze zc zk zg zt (cells + 1) (slots + 6)) : zJ G X 389 (wL G d0 t0 t1 t2 r0 r1 r2 r3 q0 q1 q2 q3 q4 y0 y1 d1 u0 u1 u2 u3 d2 d3 d4 zq zd ze zc zk zg zt n m v j o f g b e s h ql qs qa qb an op b2 e2 s2 xl xc xs le lt) [some (.ref b0), some (.ref d0), some (.ref zq), some (.ref zd), some (.ref ze), some (.ref zc), some (.ref zk), some (.ref zg), some (.ref zt), some (.int (nI t)), some (.int zz), none, none, none, none, none, none] [.int (nI w), .ref d0] cells slots := by
  obtain ⟨⟨hn, hm, hj⟩, hRG, hE, hBb, hBs, hB0, hB2, hs, hG, ho, hop, hq, hs2, hxc, hw, hT⟩ := id hI
  by_cases hnew : (w = 0 ∨ j = 0) ∧ j < 6
  · exact lw_sugNew hF hSc hL d0 t0 t1 t2 r0 r1 r2 r3 q0 q1 q2 q3 q4 y0 y1 d1 u0 u1 u2 u3 d2 d3 d4 zq zd ze zc zk zg zt n m v j o f g b e s h ql qs qa qb an op b2 e2 s2 xl xc xs le lt B E t zz cells slots hcl hsl hI hv2 ht w _ _ _ _ _ hw3 hn0 hnew.2 hnew.1 rfl rfl rfl rfl rfl kk
  · have hj0 : 0 < j := (Nat.eq_zero_or_pos j).elim (fun q => absurd ⟨Or.inr q, by omega⟩ hnew) id
    have hact : ¬ (w = 0 ∧ j < 6) := fun q => hnew ⟨Or.inl q.1, q.2⟩
    have hij := lowN_lt (zz >>> (nI 4 &&& 31)) hj0
    by_cases h1 : w = 1
    · by_cases h0 : xs (lowN (zz >>> (nI 4 &&& 31)) j) = 0
      · exact lw_sugRej0 hF hSc hL d0 t0 t1 t2 r0 r1 r2 r3 q0 q1 q2 q3 q4 y0 y1 d1 u0 u1 u2 u3 d2 d3 d4 zq zd ze zc zk zg zt n m v j o f g b e s h ql qs qa qb an op b2 e2 s2 xl xc xs le lt B E t zz cells slots hcl hsl hI hv2 ht w _ rfl hj0 hw3 hact h1 h0 kk
      · exact lw_sugRej3 hF hSc hL d0 t0 t1 t2 r0 r1 r2 r3 q0 q1 q2 q3 q4 y0 y1 d1 u0 u1 u2 u3 d2 d3 d4 zq zd ze zc zk zg zt n m v j o f g b e s h ql qs qa qb an op b2 e2 s2 xl xc xs le lt B E t zz cells slots hcl hsl hI hv2 ht w _ rfl hj0 hw3 hact h1 h0 kk
    · by_cases h0 : xs (lowN (zz >>> (nI 4 &&& 31)) j) = 0
      · have hB := hw _ hij h0
        rcases hRG (8 + lowN (zz >>> (nI 4 &&& 31)) j) (by omega) with ⟨q1, -⟩ | ⟨p, q, e1, e3, h3, h4⟩
        · exact absurd q1 hB
        · have hbp := (hBs _ hij).1.symm.trans e1
          have heq := (hBs _ hij).2.symm.trans e3
          obtain ⟨z, hz, hz5⟩ := hxc _ hij
          by_cases hov : ovF b2 e2 xs (lowN (zz >>> (nI 4 &&& 31)) j) j = 0
          · by_cases hrm : n - (q - p) + z ≤ 60
            · by_cases hz0 : z = 0
              · subst hz0
                exact lw_sugAcc0 hF hSc hL d0 t0 t1 t2 r0 r1 r2 r3 q0 q1 q2 q3 q4 y0 y1 d1 u0 u1 u2 u3 d2 d3 d4 zq zd ze zc zk zg zt n m v j o f g b e s h ql qs qa qb an op b2 e2 s2 xl xc xs le lt B E t zz cells slots hcl hsl hI hv2 ht w _ p q rfl hj0 hw3 hact h1 h0 hbp heq h3 h4 hz hov hrm kk
              · exact lw_sugAcc1 hF hSc hL d0 t0 t1 t2 r0 r1 r2 r3 q0 q1 q2 q3 q4 y0 y1 d1 u0 u1 u2 u3 d2 d3 d4 zq zd ze zc zk zg zt n m v j o f g b e s h ql qs qa qb an op b2 e2 s2 xl xc xs le lt B E t zz cells slots hcl hsl hI hv2 ht w _ p q z rfl hj0 hw3 hact h1 h0 hbp heq h3 h4 hz hz5 hov hrm (by omega) kk
            · exact lw_sugAccR hF hSc hL d0 t0 t1 t2 r0 r1 r2 r3 q0 q1 q2 q3 q4 y0 y1 d1 u0 u1 u2 u3 d2 d3 d4 zq zd ze zc zk zg zt n m v j o f g b e s h ql qs qa qb an op b2 e2 s2 xl xc xs le lt B E t zz cells slots hcl hsl hI hv2 ht w _ p q z rfl hj0 hw3 hact h1 h0 hbp heq h3 h4 hz hz5 hov (by omega) kk
          · exact lw_sugAccO hF hSc hL d0 t0 t1 t2 r0 r1 r2 r3 q0 q1 q2 q3 q4 y0 y1 d1 u0 u1 u2 u3 d2 d3 d4 zq zd ze zc zk zg zt n m v j o f g b e s h ql qs qa qb an op b2 e2 s2 xl xc xs le lt B E t zz cells slots hcl hsl hI hv2 ht w _ p q z rfl hj0 hw3 hact h1 h0 hbp heq h3 h4 hz hz5 hov kk
      · exact lw_sugAccW hF hSc hL d0 t0 t1 t2 r0 r1 r2 r3 q0 q1 q2 q3 q4 y0 y1 d1 u0 u1 u2 u3 d2 d3 d4 zq zd ze zc zk zg zt n m v j o f g b e s h ql qs qa qb an op b2 e2 s2 xl xc xs le lt B E t zz cells slots hcl hsl hI hv2 ht w _ rfl hj0 hw3 hact h1 h0 kk
set_option maxHeartbeats 4000000 in
set_option maxRecDepth 100000 in
theorem lw_turn {G : zG} {X : zT} {b0 L : Nat} {zs : Nat → Int32} (hF : zF G X room_1 cL_law wsL_law RL) (hSc : zSc X b0 L zs) (hL : L ≤ 2560) (d0 t0 t1 t2 r0 r1 r2 r3 q0 q1 q2 q3 q4 y0 y1 d1 u0 u1 u2 u3 d2 d3 d4 zq zd ze zc zk zg zt : Nat) (n m v j : Nat) (o : Int32) (f g b e s h ql qs qa qb an op b2 e2 s2 xl xc xs le lt B E : Nat → Int32) (t : Nat) (zz : Int32) (cells slots : Nat) (hcl : cells + 1 ≤ room_1.cells) (hsl : slots + 6 ≤ room_1.slots) (hI : InvP n m v j o b e s g h op qs b2 e2 s2 xc xs le lt B E) (hv2 : v ≤ 2 * t) (ht : t < 100)   (kk : ∀ zz : Int32, lwK G X b0 t zz d0 t0 t1 t2 r0 r1 r2 r3 q0 q1 q2 q3 q4 y0 y1 d1 u0 u1 u2 u3 d2 d3 d4 zq zd ze zc zk zg zt (cells + 1) (slots + 6)) : zJ G X 79 (wL G d0 t0 t1 t2 r0 r1 r2 r3 q0 q1 q2 q3 q4 y0 y1 d1 u0 u1 u2 u3 d2 d3 d4 zq zd ze zc zk zg zt n m v j o f g b e s h ql qs qa qb an op b2 e2 s2 xl xc xs le lt) [some (.ref b0), some (.ref d0), some (.ref zq), some (.ref zd), some (.ref ze), some (.ref zc), some (.ref zk), some (.ref zg), some (.ref zt), some (.int (nI t)), none, none, none, none, none, none, none] [] cells slots := by
  obtain ⟨⟨hn, hm, hj⟩, hRG, hE, hBb, hBs, hB0, hB2, hs, hG, ho, hop, hq, hs2, hxc, hw, hT⟩ := id hI
  refine z_ws (ws' := [(d0, .inr (4, [.ref t0, .ref r0, .ref q0, .ref y0, .ref d1, .int o, .int (nI v), .ref u0, .ref d2, .ref d3, .ref d4])), (t0, .inr (3, [.ref t1, .ref t2, .int (nI n)])), (t1, eI G 60 f), (t2, eI G 60 g), (r0, .inr (2, [.ref r1, .ref r2, .ref r3, .int (nI m)])), (r1, eI G 12 b), (r2, eI G 12 e), (r3, eI G 12 s), (q0, .inr (1, [.ref q1, .ref q2, .ref q3, .ref q4])), (q1, eI G 720 ql), (q2, eI G 12 qs), (q3, eI G 12 qa), (q4, eI G 12 qb), (y0, .inr (0, [.ref y1])), (y1, eI G 3600 h), (d1, eI G 12 an), (u0, .inr (2, [.ref u1, .ref u2, .ref u3, .int (nI j)])), (u1, eI G 12 b2), (u2, eI G 12 e2), (u3, eI G 12 s2), (d2, eI G 10 xl), (d3, eI G 10 xc), (d4, eI G 10 xs), (zq, eI G 4 (qF n v m j)), (zd, eI G 60 f), (ze, eI G 60 le), (zc, eI G 36 (cF s op an qs qa qb)), (zk, eI G 48 (kF ql)), (zg, eI G 18 (gF xl xc xs)), (zt, eI G 64 lt)]) rfl ?_
  refine z_aload_n hF dL_law_79 rfl ?_
  refine z_iload hF dL_law_80 rfl ?_
  refine z_Sc (As := [.ref b0, .int (nI t)]) (rest := []) (st2 := [.int (cellF zs L t)]) (c2 := cells) (s2 := slots) hF hSc (c_L_cell G b0 L t zs hL (by omega)) gL_law_L_cell rfl rfl rfl hs_L_cell ⟨⟨Nat.le_of_ble_eq_true rfl, Nat.le_of_ble_eq_true rfl⟩, ⟨by omega, by omega⟩, Nat.le_of_ble_eq_true rfl⟩ rfl rfl rfl rfl rfl dL_law_82 ?_
  refine z_nm (fun zw hzw => ?_)
  refine z_istore (lv' := [some (.ref b0), some (.ref d0), some (.ref zq), some (.ref zd), some (.ref ze), some (.ref zc), some (.ref zk), some (.ref zg), some (.ref zt), some (.int (nI t)), some (.int zw), none, none, none, none, none, none]) hF dL_law_85 rfl rfl ?_
  refine z_iload hF dL_law_87 rfl ?_
  refine z_bipush (v := nI 14) hF dL_law_89 (by decide) ?_
  refine z_S (As := [.int zw, .int (nI 14)]) (rest := []) (ws' := [(d0, .inr (4, [.ref t0, .ref r0, .ref q0, .ref y0, .ref d1, .int o, .int (nI v), .ref u0, .ref d2, .ref d3, .ref d4])), (t0, .inr (3, [.ref t1, .ref t2, .int (nI n)])), (t1, eI G 60 f), (t2, eI G 60 g), (r0, .inr (2, [.ref r1, .ref r2, .ref r3, .int (nI m)])), (r1, eI G 12 b), (r2, eI G 12 e), (r3, eI G 12 s), (q0, .inr (1, [.ref q1, .ref q2, .ref q3, .ref q4])), (q1, eI G 720 ql), (q2, eI G 12 qs), (q3, eI G 12 qa), (q4, eI G 12 qb), (y0, .inr (0, [.ref y1])), (y1, eI G 3600 h), (d1, eI G 12 an), (u0, .inr (2, [.ref u1, .ref u2, .ref u3, .int (nI j)])), (u1, eI G 12 b2), (u2, eI G 12 e2), (u3, eI G 12 s2), (d2, eI G 10 xl), (d3, eI G 10 xc), (d4, eI G 10 xs), (zq, eI G 4 (qF n v m j)), (zd, eI G 60 f), (ze, eI G 60 le), (zc, eI G 36 (cF s op an qs qa qb)), (zk, eI G 48 (kF ql)), (zg, eI G 18 (gF xl xc xs)), (zt, eI G 64 lt)]) (st2 := [.int (nI (lowN zw 14))]) (c2 := cells) (s2 := slots) hF (c_L_low G zw 14 (by first | assumption | omega) (by first | assumption | omega)) gL_law_L_low rfl rfl rfl hs_L_low ⟨⟨Nat.le_of_ble_eq_true rfl, Nat.le_of_ble_eq_true rfl⟩, ⟨by omega, by omega⟩, Nat.le_of_ble_eq_true rfl⟩ [] rfl rfl rfl rfl rfl rfl rfl rfl rfl rfl dL_law_91 ?_
  refine z_istore (lv' := [some (.ref b0), some (.ref d0), some (.ref zq), some (.ref zd), some (.ref ze), some (.ref zc), some (.ref zk), some (.ref zg), some (.ref zt), some (.int (nI t)), some (.int zw), some (.int (nI (lowN zw 14))), none, none, none, none, none]) hF dL_law_94 rfl rfl ?_
  obtain ⟨act, hact⟩ : ∃ act, lowN zw 14 = act := ⟨_, rfl⟩
  have hact14 : act < 14 := by have := lowN_lt zw (n := 14) (by omega); omega
  refine z_lv (lv' := [some (.ref b0), some (.ref d0), some (.ref zq), some (.ref zd), some (.ref ze), some (.ref zc), some (.ref zk), some (.ref zg), some (.ref zt), some (.int (nI t)), some (.int zw), some (.int (nI act)), none, none, none, none, none]) (by rw [hact]) ?_
  refine z_iconst (v := nI 1) hF dL_law_96 (by decide) ?_
  refine z_istore (lv' := [some (.ref b0), some (.ref d0), some (.ref zq), some (.ref zd), some (.ref ze), some (.ref zc), some (.ref zk), some (.ref zg), some (.ref zt), some (.int (nI t)), some (.int zw), some (.int (nI act)), some (.int (nI 1)), none, none, none, none]) hF dL_law_97 rfl rfl ?_
  refine z_iload hF dL_law_99 rfl ?_
  refine z_iconst (v := nI 4) hF dL_law_101 (by decide) ?_
  refine z_icn_lt (tgt := 111) hF (by omega) (by omega) dL_law_102 (by decide) (fun c_1 => ?_) (fun c_1 => ?_)
  · refine z_forget (lv' := [some (.ref b0), some (.ref d0), some (.ref zq), some (.ref zd), some (.ref ze), some (.ref zc), some (.ref zk), some (.ref zg), some (.ref zt), some (.int (nI t)), some (.int zw), none, none, none, none, none, none]) ⟨rfl, ⟨rfl, ⟨rfl, ⟨rfl, ⟨rfl, ⟨rfl, ⟨rfl, ⟨rfl, ⟨rfl, ⟨rfl, ⟨rfl, trivial⟩⟩⟩⟩⟩⟩⟩⟩⟩⟩⟩ ?_
    exact lw_insA hF hSc hL d0 t0 t1 t2 r0 r1 r2 r3 q0 q1 q2 q3 q4 y0 y1 d1 u0 u1 u2 u3 d2 d3 d4 zq zd ze zc zk zg zt n m v j o f g b e s h ql qs qa qb an op b2 e2 s2 xl xc xs le lt B E t zw cells slots hcl hsl hI hv2 ht (kk zw)
  · refine z_aload_n hF dL_law_105 rfl ?_
    refine z_iconst (v := nI 0) hF dL_law_106 (by decide) ?_
    refine z_iald (k := 0) hF 23 rfl (rfl) (by omega) rfl dL_law_107 ?_
    refine z_top (y := nI n) (rfl) ?_
    refine z_ifn_ne (tgt := 247) hF (by omega) dL_law_108 (by decide) (fun hn0 => ?_) (fun hn0 => ?_)
    · refine z_iload hF dL_law_247 rfl ?_
      refine z_bipush (v := nI 7) hF dL_law_249 (by decide) ?_
      refine z_icn_ge (tgt := 337) hF (by omega) (by omega) dL_law_251 (by decide) (fun c_2 => ?_) (fun c_2 => ?_)
      · refine z_iload hF dL_law_337 rfl ?_
        refine z_bipush (v := nI 11) hF dL_law_339 (by decide) ?_
        refine z_icn_ge (tgt := 383) hF (by omega) (by omega) dL_law_341 (by decide) (fun c_3 => ?_) (fun c_3 => ?_)
        · refine z_aload_n hF dL_law_383 rfl ?_
          refine z_iload hF dL_law_384 rfl ?_
          refine z_bipush (v := nI 11) hF dL_law_386 (by decide) ?_
          refine z_isub hF dL_law_388 ?_
          refine z_top (pk_sub (by omega)) ?_
          refine z_forget (lv' := [some (.ref b0), some (.ref d0), some (.ref zq), some (.ref zd), some (.ref ze), some (.ref zc), some (.ref zk), some (.ref zg), some (.ref zt), some (.int (nI t)), some (.int zw), none, none, none, none, none, none]) ⟨rfl, ⟨rfl, ⟨rfl, ⟨rfl, ⟨rfl, ⟨rfl, ⟨rfl, ⟨rfl, ⟨rfl, ⟨rfl, ⟨rfl, trivial⟩⟩⟩⟩⟩⟩⟩⟩⟩⟩⟩ ?_
          exact lw_sugA hF hSc hL d0 t0 t1 t2 r0 r1 r2 r3 q0 q1 q2 q3 q4 y0 y1 d1 u0 u1 u2 u3 d2 d3 d4 zq zd ze zc zk zg zt n m v j o f g b e s h ql qs qa qb an op b2 e2 s2 xl xc xs le lt B E t zw cells slots hcl hsl hI hv2 ht (act - 11) (by omega) (Nat.pos_of_ne_zero hn0) (kk zw)
        · refine z_aload_n hF dL_law_344 rfl ?_
          refine z_iload hF dL_law_345 rfl ?_
          refine z_bipush (v := nI 10) hF dL_law_347 (by decide) ?_
          refine z_icn_ne (tgt := 356) hF (by omega) (by omega) dL_law_349 (by decide) (fun c_4 => ?_) (fun c_4 => ?_)
          · refine z_iload hF dL_law_356 rfl ?_
            refine z_bipush (v := nI 7) hF dL_law_358 (by decide) ?_
            refine z_isub hF dL_law_360 ?_
            refine z_top (pk_sub (by omega)) ?_
            refine z_forget (lv' := [some (.ref b0), some (.ref d0), some (.ref zq), some (.ref zd), some (.ref ze), some (.ref zc), some (.ref zk), some (.ref zg), some (.ref zt), some (.int (nI t)), some (.int zw), none, none, none, none, none, none]) ⟨rfl, ⟨rfl, ⟨rfl, ⟨rfl, ⟨rfl, ⟨rfl, ⟨rfl, ⟨rfl, ⟨rfl, ⟨rfl, ⟨rfl, trivial⟩⟩⟩⟩⟩⟩⟩⟩⟩⟩⟩ ?_
            exact lw_comA hF hSc hL d0 t0 t1 t2 r0 r1 r2 r3 q0 q1 q2 q3 q4 y0 y1 d1 u0 u1 u2 u3 d2 d3 d4 zq zd ze zc zk zg zt n m v j o f g b e s h ql qs qa qb an op b2 e2 s2 xl xc xs le lt B E t zw cells slots hcl hsl hI hv2 ht (act - 7) (by omega) (Nat.pos_of_ne_zero hn0) (kk zw)
          · refine z_iconst (v := nI 3) hF dL_law_352 (by decide) ?_
            refine z_goto (tgt := 361) hF dL_law_353 (by decide) ?_
            refine z_forget (lv' := [some (.ref b0), some (.ref d0), some (.ref zq), some (.ref zd), some (.ref ze), some (.ref zc), some (.ref zk), some (.ref zg), some (.ref zt), some (.int (nI t)), some (.int zw), none, none, none, none, none, none]) ⟨rfl, ⟨rfl, ⟨rfl, ⟨rfl, ⟨rfl, ⟨rfl, ⟨rfl, ⟨rfl, ⟨rfl, ⟨rfl, ⟨rfl, trivial⟩⟩⟩⟩⟩⟩⟩⟩⟩⟩⟩ ?_
            exact lw_comA hF hSc hL d0 t0 t1 t2 r0 r1 r2 r3 q0 q1 q2 q3 q4 y0 y1 d1 u0 u1 u2 u3 d2 d3 d4 zq zd ze zc zk zg zt n m v j o f g b e s h ql qs qa qb an op b2 e2 s2 xl xc xs le lt B E t zw cells slots hcl hsl hI hv2 ht (3) (by omega) (Nat.pos_of_ne_zero hn0) (kk zw)
      · refine z_forget (lv' := [some (.ref b0), some (.ref d0), some (.ref zq), some (.ref zd), some (.ref ze), some (.ref zc), some (.ref zk), some (.ref zg), some (.ref zt), some (.int (nI t)), some (.int zw), none, none, none, none, none, none]) ⟨rfl, ⟨rfl, ⟨rfl, ⟨rfl, ⟨rfl, ⟨rfl, ⟨rfl, ⟨rfl, ⟨rfl, ⟨rfl, ⟨rfl, trivial⟩⟩⟩⟩⟩⟩⟩⟩⟩⟩⟩ ?_
        exact lw_rem hF hSc hL d0 t0 t1 t2 r0 r1 r2 r3 q0 q1 q2 q3 q4 y0 y1 d1 u0 u1 u2 u3 d2 d3 d4 zq zd ze zc zk zg zt n m v j o f g b e s h ql qs qa qb an op b2 e2 s2 xl xc xs le lt B E t zw cells slots hcl hsl hI hv2 ht _ _ _ (Nat.pos_of_ne_zero hn0) rfl rfl rfl (kk zw)
    · refine z_forget (lv' := [some (.ref b0), some (.ref d0), some (.ref zq), some (.ref zd), some (.ref ze), some (.ref zc), some (.ref zk), some (.ref zg), some (.ref zt), some (.int (nI t)), some (.int zw), none, none, none, none, none, none]) ⟨rfl, ⟨rfl, ⟨rfl, ⟨rfl, ⟨rfl, ⟨rfl, ⟨rfl, ⟨rfl, ⟨rfl, ⟨rfl, ⟨rfl, trivial⟩⟩⟩⟩⟩⟩⟩⟩⟩⟩⟩ ?_
      exact lw_insA hF hSc hL d0 t0 t1 t2 r0 r1 r2 r3 q0 q1 q2 q3 q4 y0 y1 d1 u0 u1 u2 u3 d2 d3 d4 zq zd ze zc zk zg zt n m v j o f g b e s h ql qs qa qb an op b2 e2 s2 xl xc xs le lt B E t zw cells slots hcl hsl hI hv2 ht (kk zw)
set_option maxHeartbeats 4000000 in
set_option maxRecDepth 100000 in
theorem lw_tail {G : zG} {X : zT} {b0 L : Nat} {zs : Nat → Int32} (hF : zF G X room_1 cL_law wsL_law RL) (hSc : zSc X b0 L zs) (hL : L ≤ 2560) (d0 t0 t1 t2 r0 r1 r2 r3 q0 q1 q2 q3 q4 y0 y1 d1 u0 u1 u2 u3 d2 d3 d4 zq zd ze zc zk zg zt : Nat) (n m v j : Nat) (o : Int32) (f g b e s h ql qs qa qb an op b2 e2 s2 xl xc xs le lt B E : Nat → Int32) (t : Nat) (zz : Int32) (cells slots : Nat) (hcl : cells ≤ room_1.cells) (hsl : slots ≤ room_1.slots) (hI : InvP n m v j o b e s g h op qs b2 e2 s2 xc xs le lt B E) (hv2 : v ≤ 2 * t + 2) (ht : t < 100)   (kk : zJ G X 72 (wL G d0 t0 t1 t2 r0 r1 r2 r3 q0 q1 q2 q3 q4 y0 y1 d1 u0 u1 u2 u3 d2 d3 d4 zq zd ze zc zk zg zt n m v j o f g b e s h ql qs qa qb an op b2 e2 s2 xl xc xs le lt) [some (.ref b0), some (.ref d0), some (.ref zq), some (.ref zd), some (.ref ze), some (.ref zc), some (.ref zk), some (.ref zg), some (.ref zt), some (.int (nI (t + 1))), none, none, none, none, none, none, none] [] cells slots) : zJ G X 408 (wL G d0 t0 t1 t2 r0 r1 r2 r3 q0 q1 q2 q3 q4 y0 y1 d1 u0 u1 u2 u3 d2 d3 d4 zq zd ze zc zk zg zt n m v j o f g b e s h ql qs qa qb an op b2 e2 s2 xl xc xs le lt) [some (.ref b0), some (.ref d0), some (.ref zq), some (.ref zd), some (.ref ze), some (.ref zc), some (.ref zk), some (.ref zg), some (.ref zt), some (.int (nI t)), some (.int zz), none, some (.int (nI 1)), none, none, none, none] [] cells slots := by
  obtain ⟨⟨hn, hm, hj⟩, hRG, hE, hBb, hBs, hB0, hB2, hs, hG, ho, hop, hq, hs2, hxc, hw, hT⟩ := id hI
  refine z_ws (ws' := [(d0, .inr (4, [.ref t0, .ref r0, .ref q0, .ref y0, .ref d1, .int o, .int (nI v), .ref u0, .ref d2, .ref d3, .ref d4])), (t0, .inr (3, [.ref t1, .ref t2, .int (nI n)])), (t1, eI G 60 f), (t2, eI G 60 g), (r0, .inr (2, [.ref r1, .ref r2, .ref r3, .int (nI m)])), (r1, eI G 12 b), (r2, eI G 12 e), (r3, eI G 12 s), (q0, .inr (1, [.ref q1, .ref q2, .ref q3, .ref q4])), (q1, eI G 720 ql), (q2, eI G 12 qs), (q3, eI G 12 qa), (q4, eI G 12 qb), (y0, .inr (0, [.ref y1])), (y1, eI G 3600 h), (d1, eI G 12 an), (u0, .inr (2, [.ref u1, .ref u2, .ref u3, .int (nI j)])), (u1, eI G 12 b2), (u2, eI G 12 e2), (u3, eI G 12 s2), (d2, eI G 10 xl), (d3, eI G 10 xc), (d4, eI G 10 xs), (zq, eI G 4 (qF n v m j)), (zd, eI G 60 f), (ze, eI G 60 le), (zc, eI G 36 (cF s op an qs qa qb)), (zk, eI G 48 (kF ql)), (zg, eI G 18 (gF xl xc xs)), (zt, eI G 64 lt)]) rfl ?_
  refine z_iload hF dL_law_408 rfl ?_
  refine z_if_eq (tgt := 434) hF dL_law_410 (by decide) (fun c_1 => absurd c_1 (by decide)) (fun c_1 => ?_)
  refine z_aload_n hF dL_law_413 rfl ?_
  refine z_iload hF dL_law_414 rfl ?_
  refine z_iconst (v := nI 3) hF dL_law_416 (by decide) ?_
  refine z_ishr hF dL_law_417 ?_
  refine z_aload_n hF dL_law_418 rfl ?_
  refine z_aload hF dL_law_419 rfl ?_
  refine z_aload hF dL_law_421 rfl ?_
  refine z_aload hF dL_law_423 rfl ?_
  refine z_aload hF dL_law_425 rfl ?_
  refine z_aload_n hF dL_law_427 rfl ?_
  refine z_S (As := [.ref d0, .int (zz >>> ((nI 3) &&& 31)), .ref zd, .ref ze, .ref zc, .ref zg, .ref zt, .ref zq]) (rest := []) (ws' := [(d0, .inr (4, [.ref t0, .ref r0, .ref q0, .ref y0, .ref d1, .int o, .int (nI v), .ref u0, .ref d2, .ref d3, .ref d4])), (t0, .inr (3, [.ref t1, .ref t2, .int (nI n)])), (t1, eI G 60 f), (t2, eI G 60 g), (r0, .inr (2, [.ref r1, .ref r2, .ref r3, .int (nI m)])), (r1, eI G 12 b), (r2, eI G 12 e), (r3, eI G 12 s), (q0, .inr (1, [.ref q1, .ref q2, .ref q3, .ref q4])), (q1, eI G 720 ql), (q2, eI G 12 qs), (q3, eI G 12 qa), (q4, eI G 12 qb), (y0, .inr (0, [.ref y1])), (y1, eI G 3600 h), (d1, eI G 12 an), (u0, .inr (2, [.ref u1, .ref u2, .ref u3, .int (nI j)])), (u1, eI G 12 b2), (u2, eI G 12 e2), (u3, eI G 12 s2), (d2, eI G 10 xl), (d3, eI G 10 xc), (d4, eI G 10 xs), (zq, eI G 4 (qF n v m j)), (zd, eI G 60 f), (ze, eI G 60 le), (zc, eI G 36 (cF s op an qs qa qb)), (zk, eI G 48 (kF ql)), (zg, eI G 18 (gF xl xc xs)), (zt, eI G 64 lt)]) (st2 := [.int (nI 1)]) (c2 := cells) (s2 := slots) hF (c_L_isSo G d0 t0 r0 q0 y0 d1 u0 d2 d3 d4 v o t1 t2 n f g r1 r2 r3 m b e y1 h u1 u2 u3 j b2 e2 xs zd ze zc zg zt zq le s op an qs qa qb xl xc lt B E (zz >>> ((nI 3) &&& 31)) (by first | assumption | omega) (by first | assumption | omega) (by first | assumption | omega) (by first | assumption | omega) (by first | assumption | omega) (by first | assumption | omega) (by first | assumption | omega) (by first | assumption | omega) (by first | assumption | omega) (by first | assumption | omega) (by first | assumption | omega) (by first | assumption | omega) (by first | assumption | omega) (by first | assumption | omega)) gL_law_L_isSo rfl rfl rfl hs_L_isSo ⟨⟨Nat.le_of_ble_eq_true rfl, Nat.le_of_ble_eq_true rfl⟩, ⟨by omega, by omega⟩, Nat.le_of_ble_eq_true rfl⟩ [0, 1, 2, 3, 4, 5, 6, 13, 14, 16, 17, 18, 22, 24, 25, 26, 28, 29, 23] rfl rfl rfl rfl rfl rfl rfl rfl rfl rfl dL_law_428 ?_
  refine z_if_ne (tgt := 436) hF dL_law_431 (by decide) (fun c_2 => ?_) (fun c_2 => absurd c_2 (by decide))
  refine z_iinc (v := nI (t + 1)) (lv' := [some (.ref b0), some (.ref d0), some (.ref zq), some (.ref zd), some (.ref ze), some (.ref zc), some (.ref zk), some (.ref zg), some (.ref zt), some (.int (nI (t + 1))), some (.int zz), none, some (.int (nI 1)), none, none, none, none]) hF dL_law_436 rfl (nI_1 t) rfl rfl ?_
  refine z_goto (tgt := 72) hF dL_law_439 (by decide) ?_
  refine z_forget (lv' := [some (.ref b0), some (.ref d0), some (.ref zq), some (.ref zd), some (.ref ze), some (.ref zc), some (.ref zk), some (.ref zg), some (.ref zt), some (.int (nI (t + 1))), none, none, none, none, none, none, none]) ⟨rfl, ⟨rfl, ⟨rfl, ⟨rfl, ⟨rfl, ⟨rfl, ⟨rfl, ⟨rfl, ⟨rfl, ⟨rfl, trivial⟩⟩⟩⟩⟩⟩⟩⟩⟩⟩ ?_
  exact kk
set_option maxHeartbeats 4000000 in
set_option maxRecDepth 100000 in
theorem law_loop {G : zG} {X : zT} {b0 L : Nat} {zs : Nat → Int32} (hF : zF G X room_1 cL_law wsL_law RL) (hSc : zSc X b0 L zs) (hL : L ≤ 2560) (d0 t0 t1 t2 r0 r1 r2 r3 q0 q1 q2 q3 q4 y0 y1 d1 u0 u1 u2 u3 d2 d3 d4 zq zd ze zc zk zg zt : Nat) (hE9 : ∀ (ws : va_W) (lv : List (Option Value)) (cells slots : Nat), cells ≤ room_1.cells → slots ≤ room_1.slots → zJ G X 443 ws lv [.int (nI 1)] cells slots) : ∀ (k : Nat) (n m v j : Nat) (o : Int32) (f g b e s h ql qs qa qb an op b2 e2 s2 xl xc xs le lt B E : Nat → Int32) (t cells slots : Nat), t + k = 100 → v ≤ 2 * t → cells + k ≤ room_1.cells → slots + 6 * k ≤ room_1.slots → InvP n m v j o b e s g h op qs b2 e2 s2 xc xs le lt B E → zJ G X 72 (wL G d0 t0 t1 t2 r0 r1 r2 r3 q0 q1 q2 q3 q4 y0 y1 d1 u0 u1 u2 u3 d2 d3 d4 zq zd ze zc zk zg zt n m v j o f g b e s h ql qs qa qb an op b2 e2 s2 xl xc xs le lt) [some (.ref b0), some (.ref d0), some (.ref zq), some (.ref zd), some (.ref ze), some (.ref zc), some (.ref zk), some (.ref zg), some (.ref zt), some (.int (nI t)), none, none, none, none, none, none, none] [] cells slots := by
  intro k
  induction k with
  | zero =>
    intro n m v j o f g b e s h ql qs qa qb an op b2 e2 s2 xl xc xs le lt B E t cells slots hk hv2 hcl hsl hI
    refine z_iload hF dL_law_72 rfl ?_
    refine z_bipush (v := nI 100) hF dL_law_74 (by decide) ?_
    refine z_icn_ge (tgt := 442) hF (by omega) (by omega) dL_law_76 (by decide) (fun hq => ?_) (fun hq => absurd hq (by omega))
    refine z_iconst (v := nI 1) hF dL_law_442 (by decide) ?_
    exact hE9 _ _ _ _ (by omega) (by omega)
  | succ k ih =>
    intro n m v j o f g b e s h ql qs qa qb an op b2 e2 s2 xl xc xs le lt B E t cells slots hk hv2 hcl hsl hI
    refine z_iload hF dL_law_72 rfl ?_
    refine z_bipush (v := nI 100) hF dL_law_74 (by decide) ?_
    refine z_icn_ge (tgt := 442) hF (by omega) (by omega) dL_law_76 (by decide) (fun hq => absurd hq (by omega)) (fun hq => ?_)
    refine lw_turn hF hSc hL d0 t0 t1 t2 r0 r1 r2 r3 q0 q1 q2 q3 q4 y0 y1 d1 u0 u1 u2 u3 d2 d3 d4 zq zd ze zc zk zg zt n m v j o f g b e s h ql qs qa qb an op b2 e2 s2 xl xc xs le lt B E t 0 cells slots (by omega) (by omega) hI hv2 (by omega) ?_
    intro zz n m v j o f g b e s h ql qs qa qb an op b2 e2 s2 xl xc xs le lt B E hI hv2
    exact lw_tail hF hSc hL d0 t0 t1 t2 r0 r1 r2 r3 q0 q1 q2 q3 q4 y0 y1 d1 u0 u1 u2 u3 d2 d3 d4 zq zd ze zc zk zg zt n m v j o f g b e s h ql qs qa qb an op b2 e2 s2 xl xc xs le lt B E t zz (cells + 1) (slots + 6) (by omega) (by omega) hI hv2 (by omega) (ih n m v j o f g b e s h ql qs qa qb an op b2 e2 s2 xl xc xs le lt B E (t + 1) (cells + 1) (slots + 6) (by omega) (by omega) (by omega) (by omega) hI)
