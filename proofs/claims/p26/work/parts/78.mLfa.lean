set_option maxHeartbeats 4000000 in
set_option maxRecDepth 100000 in
theorem c_L_finds3 (G : zG) (zd ze zc zk zt zq n v m j i : Nat) (f le s op an ql qs qa qb lt B E : Nat → Int32) (hn : n ≤ 60) (hm : m ≤ 6) (hv : v ≤ 300) (him : i < m) (hRG : RGa n B E) (hE : LEa n le B E) (hB0 : ∀ i, m ≤ i → i < 8 → B i = -1) (hb : ¬ B i = -1) : zM G yL_finds wsL_finds ({ frames := 2, cells := 0, slots := 0, locals := 58 }) [.int (nI i), .ref zd, .ref ze, .ref zc, .ref zk, .ref zt, .ref zq] [(zd, eI G 60 f), (ze, eI G 60 le), (zc, eI G 36 (cF s op an qs qa qb)), (zk, eI G 48 (kF ql)), (zt, eI G 64 lt), (zq, eI G 4 (qF n v m j))] [(zd, eI G 60 f), (ze, eI G 60 le), (zc, eI G 36 (cF s op an qs qa qb)), (zk, eI G 48 (kF ql)), (zt, eI G 64 lt), (zq, eI G 4 (qF n v m j))] (some (.int (-3))) 0 0 := by
  refine zM.ofI (own := RL) (cc := cL_finds) (maxL := 14) rfl (by decide) rfl rfl (by simp [Value.category]) (Nat.le_of_ble_eq_true rfl) ?_
  intro X hF hR
  refine z_lv (lv' := [some (.int (nI i)), some (.ref zd), some (.ref ze), some (.ref zc), some (.ref zk), some (.ref zt), some (.ref zq), none, none, none, none, none, none, none]) rfl ?_
  refine z_iload_n hF dL_finds_0 rfl ?_
  refine z_aload_n hF dL_finds_1 rfl ?_
  refine z_aload hF dL_finds_2 rfl ?_
  refine z_S (As := [.int (nI i), .ref ze, .ref zq]) (rest := []) (ws' := [(zd, eI G 60 f), (ze, eI G 60 le), (zc, eI G 36 (cF s op an qs qa qb)), (zk, eI G 48 (kF ql)), (zt, eI G 64 lt), (zq, eI G 4 (qF n v m j))]) (st2 := [.int (numF (B i) (E i))]) (c2 := 0) (s2 := 0) hF (c_L_range G ze zq n v m j i le B E (by first | assumption | omega) (by first | assumption | omega) (by first | assumption | omega) (by first | assumption | omega)) gL_finds_L_range rfl rfl rfl hs_L_range ⟨⟨Nat.le_of_ble_eq_true rfl, Nat.le_of_ble_eq_true rfl⟩, ⟨Nat.le_of_ble_eq_true rfl, Nat.le_of_ble_eq_true rfl⟩, Nat.le_of_ble_eq_true rfl⟩ [1, 5] rfl rfl rfl rfl rfl rfl rfl rfl rfl rfl dL_finds_4 ?_
  refine z_if_lt (tgt := 13) hF dL_finds_7 (by decide) (fun c_1 => absurd c_1 (fun h => hb ((num_dec hn (hRG i (by omega))).1.mp h))) (fun c_1 => ?_)
  refine z_bipush (v := -3) hF dL_finds_10 (by decide) ?_
  exact hR.i dL_finds_12 (Nat.le_of_ble_eq_true rfl) (Nat.le_of_ble_eq_true rfl) (rfl) (rfl)
