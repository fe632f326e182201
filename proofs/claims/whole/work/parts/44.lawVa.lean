set_option maxHeartbeats 4000000 in
set_option maxRecDepth 100000 in
theorem c_L_resolve_0 (G : zG) (d0 t0 r0 q0 y0 d1 u0 d2 d3 d4 v : Nat) (o : Int32) (r1 r2 r3 m : Nat) (a : Int32) (o9 : Nat) (go : Nat → Int64) (hm : m ≤ 12) (hc : (cmC m a) = 0) : zM G yL_resolve wsL_resolve ({ frames := 8, cells := 1, slots := 6, locals := 133 }) [.ref d0, .int a, .ref o9] [(d0, .inr (4, [.ref t0, .ref r0, .ref q0, .ref y0, .ref d1, .int o, .int (nI v), .ref u0, .ref d2, .ref d3, .ref d4])), (r0, .inr (2, [.ref r1, .ref r2, .ref r3, .int (nI m)])), (o9, eL G 1 go)] [(d0, .inr (4, [.ref t0, .ref r0, .ref q0, .ref y0, .ref d1, .int (o &&& ((bitF (nI a.toNatClampNeg)) ^^^ (-1))), .int (nI v), .ref u0, .ref d2, .ref d3, .ref d4])), (r0, .inr (2, [.ref r1, .ref r2, .ref r3, .int (nI m)])), (o9, eL G 1 (vp_updL go 0 ((zb (¬ o &&& bitF (nI a.toNatClampNeg) = 0)).toInt64)))] (some (.int (nI 0))) 1 6 := by
  refine zM.ofIh (own := RL) (cc := cL_resolve) (maxL := 4) rfl (by decide) rfl rfl (by simp [Value.category]) (Nat.le_of_ble_eq_true rfl) ?_
  intro X hF hT hR
  refine z_lv (lv' := [some (.ref d0), some (.int a), some (.ref o9), none]) rfl ?_
  refine z_aload_n hF dL_resolve_0 rfl ?_
  refine z_iconst (v := nI 0) hF dL_resolve_1 (by decide) ?_
  refine z_aload_n hF dL_resolve_2 rfl ?_
  refine z_iload_n hF dL_resolve_3 rfl ?_
  refine z_Vx (As := [.int a]) (rest := [.int (nI 0), .ref o9]) (ws' := [(d0, .inr (4, [.ref t0, .ref r0, .ref q0, .ref y0, .ref d1, .int (o &&& ((bitF (nI a.toNatClampNeg)) ^^^ (-1))), .int (nI v), .ref u0, .ref d2, .ref d3, .ref d4])), (r0, .inr (2, [.ref r1, .ref r2, .ref r3, .int (nI m)])), (o9, eL G 1 go)]) (st2 := [.int (zb (¬ o &&& bitF (nI a.toNatClampNeg) = 0)), .int (nI 0), .ref o9]) (c2 := 1) (s2 := 6) hF (c_X4_resolve G d0 t0 r0 q0 y0 d1 u0 d2 d3 d4 v o r1 r2 r3 m a (hm)) gL_resolve_X4_resolve rfl rfl rfl hd_X4_resolve ⟨⟨Nat.le_of_ble_eq_true rfl, Nat.le_of_ble_eq_true rfl⟩, ⟨Nat.le_of_ble_eq_true rfl, Nat.le_of_ble_eq_true rfl⟩, Nat.le_of_ble_eq_true rfl⟩ [0, 1] rfl rfl 0 rfl rfl rfl rfl rfl rfl rfl rfl rfl rfl rfl rfl dL_resolve_4 (fun c_1 => absurd hc c_1) (fun c_1 => ?_)
  refine z_if_eq_b (tgt := 14) hF dL_resolve_7 (by decide) (fun c_2 => ?_) (fun c_2 => ?_)
  · refine z_lconst (v := 0) hF dL_resolve_14 (by decide) ?_
    refine z_topL (y := (zb (¬ o &&& bitF (nI a.toNatClampNeg) = 0)).toInt64) (zbL0 (by assumption)) ?_
    refine z_last (k := 0) (ws' := [(d0, .inr (4, [.ref t0, .ref r0, .ref q0, .ref y0, .ref d1, .int (o &&& ((bitF (nI a.toNatClampNeg)) ^^^ (-1))), .int (nI v), .ref u0, .ref d2, .ref d3, .ref d4])), (r0, .inr (2, [.ref r1, .ref r2, .ref r3, .int (nI m)])), (o9, eL G 1 (vp_updL go 0 ((zb (¬ o &&& bitF (nI a.toNatClampNeg) = 0)).toInt64)))]) hF 2 rfl (rfl) (by omega) rfl rfl dL_resolve_15 ?_
    refine z_goto (tgt := 22) hF dL_resolve_16 (by decide) ?_
    refine z_iconst (v := nI 0) hF dL_resolve_22 (by decide) ?_
    exact hR.i dL_resolve_23 (Nat.le_of_ble_eq_true rfl) (Nat.le_of_ble_eq_true rfl) (rfl) (rfl)
  · refine z_lconst (v := 1) hF dL_resolve_10 (by decide) ?_
    refine z_goto (tgt := 15) hF dL_resolve_11 (by decide) ?_
    refine z_topL (y := (zb (¬ o &&& bitF (nI a.toNatClampNeg) = 0)).toInt64) (zbL1 (by assumption)) ?_
    refine z_last (k := 0) (ws' := [(d0, .inr (4, [.ref t0, .ref r0, .ref q0, .ref y0, .ref d1, .int (o &&& ((bitF (nI a.toNatClampNeg)) ^^^ (-1))), .int (nI v), .ref u0, .ref d2, .ref d3, .ref d4])), (r0, .inr (2, [.ref r1, .ref r2, .ref r3, .int (nI m)])), (o9, eL G 1 (vp_updL go 0 ((zb (¬ o &&& bitF (nI a.toNatClampNeg) = 0)).toInt64)))]) hF 2 rfl (rfl) (by omega) rfl rfl dL_resolve_15 ?_
    refine z_goto (tgt := 22) hF dL_resolve_16 (by decide) ?_
    refine z_iconst (v := nI 0) hF dL_resolve_22 (by decide) ?_
    exact hR.i dL_resolve_23 (Nat.le_of_ble_eq_true rfl) (Nat.le_of_ble_eq_true rfl) (rfl) (rfl)
set_option maxHeartbeats 4000000 in
set_option maxRecDepth 100000 in
theorem c_L_resolve_1 (G : zG) (d0 t0 r0 q0 y0 d1 u0 d2 d3 d4 v : Nat) (o : Int32) (r1 r2 r3 m : Nat) (a : Int32) (o9 : Nat) (go : Nat → Int64) (hm : m ≤ 12) (hc : (cmC m a) = 1) : zM G yL_resolve wsL_resolve ({ frames := 8, cells := 1, slots := 6, locals := 133 }) [.ref d0, .int a, .ref o9] [(d0, .inr (4, [.ref t0, .ref r0, .ref q0, .ref y0, .ref d1, .int o, .int (nI v), .ref u0, .ref d2, .ref d3, .ref d4])), (r0, .inr (2, [.ref r1, .ref r2, .ref r3, .int (nI m)])), (o9, eL G 1 go)] [(d0, .inr (4, [.ref t0, .ref r0, .ref q0, .ref y0, .ref d1, .int o, .int (nI v), .ref u0, .ref d2, .ref d3, .ref d4])), (r0, .inr (2, [.ref r1, .ref r2, .ref r3, .int (nI m)])), (o9, eL G 1 go)] (some (.int (nI 1))) 1 6 := by
  refine zM.ofIh (own := RL) (cc := cL_resolve) (maxL := 4) rfl (by decide) rfl rfl (by simp [Value.category]) (Nat.le_of_ble_eq_true rfl) ?_
  intro X hF hT hR
  have k_0 : zH X (.classLink RL 13 "java/lang/IndexOutOfBoundsException") := hF.w (by decide +kernel)
  refine z_lv (lv' := [some (.ref d0), some (.int a), some (.ref o9), none]) rfl ?_
  refine z_aload_n hF dL_resolve_0 rfl ?_
  refine z_iconst (v := nI 0) hF dL_resolve_1 (by decide) ?_
  refine z_aload_n hF dL_resolve_2 rfl ?_
  refine z_iload_n hF dL_resolve_3 rfl ?_
  refine z_Vx (As := [.int a]) (rest := [.int (nI 0), .ref o9]) (ws' := [(d0, .inr (4, [.ref t0, .ref r0, .ref q0, .ref y0, .ref d1, .int (o &&& ((bitF (nI a.toNatClampNeg)) ^^^ (-1))), .int (nI v), .ref u0, .ref d2, .ref d3, .ref d4])), (r0, .inr (2, [.ref r1, .ref r2, .ref r3, .int (nI m)])), (o9, eL G 1 go)]) (st2 := [.int (zb (¬ o &&& bitF (nI a.toNatClampNeg) = 0)), .int (nI 0), .ref o9]) (c2 := 1) (s2 := 6) hF (c_X4_resolve G d0 t0 r0 q0 y0 d1 u0 d2 d3 d4 v o r1 r2 r3 m a (hm)) gL_resolve_X4_resolve rfl rfl rfl hd_X4_resolve ⟨⟨Nat.le_of_ble_eq_true rfl, Nat.le_of_ble_eq_true rfl⟩, ⟨Nat.le_of_ble_eq_true rfl, Nat.le_of_ble_eq_true rfl⟩, Nat.le_of_ble_eq_true rfl⟩ [0, 1] rfl rfl 0 rfl rfl rfl rfl rfl rfl rfl rfl rfl rfl rfl rfl dL_resolve_4 (fun c_1 => ?_) (fun c_1 => absurd c_1 (by rw [hc]; decide))
  refine z_vk hc ?_
  refine z_catch (k := 1) hF hT [] ⟨0, 16, 19, 13⟩ [] rfl (fun _ h => absurd h List.not_mem_nil) (by decide) (by decide) k_0 (by decide +kernel) (fun q9 => ?_)
  refine z_astore_n (lv' := [some (.ref d0), some (.int a), some (.ref o9), some (.ref q9)]) hF dL_resolve_19 rfl rfl ?_
  refine z_iconst (v := nI 1) hF dL_resolve_20 (by decide) ?_
  exact hR.i dL_resolve_21 (Nat.le_of_ble_eq_true rfl) (Nat.le_of_ble_eq_true rfl) (rfl) (rfl)
