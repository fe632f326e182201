set_option maxHeartbeats 4000000 in
set_option maxRecDepth 100000 in
theorem c_L_reject_0 (G : zG) (d0 t0 r0 q0 y0 d1 u0 d2 d3 d4 v : Nat) (o : Int32) (u1 u2 u3 j : Nat) (xs : Nat → Int32) (a : Int32) (o9 : Nat) (go : Nat → Int64) (hj : j ≤ 10) (hc : (fz (cmC j a) (waC (xs a.toNatClampNeg))) = 0) : zM G yL_reject wsL_reject ({ frames := 8, cells := 2, slots := 12, locals := 132 }) [.ref d0, .int a, .ref o9] [(d0, .inr (4, [.ref t0, .ref r0, .ref q0, .ref y0, .ref d1, .int o, .int (nI v), .ref u0, .ref d2, .ref d3, .ref d4])), (u0, .inr (2, [.ref u1, .ref u2, .ref u3, .int (nI j)])), (d4, eI G 10 xs), (o9, eL G 1 go)] [(d0, .inr (4, [.ref t0, .ref r0, .ref q0, .ref y0, .ref d1, .int o, .int (nI v), .ref u0, .ref d2, .ref d3, .ref d4])), (u0, .inr (2, [.ref u1, .ref u2, .ref u3, .int (nI j)])), (d4, eI G 10 (upd xs a.toNatClampNeg (nI 2))), (o9, eL G 1 (vp_updL go 0 ((nI (cntF (fun kk => upd xs a.toNatClampNeg (nI 2) kk = 0) j)).toInt64)))] (some (.int (nI 0))) 2 12 := by
  refine zM.ofIh (own := RL) (cc := cL_reject) (maxL := 4) rfl (by decide) rfl rfl (by simp [Value.category]) (Nat.le_of_ble_eq_true rfl) ?_
  intro X hF hT hR
  refine z_lv (lv' := [some (.ref d0), some (.int a), some (.ref o9), none]) rfl ?_
  refine z_aload_n hF dL_reject_0 rfl ?_
  refine z_iconst (v := nI 0) hF dL_reject_1 (by decide) ?_
  refine z_aload_n hF dL_reject_2 rfl ?_
  refine z_iload_n hF dL_reject_3 rfl ?_
  refine z_Vx (As := [.int a]) (rest := [.int (nI 0), .ref o9]) (ws' := [(d0, .inr (4, [.ref t0, .ref r0, .ref q0, .ref y0, .ref d1, .int o, .int (nI v), .ref u0, .ref d2, .ref d3, .ref d4])), (u0, .inr (2, [.ref u1, .ref u2, .ref u3, .int (nI j)])), (d4, eI G 10 (upd xs a.toNatClampNeg (nI 2))), (o9, eL G 1 go)]) (st2 := [.int (nI (cntF (fun kk => upd xs a.toNatClampNeg (nI 2) kk = 0) j)), .int (nI 0), .ref o9]) (c2 := 2) (s2 := 12) hF (c_X4_reject G d0 t0 r0 q0 y0 d1 u0 d2 d3 d4 v o u1 u2 u3 j xs a (hj)) gL_reject_X4_reject rfl rfl rfl hd_X4_reject ⟨⟨Nat.le_of_ble_eq_true rfl, Nat.le_of_ble_eq_true rfl⟩, ⟨Nat.le_of_ble_eq_true rfl, Nat.le_of_ble_eq_true rfl⟩, Nat.le_of_ble_eq_true rfl⟩ [0, 1, 2] rfl rfl 0 rfl rfl rfl rfl rfl rfl rfl rfl rfl rfl rfl rfl dL_reject_4 (fun c_1 => absurd hc c_1) (fun c_1 => ?_)
  refine z_i2l hF dL_reject_7 ?_
  refine z_last (k := 0) (ws' := [(d0, .inr (4, [.ref t0, .ref r0, .ref q0, .ref y0, .ref d1, .int o, .int (nI v), .ref u0, .ref d2, .ref d3, .ref d4])), (u0, .inr (2, [.ref u1, .ref u2, .ref u3, .int (nI j)])), (d4, eI G 10 (upd xs a.toNatClampNeg (nI 2))), (o9, eL G 1 (vp_updL go 0 ((nI (cntF (fun kk => upd xs a.toNatClampNeg (nI 2) kk = 0) j)).toInt64)))]) hF 3 rfl (rfl) (by omega) rfl rfl dL_reject_8 ?_
  refine z_goto (tgt := 18) hF dL_reject_9 (by decide) ?_
  refine z_iconst (v := nI 0) hF dL_reject_18 (by decide) ?_
  exact hR.i dL_reject_19 (Nat.le_of_ble_eq_true rfl) (Nat.le_of_ble_eq_true rfl) (rfl) (rfl)
set_option maxHeartbeats 4000000 in
set_option maxRecDepth 100000 in
theorem c_L_reject_1 (G : zG) (d0 t0 r0 q0 y0 d1 u0 d2 d3 d4 v : Nat) (o : Int32) (u1 u2 u3 j : Nat) (xs : Nat → Int32) (a : Int32) (o9 : Nat) (go : Nat → Int64) (hj : j ≤ 10) (hc : (fz (cmC j a) (waC (xs a.toNatClampNeg))) = 1) : zM G yL_reject wsL_reject ({ frames := 8, cells := 2, slots := 12, locals := 132 }) [.ref d0, .int a, .ref o9] [(d0, .inr (4, [.ref t0, .ref r0, .ref q0, .ref y0, .ref d1, .int o, .int (nI v), .ref u0, .ref d2, .ref d3, .ref d4])), (u0, .inr (2, [.ref u1, .ref u2, .ref u3, .int (nI j)])), (d4, eI G 10 xs), (o9, eL G 1 go)] [(d0, .inr (4, [.ref t0, .ref r0, .ref q0, .ref y0, .ref d1, .int o, .int (nI v), .ref u0, .ref d2, .ref d3, .ref d4])), (u0, .inr (2, [.ref u1, .ref u2, .ref u3, .int (nI j)])), (d4, eI G 10 xs), (o9, eL G 1 go)] (some (.int (nI 1))) 2 12 := by
  refine zM.ofIh (own := RL) (cc := cL_reject) (maxL := 4) rfl (by decide) rfl rfl (by simp [Value.category]) (Nat.le_of_ble_eq_true rfl) ?_
  intro X hF hT hR
  have k_0 : zH X (.classLink RL 13 "java/lang/IndexOutOfBoundsException") := hF.w (by decide +kernel)
  refine z_lv (lv' := [some (.ref d0), some (.int a), some (.ref o9), none]) rfl ?_
  refine z_aload_n hF dL_reject_0 rfl ?_
  refine z_iconst (v := nI 0) hF dL_reject_1 (by decide) ?_
  refine z_aload_n hF dL_reject_2 rfl ?_
  refine z_iload_n hF dL_reject_3 rfl ?_
  refine z_Vx (As := [.int a]) (rest := [.int (nI 0), .ref o9]) (ws' := [(d0, .inr (4, [.ref t0, .ref r0, .ref q0, .ref y0, .ref d1, .int o, .int (nI v), .ref u0, .ref d2, .ref d3, .ref d4])), (u0, .inr (2, [.ref u1, .ref u2, .ref u3, .int (nI j)])), (d4, eI G 10 (upd xs a.toNatClampNeg (nI 2))), (o9, eL G 1 go)]) (st2 := [.int (nI (cntF (fun kk => upd xs a.toNatClampNeg (nI 2) kk = 0) j)), .int (nI 0), .ref o9]) (c2 := 2) (s2 := 12) hF (c_X4_reject G d0 t0 r0 q0 y0 d1 u0 d2 d3 d4 v o u1 u2 u3 j xs a (hj)) gL_reject_X4_reject rfl rfl rfl hd_X4_reject ⟨⟨Nat.le_of_ble_eq_true rfl, Nat.le_of_ble_eq_true rfl⟩, ⟨Nat.le_of_ble_eq_true rfl, Nat.le_of_ble_eq_true rfl⟩, Nat.le_of_ble_eq_true rfl⟩ [0, 1, 2] rfl rfl 0 rfl rfl rfl rfl rfl rfl rfl rfl rfl rfl rfl rfl dL_reject_4 (fun c_1 => ?_) (fun c_1 => absurd c_1 (by rw [hc]; decide))
  refine z_vk hc ?_
  refine z_catch (k := 1) hF hT [] ⟨0, 9, 12, 13⟩ [⟨0, 9, 15, 17⟩] rfl (fun _ h => absurd h List.not_mem_nil) (by decide) (by decide) k_0 (by decide +kernel) (fun q9 => ?_)
  refine z_astore_n (lv' := [some (.ref d0), some (.int a), some (.ref o9), some (.ref q9)]) hF dL_reject_12 rfl rfl ?_
  refine z_iconst (v := nI 1) hF dL_reject_13 (by decide) ?_
  exact hR.i dL_reject_14 (Nat.le_of_ble_eq_true rfl) (Nat.le_of_ble_eq_true rfl) (rfl) (rfl)
set_option maxHeartbeats 4000000 in
set_option maxRecDepth 100000 in
theorem c_L_reject_3 (G : zG) (d0 t0 r0 q0 y0 d1 u0 d2 d3 d4 v : Nat) (o : Int32) (u1 u2 u3 j : Nat) (xs : Nat → Int32) (a : Int32) (o9 : Nat) (go : Nat → Int64) (hj : j ≤ 10) (hc : (fz (cmC j a) (waC (xs a.toNatClampNeg))) = 3) : zM G yL_reject wsL_reject ({ frames := 8, cells := 2, slots := 12, locals := 132 }) [.ref d0, .int a, .ref o9] [(d0, .inr (4, [.ref t0, .ref r0, .ref q0, .ref y0, .ref d1, .int o, .int (nI v), .ref u0, .ref d2, .ref d3, .ref d4])), (u0, .inr (2, [.ref u1, .ref u2, .ref u3, .int (nI j)])), (d4, eI G 10 xs), (o9, eL G 1 go)] [(d0, .inr (4, [.ref t0, .ref r0, .ref q0, .ref y0, .ref d1, .int o, .int (nI v), .ref u0, .ref d2, .ref d3, .ref d4])), (u0, .inr (2, [.ref u1, .ref u2, .ref u3, .int (nI j)])), (d4, eI G 10 xs), (o9, eL G 1 go)] (some (.int (nI 2))) 2 12 := by
  refine zM.ofIh (own := RL) (cc := cL_reject) (maxL := 4) rfl (by decide) rfl rfl (by simp [Value.category]) (Nat.le_of_ble_eq_true rfl) ?_
  intro X hF hT hR
  have k_0 : zH X (.classLink RL 13 "java/lang/IndexOutOfBoundsException") := hF.w (by decide +kernel)
  have k_1 : zH X (.classLink RL 17 "java/lang/IllegalStateException") := hF.w (by decide +kernel)
  refine z_lv (lv' := [some (.ref d0), some (.int a), some (.ref o9), none]) rfl ?_
  refine z_aload_n hF dL_reject_0 rfl ?_
  refine z_iconst (v := nI 0) hF dL_reject_1 (by decide) ?_
  refine z_aload_n hF dL_reject_2 rfl ?_
  refine z_iload_n hF dL_reject_3 rfl ?_
  refine z_Vx (As := [.int a]) (rest := [.int (nI 0), .ref o9]) (ws' := [(d0, .inr (4, [.ref t0, .ref r0, .ref q0, .ref y0, .ref d1, .int o, .int (nI v), .ref u0, .ref d2, .ref d3, .ref d4])), (u0, .inr (2, [.ref u1, .ref u2, .ref u3, .int (nI j)])), (d4, eI G 10 (upd xs a.toNatClampNeg (nI 2))), (o9, eL G 1 go)]) (st2 := [.int (nI (cntF (fun kk => upd xs a.toNatClampNeg (nI 2) kk = 0) j)), .int (nI 0), .ref o9]) (c2 := 2) (s2 := 12) hF (c_X4_reject G d0 t0 r0 q0 y0 d1 u0 d2 d3 d4 v o u1 u2 u3 j xs a (hj)) gL_reject_X4_reject rfl rfl rfl hd_X4_reject ⟨⟨Nat.le_of_ble_eq_true rfl, Nat.le_of_ble_eq_true rfl⟩, ⟨Nat.le_of_ble_eq_true rfl, Nat.le_of_ble_eq_true rfl⟩, Nat.le_of_ble_eq_true rfl⟩ [0, 1, 2] rfl rfl 0 rfl rfl rfl rfl rfl rfl rfl rfl rfl rfl rfl rfl dL_reject_4 (fun c_1 => ?_) (fun c_1 => absurd c_1 (by rw [hc]; decide))
  refine z_vk hc ?_
  refine z_catch (k := 3) hF hT [⟨0, 9, 12, 13⟩] ⟨0, 9, 15, 17⟩ [] rfl (List.forall_mem_cons.mpr ⟨Or.inr ⟨by decide, _, k_0, by decide +kernel⟩, fun _ h => absurd h List.not_mem_nil⟩) (by decide) (by decide) k_1 (by decide +kernel) (fun q9 => ?_)
  refine z_astore_n (lv' := [some (.ref d0), some (.int a), some (.ref o9), some (.ref q9)]) hF dL_reject_15 rfl rfl ?_
  refine z_iconst (v := nI 2) hF dL_reject_16 (by decide) ?_
  exact hR.i dL_reject_17 (Nat.le_of_ble_eq_true rfl) (Nat.le_of_ble_eq_true rfl) (rfl) (rfl)
set_option maxHeartbeats 4000000 in
set_option maxRecDepth 100000 in
theorem c_L_stateOf_0 (G : zG) (d0 t0 r0 q0 y0 d1 u0 d2 d3 d4 v : Nat) (o : Int32) (u1 u2 u3 j : Nat) (xs : Nat → Int32) (a : Int32) (o9 : Nat) (go : Nat → Int64) (hj : j ≤ 10) (hc : (cmC j a) = 0) : zM G yL_stateOf wsL_stateOf ({ frames := 8, cells := 1, slots := 6, locals := 132 }) [.ref d0, .int a, .ref o9] [(d0, .inr (4, [.ref t0, .ref r0, .ref q0, .ref y0, .ref d1, .int o, .int (nI v), .ref u0, .ref d2, .ref d3, .ref d4])), (u0, .inr (2, [.ref u1, .ref u2, .ref u3, .int (nI j)])), (d4, eI G 10 xs), (o9, eL G 1 go)] [(d0, .inr (4, [.ref t0, .ref r0, .ref q0, .ref y0, .ref d1, .int o, .int (nI v), .ref u0, .ref d2, .ref d3, .ref d4])), (u0, .inr (2, [.ref u1, .ref u2, .ref u3, .int (nI j)])), (d4, eI G 10 xs), (o9, eL G 1 (vp_updL go 0 ((xs a.toNatClampNeg).toInt64)))] (some (.int (nI 0))) 1 6 := by
  refine zM.ofIh (own := RL) (cc := cL_stateOf) (maxL := 4) rfl (by decide) rfl rfl (by simp [Value.category]) (Nat.le_of_ble_eq_true rfl) ?_
  intro X hF hT hR
  refine z_lv (lv' := [some (.ref d0), some (.int a), some (.ref o9), none]) rfl ?_
  refine z_aload_n hF dL_stateOf_0 rfl ?_
  refine z_iconst (v := nI 0) hF dL_stateOf_1 (by decide) ?_
  refine z_aload_n hF dL_stateOf_2 rfl ?_
  refine z_iload_n hF dL_stateOf_3 rfl ?_
  refine z_Vx (As := [.int a]) (rest := [.int (nI 0), .ref o9]) (ws' := [(d0, .inr (4, [.ref t0, .ref r0, .ref q0, .ref y0, .ref d1, .int o, .int (nI v), .ref u0, .ref d2, .ref d3, .ref d4])), (u0, .inr (2, [.ref u1, .ref u2, .ref u3, .int (nI j)])), (d4, eI G 10 xs), (o9, eL G 1 go)]) (st2 := [.int (xs a.toNatClampNeg), .int (nI 0), .ref o9]) (c2 := 1) (s2 := 6) hF (c_X4_stateOf G d0 t0 r0 q0 y0 d1 u0 d2 d3 d4 v o u1 u2 u3 j xs a (hj)) gL_stateOf_X4_stateOf rfl rfl rfl hd_X4_stateOf ⟨⟨Nat.le_of_ble_eq_true rfl, Nat.le_of_ble_eq_true rfl⟩, ⟨Nat.le_of_ble_eq_true rfl, Nat.le_of_ble_eq_true rfl⟩, Nat.le_of_ble_eq_true rfl⟩ [0, 1, 2] rfl rfl 0 rfl rfl rfl rfl rfl rfl rfl rfl rfl rfl rfl rfl dL_stateOf_4 (fun c_1 => absurd hc c_1) (fun c_1 => ?_)
  refine z_i2l hF dL_stateOf_7 ?_
  refine z_last (k := 0) (ws' := [(d0, .inr (4, [.ref t0, .ref r0, .ref q0, .ref y0, .ref d1, .int o, .int (nI v), .ref u0, .ref d2, .ref d3, .ref d4])), (u0, .inr (2, [.ref u1, .ref u2, .ref u3, .int (nI j)])), (d4, eI G 10 xs), (o9, eL G 1 (vp_updL go 0 ((xs a.toNatClampNeg).toInt64)))]) hF 3 rfl (rfl) (by omega) rfl rfl dL_stateOf_8 ?_
  refine z_goto (tgt := 15) hF dL_stateOf_9 (by decide) ?_
  refine z_iconst (v := nI 0) hF dL_stateOf_15 (by decide) ?_
  exact hR.i dL_stateOf_16 (Nat.le_of_ble_eq_true rfl) (Nat.le_of_ble_eq_true rfl) (rfl) (rfl)
set_option maxHeartbeats 4000000 in
set_option maxRecDepth 100000 in
theorem c_L_stateOf_1 (G : zG) (d0 t0 r0 q0 y0 d1 u0 d2 d3 d4 v : Nat) (o : Int32) (u1 u2 u3 j : Nat) (xs : Nat → Int32) (a : Int32) (o9 : Nat) (go : Nat → Int64) (hj : j ≤ 10) (hc : (cmC j a) = 1) : zM G yL_stateOf wsL_stateOf ({ frames := 8, cells := 1, slots := 6, locals := 132 }) [.ref d0, .int a, .ref o9] [(d0, .inr (4, [.ref t0, .ref r0, .ref q0, .ref y0, .ref d1, .int o, .int (nI v), .ref u0, .ref d2, .ref d3, .ref d4])), (u0, .inr (2, [.ref u1, .ref u2, .ref u3, .int (nI j)])), (d4, eI G 10 xs), (o9, eL G 1 go)] [(d0, .inr (4, [.ref t0, .ref r0, .ref q0, .ref y0, .ref d1, .int o, .int (nI v), .ref u0, .ref d2, .ref d3, .ref d4])), (u0, .inr (2, [.ref u1, .ref u2, .ref u3, .int (nI j)])), (d4, eI G 10 xs), (o9, eL G 1 go)] (some (.int (nI 1))) 1 6 := by
  refine zM.ofIh (own := RL) (cc := cL_stateOf) (maxL := 4) rfl (by decide) rfl rfl (by simp [Value.category]) (Nat.le_of_ble_eq_true rfl) ?_
  intro X hF hT hR
  have k_0 : zH X (.classLink RL 13 "java/lang/IndexOutOfBoundsException") := hF.w (by decide +kernel)
  refine z_lv (lv' := [some (.ref d0), some (.int a), some (.ref o9), none]) rfl ?_
  refine z_aload_n hF dL_stateOf_0 rfl ?_
  refine z_iconst (v := nI 0) hF dL_stateOf_1 (by decide) ?_
  refine z_aload_n hF dL_stateOf_2 rfl ?_
  refine z_iload_n hF dL_stateOf_3 rfl ?_
  refine z_Vx (As := [.int a]) (rest := [.int (nI 0), .ref o9]) (ws' := [(d0, .inr (4, [.ref t0, .ref r0, .ref q0, .ref y0, .ref d1, .int o, .int (nI v), .ref u0, .ref d2, .ref d3, .ref d4])), (u0, .inr (2, [.ref u1, .ref u2, .ref u3, .int (nI j)])), (d4, eI G 10 xs), (o9, eL G 1 go)]) (st2 := [.int (xs a.toNatClampNeg), .int (nI 0), .ref o9]) (c2 := 1) (s2 := 6) hF (c_X4_stateOf G d0 t0 r0 q0 y0 d1 u0 d2 d3 d4 v o u1 u2 u3 j xs a (hj)) gL_stateOf_X4_stateOf rfl rfl rfl hd_X4_stateOf ⟨⟨Nat.le_of_ble_eq_true rfl, Nat.le_of_ble_eq_true rfl⟩, ⟨Nat.le_of_ble_eq_true rfl, Nat.le_of_ble_eq_true rfl⟩, Nat.le_of_ble_eq_true rfl⟩ [0, 1, 2] rfl rfl 0 rfl rfl rfl rfl rfl rfl rfl rfl rfl rfl rfl rfl dL_stateOf_4 (fun c_1 => ?_) (fun c_1 => absurd c_1 (by rw [hc]; decide))
  refine z_vk hc ?_
  refine z_catch (k := 1) hF hT [] ⟨0, 9, 12, 13⟩ [] rfl (fun _ h => absurd h List.not_mem_nil) (by decide) (by decide) k_0 (by decide +kernel) (fun q9 => ?_)
  refine z_astore_n (lv' := [some (.ref d0), some (.int a), some (.ref o9), some (.ref q9)]) hF dL_stateOf_12 rfl rfl ?_
  refine z_iconst (v := nI 1) hF dL_stateOf_13 (by decide) ?_
  exact hR.i dL_stateOf_14 (Nat.le_of_ble_eq_true rfl) (Nat.le_of_ble_eq_true rfl) (rfl) (rfl)
set_option maxHeartbeats 4000000 in
set_option maxRecDepth 100000 in
theorem c_L_overlaps_0 (G : zG) (d0 t0 r0 q0 y0 d1 u0 d2 d3 d4 v : Nat) (o : Int32) (u1 u2 u3 j : Nat) (b2 : Nat → Int32) (e2 : Nat → Int32) (xs : Nat → Int32) (a : Int32) (o9 : Nat) (go : Nat → Int64) (hj : j ≤ 10) (hc : (cmC j a) = 0) : zM G yL_overlaps wsL_overlaps ({ frames := 8, cells := 1, slots := 6, locals := 132 }) [.ref d0, .int a, .ref o9] [(d0, .inr (4, [.ref t0, .ref r0, .ref q0, .ref y0, .ref d1, .int o, .int (nI v), .ref u0, .ref d2, .ref d3, .ref d4])), (u0, .inr (2, [.ref u1, .ref u2, .ref u3, .int (nI j)])), (u1, eI G 12 b2), (u2, eI G 12 e2), (d4, eI G 10 xs), (o9, eL G 1 go)] [(d0, .inr (4, [.ref t0, .ref r0, .ref q0, .ref y0, .ref d1, .int o, .int (nI v), .ref u0, .ref d2, .ref d3, .ref d4])), (u0, .inr (2, [.ref u1, .ref u2, .ref u3, .int (nI j)])), (u1, eI G 12 b2), (u2, eI G 12 e2), (d4, eI G 10 xs), (o9, eL G 1 (vp_updL go 0 ((ovF b2 e2 xs a.toNatClampNeg j).toInt64)))] (some (.int (nI 0))) 1 6 := by
  refine zM.ofIh (own := RL) (cc := cL_overlaps) (maxL := 4) rfl (by decide) rfl rfl (by simp [Value.category]) (Nat.le_of_ble_eq_true rfl) ?_
  intro X hF hT hR
  refine z_lv (lv' := [some (.ref d0), some (.int a), some (.ref o9), none]) rfl ?_
  refine z_aload_n hF dL_overlaps_0 rfl ?_
  refine z_iconst (v := nI 0) hF dL_overlaps_1 (by decide) ?_
  refine z_aload_n hF dL_overlaps_2 rfl ?_
  refine z_iload_n hF dL_overlaps_3 rfl ?_
  refine z_Vx (As := [.int a]) (rest := [.int (nI 0), .ref o9]) (ws' := [(d0, .inr (4, [.ref t0, .ref r0, .ref q0, .ref y0, .ref d1, .int o, .int (nI v), .ref u0, .ref d2, .ref d3, .ref d4])), (u0, .inr (2, [.ref u1, .ref u2, .ref u3, .int (nI j)])), (u1, eI G 12 b2), (u2, eI G 12 e2), (d4, eI G 10 xs), (o9, eL G 1 go)]) (st2 := [.int (ovF b2 e2 xs a.toNatClampNeg j), .int (nI 0), .ref o9]) (c2 := 1) (s2 := 6) hF (c_X4_overlaps G d0 t0 r0 q0 y0 d1 u0 d2 d3 d4 v o u1 u2 u3 j b2 e2 xs a (hj)) gL_overlaps_X4_overlaps rfl rfl rfl hd_X4_overlaps ⟨⟨Nat.le_of_ble_eq_true rfl, Nat.le_of_ble_eq_true rfl⟩, ⟨Nat.le_of_ble_eq_true rfl, Nat.le_of_ble_eq_true rfl⟩, Nat.le_of_ble_eq_true rfl⟩ [0, 1, 2, 3, 4] rfl rfl 0 rfl rfl rfl rfl rfl rfl rfl rfl rfl rfl rfl rfl dL_overlaps_4 (fun c_1 => absurd hc c_1) (fun c_1 => ?_)
  refine z_i2l hF dL_overlaps_7 ?_
  refine z_last (k := 0) (ws' := [(d0, .inr (4, [.ref t0, .ref r0, .ref q0, .ref y0, .ref d1, .int o, .int (nI v), .ref u0, .ref d2, .ref d3, .ref d4])), (u0, .inr (2, [.ref u1, .ref u2, .ref u3, .int (nI j)])), (u1, eI G 12 b2), (u2, eI G 12 e2), (d4, eI G 10 xs), (o9, eL G 1 (vp_updL go 0 ((ovF b2 e2 xs a.toNatClampNeg j).toInt64)))]) hF 5 rfl (rfl) (by omega) rfl rfl dL_overlaps_8 ?_
  refine z_goto (tgt := 15) hF dL_overlaps_9 (by decide) ?_
  refine z_iconst (v := nI 0) hF dL_overlaps_15 (by decide) ?_
  exact hR.i dL_overlaps_16 (Nat.le_of_ble_eq_true rfl) (Nat.le_of_ble_eq_true rfl) (rfl) (rfl)
set_option maxHeartbeats 4000000 in
set_option maxRecDepth 100000 in
theorem c_L_overlaps_1 (G : zG) (d0 t0 r0 q0 y0 d1 u0 d2 d3 d4 v : Nat) (o : Int32) (u1 u2 u3 j : Nat) (b2 : Nat → Int32) (e2 : Nat → Int32) (xs : Nat → Int32) (a : Int32) (o9 : Nat) (go : Nat → Int64) (hj : j ≤ 10) (hc : (cmC j a) = 1) : zM G yL_overlaps wsL_overlaps ({ frames := 8, cells := 1, slots := 6, locals := 132 }) [.ref d0, .int a, .ref o9] [(d0, .inr (4, [.ref t0, .ref r0, .ref q0, .ref y0, .ref d1, .int o, .int (nI v), .ref u0, .ref d2, .ref d3, .ref d4])), (u0, .inr (2, [.ref u1, .ref u2, .ref u3, .int (nI j)])), (u1, eI G 12 b2), (u2, eI G 12 e2), (d4, eI G 10 xs), (o9, eL G 1 go)] [(d0, .inr (4, [.ref t0, .ref r0, .ref q0, .ref y0, .ref d1, .int o, .int (nI v), .ref u0, .ref d2, .ref d3, .ref d4])), (u0, .inr (2, [.ref u1, .ref u2, .ref u3, .int (nI j)])), (u1, eI G 12 b2), (u2, eI G 12 e2), (d4, eI G 10 xs), (o9, eL G 1 go)] (some (.int (nI 1))) 1 6 := by
  refine zM.ofIh (own := RL) (cc := cL_overlaps) (maxL := 4) rfl (by decide) rfl rfl (by simp [Value.category]) (Nat.le_of_ble_eq_true rfl) ?_
  intro X hF hT hR
  have k_0 : zH X (.classLink RL 13 "java/lang/IndexOutOfBoundsException") := hF.w (by decide +kernel)
  refine z_lv (lv' := [some (.ref d0), some (.int a), some (.ref o9), none]) rfl ?_
  refine z_aload_n hF dL_overlaps_0 rfl ?_
  refine z_iconst (v := nI 0) hF dL_overlaps_1 (by decide) ?_
  refine z_aload_n hF dL_overlaps_2 rfl ?_
  refine z_iload_n hF dL_overlaps_3 rfl ?_
  refine z_Vx (As := [.int a]) (rest := [.int (nI 0), .ref o9]) (ws' := [(d0, .inr (4, [.ref t0, .ref r0, .ref q0, .ref y0, .ref d1, .int o, .int (nI v), .ref u0, .ref d2, .ref d3, .ref d4])), (u0, .inr (2, [.ref u1, .ref u2, .ref u3, .int (nI j)])), (u1, eI G 12 b2), (u2, eI G 12 e2), (d4, eI G 10 xs), (o9, eL G 1 go)]) (st2 := [.int (ovF b2 e2 xs a.toNatClampNeg j), .int (nI 0), .ref o9]) (c2 := 1) (s2 := 6) hF (c_X4_overlaps G d0 t0 r0 q0 y0 d1 u0 d2 d3 d4 v o u1 u2 u3 j b2 e2 xs a (hj)) gL_overlaps_X4_overlaps rfl rfl rfl hd_X4_overlaps ⟨⟨Nat.le_of_ble_eq_true rfl, Nat.le_of_ble_eq_true rfl⟩, ⟨Nat.le_of_ble_eq_true rfl, Nat.le_of_ble_eq_true rfl⟩, Nat.le_of_ble_eq_true rfl⟩ [0, 1, 2, 3, 4] rfl rfl 0 rfl rfl rfl rfl rfl rfl rfl rfl rfl rfl rfl rfl dL_overlaps_4 (fun c_1 => ?_) (fun c_1 => absurd c_1 (by rw [hc]; decide))
  refine z_vk hc ?_
  refine z_catch (k := 1) hF hT [] ⟨0, 9, 12, 13⟩ [] rfl (fun _ h => absurd h List.not_mem_nil) (by decide) (by decide) k_0 (by decide +kernel) (fun q9 => ?_)
  refine z_astore_n (lv' := [some (.ref d0), some (.int a), some (.ref o9), some (.ref q9)]) hF dL_overlaps_12 rfl rfl ?_
  refine z_iconst (v := nI 1) hF dL_overlaps_13 (by decide) ?_
  exact hR.i dL_overlaps_14 (Nat.le_of_ble_eq_true rfl) (Nat.le_of_ble_eq_true rfl) (rfl) (rfl)
