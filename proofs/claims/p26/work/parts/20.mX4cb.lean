set_option maxHeartbeats 4000000 in
set_option maxRecDepth 100000 in
theorem c_X4_resolve (G : zG) (d0 t0 r0 q0 y0 d1 u0 d2 d3 d4 v : Nat) (o : Int32) (r1 r2 r3 m : Nat) (a : Int32) (hm : m ≤ 12) : zX G yX4_resolve wsX4_resolve ({ frames := 7, cells := 1, slots := 6, locals := 111 }) [.ref d0, .int a] [(d0, .inr (4, [.ref t0, .ref r0, .ref q0, .ref y0, .ref d1, .int o, .int (nI v), .ref u0, .ref d2, .ref d3, .ref d4])), (r0, .inr (2, [.ref r1, .ref r2, .ref r3, .int (nI m)]))] [(d0, .inr (4, [.ref t0, .ref r0, .ref q0, .ref y0, .ref d1, .int (o &&& ((bitF (nI a.toNatClampNeg)) ^^^ (-1))), .int (nI v), .ref u0, .ref d2, .ref d3, .ref d4])), (r0, .inr (2, [.ref r1, .ref r2, .ref r3, .int (nI m)]))] (cmC m a) (some (.int (zb (¬ o &&& bitF (nI a.toNatClampNeg) = 0)))) 1 6 := by
  refine zX.ofI (own := RX4) (cc := cX4_resolve) (maxL := 3) rfl (by decide) rfl zb_nar (by simp [Value.category]) (Nat.le_of_ble_eq_true rfl) ?_
  intro X hF hZ hR
  have k_0 : ∀ w ∈ wsX40, w ∈ wsX4_resolve := by decide +kernel
  have k_1 : zH X (.fieldLink RX4 41 "MarginDesk" "openSet" "I") := hF.w (by decide +kernel)
  refine z_lv (lv' := [some (.ref d0), some (.int a), none]) rfl ?_
  refine z_aload_n hF dX4_resolve_0 rfl ?_
  refine z_iload_n hF dX4_resolve_1 rfl ?_
  refine z_Vx (As := [.int a]) (rest := []) (ws' := [(d0, .inr (4, [.ref t0, .ref r0, .ref q0, .ref y0, .ref d1, .int o, .int (nI v), .ref u0, .ref d2, .ref d3, .ref d4])), (r0, .inr (2, [.ref r1, .ref r2, .ref r3, .int (nI m)]))]) (st2 := []) (c2 := 1) (s2 := 6) hF (c_X4_checkComment G d0 t0 r0 q0 y0 d1 u0 d2 d3 d4 v o r1 r2 r3 m a) gX4_resolve_X4_checkComment rfl rfl rfl hd_X4_checkComment ⟨⟨Nat.le_of_ble_eq_true rfl, Nat.le_of_ble_eq_true rfl⟩, ⟨Nat.le_of_ble_eq_true rfl, Nat.le_of_ble_eq_true rfl⟩, Nat.le_of_ble_eq_true rfl⟩ [0, 1] rfl rfl 0 rfl rfl rfl rfl rfl rfl rfl rfl rfl rfl rfl rfl dX4_resolve_2 (fun h1 => hZ.x (Nat.le_of_ble_eq_true rfl) (Nat.le_of_ble_eq_true rfl) (fun _ => by simp [fz, h1]) h1 rfl) (fun h1 => ?_)
  have ha := cmC_0 (by omega) h1
  refine z_lv (lv' := [some (.ref d0), some (.int (nI a.toNatClampNeg)), none]) (by rw [← ha.1]) ?_
  have J_22 : zJ G X 22 [(d0, .inr (4, [.ref t0, .ref r0, .ref q0, .ref y0, .ref d1, .int o, .int (nI v), .ref u0, .ref d2, .ref d3, .ref d4])), (r0, .inr (2, [.ref r1, .ref r2, .ref r3, .int (nI m)]))] [some (.ref d0), some (.int (nI a.toNatClampNeg)), none] [.int (zb (¬ o &&& bitF (nI a.toNatClampNeg) = 0))] 1 6 := by
    refine z_istore_n (lv' := [some (.ref d0), some (.int (nI a.toNatClampNeg)), some (.int (zb (¬ o &&& bitF (nI a.toNatClampNeg) = 0)))]) hF dX4_resolve_22 rfl rfl ?_
    refine z_aload_n hF dX4_resolve_23 rfl ?_
    refine z_dup hF dX4_resolve_24 rfl ?_
    refine z_get (C := RX4) (T := TX4) (N := 11) (ci := 4) (v := .int o) hF k_0 5 (by decide) rfl k_1 rfl 0 rfl rfl dX4_resolve_25 ?_
    refine z_iload_n hF dX4_resolve_28 rfl ?_
    refine z_S (As := [.int (nI a.toNatClampNeg)]) (rest := [.int o, .ref d0]) (ws' := [(d0, .inr (4, [.ref t0, .ref r0, .ref q0, .ref y0, .ref d1, .int o, .int (nI v), .ref u0, .ref d2, .ref d3, .ref d4])), (r0, .inr (2, [.ref r1, .ref r2, .ref r3, .int (nI m)]))]) (st2 := [.int (bitF (nI a.toNatClampNeg)), .int o, .ref d0]) (c2 := 1) (s2 := 6) hF (c_X4_bit G (nI a.toNatClampNeg)) gX4_resolve_X4_bit rfl rfl rfl hs_X4_bit ⟨⟨Nat.le_of_ble_eq_true rfl, Nat.le_of_ble_eq_true rfl⟩, ⟨Nat.le_of_ble_eq_true rfl, Nat.le_of_ble_eq_true rfl⟩, Nat.le_of_ble_eq_true rfl⟩ [] rfl rfl rfl rfl rfl rfl rfl rfl rfl rfl dX4_resolve_29 ?_
    refine z_iconst (v := -1) hF dX4_resolve_32 (by decide) ?_
    refine z_ixor hF dX4_resolve_33 ?_
    refine z_iand hF dX4_resolve_34 ?_
    refine z_put (C := RX4) (T := TX4) (N := 11) (ci := 4) (ws' := [(d0, .inr (4, [.ref t0, .ref r0, .ref q0, .ref y0, .ref d1, .int (o &&& ((bitF (nI a.toNatClampNeg)) ^^^ (-1))), .int (nI v), .ref u0, .ref d2, .ref d3, .ref d4])), (r0, .inr (2, [.ref r1, .ref r2, .ref r3, .int (nI m)]))]) hF k_0 tyX4 tyX4_ok nmX4 5 (by decide) rfl k_1 rfl rfl rfl rfl 0 rfl rfl rfl dX4_resolve_35 ?_
    refine z_iload_n hF dX4_resolve_38 rfl ?_
    exact (hR (by simp [fz, h1])).i dX4_resolve_39 (Nat.le_of_ble_eq_true rfl) (Nat.le_of_ble_eq_true rfl) (rfl) (rfl)
  refine z_aload_n hF dX4_resolve_5 rfl ?_
  refine z_get (C := RX4) (T := TX4) (N := 11) (ci := 4) (v := .int o) hF k_0 5 (by decide) rfl k_1 rfl 0 rfl rfl dX4_resolve_6 ?_
  refine z_iload_n hF dX4_resolve_9 rfl ?_
  refine z_S (As := [.int (nI a.toNatClampNeg)]) (rest := [.int o]) (ws' := [(d0, .inr (4, [.ref t0, .ref r0, .ref q0, .ref y0, .ref d1, .int o, .int (nI v), .ref u0, .ref d2, .ref d3, .ref d4])), (r0, .inr (2, [.ref r1, .ref r2, .ref r3, .int (nI m)]))]) (st2 := [.int (bitF (nI a.toNatClampNeg)), .int o]) (c2 := 1) (s2 := 6) hF (c_X4_bit G (nI a.toNatClampNeg)) gX4_resolve_X4_bit rfl rfl rfl hs_X4_bit ⟨⟨Nat.le_of_ble_eq_true rfl, Nat.le_of_ble_eq_true rfl⟩, ⟨Nat.le_of_ble_eq_true rfl, Nat.le_of_ble_eq_true rfl⟩, Nat.le_of_ble_eq_true rfl⟩ [] rfl rfl rfl rfl rfl rfl rfl rfl rfl rfl dX4_resolve_10 ?_
  refine z_iand hF dX4_resolve_13 ?_
  refine z_if_eq (tgt := 21) hF dX4_resolve_14 (by decide) (fun c_1 => ?_) (fun c_1 => ?_)
  · refine z_iconst (v := nI 0) hF dX4_resolve_21 (by decide) ?_
    refine z_top (y := zb (¬ o &&& bitF (nI a.toNatClampNeg) = 0)) (zb0 (by first | assumption | grind)) ?_
    exact J_22  
  · refine z_iconst (v := nI 1) hF dX4_resolve_17 (by decide) ?_
    refine z_goto (tgt := 22) hF dX4_resolve_18 (by decide) ?_
    refine z_top (y := zb (¬ o &&& bitF (nI a.toNatClampNeg) = 0)) (zb1 (by first | assumption | grind)) ?_
    exact J_22  
set_option maxHeartbeats 4000000 in
set_option maxRecDepth 100000 in
theorem c_X4_find0 (G : zG) (d0 t0 r0 q0 y0 d1 u0 d2 d3 d4 v : Nat) (o : Int32) (t1 t2 n : Nat) (f : Nat → Int32) (g : Nat → Int32) (r1 r2 r3 m : Nat) (b : Nat → Int32) (e : Nat → Int32) (q1 q2 q3 q4 : Nat) (ql : Nat → Int32) (qs : Nat → Int32) (qa : Nat → Int32) (qb : Nat → Int32) (a : Int32) (z : Nat) (hn : n ≤ 60) (hm : m ≤ 12) (hz : cmC m a = 0 → qs a.toNatClampNeg = nI z) (hz2 : z ≤ 60) (h0 : bfF n z a.toNatClampNeg ql qa qb f = -1) : zX G yX4_find wsX4_find ({ frames := 7, cells := 2, slots := 12, locals := 111 }) [.ref d0, .int a] [(d0, .inr (4, [.ref t0, .ref r0, .ref q0, .ref y0, .ref d1, .int o, .int (nI v), .ref u0, .ref d2, .ref d3, .ref d4])), (r0, .inr (2, [.ref r1, .ref r2, .ref r3, .int (nI m)])), (r1, eI G 12 b), (r2, eI G 12 e), (q0, .inr (1, [.ref q1, .ref q2, .ref q3, .ref q4])), (q1, eI G 720 ql), (q2, eI G 12 qs), (q3, eI G 12 qa), (q4, eI G 12 qb), (t0, .inr (3, [.ref t1, .ref t2, .int (nI n)])), (t1, eI G 60 f), (t2, eI G 60 g)] [(d0, .inr (4, [.ref t0, .ref r0, .ref q0, .ref y0, .ref d1, .int o, .int (nI v), .ref u0, .ref d2, .ref d3, .ref d4])), (r0, .inr (2, [.ref r1, .ref r2, .ref r3, .int (nI m)])), (r1, eI G 12 b), (r2, eI G 12 e), (q0, .inr (1, [.ref q1, .ref q2, .ref q3, .ref q4])), (q1, eI G 720 ql), (q2, eI G 12 qs), (q3, eI G 12 qa), (q4, eI G 12 qb), (t0, .inr (3, [.ref t1, .ref t2, .int (nI n)])), (t1, eI G 60 f), (t2, eI G 60 g)] (fz (cmC m a) (if b a.toNatClampNeg = -1 then 0 else 3)) (some (.int (bfF n z a.toNatClampNeg ql qa qb f))) 2 12 := by
  refine zX.ofI (own := RX4) (cc := cX4_find) (maxL := 4) rfl (by decide) rfl rfl (by simp [Value.category]) (Nat.le_of_ble_eq_true rfl) ?_
  intro X hF hZ hR
  have k_0 : ∀ w ∈ wsX40, w ∈ wsX4_find := by decide +kernel
  have k_1 : zH X (.fieldLink RX4 19 "MarginDesk" "commentRanges" "LMarginDesk$Ranges;") := hF.w (by decide +kernel)
  have k_2 : zH X (.initialized RX2) := hF.w (by decide +kernel)
  have k_3 : zH X (.instanceMethod yX2_isGone) := hF.w (by decide +kernel)
  have k_4 : zH X (.selects RX2 yX2_isGone yX2_isGone) := hF.w (by decide +kernel)
  have k_5 : zH X (.fieldLink RX4 26 "MarginDesk" "quotes" "LMarginDesk$Quotes;") := hF.w (by decide +kernel)
  have k_6 : zH X (.fieldLink RX4 10 "MarginDesk" "text" "LMarginDesk$Text;") := hF.w (by decide +kernel)
  have k_7 : zH X (.initialized RX1) := hF.w (by decide +kernel)
  have k_8 : zH X (.instanceMethod yX1_bestPlace) := hF.w (by decide +kernel)
  have k_9 : zH X (.selects RX1 yX1_bestPlace yX1_bestPlace) := hF.w (by decide +kernel)
  have k_10 : zH X (.classLink RX4 95 "java/lang/IllegalStateException") := hF.w (by decide +kernel)
  have k_11 : zH X (.initialized "java/lang/IllegalStateException") := hF.w (by decide +kernel)
  have k_12 : ∀ w ∈ (vx_atS RX4 99 (zEx 3) [zRun, zExc]).filter goodWord, w ∈ wsX4_find := by first | exact fun _ h => List.mem_cons_of_mem _ (List.mem_append_right _ h) | exact fun _ h => List.mem_cons_of_mem _ (List.mem_append_left _ (List.mem_append_right _ h)) | exact fun _ h => List.mem_cons_of_mem _ (List.mem_append_left _ (List.mem_append_left _ (List.mem_append_right _ h))) | exact fun _ h => List.mem_cons_of_mem _ (List.mem_append_left _ (List.mem_append_left _ (List.mem_append_left _ (List.mem_append_right _ h)))) | exact fun _ h => List.mem_cons_of_mem _ (List.mem_append_left _ (List.mem_append_left _ (List.mem_append_left _ (List.mem_append_left _ (List.mem_append_right _ h))))) | decide +kernel
  refine z_lv (lv' := [some (.ref d0), some (.int a), none, none]) rfl ?_
  refine z_aload_n hF dX4_find_0 rfl ?_
  refine z_iload_n hF dX4_find_1 rfl ?_
  refine z_Vx (As := [.int a]) (rest := []) (ws' := [(d0, .inr (4, [.ref t0, .ref r0, .ref q0, .ref y0, .ref d1, .int o, .int (nI v), .ref u0, .ref d2, .ref d3, .ref d4])), (r0, .inr (2, [.ref r1, .ref r2, .ref r3, .int (nI m)])), (r1, eI G 12 b), (r2, eI G 12 e), (q0, .inr (1, [.ref q1, .ref q2, .ref q3, .ref q4])), (q1, eI G 720 ql), (q2, eI G 12 qs), (q3, eI G 12 qa), (q4, eI G 12 qb), (t0, .inr (3, [.ref t1, .ref t2, .int (nI n)])), (t1, eI G 60 f), (t2, eI G 60 g)]) (st2 := []) (c2 := 1) (s2 := 6) hF (c_X4_checkComment G d0 t0 r0 q0 y0 d1 u0 d2 d3 d4 v o r1 r2 r3 m a) gX4_find_X4_checkComment rfl rfl rfl hd_X4_checkComment ⟨⟨Nat.le_of_ble_eq_true rfl, Nat.le_of_ble_eq_true rfl⟩, ⟨Nat.le_of_ble_eq_true rfl, Nat.le_of_ble_eq_true rfl⟩, Nat.le_of_ble_eq_true rfl⟩ [0, 1] rfl rfl 0 rfl rfl rfl rfl rfl rfl rfl rfl rfl rfl rfl rfl dX4_find_2 (fun h1 => hZ.x (Nat.le_of_ble_eq_true rfl) (Nat.le_of_ble_eq_true rfl) (fun _ => by simp [fz, h1]) h1 rfl) (fun h1 => ?_)
  have ha := cmC_0 (by omega) h1
  refine z_lv (lv' := [some (.ref d0), some (.int (nI a.toNatClampNeg)), none, none]) (by rw [← ha.1]) ?_
  have hz9 := hz h1
  refine z_aload_n hF dX4_find_5 rfl ?_
  refine z_get (C := RX4) (T := TX4) (N := 11) (ci := 4) (v := .ref r0) hF k_0 1 (by decide) rfl k_1 rfl 0 rfl rfl dX4_find_6 ?_
  refine z_iload_n hF dX4_find_9 rfl ?_
  refine z_VN (As := [.int (nI a.toNatClampNeg)]) (rest := []) (ws' := [(d0, .inr (4, [.ref t0, .ref r0, .ref q0, .ref y0, .ref d1, .int o, .int (nI v), .ref u0, .ref d2, .ref d3, .ref d4])), (r0, .inr (2, [.ref r1, .ref r2, .ref r3, .int (nI m)])), (r1, eI G 12 b), (r2, eI G 12 e), (q0, .inr (1, [.ref q1, .ref q2, .ref q3, .ref q4])), (q1, eI G 720 ql), (q2, eI G 12 qs), (q3, eI G 12 qa), (q4, eI G 12 qb), (t0, .inr (3, [.ref t1, .ref t2, .int (nI n)])), (t1, eI G 60 f), (t2, eI G 60 g)]) (st2 := [.int (zb (b a.toNatClampNeg = -1))]) (c2 := 1) (s2 := 6) hF (c_X2_isGone G r0 r1 r2 r3 m a.toNatClampNeg b (by first | assumption | omega)) ggX4_find_X2_isGone (List.mem_of_getElem? (i := 4) rfl) k_2 k_3 k_4 rfl rfl rfl hs_X2_isGone ⟨⟨Nat.le_of_ble_eq_true rfl, Nat.le_of_ble_eq_true rfl⟩, ⟨Nat.le_of_ble_eq_true rfl, Nat.le_of_ble_eq_true rfl⟩, Nat.le_of_ble_eq_true rfl⟩ [1, 2] rfl rfl 0 rfl rfl rfl rfl rfl rfl rfl rfl rfl rfl dX4_find_10 ?_
  refine z_if_ne_b (tgt := 26) hF dX4_find_13 (by decide) (fun h2 => ?_) (fun h2 => ?_)
  · refine z_aload_n hF dX4_find_26 rfl ?_
    refine z_get (C := RX4) (T := TX4) (N := 11) (ci := 4) (v := .ref q0) hF k_0 2 (by decide) rfl k_5 rfl 0 rfl rfl dX4_find_27 ?_
    refine z_iload_n hF dX4_find_30 rfl ?_
    refine z_aload_n hF dX4_find_31 rfl ?_
    refine z_get (C := RX4) (T := TX4) (N := 11) (ci := 4) (v := .ref t0) hF k_0 0 (by decide) rfl k_6 rfl 0 rfl rfl dX4_find_32 ?_
    refine z_VN (As := [.int (nI a.toNatClampNeg), .ref t0]) (rest := []) (ws' := [(d0, .inr (4, [.ref t0, .ref r0, .ref q0, .ref y0, .ref d1, .int o, .int (nI v), .ref u0, .ref d2, .ref d3, .ref d4])), (r0, .inr (2, [.ref r1, .ref r2, .ref r3, .int (nI m)])), (r1, eI G 12 b), (r2, eI G 12 e), (q0, .inr (1, [.ref q1, .ref q2, .ref q3, .ref q4])), (q1, eI G 720 ql), (q2, eI G 12 qs), (q3, eI G 12 qa), (q4, eI G 12 qb), (t0, .inr (3, [.ref t1, .ref t2, .int (nI n)])), (t1, eI G 60 f), (t2, eI G 60 g)]) (st2 := [.int (bfF n z a.toNatClampNeg ql qa qb f)]) (c2 := 1) (s2 := 6) hF (c_X1_bestPlace G q0 q1 q2 q3 q4 t0 t1 t2 n a.toNatClampNeg z ql qs qa qb f (by first | assumption | omega) (hz9) (by first | assumption | omega) (by first | assumption | omega)) ggX4_find_X1_bestPlace (List.mem_of_getElem? (i := 18) rfl) k_7 k_8 k_9 rfl rfl rfl hs_X1_bestPlace ⟨⟨Nat.le_of_ble_eq_true rfl, Nat.le_of_ble_eq_true rfl⟩, ⟨Nat.le_of_ble_eq_true rfl, Nat.le_of_ble_eq_true rfl⟩, Nat.le_of_ble_eq_true rfl⟩ [4, 5, 6, 7, 8, 9, 10] rfl rfl 0 rfl rfl rfl rfl rfl rfl rfl rfl rfl rfl dX4_find_35 ?_
    refine z_istore_n (lv' := [some (.ref d0), some (.int (nI a.toNatClampNeg)), some (.int (bfF n z a.toNatClampNeg ql qa qb f)), none]) hF dX4_find_38 rfl rfl ?_
    refine z_iload_n hF dX4_find_39 rfl ?_
    refine z_iconst (v := -1) hF dX4_find_40 (by decide) ?_
    refine z_ic_eq (tgt := 78) hF dX4_find_41 (by decide) (fun c_1 => ?_) (fun c_1 => absurd c_1 (not_not_intro h0))
    refine z_iload_n hF dX4_find_78 rfl ?_
    exact (hR (by simp [fz, h1, h2, c_1])).i dX4_find_79 (Nat.le_of_ble_eq_true rfl) (Nat.le_of_ble_eq_true rfl) (rfl) (rfl)
  · exact z_throw (k := 3) hF hZ k_10 k_11 (List.mem_of_getElem? (i := 0) rfl) k_12 zfit3 zbad3 znc3 zgood3 dX4_find_16 dX4_find_19 dX4_find_20 dX4_find_22 dX4_find_25 ⟨Nat.le_of_ble_eq_true rfl, Nat.le_of_ble_eq_true rfl, Nat.le_of_ble_eq_true rfl, Nat.le_of_ble_eq_true rfl⟩ (Nat.le_of_ble_eq_true rfl) (Nat.le_of_ble_eq_true rfl) (by decide) (by simp [fz, h1, h2]) rfl
set_option maxHeartbeats 4000000 in
set_option maxRecDepth 100000 in
theorem c_X4_find1 (G : zG) (d0 t0 r0 q0 y0 d1 u0 d2 d3 d4 v : Nat) (o : Int32) (t1 t2 n : Nat) (f : Nat → Int32) (g : Nat → Int32) (r1 r2 r3 m : Nat) (b : Nat → Int32) (e : Nat → Int32) (q1 q2 q3 q4 : Nat) (ql : Nat → Int32) (qs : Nat → Int32) (qa : Nat → Int32) (qb : Nat → Int32) (a : Int32) (z : Nat) (hn : n ≤ 60) (hm : m ≤ 12) (hz : cmC m a = 0 → qs a.toNatClampNeg = nI z) (hz2 : z ≤ 60) (h0 : ¬ bfF n z a.toNatClampNeg ql qa qb f = -1) : zX G yX4_find wsX4_find ({ frames := 7, cells := 2, slots := 12, locals := 111 }) [.ref d0, .int a] [(d0, .inr (4, [.ref t0, .ref r0, .ref q0, .ref y0, .ref d1, .int o, .int (nI v), .ref u0, .ref d2, .ref d3, .ref d4])), (r0, .inr (2, [.ref r1, .ref r2, .ref r3, .int (nI m)])), (r1, eI G 12 b), (r2, eI G 12 e), (q0, .inr (1, [.ref q1, .ref q2, .ref q3, .ref q4])), (q1, eI G 720 ql), (q2, eI G 12 qs), (q3, eI G 12 qa), (q4, eI G 12 qb), (t0, .inr (3, [.ref t1, .ref t2, .int (nI n)])), (t1, eI G 60 f), (t2, eI G 60 g)] [(d0, .inr (4, [.ref t0, .ref r0, .ref q0, .ref y0, .ref d1, .int o, .int (nI v), .ref u0, .ref d2, .ref d3, .ref d4])), (r0, .inr (2, [.ref r1, .ref r2, .ref r3, .int (nI m)])), (r1, eI G 12 (upd b a.toNatClampNeg (nI (bfF n z a.toNatClampNeg ql qa qb f).toNatClampNeg))), (r2, eI G 12 (upd e a.toNatClampNeg (nI ((bfF n z a.toNatClampNeg ql qa qb f).toNatClampNeg + z)))), (q0, .inr (1, [.ref q1, .ref q2, .ref q3, .ref q4])), (q1, eI G 720 ql), (q2, eI G 12 qs), (q3, eI G 12 qa), (q4, eI G 12 qb), (t0, .inr (3, [.ref t1, .ref t2, .int (nI n)])), (t1, eI G 60 f), (t2, eI G 60 (mrkF g (bfF n z a.toNatClampNeg ql qa qb f).toNatClampNeg ((bfF n z a.toNatClampNeg ql qa qb f).toNatClampNeg + z) (bitF (nI a.toNatClampNeg))))] (fz (cmC m a) (if b a.toNatClampNeg = -1 then 0 else 3)) (some (.int (bfF n z a.toNatClampNeg ql qa qb f))) 2 12 := by
  refine zX.ofI (own := RX4) (cc := cX4_find) (maxL := 4) rfl (by decide) rfl rfl (by simp [Value.category]) (Nat.le_of_ble_eq_true rfl) ?_
  intro X hF hZ hR
  have k_0 : ∀ w ∈ wsX40, w ∈ wsX4_find := by decide +kernel
  have k_1 : zH X (.fieldLink RX4 19 "MarginDesk" "commentRanges" "LMarginDesk$Ranges;") := hF.w (by decide +kernel)
  have k_2 : zH X (.initialized RX2) := hF.w (by decide +kernel)
  have k_3 : zH X (.instanceMethod yX2_isGone) := hF.w (by decide +kernel)
  have k_4 : zH X (.selects RX2 yX2_isGone yX2_isGone) := hF.w (by decide +kernel)
  have k_5 : zH X (.fieldLink RX4 26 "MarginDesk" "quotes" "LMarginDesk$Quotes;") := hF.w (by decide +kernel)
  have k_6 : zH X (.fieldLink RX4 10 "MarginDesk" "text" "LMarginDesk$Text;") := hF.w (by decide +kernel)
  have k_7 : zH X (.initialized RX1) := hF.w (by decide +kernel)
  have k_8 : zH X (.instanceMethod yX1_bestPlace) := hF.w (by decide +kernel)
  have k_9 : zH X (.selects RX1 yX1_bestPlace yX1_bestPlace) := hF.w (by decide +kernel)
  have k_10 : zH X (.instanceMethod yX1_sizeOf) := hF.w (by decide +kernel)
  have k_11 : zH X (.selects RX1 yX1_sizeOf yX1_sizeOf) := hF.w (by decide +kernel)
  have k_12 : zH X (.instanceMethod yX2_bringBack) := hF.w (by decide +kernel)
  have k_13 : zH X (.selects RX2 yX2_bringBack yX2_bringBack) := hF.w (by decide +kernel)
  have k_14 : zH X (.initialized RX3) := hF.w (by decide +kernel)
  have k_15 : zH X (.instanceMethod yX3_mark) := hF.w (by decide +kernel)
  have k_16 : zH X (.selects RX3 yX3_mark yX3_mark) := hF.w (by decide +kernel)
  have k_17 : zH X (.classLink RX4 95 "java/lang/IllegalStateException") := hF.w (by decide +kernel)
  have k_18 : zH X (.initialized "java/lang/IllegalStateException") := hF.w (by decide +kernel)
  have k_19 : ∀ w ∈ (vx_atS RX4 99 (zEx 3) [zRun, zExc]).filter goodWord, w ∈ wsX4_find := by first | exact fun _ h => List.mem_cons_of_mem _ (List.mem_append_right _ h) | exact fun _ h => List.mem_cons_of_mem _ (List.mem_append_left _ (List.mem_append_right _ h)) | exact fun _ h => List.mem_cons_of_mem _ (List.mem_append_left _ (List.mem_append_left _ (List.mem_append_right _ h))) | exact fun _ h => List.mem_cons_of_mem _ (List.mem_append_left _ (List.mem_append_left _ (List.mem_append_left _ (List.mem_append_right _ h)))) | exact fun _ h => List.mem_cons_of_mem _ (List.mem_append_left _ (List.mem_append_left _ (List.mem_append_left _ (List.mem_append_left _ (List.mem_append_right _ h))))) | decide +kernel
  refine z_lv (lv' := [some (.ref d0), some (.int a), none, none]) rfl ?_
  refine z_aload_n hF dX4_find_0 rfl ?_
  refine z_iload_n hF dX4_find_1 rfl ?_
  refine z_Vx (As := [.int a]) (rest := []) (ws' := [(d0, .inr (4, [.ref t0, .ref r0, .ref q0, .ref y0, .ref d1, .int o, .int (nI v), .ref u0, .ref d2, .ref d3, .ref d4])), (r0, .inr (2, [.ref r1, .ref r2, .ref r3, .int (nI m)])), (r1, eI G 12 b), (r2, eI G 12 e), (q0, .inr (1, [.ref q1, .ref q2, .ref q3, .ref q4])), (q1, eI G 720 ql), (q2, eI G 12 qs), (q3, eI G 12 qa), (q4, eI G 12 qb), (t0, .inr (3, [.ref t1, .ref t2, .int (nI n)])), (t1, eI G 60 f), (t2, eI G 60 g)]) (st2 := []) (c2 := 1) (s2 := 6) hF (c_X4_checkComment G d0 t0 r0 q0 y0 d1 u0 d2 d3 d4 v o r1 r2 r3 m a) gX4_find_X4_checkComment rfl rfl rfl hd_X4_checkComment ⟨⟨Nat.le_of_ble_eq_true rfl, Nat.le_of_ble_eq_true rfl⟩, ⟨Nat.le_of_ble_eq_true rfl, Nat.le_of_ble_eq_true rfl⟩, Nat.le_of_ble_eq_true rfl⟩ [0, 1] rfl rfl 0 rfl rfl rfl rfl rfl rfl rfl rfl rfl rfl rfl rfl dX4_find_2 (fun h1 => hZ.x (Nat.le_of_ble_eq_true rfl) (Nat.le_of_ble_eq_true rfl) (fun _ => by simp [fz, h1]) h1 rfl) (fun h1 => ?_)
  have ha := cmC_0 (by omega) h1
  refine z_lv (lv' := [some (.ref d0), some (.int (nI a.toNatClampNeg)), none, none]) (by rw [← ha.1]) ?_
  have hz9 := hz h1
  refine z_aload_n hF dX4_find_5 rfl ?_
  refine z_get (C := RX4) (T := TX4) (N := 11) (ci := 4) (v := .ref r0) hF k_0 1 (by decide) rfl k_1 rfl 0 rfl rfl dX4_find_6 ?_
  refine z_iload_n hF dX4_find_9 rfl ?_
  refine z_VN (As := [.int (nI a.toNatClampNeg)]) (rest := []) (ws' := [(d0, .inr (4, [.ref t0, .ref r0, .ref q0, .ref y0, .ref d1, .int o, .int (nI v), .ref u0, .ref d2, .ref d3, .ref d4])), (r0, .inr (2, [.ref r1, .ref r2, .ref r3, .int (nI m)])), (r1, eI G 12 b), (r2, eI G 12 e), (q0, .inr (1, [.ref q1, .ref q2, .ref q3, .ref q4])), (q1, eI G 720 ql), (q2, eI G 12 qs), (q3, eI G 12 qa), (q4, eI G 12 qb), (t0, .inr (3, [.ref t1, .ref t2, .int (nI n)])), (t1, eI G 60 f), (t2, eI G 60 g)]) (st2 := [.int (zb (b a.toNatClampNeg = -1))]) (c2 := 1) (s2 := 6) hF (c_X2_isGone G r0 r1 r2 r3 m a.toNatClampNeg b (by first | assumption | omega)) ggX4_find_X2_isGone (List.mem_of_getElem? (i := 4) rfl) k_2 k_3 k_4 rfl rfl rfl hs_X2_isGone ⟨⟨Nat.le_of_ble_eq_true rfl, Nat.le_of_ble_eq_true rfl⟩, ⟨Nat.le_of_ble_eq_true rfl, Nat.le_of_ble_eq_true rfl⟩, Nat.le_of_ble_eq_true rfl⟩ [1, 2] rfl rfl 0 rfl rfl rfl rfl rfl rfl rfl rfl rfl rfl dX4_find_10 ?_
  refine z_if_ne_b (tgt := 26) hF dX4_find_13 (by decide) (fun h2 => ?_) (fun h2 => ?_)
  · refine z_aload_n hF dX4_find_26 rfl ?_
    refine z_get (C := RX4) (T := TX4) (N := 11) (ci := 4) (v := .ref q0) hF k_0 2 (by decide) rfl k_5 rfl 0 rfl rfl dX4_find_27 ?_
    refine z_iload_n hF dX4_find_30 rfl ?_
    refine z_aload_n hF dX4_find_31 rfl ?_
    refine z_get (C := RX4) (T := TX4) (N := 11) (ci := 4) (v := .ref t0) hF k_0 0 (by decide) rfl k_6 rfl 0 rfl rfl dX4_find_32 ?_
    refine z_VN (As := [.int (nI a.toNatClampNeg), .ref t0]) (rest := []) (ws' := [(d0, .inr (4, [.ref t0, .ref r0, .ref q0, .ref y0, .ref d1, .int o, .int (nI v), .ref u0, .ref d2, .ref d3, .ref d4])), (r0, .inr (2, [.ref r1, .ref r2, .ref r3, .int (nI m)])), (r1, eI G 12 b), (r2, eI G 12 e), (q0, .inr (1, [.ref q1, .ref q2, .ref q3, .ref q4])), (q1, eI G 720 ql), (q2, eI G 12 qs), (q3, eI G 12 qa), (q4, eI G 12 qb), (t0, .inr (3, [.ref t1, .ref t2, .int (nI n)])), (t1, eI G 60 f), (t2, eI G 60 g)]) (st2 := [.int (bfF n z a.toNatClampNeg ql qa qb f)]) (c2 := 1) (s2 := 6) hF (c_X1_bestPlace G q0 q1 q2 q3 q4 t0 t1 t2 n a.toNatClampNeg z ql qs qa qb f (by first | assumption | omega) (hz9) (by first | assumption | omega) (by first | assumption | omega)) ggX4_find_X1_bestPlace (List.mem_of_getElem? (i := 18) rfl) k_7 k_8 k_9 rfl rfl rfl hs_X1_bestPlace ⟨⟨Nat.le_of_ble_eq_true rfl, Nat.le_of_ble_eq_true rfl⟩, ⟨Nat.le_of_ble_eq_true rfl, Nat.le_of_ble_eq_true rfl⟩, Nat.le_of_ble_eq_true rfl⟩ [4, 5, 6, 7, 8, 9, 10] rfl rfl 0 rfl rfl rfl rfl rfl rfl rfl rfl rfl rfl dX4_find_35 ?_
    refine z_istore_n (lv' := [some (.ref d0), some (.int (nI a.toNatClampNeg)), some (.int (bfF n z a.toNatClampNeg ql qa qb f)), none]) hF dX4_find_38 rfl rfl ?_
    refine z_iload_n hF dX4_find_39 rfl ?_
    refine z_iconst (v := -1) hF dX4_find_40 (by decide) ?_
    refine z_ic_eq (tgt := 78) hF dX4_find_41 (by decide) (fun c_1 => absurd c_1 (h0)) (fun c_1 => ?_)
    have hbf := bfF_nat hn h0
    refine z_lv (lv' := [some (.ref d0), some (.int (nI a.toNatClampNeg)), some (.int (nI ((bfF n z a.toNatClampNeg ql qa qb f).toNatClampNeg))), none]) (by rw [← hbf.1]) ?_
    refine z_iload_n hF dX4_find_44 rfl ?_
    refine z_aload_n hF dX4_find_45 rfl ?_
    refine z_get (C := RX4) (T := TX4) (N := 11) (ci := 4) (v := .ref q0) hF k_0 2 (by decide) rfl k_5 rfl 0 rfl rfl dX4_find_46 ?_
    refine z_iload_n hF dX4_find_49 rfl ?_
    refine z_VN (As := [.int (nI a.toNatClampNeg)]) (rest := [.int (nI ((bfF n z a.toNatClampNeg ql qa qb f).toNatClampNeg))]) (ws' := [(d0, .inr (4, [.ref t0, .ref r0, .ref q0, .ref y0, .ref d1, .int o, .int (nI v), .ref u0, .ref d2, .ref d3, .ref d4])), (r0, .inr (2, [.ref r1, .ref r2, .ref r3, .int (nI m)])), (r1, eI G 12 b), (r2, eI G 12 e), (q0, .inr (1, [.ref q1, .ref q2, .ref q3, .ref q4])), (q1, eI G 720 ql), (q2, eI G 12 qs), (q3, eI G 12 qa), (q4, eI G 12 qb), (t0, .inr (3, [.ref t1, .ref t2, .int (nI n)])), (t1, eI G 60 f), (t2, eI G 60 g)]) (st2 := [.int (qs a.toNatClampNeg), .int (nI ((bfF n z a.toNatClampNeg ql qa qb f).toNatClampNeg))]) (c2 := 1) (s2 := 6) hF (c_X1_sizeOf G q0 q1 q2 q3 q4 a.toNatClampNeg qs (by first | assumption | omega)) ggX4_find_X1_sizeOf (List.mem_of_getElem? (i := 19) rfl) k_7 k_10 k_11 rfl rfl rfl hs_X1_sizeOf ⟨⟨Nat.le_of_ble_eq_true rfl, Nat.le_of_ble_eq_true rfl⟩, ⟨Nat.le_of_ble_eq_true rfl, Nat.le_of_ble_eq_true rfl⟩, Nat.le_of_ble_eq_true rfl⟩ [4, 6] rfl rfl 0 rfl rfl rfl rfl rfl rfl rfl rfl rfl rfl dX4_find_50 ?_
    refine z_top (y := nI z) hz9 ?_
    refine z_iadd hF dX4_find_53 ?_
    refine z_top (nI_add ((bfF n z a.toNatClampNeg ql qa qb f).toNatClampNeg) z) ?_
    refine z_istore_n (lv' := [some (.ref d0), some (.int (nI a.toNatClampNeg)), some (.int (nI ((bfF n z a.toNatClampNeg ql qa qb f).toNatClampNeg))), some (.int (nI ((bfF n z a.toNatClampNeg ql qa qb f).toNatClampNeg + z)))]) hF dX4_find_54 rfl rfl ?_
    refine z_aload_n hF dX4_find_55 rfl ?_
    refine z_get (C := RX4) (T := TX4) (N := 11) (ci := 4) (v := .ref r0) hF k_0 1 (by decide) rfl k_1 rfl 0 rfl rfl dX4_find_56 ?_
    refine z_iload_n hF dX4_find_59 rfl ?_
    refine z_iload_n hF dX4_find_60 rfl ?_
    refine z_iload_n hF dX4_find_61 rfl ?_
    refine z_VN (As := [.int (nI a.toNatClampNeg), .int (nI ((bfF n z a.toNatClampNeg ql qa qb f).toNatClampNeg)), .int (nI ((bfF n z a.toNatClampNeg ql qa qb f).toNatClampNeg + z))]) (rest := []) (ws' := [(d0, .inr (4, [.ref t0, .ref r0, .ref q0, .ref y0, .ref d1, .int o, .int (nI v), .ref u0, .ref d2, .ref d3, .ref d4])), (r0, .inr (2, [.ref r1, .ref r2, .ref r3, .int (nI m)])), (r1, eI G 12 (upd b a.toNatClampNeg (nI ((bfF n z a.toNatClampNeg ql qa qb f).toNatClampNeg)))), (r2, eI G 12 (upd e a.toNatClampNeg (nI ((bfF n z a.toNatClampNeg ql qa qb f).toNatClampNeg + z)))), (q0, .inr (1, [.ref q1, .ref q2, .ref q3, .ref q4])), (q1, eI G 720 ql), (q2, eI G 12 qs), (q3, eI G 12 qa), (q4, eI G 12 qb), (t0, .inr (3, [.ref t1, .ref t2, .int (nI n)])), (t1, eI G 60 f), (t2, eI G 60 g)]) (st2 := []) (c2 := 1) (s2 := 6) hF (c_X2_bringBack G r0 r1 r2 r3 m a.toNatClampNeg (nI ((bfF n z a.toNatClampNeg ql qa qb f).toNatClampNeg)) (nI ((bfF n z a.toNatClampNeg ql qa qb f).toNatClampNeg + z)) b e (by first | assumption | omega)) ggX4_find_X2_bringBack (List.mem_of_getElem? (i := 20) rfl) k_2 k_12 k_13 rfl rfl rfl hs_X2_bringBack ⟨⟨Nat.le_of_ble_eq_true rfl, Nat.le_of_ble_eq_true rfl⟩, ⟨Nat.le_of_ble_eq_true rfl, Nat.le_of_ble_eq_true rfl⟩, Nat.le_of_ble_eq_true rfl⟩ [1, 2, 3] rfl rfl 0 rfl rfl rfl rfl rfl rfl rfl rfl rfl rfl dX4_find_62 ?_
    refine z_aload_n hF dX4_find_65 rfl ?_
    refine z_get (C := RX4) (T := TX4) (N := 11) (ci := 4) (v := .ref t0) hF k_0 0 (by decide) rfl k_6 rfl 0 rfl rfl dX4_find_66 ?_
    refine z_iload_n hF dX4_find_69 rfl ?_
    refine z_iload_n hF dX4_find_70 rfl ?_
    refine z_iload_n hF dX4_find_71 rfl ?_
    refine z_S (As := [.int (nI a.toNatClampNeg)]) (rest := [.int (nI ((bfF n z a.toNatClampNeg ql qa qb f).toNatClampNeg + z)), .int (nI ((bfF n z a.toNatClampNeg ql qa qb f).toNatClampNeg)), .ref t0]) (ws' := [(d0, .inr (4, [.ref t0, .ref r0, .ref q0, .ref y0, .ref d1, .int o, .int (nI v), .ref u0, .ref d2, .ref d3, .ref d4])), (r0, .inr (2, [.ref r1, .ref r2, .ref r3, .int (nI m)])), (r1, eI G 12 (upd b a.toNatClampNeg (nI ((bfF n z a.toNatClampNeg ql qa qb f).toNatClampNeg)))), (r2, eI G 12 (upd e a.toNatClampNeg (nI ((bfF n z a.toNatClampNeg ql qa qb f).toNatClampNeg + z)))), (q0, .inr (1, [.ref q1, .ref q2, .ref q3, .ref q4])), (q1, eI G 720 ql), (q2, eI G 12 qs), (q3, eI G 12 qa), (q4, eI G 12 qb), (t0, .inr (3, [.ref t1, .ref t2, .int (nI n)])), (t1, eI G 60 f), (t2, eI G 60 g)]) (st2 := [.int (bitF (nI a.toNatClampNeg)), .int (nI ((bfF n z a.toNatClampNeg ql qa qb f).toNatClampNeg + z)), .int (nI ((bfF n z a.toNatClampNeg ql qa qb f).toNatClampNeg)), .ref t0]) (c2 := 1) (s2 := 6) hF (c_X4_bit G (nI a.toNatClampNeg)) gX4_find_X4_bit rfl rfl rfl hs_X4_bit ⟨⟨Nat.le_of_ble_eq_true rfl, Nat.le_of_ble_eq_true rfl⟩, ⟨Nat.le_of_ble_eq_true rfl, Nat.le_of_ble_eq_true rfl⟩, Nat.le_of_ble_eq_true rfl⟩ [] rfl rfl rfl rfl rfl rfl rfl rfl rfl rfl dX4_find_72 ?_
    refine z_VN (As := [.int (nI ((bfF n z a.toNatClampNeg ql qa qb f).toNatClampNeg)), .int (nI ((bfF n z a.toNatClampNeg ql qa qb f).toNatClampNeg + z)), .int (bitF (nI a.toNatClampNeg))]) (rest := []) (ws' := [(d0, .inr (4, [.ref t0, .ref r0, .ref q0, .ref y0, .ref d1, .int o, .int (nI v), .ref u0, .ref d2, .ref d3, .ref d4])), (r0, .inr (2, [.ref r1, .ref r2, .ref r3, .int (nI m)])), (r1, eI G 12 (upd b a.toNatClampNeg (nI ((bfF n z a.toNatClampNeg ql qa qb f).toNatClampNeg)))), (r2, eI G 12 (upd e a.toNatClampNeg (nI ((bfF n z a.toNatClampNeg ql qa qb f).toNatClampNeg + z)))), (q0, .inr (1, [.ref q1, .ref q2, .ref q3, .ref q4])), (q1, eI G 720 ql), (q2, eI G 12 qs), (q3, eI G 12 qa), (q4, eI G 12 qb), (t0, .inr (3, [.ref t1, .ref t2, .int (nI n)])), (t1, eI G 60 f), (t2, eI G 60 (mrkF g ((bfF n z a.toNatClampNeg ql qa qb f).toNatClampNeg) ((bfF n z a.toNatClampNeg ql qa qb f).toNatClampNeg + z) (bitF (nI a.toNatClampNeg))))]) (st2 := []) (c2 := 1) (s2 := 6) hF (c_X3_mark G t0 t1 t2 n ((bfF n z a.toNatClampNeg ql qa qb f).toNatClampNeg) ((bfF n z a.toNatClampNeg ql qa qb f).toNatClampNeg + z) g (bitF (nI a.toNatClampNeg)) (by first | assumption | omega) (by first | assumption | omega)) ggX4_find_X3_mark (List.mem_of_getElem? (i := 11) rfl) k_14 k_15 k_16 rfl rfl rfl hs_X3_mark ⟨⟨Nat.le_of_ble_eq_true rfl, Nat.le_of_ble_eq_true rfl⟩, ⟨Nat.le_of_ble_eq_true rfl, Nat.le_of_ble_eq_true rfl⟩, Nat.le_of_ble_eq_true rfl⟩ [9, 11] rfl rfl 0 rfl rfl rfl rfl rfl rfl rfl rfl rfl rfl dX4_find_75 ?_
    refine z_iload_n hF dX4_find_78 rfl ?_
    exact (hR (by simp [fz, h1, h2, c_1])).i dX4_find_79 (Nat.le_of_ble_eq_true rfl) (Nat.le_of_ble_eq_true rfl) (rfl) (hbf.1.symm)
  · exact z_throw (k := 3) hF hZ k_17 k_18 (List.mem_of_getElem? (i := 0) rfl) k_19 zfit3 zbad3 znc3 zgood3 dX4_find_16 dX4_find_19 dX4_find_20 dX4_find_22 dX4_find_25 ⟨Nat.le_of_ble_eq_true rfl, Nat.le_of_ble_eq_true rfl, Nat.le_of_ble_eq_true rfl, Nat.le_of_ble_eq_true rfl⟩ (Nat.le_of_ble_eq_true rfl) (Nat.le_of_ble_eq_true rfl) (by decide) (by simp [fz, h1, h2]) rfl
set_option maxHeartbeats 4000000 in
set_option maxRecDepth 100000 in
theorem c_X4_comments (G : zG) (d0 t0 r0 q0 y0 d1 u0 d2 d3 d4 v : Nat) (o : Int32) (r1 r2 r3 m : Nat)  : zM G yX4_comments wsX4_comments ({ frames := 0, cells := 0, slots := 0, locals := 12 }) [.ref d0] [(d0, .inr (4, [.ref t0, .ref r0, .ref q0, .ref y0, .ref d1, .int o, .int (nI v), .ref u0, .ref d2, .ref d3, .ref d4])), (r0, .inr (2, [.ref r1, .ref r2, .ref r3, .int (nI m)]))] [(d0, .inr (4, [.ref t0, .ref r0, .ref q0, .ref y0, .ref d1, .int o, .int (nI v), .ref u0, .ref d2, .ref d3, .ref d4])), (r0, .inr (2, [.ref r1, .ref r2, .ref r3, .int (nI m)]))] (some (.int (nI m))) 0 0 := by
  refine zM.ofI (own := RX4) (cc := cX4_comments) (maxL := 1) rfl (by decide) rfl rfl (by simp [Value.category]) (Nat.le_of_ble_eq_true rfl) ?_
  intro X hF hR
  have k_0 : ∀ w ∈ wsX40, w ∈ wsX4_comments := by decide +kernel
  have k_1 : zH X (.fieldLink RX4 19 "MarginDesk" "commentRanges" "LMarginDesk$Ranges;") := hF.w (by decide +kernel)
  have k_2 : ∀ w ∈ wsX20, w ∈ wsX4_comments := by decide +kernel
  have k_3 : zH X (.fieldLinkNest RX4 92 "MarginDesk$Ranges" "count" "I" RX4) := hF.nf (List.mem_of_getElem? (i := 3) rfl)
  refine z_lv (lv' := [some (.ref d0)]) rfl ?_
  refine z_aload_n hF dX4_comments_0 rfl ?_
  refine z_get (C := RX4) (T := TX4) (N := 11) (ci := 4) (v := .ref r0) hF k_0 1 (by decide) rfl k_1 rfl 0 rfl rfl dX4_comments_1 ?_
  refine z_getN (C := RX2) (T := TX2) (N := 4) (ci := 2) (v := .int (nI m)) hF k_2 3 (by decide) rfl k_3 rfl 1 rfl rfl dX4_comments_4 ?_
  exact hR.i dX4_comments_7 (Nat.le_of_ble_eq_true rfl) (Nat.le_of_ble_eq_true rfl) (rfl) (rfl)
set_option maxHeartbeats 4000000 in
set_option maxRecDepth 100000 in
theorem c_X4_rangeOf (G : zG) (d0 t0 r0 q0 y0 d1 u0 d2 d3 d4 v : Nat) (o : Int32) (r1 r2 r3 m : Nat) (b : Nat → Int32) (e : Nat → Int32) (a : Int32) (hm : m ≤ 12) : zX G yX4_rangeOf wsX4_rangeOf ({ frames := 7, cells := 1, slots := 6, locals := 111 }) [.ref d0, .int a] [(d0, .inr (4, [.ref t0, .ref r0, .ref q0, .ref y0, .ref d1, .int o, .int (nI v), .ref u0, .ref d2, .ref d3, .ref d4])), (r0, .inr (2, [.ref r1, .ref r2, .ref r3, .int (nI m)])), (r1, eI G 12 b), (r2, eI G 12 e)] [(d0, .inr (4, [.ref t0, .ref r0, .ref q0, .ref y0, .ref d1, .int o, .int (nI v), .ref u0, .ref d2, .ref d3, .ref d4])), (r0, .inr (2, [.ref r1, .ref r2, .ref r3, .int (nI m)])), (r1, eI G 12 b), (r2, eI G 12 e)] (cmC m a) (some (.int (numF (b a.toNatClampNeg) (e a.toNatClampNeg)))) 1 6 := by
  refine zX.ofI (own := RX4) (cc := cX4_rangeOf) (maxL := 2) rfl (by decide) rfl rfl (by simp [Value.category]) (Nat.le_of_ble_eq_true rfl) ?_
  intro X hF hZ hR
  have k_0 : ∀ w ∈ wsX40, w ∈ wsX4_rangeOf := by decide +kernel
  have k_1 : zH X (.fieldLink RX4 19 "MarginDesk" "commentRanges" "LMarginDesk$Ranges;") := hF.w (by decide +kernel)
  have k_2 : zH X (.initialized RX2) := hF.w (by decide +kernel)
  have k_3 : zH X (.instanceMethod yX2_asNumber) := hF.w (by decide +kernel)
  have k_4 : zH X (.selects RX2 yX2_asNumber yX2_asNumber) := hF.w (by decide +kernel)
  refine z_lv (lv' := [some (.ref d0), some (.int a)]) rfl ?_
  refine z_aload_n hF dX4_rangeOf_0 rfl ?_
  refine z_iload_n hF dX4_rangeOf_1 rfl ?_
  refine z_Vx (As := [.int a]) (rest := []) (ws' := [(d0, .inr (4, [.ref t0, .ref r0, .ref q0, .ref y0, .ref d1, .int o, .int (nI v), .ref u0, .ref d2, .ref d3, .ref d4])), (r0, .inr (2, [.ref r1, .ref r2, .ref r3, .int (nI m)])), (r1, eI G 12 b), (r2, eI G 12 e)]) (st2 := []) (c2 := 1) (s2 := 6) hF (c_X4_checkComment G d0 t0 r0 q0 y0 d1 u0 d2 d3 d4 v o r1 r2 r3 m a) gX4_rangeOf_X4_checkComment rfl rfl rfl hd_X4_checkComment ⟨⟨Nat.le_of_ble_eq_true rfl, Nat.le_of_ble_eq_true rfl⟩, ⟨Nat.le_of_ble_eq_true rfl, Nat.le_of_ble_eq_true rfl⟩, Nat.le_of_ble_eq_true rfl⟩ [0, 1] rfl rfl 0 rfl rfl rfl rfl rfl rfl rfl rfl rfl rfl rfl rfl dX4_rangeOf_2 (fun h1 => hZ.x (Nat.le_of_ble_eq_true rfl) (Nat.le_of_ble_eq_true rfl) (fun _ => by simp [fz, h1]) h1 rfl) (fun h1 => ?_)
  have ha := cmC_0 (by omega) h1
  refine z_lv (lv' := [some (.ref d0), some (.int (nI a.toNatClampNeg))]) (by rw [← ha.1]) ?_
  refine z_aload_n hF dX4_rangeOf_5 rfl ?_
  refine z_get (C := RX4) (T := TX4) (N := 11) (ci := 4) (v := .ref r0) hF k_0 1 (by decide) rfl k_1 rfl 0 rfl rfl dX4_rangeOf_6 ?_
  refine z_iload_n hF dX4_rangeOf_9 rfl ?_
  refine z_VN (As := [.int (nI a.toNatClampNeg)]) (rest := []) (ws' := [(d0, .inr (4, [.ref t0, .ref r0, .ref q0, .ref y0, .ref d1, .int o, .int (nI v), .ref u0, .ref d2, .ref d3, .ref d4])), (r0, .inr (2, [.ref r1, .ref r2, .ref r3, .int (nI m)])), (r1, eI G 12 b), (r2, eI G 12 e)]) (st2 := [.int (numF (b a.toNatClampNeg) (e a.toNatClampNeg))]) (c2 := 1) (s2 := 6) hF (c_X2_asNumber G r0 r1 r2 r3 m a.toNatClampNeg b e (by first | assumption | omega)) ggX4_rangeOf_X2_asNumber (List.mem_of_getElem? (i := 21) rfl) k_2 k_3 k_4 rfl rfl rfl hs_X2_asNumber ⟨⟨Nat.le_of_ble_eq_true rfl, Nat.le_of_ble_eq_true rfl⟩, ⟨Nat.le_of_ble_eq_true rfl, Nat.le_of_ble_eq_true rfl⟩, Nat.le_of_ble_eq_true rfl⟩ [1, 2, 3] rfl rfl 0 rfl rfl rfl rfl rfl rfl rfl rfl rfl rfl dX4_rangeOf_10 ?_
  exact (hR (by simp [fz, h1])).i dX4_rangeOf_13 (Nat.le_of_ble_eq_true rfl) (Nat.le_of_ble_eq_true rfl) (rfl) (rfl)
set_option maxHeartbeats 4000000 in
set_option maxRecDepth 100000 in
theorem c_X4_rangeThen (G : zG) (d0 t0 r0 q0 y0 d1 u0 d2 d3 d4 v : Nat) (o : Int32) (r1 r2 r3 m : Nat) (b : Nat → Int32) (e : Nat → Int32) (y1 : Nat) (h : Nat → Int32) (a w : Int32) (hm : m ≤ 12) (hv : v ≤ 300) : zX G yX4_rangeThen wsX4_rangeThen ({ frames := 7, cells := 2, slots := 12, locals := 111 }) [.ref d0, .int a, .int w] [(d0, .inr (4, [.ref t0, .ref r0, .ref q0, .ref y0, .ref d1, .int o, .int (nI v), .ref u0, .ref d2, .ref d3, .ref d4])), (r0, .inr (2, [.ref r1, .ref r2, .ref r3, .int (nI m)])), (r1, eI G 12 b), (r2, eI G 12 e), (y0, .inr (0, [.ref y1])), (y1, eI G 3600 h)] [(d0, .inr (4, [.ref t0, .ref r0, .ref q0, .ref y0, .ref d1, .int o, .int (nI v), .ref u0, .ref d2, .ref d3, .ref d4])), (r0, .inr (2, [.ref r1, .ref r2, .ref r3, .int (nI m)])), (r1, eI G 12 b), (r2, eI G 12 e), (y0, .inr (0, [.ref y1])), (y1, eI G 3600 h)] (fz (cmC m a) (plC v w)) (some (.int (if w = nI v then numF (b a.toNatClampNeg) (e a.toNatClampNeg) else h (w.toNatClampNeg * 12 + a.toNatClampNeg)))) 2 12 := by
  refine zX.ofI (own := RX4) (cc := cX4_rangeThen) (maxL := 3) rfl (by decide) rfl rfl (by simp [Value.category]) (Nat.le_of_ble_eq_true rfl) ?_
  intro X hF hZ hR
  have k_0 : zH X (.classLink RX4 138 "java/lang/IndexOutOfBoundsException") := hF.w (by decide +kernel)
  have k_1 : zH X (.initialized "java/lang/IndexOutOfBoundsException") := hF.w (by decide +kernel)
  have k_2 : ∀ w ∈ (vx_atS RX4 142 (zEx 1) [zRun, zExc]).filter goodWord, w ∈ wsX4_rangeThen := by first | exact fun _ h => List.mem_cons_of_mem _ (List.mem_append_right _ h) | exact fun _ h => List.mem_cons_of_mem _ (List.mem_append_left _ (List.mem_append_right _ h)) | exact fun _ h => List.mem_cons_of_mem _ (List.mem_append_left _ (List.mem_append_left _ (List.mem_append_right _ h))) | exact fun _ h => List.mem_cons_of_mem _ (List.mem_append_left _ (List.mem_append_left _ (List.mem_append_left _ (List.mem_append_right _ h)))) | exact fun _ h => List.mem_cons_of_mem _ (List.mem_append_left _ (List.mem_append_left _ (List.mem_append_left _ (List.mem_append_left _ (List.mem_append_right _ h))))) | decide +kernel
  have k_3 : ∀ w ∈ wsX40, w ∈ wsX4_rangeThen := by decide +kernel
  have k_4 : zH X (.fieldLink RX4 45 "MarginDesk" "edits" "I") := hF.w (by decide +kernel)
  have k_5 : zH X (.fieldLink RX4 33 "MarginDesk" "history" "LMarginDesk$History;") := hF.w (by decide +kernel)
  have k_6 : zH X (.initialized RX0) := hF.w (by decide +kernel)
  have k_7 : zH X (.instanceMethod yX0_rangeAt) := hF.w (by decide +kernel)
  have k_8 : zH X (.selects RX0 yX0_rangeAt yX0_rangeAt) := hF.w (by decide +kernel)
  have k_9 : zH X (.fieldLink RX4 19 "MarginDesk" "commentRanges" "LMarginDesk$Ranges;") := hF.w (by decide +kernel)
  have k_10 : zH X (.initialized RX2) := hF.w (by decide +kernel)
  have k_11 : zH X (.instanceMethod yX2_asNumber) := hF.w (by decide +kernel)
  have k_12 : zH X (.selects RX2 yX2_asNumber yX2_asNumber) := hF.w (by decide +kernel)
  refine z_lv (lv' := [some (.ref d0), some (.int a), some (.int w)]) rfl ?_
  refine z_aload_n hF dX4_rangeThen_0 rfl ?_
  refine z_iload_n hF dX4_rangeThen_1 rfl ?_
  refine z_Vx (As := [.int a]) (rest := []) (ws' := [(d0, .inr (4, [.ref t0, .ref r0, .ref q0, .ref y0, .ref d1, .int o, .int (nI v), .ref u0, .ref d2, .ref d3, .ref d4])), (r0, .inr (2, [.ref r1, .ref r2, .ref r3, .int (nI m)])), (r1, eI G 12 b), (r2, eI G 12 e), (y0, .inr (0, [.ref y1])), (y1, eI G 3600 h)]) (st2 := []) (c2 := 1) (s2 := 6) hF (c_X4_checkComment G d0 t0 r0 q0 y0 d1 u0 d2 d3 d4 v o r1 r2 r3 m a) gX4_rangeThen_X4_checkComment rfl rfl rfl hd_X4_checkComment ⟨⟨Nat.le_of_ble_eq_true rfl, Nat.le_of_ble_eq_true rfl⟩, ⟨Nat.le_of_ble_eq_true rfl, Nat.le_of_ble_eq_true rfl⟩, Nat.le_of_ble_eq_true rfl⟩ [0, 1] rfl rfl 0 rfl rfl rfl rfl rfl rfl rfl rfl rfl rfl rfl rfl dX4_rangeThen_2 (fun h1 => hZ.x (Nat.le_of_ble_eq_true rfl) (Nat.le_of_ble_eq_true rfl) (fun _ => by simp [fz, h1]) h1 rfl) (fun h1 => ?_)
  have ha := cmC_0 (by omega) h1
  refine z_lv (lv' := [some (.ref d0), some (.int (nI a.toNatClampNeg)), some (.int w)]) (by rw [← ha.1]) ?_
  refine z_iload_n hF dX4_rangeThen_5 rfl ?_
  refine z_if_lt (tgt := 17) hF dX4_rangeThen_6 (by decide) (fun c6 => ?_) (fun c6 => ?_)
  · exact z_throw (k := 1) hF hZ k_0 k_1 (List.mem_of_getElem? (i := 1) rfl) k_2 zfit1 zbad1 znc1 zgood1 dX4_rangeThen_17 dX4_rangeThen_20 dX4_rangeThen_21 dX4_rangeThen_23 dX4_rangeThen_26 ⟨Nat.le_of_ble_eq_true rfl, Nat.le_of_ble_eq_true rfl, Nat.le_of_ble_eq_true rfl, Nat.le_of_ble_eq_true rfl⟩ (Nat.le_of_ble_eq_true rfl) (Nat.le_of_ble_eq_true rfl) (by decide) (by simp [fz, h1, plC]; grind) rfl
  · refine z_iload_n hF dX4_rangeThen_9 rfl ?_
    refine z_aload_n hF dX4_rangeThen_10 rfl ?_
    refine z_get (C := RX4) (T := TX4) (N := 11) (ci := 4) (v := .int (nI v)) hF k_3 6 (by decide) rfl k_4 rfl 0 rfl rfl dX4_rangeThen_11 ?_
    refine z_ic_le (tgt := 27) hF dX4_rangeThen_14 (by decide) (fun c14 => ?_) (fun c14 => ?_)
    · have hp : plC v w = 0 := by unfold plC; grind
      have hw := plC_0 (by omega) hp
      refine z_iload_n hF dX4_rangeThen_27 rfl ?_
      refine z_aload_n hF dX4_rangeThen_28 rfl ?_
      refine z_get (C := RX4) (T := TX4) (N := 11) (ci := 4) (v := .int (nI v)) hF k_3 6 (by decide) rfl k_4 rfl 0 rfl rfl dX4_rangeThen_29 ?_
      refine z_ic_ne (tgt := 46) hF dX4_rangeThen_32 (by decide) (fun c32 => ?_) (fun c32 => ?_)
      · have hw2 : w.toNatClampNeg < v := Nat.lt_of_le_of_ne hw.2 (fun q => c32 (by rw [← q]; exact hw.1))
        refine z_lv (lv' := [some (.ref d0), some (.int (nI a.toNatClampNeg)), some (.int (nI w.toNatClampNeg))]) (by rw [← hw.1]) ?_
        refine z_aload_n hF dX4_rangeThen_46 rfl ?_
        refine z_get (C := RX4) (T := TX4) (N := 11) (ci := 4) (v := .ref y0) hF k_3 3 (by decide) rfl k_5 rfl 0 rfl rfl dX4_rangeThen_47 ?_
        refine z_iload_n hF dX4_rangeThen_50 rfl ?_
        refine z_iload_n hF dX4_rangeThen_51 rfl ?_
        refine z_VN (As := [.int (nI w.toNatClampNeg), .int (nI a.toNatClampNeg)]) (rest := []) (ws' := [(d0, .inr (4, [.ref t0, .ref r0, .ref q0, .ref y0, .ref d1, .int o, .int (nI v), .ref u0, .ref d2, .ref d3, .ref d4])), (r0, .inr (2, [.ref r1, .ref r2, .ref r3, .int (nI m)])), (r1, eI G 12 b), (r2, eI G 12 e), (y0, .inr (0, [.ref y1])), (y1, eI G 3600 h)]) (st2 := [.int (h (w.toNatClampNeg * 12 + a.toNatClampNeg))]) (c2 := 1) (s2 := 6) hF (c_X0_rangeAt G y0 y1 w.toNatClampNeg a.toNatClampNeg h (by first | assumption | omega) (by first | assumption | omega)) ggX4_rangeThen_X0_rangeAt (List.mem_of_getElem? (i := 22) rfl) k_6 k_7 k_8 rfl rfl rfl hs_X0_rangeAt ⟨⟨Nat.le_of_ble_eq_true rfl, Nat.le_of_ble_eq_true rfl⟩, ⟨Nat.le_of_ble_eq_true rfl, Nat.le_of_ble_eq_true rfl⟩, Nat.le_of_ble_eq_true rfl⟩ [4, 5] rfl rfl 0 rfl rfl rfl rfl rfl rfl rfl rfl rfl rfl dX4_rangeThen_52 ?_
        exact (hR (by simp [fz, h1, hp])).i dX4_rangeThen_55 (Nat.le_of_ble_eq_true rfl) (Nat.le_of_ble_eq_true rfl) (rfl) (by simp [c32])
      · refine z_aload_n hF dX4_rangeThen_35 rfl ?_
        refine z_get (C := RX4) (T := TX4) (N := 11) (ci := 4) (v := .ref r0) hF k_3 1 (by decide) rfl k_9 rfl 0 rfl rfl dX4_rangeThen_36 ?_
        refine z_iload_n hF dX4_rangeThen_39 rfl ?_
        refine z_VN (As := [.int (nI a.toNatClampNeg)]) (rest := []) (ws' := [(d0, .inr (4, [.ref t0, .ref r0, .ref q0, .ref y0, .ref d1, .int o, .int (nI v), .ref u0, .ref d2, .ref d3, .ref d4])), (r0, .inr (2, [.ref r1, .ref r2, .ref r3, .int (nI m)])), (r1, eI G 12 b), (r2, eI G 12 e), (y0, .inr (0, [.ref y1])), (y1, eI G 3600 h)]) (st2 := [.int (numF (b a.toNatClampNeg) (e a.toNatClampNeg))]) (c2 := 1) (s2 := 6) hF (c_X2_asNumber G r0 r1 r2 r3 m a.toNatClampNeg b e (by first | assumption | omega)) ggX4_rangeThen_X2_asNumber (List.mem_of_getElem? (i := 21) rfl) k_10 k_11 k_12 rfl rfl rfl hs_X2_asNumber ⟨⟨Nat.le_of_ble_eq_true rfl, Nat.le_of_ble_eq_true rfl⟩, ⟨Nat.le_of_ble_eq_true rfl, Nat.le_of_ble_eq_true rfl⟩, Nat.le_of_ble_eq_true rfl⟩ [1, 2, 3] rfl rfl 0 rfl rfl rfl rfl rfl rfl rfl rfl rfl rfl dX4_rangeThen_40 ?_
        refine z_goto (tgt := 55) hF dX4_rangeThen_43 (by decide) ?_
        exact (hR (by simp [fz, h1, hp])).i dX4_rangeThen_55 (Nat.le_of_ble_eq_true rfl) (Nat.le_of_ble_eq_true rfl) (rfl) (by simp [c32])
    · exact z_throw (k := 1) hF hZ k_0 k_1 (List.mem_of_getElem? (i := 1) rfl) k_2 zfit1 zbad1 znc1 zgood1 dX4_rangeThen_17 dX4_rangeThen_20 dX4_rangeThen_21 dX4_rangeThen_23 dX4_rangeThen_26 ⟨Nat.le_of_ble_eq_true rfl, Nat.le_of_ble_eq_true rfl, Nat.le_of_ble_eq_true rfl, Nat.le_of_ble_eq_true rfl⟩ (Nat.le_of_ble_eq_true rfl) (Nat.le_of_ble_eq_true rfl) (by decide) (by simp [fz, h1, plC]; grind) rfl
set_option maxHeartbeats 4000000 in
set_option maxRecDepth 100000 in
theorem c_X4_open (G : zG) (d0 t0 r0 q0 y0 d1 u0 d2 d3 d4 v : Nat) (o : Int32)  : zM G yX4_open wsX4_open ({ frames := 0, cells := 0, slots := 0, locals := 12 }) [.ref d0] [(d0, .inr (4, [.ref t0, .ref r0, .ref q0, .ref y0, .ref d1, .int o, .int (nI v), .ref u0, .ref d2, .ref d3, .ref d4]))] [(d0, .inr (4, [.ref t0, .ref r0, .ref q0, .ref y0, .ref d1, .int o, .int (nI v), .ref u0, .ref d2, .ref d3, .ref d4]))] (some (.int o)) 0 0 := by
  refine zM.ofI (own := RX4) (cc := cX4_open) (maxL := 1) rfl (by decide) rfl rfl (by simp [Value.category]) (Nat.le_of_ble_eq_true rfl) ?_
  intro X hF hR
  have k_0 : ∀ w ∈ wsX40, w ∈ wsX4_open := by decide +kernel
  have k_1 : zH X (.fieldLink RX4 41 "MarginDesk" "openSet" "I") := hF.w (by decide +kernel)
  refine z_lv (lv' := [some (.ref d0)]) rfl ?_
  refine z_aload_n hF dX4_open_0 rfl ?_
  refine z_get (C := RX4) (T := TX4) (N := 11) (ci := 4) (v := .int o) hF k_0 5 (by decide) rfl k_1 rfl 0 rfl rfl dX4_open_1 ?_
  exact hR.i dX4_open_4 (Nat.le_of_ble_eq_true rfl) (Nat.le_of_ble_eq_true rfl) (rfl) (rfl)
