set_option maxHeartbeats 4000000 in
set_option maxRecDepth 100000 in
theorem c_X4_find1 (G : zG) (d0 t0 r0 q0 y0 d1 u0 d2 d3 d4 v : Nat) (o : Int32) (t1 t2 n : Nat) (f : Nat → Int32) (g : Nat → Int32) (r1 r2 r3 m : Nat) (b : Nat → Int32) (e : Nat → Int32) (q1 q2 q3 q4 : Nat) (ql : Nat → Int32) (qs : Nat → Int32) (qa : Nat → Int32) (qb : Nat → Int32) (i z : Nat) (hn : n ≤ 60) (hm : m ≤ 12) (hi : i < m) (hb : b i = -1) (hz : qs i = nI z) (hz2 : z ≤ 60) (h0 : ¬ bfF n z i ql qa qb f = -1) : zM G yX4_find wsX4_find ({ frames := 4, cells := 0, slots := 0, locals := 105 }) [.ref d0, .int (nI i)] [(d0, .inr (4, [.ref t0, .ref r0, .ref q0, .ref y0, .ref d1, .int o, .int (nI v), .ref u0, .ref d2, .ref d3, .ref d4])), (r0, .inr (2, [.ref r1, .ref r2, .ref r3, .int (nI m)])), (r1, eI G 12 b), (r2, eI G 12 e), (q0, .inr (1, [.ref q1, .ref q2, .ref q3, .ref q4])), (q1, eI G 720 ql), (q2, eI G 12 qs), (q3, eI G 12 qa), (q4, eI G 12 qb), (t0, .inr (3, [.ref t1, .ref t2, .int (nI n)])), (t1, eI G 60 f), (t2, eI G 60 g)] [(d0, .inr (4, [.ref t0, .ref r0, .ref q0, .ref y0, .ref d1, .int o, .int (nI v), .ref u0, .ref d2, .ref d3, .ref d4])), (r0, .inr (2, [.ref r1, .ref r2, .ref r3, .int (nI m)])), (r1, eI G 12 (upd b i (nI (bfF n z i ql qa qb f).toNatClampNeg))), (r2, eI G 12 (upd e i (nI ((bfF n z i ql qa qb f).toNatClampNeg + z)))), (q0, .inr (1, [.ref q1, .ref q2, .ref q3, .ref q4])), (q1, eI G 720 ql), (q2, eI G 12 qs), (q3, eI G 12 qa), (q4, eI G 12 qb), (t0, .inr (3, [.ref t1, .ref t2, .int (nI n)])), (t1, eI G 60 f), (t2, eI G 60 (mrkF g (bfF n z i ql qa qb f).toNatClampNeg ((bfF n z i ql qa qb f).toNatClampNeg + z) (bitF (nI i))))] (some (.int (bfF n z i ql qa qb f))) 0 0 := by
  refine zM.ofI (own := RX4) (cc := cX4_find) (maxL := 4) rfl (by decide) rfl rfl (by simp [Value.category]) (Nat.le_of_ble_eq_true rfl) ?_
  intro X hF hR
  have k_0 : ∀ w ∈ wsX40, w ∈ wsX4_find := by decide +kernel
  have k_1 : zH X (.fieldLink RX4 19 "MarginDesk" "commentRanges" "LMarginDesk$Ranges;") := hF.w (by decide +kernel)
  have k_2 : zH X (.initialized RX2) := hF.w (by decide +kernel)
  have k_3 : zH X (.instanceMethod yX2_isGone) := hF.w (by decide +kernel)
  have k_4 : zH X (.selects RX2 yX2_isGone yX2_isGone) := hF.w (by decide +kernel)
  have k_5 : zH X (.fieldLink RX4 26 "MarginDesk" "quotes" "LMarginDesk$Quotes;") := hF.w (by decide +kernel)
  have k_6 : zH X (.fieldLink RX4 10 "MarginDesk" "text" "LMarginDesk$Text;") := hF.w (by decide +kernel)
  have k_7 : zH X (.initialized RX1) := hF.w (by decide +kernel)
  have k_8 : zH X (.instanceMethod yX1_bestPlace) := hF.w (by decide +kernel)
  have k_9 : zH X (.selects RX1 yX1_bestPlace yX1_bestPlace) := hF.w (by decide +kernel)
  have k_10 : zH X (.instanceMethod yX1_sizeOf) := hF.w (by decide +kernel)
  have k_11 : zH X (.selects RX1 yX1_sizeOf yX1_sizeOf) := hF.w (by decide +kernel)
  have k_12 : zH X (.instanceMethod yX2_bringBack) := hF.w (by decide +kernel)
  have k_13 : zH X (.selects RX2 yX2_bringBack yX2_bringBack) := hF.w (by decide +kernel)
  have k_14 : zH X (.initialized RX3) := hF.w (by decide +kernel)
  have k_15 : zH X (.instanceMethod yX3_mark) := hF.w (by decide +kernel)
  have k_16 : zH X (.selects RX3 yX3_mark yX3_mark) := hF.w (by decide +kernel)
  refine z_lv (lv' := [some (.ref d0), some (.int (nI i)), none, none]) rfl ?_
  refine z_aload_n hF dX4_find_0 rfl ?_
  refine z_iload_n hF dX4_find_1 rfl ?_
  refine z_V (As := [.int (nI i)]) (rest := []) (ws' := [(d0, .inr (4, [.ref t0, .ref r0, .ref q0, .ref y0, .ref d1, .int o, .int (nI v), .ref u0, .ref d2, .ref d3, .ref d4])), (r0, .inr (2, [.ref r1, .ref r2, .ref r3, .int (nI m)])), (r1, eI G 12 b), (r2, eI G 12 e), (q0, .inr (1, [.ref q1, .ref q2, .ref q3, .ref q4])), (q1, eI G 720 ql), (q2, eI G 12 qs), (q3, eI G 12 qa), (q4, eI G 12 qb), (t0, .inr (3, [.ref t1, .ref t2, .int (nI n)])), (t1, eI G 60 f), (t2, eI G 60 g)]) (st2 := []) (c2 := 0) (s2 := 0) hF (c_X4_checkComment G d0 t0 r0 q0 y0 d1 u0 d2 d3 d4 v o r1 r2 r3 m i (by first | assumption | omega) (by first | assumption | omega)) gX4_find_X4_checkComment rfl rfl rfl hd_X4_checkComment ⟨⟨Nat.le_of_ble_eq_true rfl, Nat.le_of_ble_eq_true rfl⟩, ⟨Nat.le_of_ble_eq_true rfl, Nat.le_of_ble_eq_true rfl⟩, Nat.le_of_ble_eq_true rfl⟩ [0, 1] rfl rfl 0 rfl rfl rfl rfl rfl rfl rfl rfl rfl rfl dX4_find_2 ?_
  refine z_aload_n hF dX4_find_5 rfl ?_
  refine z_get (C := RX4) (T := TX4) (N := 11) (ci := 4) (v := .ref r0) hF k_0 1 (by decide) rfl k_1 rfl 0 rfl rfl dX4_find_6 ?_
  refine z_iload_n hF dX4_find_9 rfl ?_
  refine z_VN (As := [.int (nI i)]) (rest := []) (ws' := [(d0, .inr (4, [.ref t0, .ref r0, .ref q0, .ref y0, .ref d1, .int o, .int (nI v), .ref u0, .ref d2, .ref d3, .ref d4])), (r0, .inr (2, [.ref r1, .ref r2, .ref r3, .int (nI m)])), (r1, eI G 12 b), (r2, eI G 12 e), (q0, .inr (1, [.ref q1, .ref q2, .ref q3, .ref q4])), (q1, eI G 720 ql), (q2, eI G 12 qs), (q3, eI G 12 qa), (q4, eI G 12 qb), (t0, .inr (3, [.ref t1, .ref t2, .int (nI n)])), (t1, eI G 60 f), (t2, eI G 60 g)]) (st2 := [.int (zb (b i = -1))]) (c2 := 0) (s2 := 0) hF (c_X2_isGone G r0 r1 r2 r3 m i b (by first | assumption | omega)) ggX4_find_X2_isGone (List.mem_of_getElem? (i := 4) rfl) k_2 k_3 k_4 rfl rfl rfl hs_X2_isGone ⟨⟨Nat.le_of_ble_eq_true rfl, Nat.le_of_ble_eq_true rfl⟩, ⟨Nat.le_of_ble_eq_true rfl, Nat.le_of_ble_eq_true rfl⟩, Nat.le_of_ble_eq_true rfl⟩ [1, 2] rfl rfl 0 rfl rfl rfl rfl rfl rfl rfl rfl rfl rfl dX4_find_10 ?_
  refine z_if_ne_b (tgt := 26) hF dX4_find_13 (by decide) (fun c_1 => ?_) (fun c_1 => absurd c_1 (not_not_intro hb))
  refine z_aload_n hF dX4_find_26 rfl ?_
  refine z_get (C := RX4) (T := TX4) (N := 11) (ci := 4) (v := .ref q0) hF k_0 2 (by decide) rfl k_5 rfl 0 rfl rfl dX4_find_27 ?_
  refine z_iload_n hF dX4_find_30 rfl ?_
  refine z_aload_n hF dX4_find_31 rfl ?_
  refine z_get (C := RX4) (T := TX4) (N := 11) (ci := 4) (v := .ref t0) hF k_0 0 (by decide) rfl k_6 rfl 0 rfl rfl dX4_find_32 ?_
  refine z_VN (As := [.int (nI i), .ref t0]) (rest := []) (ws' := [(d0, .inr (4, [.ref t0, .ref r0, .ref q0, .ref y0, .ref d1, .int o, .int (nI v), .ref u0, .ref d2, .ref d3, .ref d4])), (r0, .inr (2, [.ref r1, .ref r2, .ref r3, .int (nI m)])), (r1, eI G 12 b), (r2, eI G 12 e), (q0, .inr (1, [.ref q1, .ref q2, .ref q3, .ref q4])), (q1, eI G 720 ql), (q2, eI G 12 qs), (q3, eI G 12 qa), (q4, eI G 12 qb), (t0, .inr (3, [.ref t1, .ref t2, .int (nI n)])), (t1, eI G 60 f), (t2, eI G 60 g)]) (st2 := [.int (bfF n z i ql qa qb f)]) (c2 := 0) (s2 := 0) hF (c_X1_bestPlace G q0 q1 q2 q3 q4 t0 t1 t2 n i z ql qs qa qb f (by first | assumption | omega) (hz) (by first | assumption | omega) (by first | assumption | omega)) ggX4_find_X1_bestPlace (List.mem_of_getElem? (i := 18) rfl) k_7 k_8 k_9 rfl rfl rfl hs_X1_bestPlace ⟨⟨Nat.le_of_ble_eq_true rfl, Nat.le_of_ble_eq_true rfl⟩, ⟨Nat.le_of_ble_eq_true rfl, Nat.le_of_ble_eq_true rfl⟩, Nat.le_of_ble_eq_true rfl⟩ [4, 5, 6, 7, 8, 9, 10] rfl rfl 0 rfl rfl rfl rfl rfl rfl rfl rfl rfl rfl dX4_find_35 ?_
  refine z_istore_n (lv' := [some (.ref d0), some (.int (nI i)), some (.int (bfF n z i ql qa qb f)), none]) hF dX4_find_38 rfl rfl ?_
  refine z_iload_n hF dX4_find_39 rfl ?_
  refine z_iconst (v := -1) hF dX4_find_40 (by decide) ?_
  refine z_ic_eq (tgt := 78) hF dX4_find_41 (by decide) (fun c_2 => absurd c_2 (h0)) (fun c_2 => ?_)
  have hbf := bfF_nat hn h0
  refine z_lv (lv' := [some (.ref d0), some (.int (nI i)), some (.int (nI ((bfF n z i ql qa qb f).toNatClampNeg))), none]) (by rw [← hbf.1]) ?_
  refine z_iload_n hF dX4_find_44 rfl ?_
  refine z_aload_n hF dX4_find_45 rfl ?_
  refine z_get (C := RX4) (T := TX4) (N := 11) (ci := 4) (v := .ref q0) hF k_0 2 (by decide) rfl k_5 rfl 0 rfl rfl dX4_find_46 ?_
  refine z_iload_n hF dX4_find_49 rfl ?_
  refine z_VN (As := [.int (nI i)]) (rest := [.int (nI ((bfF n z i ql qa qb f).toNatClampNeg))]) (ws' := [(d0, .inr (4, [.ref t0, .ref r0, .ref q0, .ref y0, .ref d1, .int o, .int (nI v), .ref u0, .ref d2, .ref d3, .ref d4])), (r0, .inr (2, [.ref r1, .ref r2, .ref r3, .int (nI m)])), (r1, eI G 12 b), (r2, eI G 12 e), (q0, .inr (1, [.ref q1, .ref q2, .ref q3, .ref q4])), (q1, eI G 720 ql), (q2, eI G 12 qs), (q3, eI G 12 qa), (q4, eI G 12 qb), (t0, .inr (3, [.ref t1, .ref t2, .int (nI n)])), (t1, eI G 60 f), (t2, eI G 60 g)]) (st2 := [.int (qs i), .int (nI ((bfF n z i ql qa qb f).toNatClampNeg))]) (c2 := 0) (s2 := 0) hF (c_X1_sizeOf G q0 q1 q2 q3 q4 i qs (by first | assumption | omega)) ggX4_find_X1_sizeOf (List.mem_of_getElem? (i := 19) rfl) k_7 k_10 k_11 rfl rfl rfl hs_X1_sizeOf ⟨⟨Nat.le_of_ble_eq_true rfl, Nat.le_of_ble_eq_true rfl⟩, ⟨Nat.le_of_ble_eq_true rfl, Nat.le_of_ble_eq_true rfl⟩, Nat.le_of_ble_eq_true rfl⟩ [4, 6] rfl rfl 0 rfl rfl rfl rfl rfl rfl rfl rfl rfl rfl dX4_find_50 ?_
  refine z_top (y := nI z) hz ?_
  refine z_iadd hF dX4_find_53 ?_
  refine z_top (nI_add ((bfF n z i ql qa qb f).toNatClampNeg) z) ?_
  refine z_istore_n (lv' := [some (.ref d0), some (.int (nI i)), some (.int (nI ((bfF n z i ql qa qb f).toNatClampNeg))), some (.int (nI ((bfF n z i ql qa qb f).toNatClampNeg + z)))]) hF dX4_find_54 rfl rfl ?_
  refine z_aload_n hF dX4_find_55 rfl ?_
  refine z_get (C := RX4) (T := TX4) (N := 11) (ci := 4) (v := .ref r0) hF k_0 1 (by decide) rfl k_1 rfl 0 rfl rfl dX4_find_56 ?_
  refine z_iload_n hF dX4_find_59 rfl ?_
  refine z_iload_n hF dX4_find_60 rfl ?_
  refine z_iload_n hF dX4_find_61 rfl ?_
  refine z_VN (As := [.int (nI i), .int (nI ((bfF n z i ql qa qb f).toNatClampNeg)), .int (nI ((bfF n z i ql qa qb f).toNatClampNeg + z))]) (rest := []) (ws' := [(d0, .inr (4, [.ref t0, .ref r0, .ref q0, .ref y0, .ref d1, .int o, .int (nI v), .ref u0, .ref d2, .ref d3, .ref d4])), (r0, .inr (2, [.ref r1, .ref r2, .ref r3, .int (nI m)])), (r1, eI G 12 (upd b i (nI ((bfF n z i ql qa qb f).toNatClampNeg)))), (r2, eI G 12 (upd e i (nI ((bfF n z i ql qa qb f).toNatClampNeg + z)))), (q0, .inr (1, [.ref q1, .ref q2, .ref q3, .ref q4])), (q1, eI G 720 ql), (q2, eI G 12 qs), (q3, eI G 12 qa), (q4, eI G 12 qb), (t0, .inr (3, [.ref t1, .ref t2, .int (nI n)])), (t1, eI G 60 f), (t2, eI G 60 g)]) (st2 := []) (c2 := 0) (s2 := 0) hF (c_X2_bringBack G r0 r1 r2 r3 m i (nI ((bfF n z i ql qa qb f).toNatClampNeg)) (nI ((bfF n z i ql qa qb f).toNatClampNeg + z)) b e (by first | assumption | omega)) ggX4_find_X2_bringBack (List.mem_of_getElem? (i := 20) rfl) k_2 k_12 k_13 rfl rfl rfl hs_X2_bringBack ⟨⟨Nat.le_of_ble_eq_true rfl, Nat.le_of_ble_eq_true rfl⟩, ⟨Nat.le_of_ble_eq_true rfl, Nat.le_of_ble_eq_true rfl⟩, Nat.le_of_ble_eq_true rfl⟩ [1, 2, 3] rfl rfl 0 rfl rfl rfl rfl rfl rfl rfl rfl rfl rfl dX4_find_62 ?_
  refine z_aload_n hF dX4_find_65 rfl ?_
  refine z_get (C := RX4) (T := TX4) (N := 11) (ci := 4) (v := .ref t0) hF k_0 0 (by decide) rfl k_6 rfl 0 rfl rfl dX4_find_66 ?_
  refine z_iload_n hF dX4_find_69 rfl ?_
  refine z_iload_n hF dX4_find_70 rfl ?_
  refine z_iload_n hF dX4_find_71 rfl ?_
  refine z_S (As := [.int (nI i)]) (rest := [.int (nI ((bfF n z i ql qa qb f).toNatClampNeg + z)), .int (nI ((bfF n z i ql qa qb f).toNatClampNeg)), .ref t0]) (ws' := [(d0, .inr (4, [.ref t0, .ref r0, .ref q0, .ref y0, .ref d1, .int o, .int (nI v), .ref u0, .ref d2, .ref d3, .ref d4])), (r0, .inr (2, [.ref r1, .ref r2, .ref r3, .int (nI m)])), (r1, eI G 12 (upd b i (nI ((bfF n z i ql qa qb f).toNatClampNeg)))), (r2, eI G 12 (upd e i (nI ((bfF n z i ql qa qb f).toNatClampNeg + z)))), (q0, .inr (1, [.ref q1, .ref q2, .ref q3, .ref q4])), (q1, eI G 720 ql), (q2, eI G 12 qs), (q3, eI G 12 qa), (q4, eI G 12 qb), (t0, .inr (3, [.ref t1, .ref t2, .int (nI n)])), (t1, eI G 60 f), (t2, eI G 60 g)]) (st2 := [.int (bitF (nI i)), .int (nI ((bfF n z i ql qa qb f).toNatClampNeg + z)), .int (nI ((bfF n z i ql qa qb f).toNatClampNeg)), .ref t0]) (c2 := 0) (s2 := 0) hF (c_X4_bit G (nI i)) gX4_find_X4_bit rfl rfl rfl hs_X4_bit ⟨⟨Nat.le_of_ble_eq_true rfl, Nat.le_of_ble_eq_true rfl⟩, ⟨Nat.le_of_ble_eq_true rfl, Nat.le_of_ble_eq_true rfl⟩, Nat.le_of_ble_eq_true rfl⟩ [] rfl rfl rfl rfl rfl rfl rfl rfl rfl rfl dX4_find_72 ?_
  refine z_VN (As := [.int (nI ((bfF n z i ql qa qb f).toNatClampNeg)), .int (nI ((bfF n z i ql qa qb f).toNatClampNeg + z)), .int (bitF (nI i))]) (rest := []) (ws' := [(d0, .inr (4, [.ref t0, .ref r0, .ref q0, .ref y0, .ref d1, .int o, .int (nI v), .ref u0, .ref d2, .ref d3, .ref d4])), (r0, .inr (2, [.ref r1, .ref r2, .ref r3, .int (nI m)])), (r1, eI G 12 (upd b i (nI ((bfF n z i ql qa qb f).toNatClampNeg)))), (r2, eI G 12 (upd e i (nI ((bfF n z i ql qa qb f).toNatClampNeg + z)))), (q0, .inr (1, [.ref q1, .ref q2, .ref q3, .ref q4])), (q1, eI G 720 ql), (q2, eI G 12 qs), (q3, eI G 12 qa), (q4, eI G 12 qb), (t0, .inr (3, [.ref t1, .ref t2, .int (nI n)])), (t1, eI G 60 f), (t2, eI G 60 (mrkF g ((bfF n z i ql qa qb f).toNatClampNeg) ((bfF n z i ql qa qb f).toNatClampNeg + z) (bitF (nI i))))]) (st2 := []) (c2 := 0) (s2 := 0) hF (c_X3_mark G t0 t1 t2 n ((bfF n z i ql qa qb f).toNatClampNeg) ((bfF n z i ql qa qb f).toNatClampNeg + z) g (bitF (nI i)) (by first | assumption | omega) (by first | assumption | omega)) ggX4_find_X3_mark (List.mem_of_getElem? (i := 11) rfl) k_14 k_15 k_16 rfl rfl rfl hs_X3_mark ⟨⟨Nat.le_of_ble_eq_true rfl, Nat.le_of_ble_eq_true rfl⟩, ⟨Nat.le_of_ble_eq_true rfl, Nat.le_of_ble_eq_true rfl⟩, Nat.le_of_ble_eq_true rfl⟩ [9, 11] rfl rfl 0 rfl rfl rfl rfl rfl rfl rfl rfl rfl rfl dX4_find_75 ?_
  refine z_iload_n hF dX4_find_78 rfl ?_
  exact hR.i dX4_find_79 (Nat.le_of_ble_eq_true rfl) (Nat.le_of_ble_eq_true rfl) (rfl) (hbf.1.symm)
set_option maxHeartbeats 4000000 in
set_option maxRecDepth 100000 in
theorem c_X4_find_3 (G : zG) (d0 t0 r0 q0 y0 d1 u0 d2 d3 d4 v : Nat) (o : Int32) (r1 r2 r3 m : Nat) (b : Nat → Int32) (i : Nat) (hm : m ≤ 12) (hi : i < m) (hb : ¬ b i = -1) : zX G yX4_find wsX4_find ({ frames := 6, cells := 1, slots := 6, locals := 90 }) [.ref d0, .int (nI i)] [(d0, .inr (4, [.ref t0, .ref r0, .ref q0, .ref y0, .ref d1, .int o, .int (nI v), .ref u0, .ref d2, .ref d3, .ref d4])), (r0, .inr (2, [.ref r1, .ref r2, .ref r3, .int (nI m)])), (r1, eI G 12 b)] [(d0, .inr (4, [.ref t0, .ref r0, .ref q0, .ref y0, .ref d1, .int o, .int (nI v), .ref u0, .ref d2, .ref d3, .ref d4])), (r0, .inr (2, [.ref r1, .ref r2, .ref r3, .int (nI m)])), (r1, eI G 12 b)] 3 (some (.int (nI 0))) 1 6 := by
  refine zX.ofI (own := RX4) (cc := cX4_find) (maxL := 4) rfl (by decide) rfl rfl (by simp [Value.category]) (Nat.le_of_ble_eq_true rfl) ?_
  intro X hF hZ hR
  have k_0 : ∀ w ∈ wsX40, w ∈ wsX4_find := by decide +kernel
  have k_1 : zH X (.fieldLink RX4 19 "MarginDesk" "commentRanges" "LMarginDesk$Ranges;") := hF.w (by decide +kernel)
  have k_2 : zH X (.initialized RX2) := hF.w (by decide +kernel)
  have k_3 : zH X (.instanceMethod yX2_isGone) := hF.w (by decide +kernel)
  have k_4 : zH X (.selects RX2 yX2_isGone yX2_isGone) := hF.w (by decide +kernel)
  have k_5 : zH X (.classLink RX4 95 "java/lang/IllegalStateException") := hF.w (by decide +kernel)
  have k_6 : zH X (.initialized "java/lang/IllegalStateException") := hF.w (by decide +kernel)
  have k_7 : ∀ w ∈ (vx_atS RX4 99 (zEx 3) [zRun, zExc]).filter goodWord, w ∈ wsX4_find := by first | exact fun _ h => List.mem_cons_of_mem _ (List.mem_append_right _ h) | exact fun _ h => List.mem_cons_of_mem _ (List.mem_append_left _ (List.mem_append_right _ h)) | exact fun _ h => List.mem_cons_of_mem _ (List.mem_append_left _ (List.mem_append_left _ (List.mem_append_right _ h))) | exact fun _ h => List.mem_cons_of_mem _ (List.mem_append_left _ (List.mem_append_left _ (List.mem_append_left _ (List.mem_append_right _ h)))) | exact fun _ h => List.mem_cons_of_mem _ (List.mem_append_left _ (List.mem_append_left _ (List.mem_append_left _ (List.mem_append_left _ (List.mem_append_right _ h))))) | decide +kernel
  refine z_lv (lv' := [some (.ref d0), some (.int (nI i)), none, none]) rfl ?_
  refine z_aload_n hF dX4_find_0 rfl ?_
  refine z_iload_n hF dX4_find_1 rfl ?_
  refine z_V (As := [.int (nI i)]) (rest := []) (ws' := [(d0, .inr (4, [.ref t0, .ref r0, .ref q0, .ref y0, .ref d1, .int o, .int (nI v), .ref u0, .ref d2, .ref d3, .ref d4])), (r0, .inr (2, [.ref r1, .ref r2, .ref r3, .int (nI m)])), (r1, eI G 12 b)]) (st2 := []) (c2 := 0) (s2 := 0) hF (c_X4_checkComment G d0 t0 r0 q0 y0 d1 u0 d2 d3 d4 v o r1 r2 r3 m i (by first | assumption | omega) (by first | assumption | omega)) gX4_find_X4_checkComment rfl rfl rfl hd_X4_checkComment ⟨⟨Nat.le_of_ble_eq_true rfl, Nat.le_of_ble_eq_true rfl⟩, ⟨Nat.le_of_ble_eq_true rfl, Nat.le_of_ble_eq_true rfl⟩, Nat.le_of_ble_eq_true rfl⟩ [0, 1] rfl rfl 0 rfl rfl rfl rfl rfl rfl rfl rfl rfl rfl dX4_find_2 ?_
  refine z_aload_n hF dX4_find_5 rfl ?_
  refine z_get (C := RX4) (T := TX4) (N := 11) (ci := 4) (v := .ref r0) hF k_0 1 (by decide) rfl k_1 rfl 0 rfl rfl dX4_find_6 ?_
  refine z_iload_n hF dX4_find_9 rfl ?_
  refine z_VN (As := [.int (nI i)]) (rest := []) (ws' := [(d0, .inr (4, [.ref t0, .ref r0, .ref q0, .ref y0, .ref d1, .int o, .int (nI v), .ref u0, .ref d2, .ref d3, .ref d4])), (r0, .inr (2, [.ref r1, .ref r2, .ref r3, .int (nI m)])), (r1, eI G 12 b)]) (st2 := [.int (zb (b i = -1))]) (c2 := 0) (s2 := 0) hF (c_X2_isGone G r0 r1 r2 r3 m i b (by first | assumption | omega)) ggX4_find_X2_isGone (List.mem_of_getElem? (i := 4) rfl) k_2 k_3 k_4 rfl rfl rfl hs_X2_isGone ⟨⟨Nat.le_of_ble_eq_true rfl, Nat.le_of_ble_eq_true rfl⟩, ⟨Nat.le_of_ble_eq_true rfl, Nat.le_of_ble_eq_true rfl⟩, Nat.le_of_ble_eq_true rfl⟩ [1, 2] rfl rfl 0 rfl rfl rfl rfl rfl rfl rfl rfl rfl rfl dX4_find_10 ?_
  refine z_if_ne_b (tgt := 26) hF dX4_find_13 (by decide) (fun c_1 => absurd c_1 (hb)) (fun c_1 => ?_)
  exact z_throw (k := 3) hF hZ k_5 k_6 (List.mem_of_getElem? (i := 0) rfl) k_7 zfit3 zbad3 znc3 zgood3 dX4_find_16 dX4_find_19 dX4_find_20 dX4_find_22 dX4_find_25 ⟨Nat.le_of_ble_eq_true rfl, Nat.le_of_ble_eq_true rfl, Nat.le_of_ble_eq_true rfl, Nat.le_of_ble_eq_true rfl⟩ (Nat.le_of_ble_eq_true rfl) (Nat.le_of_ble_eq_true rfl) (by decide) (rfl) rfl
set_option maxHeartbeats 4000000 in
set_option maxRecDepth 100000 in
theorem c_X4_comments (G : zG) (d0 t0 r0 q0 y0 d1 u0 d2 d3 d4 v : Nat) (o : Int32) (r1 r2 r3 m : Nat)  : zM G yX4_comments wsX4_comments ({ frames := 0, cells := 0, slots := 0, locals := 12 }) [.ref d0] [(d0, .inr (4, [.ref t0, .ref r0, .ref q0, .ref y0, .ref d1, .int o, .int (nI v), .ref u0, .ref d2, .ref d3, .ref d4])), (r0, .inr (2, [.ref r1, .ref r2, .ref r3, .int (nI m)]))] [(d0, .inr (4, [.ref t0, .ref r0, .ref q0, .ref y0, .ref d1, .int o, .int (nI v), .ref u0, .ref d2, .ref d3, .ref d4])), (r0, .inr (2, [.ref r1, .ref r2, .ref r3, .int (nI m)]))] (some (.int (nI m))) 0 0 := by
  refine zM.ofI (own := RX4) (cc := cX4_comments) (maxL := 1) rfl (by decide) rfl rfl (by simp [Value.category]) (Nat.le_of_ble_eq_true rfl) ?_
  intro X hF hR
  have k_0 : ∀ w ∈ wsX40, w ∈ wsX4_comments := by decide +kernel
  have k_1 : zH X (.fieldLink RX4 19 "MarginDesk" "commentRanges" "LMarginDesk$Ranges;") := hF.w (by decide +kernel)
  have k_2 : ∀ w ∈ wsX20, w ∈ wsX4_comments := by decide +kernel
  have k_3 : zH X (.fieldLinkNest RX4 92 "MarginDesk$Ranges" "count" "I" RX4) := hF.nf (List.mem_of_getElem? (i := 3) rfl)
  refine z_lv (lv' := [some (.ref d0)]) rfl ?_
  refine z_aload_n hF dX4_comments_0 rfl ?_
  refine z_get (C := RX4) (T := TX4) (N := 11) (ci := 4) (v := .ref r0) hF k_0 1 (by decide) rfl k_1 rfl 0 rfl rfl dX4_comments_1 ?_
  refine z_getN (C := RX2) (T := TX2) (N := 4) (ci := 2) (v := .int (nI m)) hF k_2 3 (by decide) rfl k_3 rfl 1 rfl rfl dX4_comments_4 ?_
  exact hR.i dX4_comments_7 (Nat.le_of_ble_eq_true rfl) (Nat.le_of_ble_eq_true rfl) (rfl) (rfl)
set_option maxHeartbeats 4000000 in
set_option maxRecDepth 100000 in
theorem c_X4_rangeOf (G : zG) (d0 t0 r0 q0 y0 d1 u0 d2 d3 d4 v : Nat) (o : Int32) (r1 r2 r3 m : Nat) (b : Nat → Int32) (e : Nat → Int32) (i : Nat) (hm : m ≤ 12) (hi : i < m) : zM G yX4_rangeOf wsX4_rangeOf ({ frames := 2, cells := 0, slots := 0, locals := 54 }) [.ref d0, .int (nI i)] [(d0, .inr (4, [.ref t0, .ref r0, .ref q0, .ref y0, .ref d1, .int o, .int (nI v), .ref u0, .ref d2, .ref d3, .ref d4])), (r0, .inr (2, [.ref r1, .ref r2, .ref r3, .int (nI m)])), (r1, eI G 12 b), (r2, eI G 12 e)] [(d0, .inr (4, [.ref t0, .ref r0, .ref q0, .ref y0, .ref d1, .int o, .int (nI v), .ref u0, .ref d2, .ref d3, .ref d4])), (r0, .inr (2, [.ref r1, .ref r2, .ref r3, .int (nI m)])), (r1, eI G 12 b), (r2, eI G 12 e)] (some (.int (numF (b i) (e i)))) 0 0 := by
  refine zM.ofI (own := RX4) (cc := cX4_rangeOf) (maxL := 2) rfl (by decide) rfl rfl (by simp [Value.category]) (Nat.le_of_ble_eq_true rfl) ?_
  intro X hF hR
  have k_0 : ∀ w ∈ wsX40, w ∈ wsX4_rangeOf := by decide +kernel
  have k_1 : zH X (.fieldLink RX4 19 "MarginDesk" "commentRanges" "LMarginDesk$Ranges;") := hF.w (by decide +kernel)
  have k_2 : zH X (.initialized RX2) := hF.w (by decide +kernel)
  have k_3 : zH X (.instanceMethod yX2_asNumber) := hF.w (by decide +kernel)
  have k_4 : zH X (.selects RX2 yX2_asNumber yX2_asNumber) := hF.w (by decide +kernel)
  refine z_lv (lv' := [some (.ref d0), some (.int (nI i))]) rfl ?_
  refine z_aload_n hF dX4_rangeOf_0 rfl ?_
  refine z_iload_n hF dX4_rangeOf_1 rfl ?_
  refine z_V (As := [.int (nI i)]) (rest := []) (ws' := [(d0, .inr (4, [.ref t0, .ref r0, .ref q0, .ref y0, .ref d1, .int o, .int (nI v), .ref u0, .ref d2, .ref d3, .ref d4])), (r0, .inr (2, [.ref r1, .ref r2, .ref r3, .int (nI m)])), (r1, eI G 12 b), (r2, eI G 12 e)]) (st2 := []) (c2 := 0) (s2 := 0) hF (c_X4_checkComment G d0 t0 r0 q0 y0 d1 u0 d2 d3 d4 v o r1 r2 r3 m i (by first | assumption | omega) (by first | assumption | omega)) gX4_rangeOf_X4_checkComment rfl rfl rfl hd_X4_checkComment ⟨⟨Nat.le_of_ble_eq_true rfl, Nat.le_of_ble_eq_true rfl⟩, ⟨Nat.le_of_ble_eq_true rfl, Nat.le_of_ble_eq_true rfl⟩, Nat.le_of_ble_eq_true rfl⟩ [0, 1] rfl rfl 0 rfl rfl rfl rfl rfl rfl rfl rfl rfl rfl dX4_rangeOf_2 ?_
  refine z_aload_n hF dX4_rangeOf_5 rfl ?_
  refine z_get (C := RX4) (T := TX4) (N := 11) (ci := 4) (v := .ref r0) hF k_0 1 (by decide) rfl k_1 rfl 0 rfl rfl dX4_rangeOf_6 ?_
  refine z_iload_n hF dX4_rangeOf_9 rfl ?_
  refine z_VN (As := [.int (nI i)]) (rest := []) (ws' := [(d0, .inr (4, [.ref t0, .ref r0, .ref q0, .ref y0, .ref d1, .int o, .int (nI v), .ref u0, .ref d2, .ref d3, .ref d4])), (r0, .inr (2, [.ref r1, .ref r2, .ref r3, .int (nI m)])), (r1, eI G 12 b), (r2, eI G 12 e)]) (st2 := [.int (numF (b i) (e i))]) (c2 := 0) (s2 := 0) hF (c_X2_asNumber G r0 r1 r2 r3 m i b e (by first | assumption | omega)) ggX4_rangeOf_X2_asNumber (List.mem_of_getElem? (i := 21) rfl) k_2 k_3 k_4 rfl rfl rfl hs_X2_asNumber ⟨⟨Nat.le_of_ble_eq_true rfl, Nat.le_of_ble_eq_true rfl⟩, ⟨Nat.le_of_ble_eq_true rfl, Nat.le_of_ble_eq_true rfl⟩, Nat.le_of_ble_eq_true rfl⟩ [1, 2, 3] rfl rfl 0 rfl rfl rfl rfl rfl rfl rfl rfl rfl rfl dX4_rangeOf_10 ?_
  exact hR.i dX4_rangeOf_13 (Nat.le_of_ble_eq_true rfl) (Nat.le_of_ble_eq_true rfl) (rfl) (rfl)
set_option maxHeartbeats 4000000 in
set_option maxRecDepth 100000 in
theorem c_X4_rangeThen (G : zG) (d0 t0 r0 q0 y0 d1 u0 d2 d3 d4 v : Nat) (o : Int32) (r1 r2 r3 m : Nat) (b : Nat → Int32) (e : Nat → Int32) (y1 : Nat) (h : Nat → Int32) (i w : Nat) (hm : m ≤ 12) (hi : i < m) (hv : v ≤ 300) (hw : w ≤ v) : zM G yX4_rangeThen wsX4_rangeThen ({ frames := 2, cells := 0, slots := 0, locals := 54 }) [.ref d0, .int (nI i), .int (nI w)] [(d0, .inr (4, [.ref t0, .ref r0, .ref q0, .ref y0, .ref d1, .int o, .int (nI v), .ref u0, .ref d2, .ref d3, .ref d4])), (r0, .inr (2, [.ref r1, .ref r2, .ref r3, .int (nI m)])), (r1, eI G 12 b), (r2, eI G 12 e), (y0, .inr (0, [.ref y1])), (y1, eI G 3600 h)] [(d0, .inr (4, [.ref t0, .ref r0, .ref q0, .ref y0, .ref d1, .int o, .int (nI v), .ref u0, .ref d2, .ref d3, .ref d4])), (r0, .inr (2, [.ref r1, .ref r2, .ref r3, .int (nI m)])), (r1, eI G 12 b), (r2, eI G 12 e), (y0, .inr (0, [.ref y1])), (y1, eI G 3600 h)] (some (.int (if w = v then numF (b i) (e i) else h (w * 12 + i)))) 0 0 := by
  refine zM.ofI (own := RX4) (cc := cX4_rangeThen) (maxL := 3) rfl (by decide) rfl rfl (by simp [Value.category]) (Nat.le_of_ble_eq_true rfl) ?_
  intro X hF hR
  have k_0 : ∀ w ∈ wsX40, w ∈ wsX4_rangeThen := by decide +kernel
  have k_1 : zH X (.fieldLink RX4 45 "MarginDesk" "edits" "I") := hF.w (by decide +kernel)
  have k_2 : zH X (.fieldLink RX4 33 "MarginDesk" "history" "LMarginDesk$History;") := hF.w (by decide +kernel)
  have k_3 : zH X (.initialized RX0) := hF.w (by decide +kernel)
  have k_4 : zH X (.instanceMethod yX0_rangeAt) := hF.w (by decide +kernel)
  have k_5 : zH X (.selects RX0 yX0_rangeAt yX0_rangeAt) := hF.w (by decide +kernel)
  have k_6 : zH X (.fieldLink RX4 19 "MarginDesk" "commentRanges" "LMarginDesk$Ranges;") := hF.w (by decide +kernel)
  have k_7 : zH X (.initialized RX2) := hF.w (by decide +kernel)
  have k_8 : zH X (.instanceMethod yX2_asNumber) := hF.w (by decide +kernel)
  have k_9 : zH X (.selects RX2 yX2_asNumber yX2_asNumber) := hF.w (by decide +kernel)
  refine z_lv (lv' := [some (.ref d0), some (.int (nI i)), some (.int (nI w))]) rfl ?_
  refine z_aload_n hF dX4_rangeThen_0 rfl ?_
  refine z_iload_n hF dX4_rangeThen_1 rfl ?_
  refine z_V (As := [.int (nI i)]) (rest := []) (ws' := [(d0, .inr (4, [.ref t0, .ref r0, .ref q0, .ref y0, .ref d1, .int o, .int (nI v), .ref u0, .ref d2, .ref d3, .ref d4])), (r0, .inr (2, [.ref r1, .ref r2, .ref r3, .int (nI m)])), (r1, eI G 12 b), (r2, eI G 12 e), (y0, .inr (0, [.ref y1])), (y1, eI G 3600 h)]) (st2 := []) (c2 := 0) (s2 := 0) hF (c_X4_checkComment G d0 t0 r0 q0 y0 d1 u0 d2 d3 d4 v o r1 r2 r3 m i (by first | assumption | omega) (by first | assumption | omega)) gX4_rangeThen_X4_checkComment rfl rfl rfl hd_X4_checkComment ⟨⟨Nat.le_of_ble_eq_true rfl, Nat.le_of_ble_eq_true rfl⟩, ⟨Nat.le_of_ble_eq_true rfl, Nat.le_of_ble_eq_true rfl⟩, Nat.le_of_ble_eq_true rfl⟩ [0, 1] rfl rfl 0 rfl rfl rfl rfl rfl rfl rfl rfl rfl rfl dX4_rangeThen_2 ?_
  refine z_iload_n hF dX4_rangeThen_5 rfl ?_
  refine z_if_lt (tgt := 17) hF dX4_rangeThen_6 (by decide) (fun c_1 => absurd c_1 (Int32.not_lt.mpr (nI_pos' (by omega)))) (fun c_1 => ?_)
  refine z_iload_n hF dX4_rangeThen_9 rfl ?_
  refine z_aload_n hF dX4_rangeThen_10 rfl ?_
  refine z_get (C := RX4) (T := TX4) (N := 11) (ci := 4) (v := .int (nI v)) hF k_0 6 (by decide) rfl k_1 rfl 0 rfl rfl dX4_rangeThen_11 ?_
  refine z_icn_le (tgt := 27) hF (by omega) (by omega) dX4_rangeThen_14 (by decide) (fun c_2 => ?_) (fun c_2 => absurd c_2 (by omega))
  refine z_iload_n hF dX4_rangeThen_27 rfl ?_
  refine z_aload_n hF dX4_rangeThen_28 rfl ?_
  refine z_get (C := RX4) (T := TX4) (N := 11) (ci := 4) (v := .int (nI v)) hF k_0 6 (by decide) rfl k_1 rfl 0 rfl rfl dX4_rangeThen_29 ?_
  refine z_icn_ne (tgt := 46) hF (by omega) (by omega) dX4_rangeThen_32 (by decide) (fun c32 => ?_) (fun c32 => ?_)
  · refine z_aload_n hF dX4_rangeThen_46 rfl ?_
    refine z_get (C := RX4) (T := TX4) (N := 11) (ci := 4) (v := .ref y0) hF k_0 3 (by decide) rfl k_2 rfl 0 rfl rfl dX4_rangeThen_47 ?_
    refine z_iload_n hF dX4_rangeThen_50 rfl ?_
    refine z_iload_n hF dX4_rangeThen_51 rfl ?_
    refine z_VN (As := [.int (nI w), .int (nI i)]) (rest := []) (ws' := [(d0, .inr (4, [.ref t0, .ref r0, .ref q0, .ref y0, .ref d1, .int o, .int (nI v), .ref u0, .ref d2, .ref d3, .ref d4])), (r0, .inr (2, [.ref r1, .ref r2, .ref r3, .int (nI m)])), (r1, eI G 12 b), (r2, eI G 12 e), (y0, .inr (0, [.ref y1])), (y1, eI G 3600 h)]) (st2 := [.int (h (w * 12 + i))]) (c2 := 0) (s2 := 0) hF (c_X0_rangeAt G y0 y1 w i h (by first | assumption | omega) (by first | assumption | omega)) ggX4_rangeThen_X0_rangeAt (List.mem_of_getElem? (i := 22) rfl) k_3 k_4 k_5 rfl rfl rfl hs_X0_rangeAt ⟨⟨Nat.le_of_ble_eq_true rfl, Nat.le_of_ble_eq_true rfl⟩, ⟨Nat.le_of_ble_eq_true rfl, Nat.le_of_ble_eq_true rfl⟩, Nat.le_of_ble_eq_true rfl⟩ [4, 5] rfl rfl 0 rfl rfl rfl rfl rfl rfl rfl rfl rfl rfl dX4_rangeThen_52 ?_
    exact hR.i dX4_rangeThen_55 (Nat.le_of_ble_eq_true rfl) (Nat.le_of_ble_eq_true rfl) (rfl) (by simp [c32])
  · refine z_aload_n hF dX4_rangeThen_35 rfl ?_
    refine z_get (C := RX4) (T := TX4) (N := 11) (ci := 4) (v := .ref r0) hF k_0 1 (by decide) rfl k_6 rfl 0 rfl rfl dX4_rangeThen_36 ?_
    refine z_iload_n hF dX4_rangeThen_39 rfl ?_
    refine z_VN (As := [.int (nI i)]) (rest := []) (ws' := [(d0, .inr (4, [.ref t0, .ref r0, .ref q0, .ref y0, .ref d1, .int o, .int (nI v), .ref u0, .ref d2, .ref d3, .ref d4])), (r0, .inr (2, [.ref r1, .ref r2, .ref r3, .int (nI m)])), (r1, eI G 12 b), (r2, eI G 12 e), (y0, .inr (0, [.ref y1])), (y1, eI G 3600 h)]) (st2 := [.int (numF (b i) (e i))]) (c2 := 0) (s2 := 0) hF (c_X2_asNumber G r0 r1 r2 r3 m i b e (by first | assumption | omega)) ggX4_rangeThen_X2_asNumber (List.mem_of_getElem? (i := 21) rfl) k_7 k_8 k_9 rfl rfl rfl hs_X2_asNumber ⟨⟨Nat.le_of_ble_eq_true rfl, Nat.le_of_ble_eq_true rfl⟩, ⟨Nat.le_of_ble_eq_true rfl, Nat.le_of_ble_eq_true rfl⟩, Nat.le_of_ble_eq_true rfl⟩ [1, 2, 3] rfl rfl 0 rfl rfl rfl rfl rfl rfl rfl rfl rfl rfl dX4_rangeThen_40 ?_
    refine z_goto (tgt := 55) hF dX4_rangeThen_43 (by decide) ?_
    exact hR.i dX4_rangeThen_55 (Nat.le_of_ble_eq_true rfl) (Nat.le_of_ble_eq_true rfl) (rfl) (by simp [c32])
set_option maxHeartbeats 4000000 in
set_option maxRecDepth 100000 in
theorem c_X4_open (G : zG) (d0 t0 r0 q0 y0 d1 u0 d2 d3 d4 v : Nat) (o : Int32)  : zM G yX4_open wsX4_open ({ frames := 0, cells := 0, slots := 0, locals := 12 }) [.ref d0] [(d0, .inr (4, [.ref t0, .ref r0, .ref q0, .ref y0, .ref d1, .int o, .int (nI v), .ref u0, .ref d2, .ref d3, .ref d4]))] [(d0, .inr (4, [.ref t0, .ref r0, .ref q0, .ref y0, .ref d1, .int o, .int (nI v), .ref u0, .ref d2, .ref d3, .ref d4]))] (some (.int o)) 0 0 := by
  refine zM.ofI (own := RX4) (cc := cX4_open) (maxL := 1) rfl (by decide) rfl rfl (by simp [Value.category]) (Nat.le_of_ble_eq_true rfl) ?_
  intro X hF hR
  have k_0 : ∀ w ∈ wsX40, w ∈ wsX4_open := by decide +kernel
  have k_1 : zH X (.fieldLink RX4 41 "MarginDesk" "openSet" "I") := hF.w (by decide +kernel)
  refine z_lv (lv' := [some (.ref d0)]) rfl ?_
  refine z_aload_n hF dX4_open_0 rfl ?_
  refine z_get (C := RX4) (T := TX4) (N := 11) (ci := 4) (v := .int o) hF k_0 5 (by decide) rfl k_1 rfl 0 rfl rfl dX4_open_1 ?_
  exact hR.i dX4_open_4 (Nat.le_of_ble_eq_true rfl) (Nat.le_of_ble_eq_true rfl) (rfl) (rfl)
set_option maxHeartbeats 4000000 in
set_option maxRecDepth 100000 in
theorem c_X4_orphans (G : zG) (d0 t0 r0 q0 y0 d1 u0 d2 d3 d4 v : Nat) (o : Int32) (r1 r2 r3 m : Nat) (b : Nat → Int32) (hm : m ≤ 12) : zM G yX4_orphans wsX4_orphans ({ frames := 1, cells := 0, slots := 0, locals := 33 }) [.ref d0] [(d0, .inr (4, [.ref t0, .ref r0, .ref q0, .ref y0, .ref d1, .int o, .int (nI v), .ref u0, .ref d2, .ref d3, .ref d4])), (r0, .inr (2, [.ref r1, .ref r2, .ref r3, .int (nI m)])), (r1, eI G 12 b)] [(d0, .inr (4, [.ref t0, .ref r0, .ref q0, .ref y0, .ref d1, .int o, .int (nI v), .ref u0, .ref d2, .ref d3, .ref d4])), (r0, .inr (2, [.ref r1, .ref r2, .ref r3, .int (nI m)])), (r1, eI G 12 b)] (some (.int (cov (fun kk => b kk = -1) m))) 0 0 := by
  refine zM.ofI (own := RX4) (cc := cX4_orphans) (maxL := 3) rfl (by decide) rfl rfl (by simp [Value.category]) (Nat.le_of_ble_eq_true rfl) ?_
  intro X hF hR
  have k_0 : ∀ w ∈ wsX40, w ∈ wsX4_orphans := by decide +kernel
  have k_1 : zH X (.fieldLink RX4 19 "MarginDesk" "commentRanges" "LMarginDesk$Ranges;") := hF.w (by decide +kernel)
  have k_2 : ∀ w ∈ wsX20, w ∈ wsX4_orphans := by decide +kernel
  have k_3 : zH X (.fieldLinkNest RX4 92 "MarginDesk$Ranges" "count" "I" RX4) := hF.nf (List.mem_of_getElem? (i := 3) rfl)
  have k_4 : zH X (.initialized RX2) := hF.w (by decide +kernel)
  have k_5 : zH X (.instanceMethod yX2_isGone) := hF.w (by decide +kernel)
  have k_6 : zH X (.selects RX2 yX2_isGone yX2_isGone) := hF.w (by decide +kernel)
  refine z_lv (lv' := [some (.ref d0), none, none]) rfl ?_
  refine z_iconst (v := nI 0) hF dX4_orphans_0 (by decide) ?_
  refine z_istore_n (lv' := [some (.ref d0), some (.int (nI 0)), none]) hF dX4_orphans_1 rfl rfl ?_
  refine z_iconst (v := nI 0) hF dX4_orphans_2 (by decide) ?_
  refine z_istore_n (lv' := [some (.ref d0), some (.int (nI 0)), some (.int (nI 0))]) hF dX4_orphans_3 rfl rfl ?_
  refine z_lv (lv' := [some (.ref d0), some (.int (cov (fun kk => b kk = -1) 0)), some (.int (nI 0))]) (by rfl) ?_
  have J_4 : ∀ (n9 : Nat) (i : Nat), m - i < n9 → (i ≤ m) → zJ G X 4 [(d0, .inr (4, [.ref t0, .ref r0, .ref q0, .ref y0, .ref d1, .int o, .int (nI v), .ref u0, .ref d2, .ref d3, .ref d4])), (r0, .inr (2, [.ref r1, .ref r2, .ref r3, .int (nI m)])), (r1, eI G 12 b)] [some (.ref d0), some (.int (cov (fun kk => b kk = -1) i)), some (.int (nI i))] [] 0 0 := by
    intro n9
    induction n9 with
    | zero => intro i hmu; exact absurd hmu (Nat.not_lt_zero _)
    | succ n9 ih =>
      intro i hmu h2
      refine z_iload_n hF dX4_orphans_4 rfl ?_
      refine z_aload_n hF dX4_orphans_5 rfl ?_
      refine z_get (C := RX4) (T := TX4) (N := 11) (ci := 4) (v := .ref r0) hF k_0 1 (by decide) rfl k_1 rfl 0 rfl rfl dX4_orphans_6 ?_
      refine z_getN (C := RX2) (T := TX2) (N := 4) (ci := 2) (v := .int (nI m)) hF k_2 3 (by decide) rfl k_3 rfl 1 rfl rfl dX4_orphans_9 ?_
      refine z_icn_ge (tgt := 39) hF (by omega) (by omega) dX4_orphans_12 (by decide) (fun c_1 => ?_) (fun c_1 => ?_)
      · refine z_iload_n hF dX4_orphans_39 rfl ?_
        exact hR.i dX4_orphans_40 (Nat.le_of_ble_eq_true rfl) (Nat.le_of_ble_eq_true rfl) (rfl) (by rw [show i = m by omega])
      · refine z_aload_n hF dX4_orphans_15 rfl ?_
        refine z_get (C := RX4) (T := TX4) (N := 11) (ci := 4) (v := .ref r0) hF k_0 1 (by decide) rfl k_1 rfl 0 rfl rfl dX4_orphans_16 ?_
        refine z_iload_n hF dX4_orphans_19 rfl ?_
        refine z_VN (As := [.int (nI i)]) (rest := []) (ws' := [(d0, .inr (4, [.ref t0, .ref r0, .ref q0, .ref y0, .ref d1, .int o, .int (nI v), .ref u0, .ref d2, .ref d3, .ref d4])), (r0, .inr (2, [.ref r1, .ref r2, .ref r3, .int (nI m)])), (r1, eI G 12 b)]) (st2 := [.int (zb (b i = -1))]) (c2 := 0) (s2 := 0) hF (c_X2_isGone G r0 r1 r2 r3 m i b (by first | assumption | omega)) ggX4_orphans_X2_isGone (List.mem_of_getElem? (i := 4) rfl) k_4 k_5 k_6 rfl rfl rfl hs_X2_isGone ⟨⟨Nat.le_of_ble_eq_true rfl, Nat.le_of_ble_eq_true rfl⟩, ⟨Nat.le_of_ble_eq_true rfl, Nat.le_of_ble_eq_true rfl⟩, Nat.le_of_ble_eq_true rfl⟩ [1, 2] rfl rfl 0 rfl rfl rfl rfl rfl rfl rfl rfl rfl rfl dX4_orphans_20 ?_
        refine z_if_eq_b (tgt := 33) hF dX4_orphans_23 (by decide) (fun hb => ?_) (fun hb => ?_)
        · refine z_iinc (v := nI (i + 1)) (lv' := [some (.ref d0), some (.int (cov (fun kk => b kk = -1) i)), some (.int (nI (i + 1)))]) hF dX4_orphans_33 rfl (nI_1 i) rfl rfl ?_
          refine z_goto (tgt := 4) hF dX4_orphans_36 (by decide) ?_
          refine z_lv (lv' := [some (.ref d0), some (.int (cov (fun kk => b kk = -1) (i + 1))), some (.int (nI (i + 1)))]) (by rw [cov_f (k := i) hb]) ?_
          exact ih (i + 1) (by omega) (by omega)
        · refine z_iload_n hF dX4_orphans_26 rfl ?_
          refine z_iload_n hF dX4_orphans_27 rfl ?_
          refine z_S (As := [.int (nI i)]) (rest := [.int (cov (fun kk => b kk = -1) i)]) (ws' := [(d0, .inr (4, [.ref t0, .ref r0, .ref q0, .ref y0, .ref d1, .int o, .int (nI v), .ref u0, .ref d2, .ref d3, .ref d4])), (r0, .inr (2, [.ref r1, .ref r2, .ref r3, .int (nI m)])), (r1, eI G 12 b)]) (st2 := [.int (bitF (nI i)), .int (cov (fun kk => b kk = -1) i)]) (c2 := 0) (s2 := 0) hF (c_X4_bit G (nI i)) gX4_orphans_X4_bit rfl rfl rfl hs_X4_bit ⟨⟨Nat.le_of_ble_eq_true rfl, Nat.le_of_ble_eq_true rfl⟩, ⟨Nat.le_of_ble_eq_true rfl, Nat.le_of_ble_eq_true rfl⟩, Nat.le_of_ble_eq_true rfl⟩ [] rfl rfl rfl rfl rfl rfl rfl rfl rfl rfl dX4_orphans_28 ?_
          refine z_ior hF dX4_orphans_31 ?_
          refine z_top (y := cov (fun kk => b kk = -1) (i + 1)) (cov_t (P := fun kk => b kk = -1) hb) ?_
          refine z_istore_n (lv' := [some (.ref d0), some (.int (cov (fun kk => b kk = -1) (i + 1))), some (.int (nI i))]) hF dX4_orphans_32 rfl rfl ?_
          refine z_iinc (v := nI (i + 1)) (lv' := [some (.ref d0), some (.int (cov (fun kk => b kk = -1) (i + 1))), some (.int (nI (i + 1)))]) hF dX4_orphans_33 rfl (nI_1 i) rfl rfl ?_
          refine z_goto (tgt := 4) hF dX4_orphans_36 (by decide) ?_
          exact ih (i + 1) (by omega) (by omega)
  exact J_4 ((m - 0) + 1) 0 (Nat.lt_succ_self _) (by omega)
set_option maxHeartbeats 4000000 in
set_option maxRecDepth 100000 in
theorem c_X4_cover (G : zG) (d0 t0 r0 q0 y0 d1 u0 d2 d3 d4 v : Nat) (o : Int32) (t1 t2 n : Nat) (r1 r2 r3 m : Nat) (b : Nat → Int32) (e : Nat → Int32) (a : Nat) (hn : n ≤ 60) (hm : m ≤ 12) (ha : a ≤ n) : zM G yX4_cover wsX4_cover ({ frames := 2, cells := 0, slots := 0, locals := 55 }) [.ref d0, .int (nI a)] [(d0, .inr (4, [.ref t0, .ref r0, .ref q0, .ref y0, .ref d1, .int o, .int (nI v), .ref u0, .ref d2, .ref d3, .ref d4])), (t0, .inr (3, [.ref t1, .ref t2, .int (nI n)])), (r0, .inr (2, [.ref r1, .ref r2, .ref r3, .int (nI m)])), (r1, eI G 12 b), (r2, eI G 12 e)] [(d0, .inr (4, [.ref t0, .ref r0, .ref q0, .ref y0, .ref d1, .int o, .int (nI v), .ref u0, .ref d2, .ref d3, .ref d4])), (t0, .inr (3, [.ref t1, .ref t2, .int (nI n)])), (r0, .inr (2, [.ref r1, .ref r2, .ref r3, .int (nI m)])), (r1, eI G 12 b), (r2, eI G 12 e)] (some (.int (covF b e m (nI a)))) 0 0 := by
  refine zM.ofI (own := RX4) (cc := cX4_cover) (maxL := 2) rfl (by decide) rfl rfl (by simp [Value.category]) (Nat.le_of_ble_eq_true rfl) ?_
  intro X hF hR
  have k_0 : ∀ w ∈ wsX40, w ∈ wsX4_cover := by decide +kernel
  have k_1 : zH X (.fieldLink RX4 19 "MarginDesk" "commentRanges" "LMarginDesk$Ranges;") := hF.w (by decide +kernel)
  have k_2 : zH X (.initialized RX2) := hF.w (by decide +kernel)
  have k_3 : zH X (.instanceMethod yX2_covering) := hF.w (by decide +kernel)
  have k_4 : zH X (.selects RX2 yX2_covering yX2_covering) := hF.w (by decide +kernel)
  refine z_lv (lv' := [some (.ref d0), some (.int (nI a))]) rfl ?_
  refine z_aload_n hF dX4_cover_0 rfl ?_
  refine z_iload_n hF dX4_cover_1 rfl ?_
  refine z_V (As := [.int (nI a)]) (rest := []) (ws' := [(d0, .inr (4, [.ref t0, .ref r0, .ref q0, .ref y0, .ref d1, .int o, .int (nI v), .ref u0, .ref d2, .ref d3, .ref d4])), (t0, .inr (3, [.ref t1, .ref t2, .int (nI n)])), (r0, .inr (2, [.ref r1, .ref r2, .ref r3, .int (nI m)])), (r1, eI G 12 b), (r2, eI G 12 e)]) (st2 := []) (c2 := 0) (s2 := 0) hF (c_X4_checkPlace G d0 t0 r0 q0 y0 d1 u0 d2 d3 d4 v o t1 t2 n a (by first | assumption | omega) (by first | assumption | omega)) gX4_cover_X4_checkPlace rfl rfl rfl hd_X4_checkPlace ⟨⟨Nat.le_of_ble_eq_true rfl, Nat.le_of_ble_eq_true rfl⟩, ⟨Nat.le_of_ble_eq_true rfl, Nat.le_of_ble_eq_true rfl⟩, Nat.le_of_ble_eq_true rfl⟩ [0, 1] rfl rfl 0 rfl rfl rfl rfl rfl rfl rfl rfl rfl rfl dX4_cover_2 ?_
  refine z_aload_n hF dX4_cover_5 rfl ?_
  refine z_get (C := RX4) (T := TX4) (N := 11) (ci := 4) (v := .ref r0) hF k_0 1 (by decide) rfl k_1 rfl 0 rfl rfl dX4_cover_6 ?_
  refine z_iload_n hF dX4_cover_9 rfl ?_
  refine z_VN (As := [.int (nI a)]) (rest := []) (ws' := [(d0, .inr (4, [.ref t0, .ref r0, .ref q0, .ref y0, .ref d1, .int o, .int (nI v), .ref u0, .ref d2, .ref d3, .ref d4])), (t0, .inr (3, [.ref t1, .ref t2, .int (nI n)])), (r0, .inr (2, [.ref r1, .ref r2, .ref r3, .int (nI m)])), (r1, eI G 12 b), (r2, eI G 12 e)]) (st2 := [.int (covF b e m (nI a))]) (c2 := 0) (s2 := 0) hF (c_X2_covering G r0 r1 r2 r3 m (nI a) b e (by first | assumption | omega)) ggX4_cover_X2_covering (List.mem_of_getElem? (i := 5) rfl) k_2 k_3 k_4 rfl rfl rfl hs_X2_covering ⟨⟨Nat.le_of_ble_eq_true rfl, Nat.le_of_ble_eq_true rfl⟩, ⟨Nat.le_of_ble_eq_true rfl, Nat.le_of_ble_eq_true rfl⟩, Nat.le_of_ble_eq_true rfl⟩ [2, 3, 4] rfl rfl 0 rfl rfl rfl rfl rfl rfl rfl rfl rfl rfl dX4_cover_10 ?_
  exact hR.i dX4_cover_13 (Nat.le_of_ble_eq_true rfl) (Nat.le_of_ble_eq_true rfl) (rfl) (rfl)
