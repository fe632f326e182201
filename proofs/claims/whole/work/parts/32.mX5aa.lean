set_option maxHeartbeats 4000000 in
set_option maxRecDepth 100000 in
theorem c_X5_thrown (G : zG) (w0 w1 w2 w3 w4 w5 w6 w7 w8 w9 w10 w11 w12 w13 w14 w15 w16 n v m j : Nat) (th : Int32)  : zM G yX5_thrown wsX5_thrown ({ frames := 0, cells := 0, slots := 0, locals := 12 }) [.ref w0] [(w0, .inr (5, [.int th, .int (nI n), .ref w1, .int (nI v), .int (nI m), .ref w2, .ref w3, .ref w4, .ref w5, .ref w6, .ref w7, .ref w8, .ref w9, .ref w10, .ref w11, .int (nI j), .ref w12, .ref w13, .ref w14, .ref w15, .ref w16]))] [(w0, .inr (5, [.int th, .int (nI n), .ref w1, .int (nI v), .int (nI m), .ref w2, .ref w3, .ref w4, .ref w5, .ref w6, .ref w7, .ref w8, .ref w9, .ref w10, .ref w11, .int (nI j), .ref w12, .ref w13, .ref w14, .ref w15, .ref w16]))] (some (.int th)) 0 0 := by
  refine zM.ofI (own := RX5) (cc := cX5_thrown) (maxL := 1) rfl (by decide) rfl rfl (by simp [Value.category]) (Nat.le_of_ble_eq_true rfl) ?_
  intro X hF hR
  have k_0 : ∀ w ∈ wsX50, w ∈ wsX5_thrown := by decide +kernel
  have k_1 : zH X (.fieldLink RX5 62 "MarginDeskModel" "thrown" "I") := hF.w (by decide +kernel)
  refine z_lv (lv' := [some (.ref w0)]) rfl ?_
  refine z_aload_n hF dX5_thrown_0 rfl ?_
  refine z_get (C := RX5) (T := TX5) (N := 21) (ci := 5) (v := .int th) hF k_0 0 (by decide) rfl k_1 rfl 0 rfl rfl dX5_thrown_1 ?_
  exact hR.i dX5_thrown_4 (Nat.le_of_ble_eq_true rfl) (Nat.le_of_ble_eq_true rfl) (rfl) (rfl)
set_option maxHeartbeats 4000000 in
set_option maxRecDepth 100000 in
theorem c_X5_fails (G : zG) (w0 w1 w2 w3 w4 w5 w6 w7 w8 w9 w10 w11 w12 w13 w14 w15 w16 n v m j : Nat) (th : Int32) (a : Int32)  : zM G yX5_fails wsX5_fails ({ frames := 0, cells := 0, slots := 0, locals := 12 }) [.ref w0, .int a] [(w0, .inr (5, [.int th, .int (nI n), .ref w1, .int (nI v), .int (nI m), .ref w2, .ref w3, .ref w4, .ref w5, .ref w6, .ref w7, .ref w8, .ref w9, .ref w10, .ref w11, .int (nI j), .ref w12, .ref w13, .ref w14, .ref w15, .ref w16]))] [(w0, .inr (5, [.int a, .int (nI n), .ref w1, .int (nI v), .int (nI m), .ref w2, .ref w3, .ref w4, .ref w5, .ref w6, .ref w7, .ref w8, .ref w9, .ref w10, .ref w11, .int (nI j), .ref w12, .ref w13, .ref w14, .ref w15, .ref w16]))] (some (.int (nI 0))) 0 0 := by
  refine zM.ofI (own := RX5) (cc := cX5_fails) (maxL := 2) rfl (by decide) rfl rfl (by simp [Value.category]) (Nat.le_of_ble_eq_true rfl) ?_
  intro X hF hR
  have k_0 : ∀ w ∈ wsX50, w ∈ wsX5_fails := by decide +kernel
  have k_1 : zH X (.fieldLink RX5 62 "MarginDeskModel" "thrown" "I") := hF.w (by decide +kernel)
  refine z_lv (lv' := [some (.ref w0), some (.int a)]) rfl ?_
  refine z_aload_n hF dX5_fails_0 rfl ?_
  refine z_iload_n hF dX5_fails_1 rfl ?_
  refine z_put (C := RX5) (T := TX5) (N := 21) (ci := 5) (ws' := [(w0, .inr (5, [.int a, .int (nI n), .ref w1, .int (nI v), .int (nI m), .ref w2, .ref w3, .ref w4, .ref w5, .ref w6, .ref w7, .ref w8, .ref w9, .ref w10, .ref w11, .int (nI j), .ref w12, .ref w13, .ref w14, .ref w15, .ref w16]))]) hF k_0 tyX5 tyX5_ok nmX5 0 (by decide) rfl k_1 rfl rfl rfl rfl 0 rfl rfl rfl dX5_fails_2 ?_
  refine z_iconst (v := nI 0) hF dX5_fails_5 (by decide) ?_
  exact hR.i dX5_fails_6 (Nat.le_of_ble_eq_true rfl) (Nat.le_of_ble_eq_true rfl) (rfl) (rfl)
set_option maxHeartbeats 4000000 in
set_option maxRecDepth 100000 in
theorem c_X5_in (G : zG) (a k l : Int32)  : zM G yX5_in wsX5_in ({ frames := 0, cells := 0, slots := 0, locals := 12 }) [.int a, .int k, .int l] [] [] (some (.int (zb (k ≤ a ∧ a ≤ l)))) 0 0 := by
  refine zM.ofI (own := RX5) (cc := cX5_in) (maxL := 3) rfl (by decide) rfl zb_nar (by simp [Value.category]) (Nat.le_of_ble_eq_true rfl) ?_
  intro X hF hR
  refine z_lv (lv' := [some (.int a), some (.int k), some (.int l)]) rfl ?_
  refine z_iload_n hF dX5_in_0 rfl ?_
  refine z_iload_n hF dX5_in_1 rfl ?_
  refine z_ic_lt (tgt := 14) hF dX5_in_2 (by decide) (fun c_1 => ?_) (fun c_1 => ?_)
  · refine z_iconst (v := nI 0) hF dX5_in_14 (by decide) ?_
    exact hR.i dX5_in_15 (Nat.le_of_ble_eq_true rfl) (Nat.le_of_ble_eq_true rfl) (rfl) (by first | exact zb1 (by grind) | exact zb0 (by grind))
  · refine z_iload_n hF dX5_in_5 rfl ?_
    refine z_iload_n hF dX5_in_6 rfl ?_
    refine z_ic_gt (tgt := 14) hF dX5_in_7 (by decide) (fun c_2 => ?_) (fun c_2 => ?_)
    · refine z_iconst (v := nI 0) hF dX5_in_14 (by decide) ?_
      exact hR.i dX5_in_15 (Nat.le_of_ble_eq_true rfl) (Nat.le_of_ble_eq_true rfl) (rfl) (by first | exact zb1 (by grind) | exact zb0 (by grind))
    · refine z_iconst (v := nI 1) hF dX5_in_10 (by decide) ?_
      refine z_goto (tgt := 15) hF dX5_in_11 (by decide) ?_
      exact hR.i dX5_in_15 (Nat.le_of_ble_eq_true rfl) (Nat.le_of_ble_eq_true rfl) (rfl) (by first | exact zb1 (by grind) | exact zb0 (by grind))
set_option maxHeartbeats 4000000 in
set_option maxRecDepth 100000 in
theorem c_X5_isPlace (G : zG) (w0 w1 w2 w3 w4 w5 w6 w7 w8 w9 w10 w11 w12 w13 w14 w15 w16 n v m j : Nat) (th : Int32) (a : Int32)  : zM G yX5_isPlace wsX5_isPlace ({ frames := 1, cells := 0, slots := 0, locals := 34 }) [.ref w0, .int a] [(w0, .inr (5, [.int th, .int (nI n), .ref w1, .int (nI v), .int (nI m), .ref w2, .ref w3, .ref w4, .ref w5, .ref w6, .ref w7, .ref w8, .ref w9, .ref w10, .ref w11, .int (nI j), .ref w12, .ref w13, .ref w14, .ref w15, .ref w16]))] [(w0, .inr (5, [.int th, .int (nI n), .ref w1, .int (nI v), .int (nI m), .ref w2, .ref w3, .ref w4, .ref w5, .ref w6, .ref w7, .ref w8, .ref w9, .ref w10, .ref w11, .int (nI j), .ref w12, .ref w13, .ref w14, .ref w15, .ref w16]))] (some (.int (zb (plC n a = 0)))) 0 0 := by
  refine zM.ofI (own := RX5) (cc := cX5_isPlace) (maxL := 2) rfl (by decide) rfl zb_nar (by simp [Value.category]) (Nat.le_of_ble_eq_true rfl) ?_
  intro X hF hR
  have k_0 : ∀ w ∈ wsX50, w ∈ wsX5_isPlace := by decide +kernel
  have k_1 : zH X (.fieldLink RX5 66 "MarginDeskModel" "length" "I") := hF.w (by decide +kernel)
  refine z_lv (lv' := [some (.ref w0), some (.int a)]) rfl ?_
  refine z_iload_n hF dX5_isPlace_0 rfl ?_
  refine z_iconst (v := nI 0) hF dX5_isPlace_1 (by decide) ?_
  refine z_aload_n hF dX5_isPlace_2 rfl ?_
  refine z_get (C := RX5) (T := TX5) (N := 21) (ci := 5) (v := .int (nI n)) hF k_0 1 (by decide) rfl k_1 rfl 0 rfl rfl dX5_isPlace_3 ?_
  refine z_S (As := [.int a, .int (nI 0), .int (nI n)]) (rest := []) (ws' := [(w0, .inr (5, [.int th, .int (nI n), .ref w1, .int (nI v), .int (nI m), .ref w2, .ref w3, .ref w4, .ref w5, .ref w6, .ref w7, .ref w8, .ref w9, .ref w10, .ref w11, .int (nI j), .ref w12, .ref w13, .ref w14, .ref w15, .ref w16]))]) (st2 := [.int (zb ((nI 0) ≤ a ∧ a ≤ (nI n)))]) (c2 := 0) (s2 := 0) hF (c_X5_in G a (nI 0) (nI n)) gX5_isPlace_X5_in rfl rfl rfl hs_X5_in ⟨⟨Nat.le_of_ble_eq_true rfl, Nat.le_of_ble_eq_true rfl⟩, ⟨Nat.le_of_ble_eq_true rfl, Nat.le_of_ble_eq_true rfl⟩, Nat.le_of_ble_eq_true rfl⟩ [] rfl rfl rfl rfl rfl rfl rfl rfl rfl rfl dX5_isPlace_6 ?_
  exact hR.i dX5_isPlace_9 (Nat.le_of_ble_eq_true rfl) (Nat.le_of_ble_eq_true rfl) (rfl) (zb_iff inL_pl)
set_option maxHeartbeats 4000000 in
set_option maxRecDepth 100000 in
theorem c_X5_isComment (G : zG) (w0 w1 w2 w3 w4 w5 w6 w7 w8 w9 w10 w11 w12 w13 w14 w15 w16 n v m j : Nat) (th : Int32) (a : Int32) (hm : m ≤ 12) : zM G yX5_isComment wsX5_isComment ({ frames := 1, cells := 0, slots := 0, locals := 34 }) [.ref w0, .int a] [(w0, .inr (5, [.int th, .int (nI n), .ref w1, .int (nI v), .int (nI m), .ref w2, .ref w3, .ref w4, .ref w5, .ref w6, .ref w7, .ref w8, .ref w9, .ref w10, .ref w11, .int (nI j), .ref w12, .ref w13, .ref w14, .ref w15, .ref w16]))] [(w0, .inr (5, [.int th, .int (nI n), .ref w1, .int (nI v), .int (nI m), .ref w2, .ref w3, .ref w4, .ref w5, .ref w6, .ref w7, .ref w8, .ref w9, .ref w10, .ref w11, .int (nI j), .ref w12, .ref w13, .ref w14, .ref w15, .ref w16]))] (some (.int (zb (cmC m a = 0)))) 0 0 := by
  refine zM.ofI (own := RX5) (cc := cX5_isComment) (maxL := 2) rfl (by decide) rfl zb_nar (by simp [Value.category]) (Nat.le_of_ble_eq_true rfl) ?_
  intro X hF hR
  have k_0 : ∀ w ∈ wsX50, w ∈ wsX5_isComment := by decide +kernel
  have k_1 : zH X (.fieldLink RX5 73 "MarginDeskModel" "comments" "I") := hF.w (by decide +kernel)
  refine z_lv (lv' := [some (.ref w0), some (.int a)]) rfl ?_
  refine z_iload_n hF dX5_isComment_0 rfl ?_
  refine z_iconst (v := nI 0) hF dX5_isComment_1 (by decide) ?_
  refine z_aload_n hF dX5_isComment_2 rfl ?_
  refine z_get (C := RX5) (T := TX5) (N := 21) (ci := 5) (v := .int (nI m)) hF k_0 4 (by decide) rfl k_1 rfl 0 rfl rfl dX5_isComment_3 ?_
  refine z_iconst (v := nI 1) hF dX5_isComment_6 (by decide) ?_
  refine z_isub hF dX5_isComment_7 ?_
  refine z_S (As := [.int a, .int (nI 0), .int ((nI m) - (nI 1))]) (rest := []) (ws' := [(w0, .inr (5, [.int th, .int (nI n), .ref w1, .int (nI v), .int (nI m), .ref w2, .ref w3, .ref w4, .ref w5, .ref w6, .ref w7, .ref w8, .ref w9, .ref w10, .ref w11, .int (nI j), .ref w12, .ref w13, .ref w14, .ref w15, .ref w16]))]) (st2 := [.int (zb ((nI 0) ≤ a ∧ a ≤ ((nI m) - (nI 1))))]) (c2 := 0) (s2 := 0) hF (c_X5_in G a (nI 0) ((nI m) - (nI 1))) gX5_isComment_X5_in rfl rfl rfl hs_X5_in ⟨⟨Nat.le_of_ble_eq_true rfl, Nat.le_of_ble_eq_true rfl⟩, ⟨Nat.le_of_ble_eq_true rfl, Nat.le_of_ble_eq_true rfl⟩, Nat.le_of_ble_eq_true rfl⟩ [] rfl rfl rfl rfl rfl rfl rfl rfl rfl rfl dX5_isComment_8 ?_
  exact hR.i dX5_isComment_11 (Nat.le_of_ble_eq_true rfl) (Nat.le_of_ble_eq_true rfl) (rfl) (zb_iff (inL_cm (by omega)))
set_option maxHeartbeats 4000000 in
set_option maxRecDepth 100000 in
theorem c_X5_isSuggestion (G : zG) (w0 w1 w2 w3 w4 w5 w6 w7 w8 w9 w10 w11 w12 w13 w14 w15 w16 n v m j : Nat) (th : Int32) (a : Int32) (hj : j ≤ 10) : zM G yX5_isSuggestion wsX5_isSuggestion ({ frames := 1, cells := 0, slots := 0, locals := 34 }) [.ref w0, .int a] [(w0, .inr (5, [.int th, .int (nI n), .ref w1, .int (nI v), .int (nI m), .ref w2, .ref w3, .ref w4, .ref w5, .ref w6, .ref w7, .ref w8, .ref w9, .ref w10, .ref w11, .int (nI j), .ref w12, .ref w13, .ref w14, .ref w15, .ref w16]))] [(w0, .inr (5, [.int th, .int (nI n), .ref w1, .int (nI v), .int (nI m), .ref w2, .ref w3, .ref w4, .ref w5, .ref w6, .ref w7, .ref w8, .ref w9, .ref w10, .ref w11, .int (nI j), .ref w12, .ref w13, .ref w14, .ref w15, .ref w16]))] (some (.int (zb (cmC j a = 0)))) 0 0 := by
  refine zM.ofI (own := RX5) (cc := cX5_isSuggestion) (maxL := 2) rfl (by decide) rfl zb_nar (by simp [Value.category]) (Nat.le_of_ble_eq_true rfl) ?_
  intro X hF hR
  have k_0 : ∀ w ∈ wsX50, w ∈ wsX5_isSuggestion := by decide +kernel
  have k_1 : zH X (.fieldLink RX5 76 "MarginDeskModel" "suggestions" "I") := hF.w (by decide +kernel)
  refine z_lv (lv' := [some (.ref w0), some (.int a)]) rfl ?_
  refine z_iload_n hF dX5_isSuggestion_0 rfl ?_
  refine z_iconst (v := nI 0) hF dX5_isSuggestion_1 (by decide) ?_
  refine z_aload_n hF dX5_isSuggestion_2 rfl ?_
  refine z_get (C := RX5) (T := TX5) (N := 21) (ci := 5) (v := .int (nI j)) hF k_0 15 (by decide) rfl k_1 rfl 0 rfl rfl dX5_isSuggestion_3 ?_
  refine z_iconst (v := nI 1) hF dX5_isSuggestion_6 (by decide) ?_
  refine z_isub hF dX5_isSuggestion_7 ?_
  refine z_S (As := [.int a, .int (nI 0), .int ((nI j) - (nI 1))]) (rest := []) (ws' := [(w0, .inr (5, [.int th, .int (nI n), .ref w1, .int (nI v), .int (nI m), .ref w2, .ref w3, .ref w4, .ref w5, .ref w6, .ref w7, .ref w8, .ref w9, .ref w10, .ref w11, .int (nI j), .ref w12, .ref w13, .ref w14, .ref w15, .ref w16]))]) (st2 := [.int (zb ((nI 0) ≤ a ∧ a ≤ ((nI j) - (nI 1))))]) (c2 := 0) (s2 := 0) hF (c_X5_in G a (nI 0) ((nI j) - (nI 1))) gX5_isSuggestion_X5_in rfl rfl rfl hs_X5_in ⟨⟨Nat.le_of_ble_eq_true rfl, Nat.le_of_ble_eq_true rfl⟩, ⟨Nat.le_of_ble_eq_true rfl, Nat.le_of_ble_eq_true rfl⟩, Nat.le_of_ble_eq_true rfl⟩ [] rfl rfl rfl rfl rfl rfl rfl rfl rfl rfl dX5_isSuggestion_8 ?_
  exact hR.i dX5_isSuggestion_11 (Nat.le_of_ble_eq_true rfl) (Nat.le_of_ble_eq_true rfl) (rfl) (zb_iff (inL_cm (by omega)))
set_option maxHeartbeats 4000000 in
set_option maxRecDepth 100000 in
theorem c_X5_told (G : zG) (w0 w1 w2 w3 w4 w5 w6 w7 w8 w9 w10 w11 w12 w13 w14 w15 w16 n v m j : Nat) (th : Int32) (b : Nat → Int32) (e : Nat → Int32) (i : Nat) (hm : m ≤ 12) (hi : i ≤ 12) : zM G yX5_told wsX5_told ({ frames := 0, cells := 0, slots := 0, locals := 12 }) [.ref w0, .int (nI i)] [(w0, .inr (5, [.int th, .int (nI n), .ref w1, .int (nI v), .int (nI m), .ref w2, .ref w3, .ref w4, .ref w5, .ref w6, .ref w7, .ref w8, .ref w9, .ref w10, .ref w11, .int (nI j), .ref w12, .ref w13, .ref w14, .ref w15, .ref w16])), (w2, eI G 12 b), (w3, eI G 12 e)] [(w0, .inr (5, [.int th, .int (nI n), .ref w1, .int (nI v), .int (nI m), .ref w2, .ref w3, .ref w4, .ref w5, .ref w6, .ref w7, .ref w8, .ref w9, .ref w10, .ref w11, .int (nI j), .ref w12, .ref w13, .ref w14, .ref w15, .ref w16])), (w2, eI G 12 b), (w3, eI G 12 e)] (some (.int (if i < m then numF (b i) (e i) else -1))) 0 0 := by
  refine zM.ofI (own := RX5) (cc := cX5_told) (maxL := 2) rfl (by decide) rfl rfl (by simp [Value.category]) (Nat.le_of_ble_eq_true rfl) ?_
  intro X hF hR
  have k_0 : ∀ w ∈ wsX50, w ∈ wsX5_told := by decide +kernel
  have k_1 : zH X (.fieldLink RX5 73 "MarginDeskModel" "comments" "I") := hF.w (by decide +kernel)
  have k_2 : zH X (.fieldLink RX5 13 "MarginDeskModel" "from" "[I") := hF.w (by decide +kernel)
  have k_3 : zH X (.fieldLink RX5 16 "MarginDeskModel" "to" "[I") := hF.w (by decide +kernel)
  refine z_lv (lv' := [some (.ref w0), some (.int (nI i))]) rfl ?_
  refine z_iload_n hF dX5_told_0 rfl ?_
  refine z_aload_n hF dX5_told_1 rfl ?_
  refine z_get (C := RX5) (T := TX5) (N := 21) (ci := 5) (v := .int (nI m)) hF k_0 4 (by decide) rfl k_1 rfl 0 rfl rfl dX5_told_2 ?_
  refine z_icn_ge (tgt := 18) hF (by omega) (by omega) dX5_told_5 (by decide) (fun h5 => ?_) (fun h5 => ?_)
  · refine z_iconst (v := -1) hF dX5_told_18 (by decide) ?_
    refine z_goto (tgt := 38) hF dX5_told_19 (by decide) ?_
    exact hR.i dX5_told_38 (Nat.le_of_ble_eq_true rfl) (Nat.le_of_ble_eq_true rfl) (rfl) (by unfold numF; grind)
  · refine z_aload_n hF dX5_told_8 rfl ?_
    refine z_get (C := RX5) (T := TX5) (N := 21) (ci := 5) (v := .ref w2) hF k_0 5 (by decide) rfl k_2 rfl 0 rfl rfl dX5_told_9 ?_
    refine z_iload_n hF dX5_told_12 rfl ?_
    refine z_iald (k := i) hF 1 rfl (rfl) (by omega) rfl dX5_told_13 ?_
    refine z_iconst (v := -1) hF dX5_told_14 (by decide) ?_
    refine z_ic_ne (tgt := 22) hF dX5_told_15 (by decide) (fun h15 => ?_) (fun h15 => ?_)
    · refine z_bipush (v := nI 100) hF dX5_told_22 (by decide) ?_
      refine z_aload_n hF dX5_told_24 rfl ?_
      refine z_get (C := RX5) (T := TX5) (N := 21) (ci := 5) (v := .ref w2) hF k_0 5 (by decide) rfl k_2 rfl 0 rfl rfl dX5_told_25 ?_
      refine z_iload_n hF dX5_told_28 rfl ?_
      refine z_iald (k := i) hF 1 rfl (rfl) (by omega) rfl dX5_told_29 ?_
      refine z_imul hF dX5_told_30 ?_
      refine z_aload_n hF dX5_told_31 rfl ?_
      refine z_get (C := RX5) (T := TX5) (N := 21) (ci := 5) (v := .ref w3) hF k_0 6 (by decide) rfl k_3 rfl 0 rfl rfl dX5_told_32 ?_
      refine z_iload_n hF dX5_told_35 rfl ?_
      refine z_iald (k := i) hF 2 rfl (rfl) (by omega) rfl dX5_told_36 ?_
      refine z_iadd hF dX5_told_37 ?_
      exact hR.i dX5_told_38 (Nat.le_of_ble_eq_true rfl) (Nat.le_of_ble_eq_true rfl) (rfl) (by unfold numF; grind)
    · refine z_iconst (v := -1) hF dX5_told_18 (by decide) ?_
      refine z_goto (tgt := 38) hF dX5_told_19 (by decide) ?_
      exact hR.i dX5_told_38 (Nat.le_of_ble_eq_true rfl) (Nat.le_of_ble_eq_true rfl) (rfl) (by unfold numF; grind)
set_option maxHeartbeats 4000000 in
set_option maxRecDepth 100000 in
theorem c_X5_keeps (G : zG) (w0 w1 w2 w3 w4 w5 w6 w7 w8 w9 w10 w11 w12 w13 w14 w15 w16 n v m j : Nat) (th : Int32) (b : Nat → Int32) (e : Nat → Int32) (tn : Nat → Int32) (hm : m ≤ 12) (hv : v ≤ 300) : zM G yX5_keeps wsX5_keeps ({ frames := 1, cells := 0, slots := 0, locals := 33 }) [.ref w0] [(w0, .inr (5, [.int th, .int (nI n), .ref w1, .int (nI v), .int (nI m), .ref w2, .ref w3, .ref w4, .ref w5, .ref w6, .ref w7, .ref w8, .ref w9, .ref w10, .ref w11, .int (nI j), .ref w12, .ref w13, .ref w14, .ref w15, .ref w16])), (w2, eI G 12 b), (w3, eI G 12 e), (w11, eI G 3612 tn)] [(w0, .inr (5, [.int th, .int (nI n), .ref w1, .int (nI v), .int (nI m), .ref w2, .ref w3, .ref w4, .ref w5, .ref w6, .ref w7, .ref w8, .ref w9, .ref w10, .ref w11, .int (nI j), .ref w12, .ref w13, .ref w14, .ref w15, .ref w16])), (w2, eI G 12 b), (w3, eI G 12 e), (w11, eI G 3612 (wrF tn (v * 12) 12 (fun kk => if kk < m then numF (b kk) (e kk) else -1)))] none 0 0 := by
  refine zM.ofV (own := RX5) (cc := cX5_keeps) (maxL := 2) rfl (by decide) rfl (by simp [Value.category]) (Nat.le_of_ble_eq_true rfl) ?_
  intro X hF hR
  have k_0 : ∀ w ∈ wsX50, w ∈ wsX5_keeps := by decide +kernel
  have k_1 : zH X (.fieldLink RX5 41 "MarginDeskModel" "then" "[I") := hF.w (by decide +kernel)
  have k_2 : zH X (.fieldLink RX5 79 "MarginDeskModel" "edits" "I") := hF.w (by decide +kernel)
  refine z_lv (lv' := [some (.ref w0), none]) rfl ?_
  refine z_iconst (v := nI 0) hF dX5_keeps_0 (by decide) ?_
  refine z_istore_n (lv' := [some (.ref w0), some (.int (nI 0))]) hF dX5_keeps_1 rfl rfl ?_
  refine z_ws (ws' := [(w0, .inr (5, [.int th, .int (nI n), .ref w1, .int (nI v), .int (nI m), .ref w2, .ref w3, .ref w4, .ref w5, .ref w6, .ref w7, .ref w8, .ref w9, .ref w10, .ref w11, .int (nI j), .ref w12, .ref w13, .ref w14, .ref w15, .ref w16])), (w2, eI G 12 b), (w3, eI G 12 e), (w11, eI G 3612 (wrF tn (v * 12) 0 (fun kk => if kk < m then numF (b kk) (e kk) else -1)))]) (by rw [wrF_0]) ?_
  have J_2 : ∀ (n9 : Nat) (i : Nat), 12 - i < n9 → (i ≤ 12) → zJ G X 2 [(w0, .inr (5, [.int th, .int (nI n), .ref w1, .int (nI v), .int (nI m), .ref w2, .ref w3, .ref w4, .ref w5, .ref w6, .ref w7, .ref w8, .ref w9, .ref w10, .ref w11, .int (nI j), .ref w12, .ref w13, .ref w14, .ref w15, .ref w16])), (w2, eI G 12 b), (w3, eI G 12 e), (w11, eI G 3612 (wrF tn (v * 12) i (fun kk => if kk < m then numF (b kk) (e kk) else -1)))] [some (.ref w0), some (.int (nI i))] [] 0 0 := by
    intro n9
    induction n9 with
    | zero => intro i hmu; exact absurd hmu (Nat.not_lt_zero _)
    | succ n9 ih =>
      intro i hmu h2
      refine z_iload_n hF dX5_keeps_2 rfl ?_
      refine z_bipush (v := nI 12) hF dX5_keeps_3 (by decide) ?_
      refine z_icn_ge (tgt := 33) hF (by omega) (by omega) dX5_keeps_5 (by decide) (fun c_1 => ?_) (fun c_1 => ?_)
      · exact hR.v dX5_keeps_33 (Nat.le_of_ble_eq_true rfl) (Nat.le_of_ble_eq_true rfl) (by rw [show i = 12 by omega])
      · refine z_aload_n hF dX5_keeps_8 rfl ?_
        refine z_get (C := RX5) (T := TX5) (N := 21) (ci := 5) (v := .ref w11) hF k_0 14 (by decide) rfl k_1 rfl 0 rfl rfl dX5_keeps_9 ?_
        refine z_bipush (v := nI 12) hF dX5_keeps_12 (by decide) ?_
        refine z_aload_n hF dX5_keeps_14 rfl ?_
        refine z_get (C := RX5) (T := TX5) (N := 21) (ci := 5) (v := .int (nI v)) hF k_0 3 (by decide) rfl k_2 rfl 0 rfl rfl dX5_keeps_15 ?_
        refine z_imul hF dX5_keeps_18 ?_
        refine z_top (pk_mul 12 v) ?_
        refine z_iload_n hF dX5_keeps_19 rfl ?_
        refine z_iadd hF dX5_keeps_20 ?_
        refine z_top (nI_add (12 * v) i) ?_
        refine z_aload_n hF dX5_keeps_21 rfl ?_
        refine z_iload_n hF dX5_keeps_22 rfl ?_
        refine z_V (As := [.int (nI i)]) (rest := [.int (nI (12 * v + i)), .ref w11]) (ws' := [(w0, .inr (5, [.int th, .int (nI n), .ref w1, .int (nI v), .int (nI m), .ref w2, .ref w3, .ref w4, .ref w5, .ref w6, .ref w7, .ref w8, .ref w9, .ref w10, .ref w11, .int (nI j), .ref w12, .ref w13, .ref w14, .ref w15, .ref w16])), (w2, eI G 12 b), (w3, eI G 12 e), (w11, eI G 3612 (wrF tn (v * 12) i (fun kk => if kk < m then numF (b kk) (e kk) else -1)))]) (st2 := [.int (if i < m then numF (b i) (e i) else -1), .int (nI (12 * v + i)), .ref w11]) (c2 := 0) (s2 := 0) hF (c_X5_told G w0 w1 w2 w3 w4 w5 w6 w7 w8 w9 w10 w11 w12 w13 w14 w15 w16 n v m j th b e i (by first | assumption | omega) (by first | assumption | omega)) gX5_keeps_X5_told rfl rfl rfl hd_X5_told ⟨⟨Nat.le_of_ble_eq_true rfl, Nat.le_of_ble_eq_true rfl⟩, ⟨Nat.le_of_ble_eq_true rfl, Nat.le_of_ble_eq_true rfl⟩, Nat.le_of_ble_eq_true rfl⟩ [0, 1, 2] rfl rfl 0 rfl rfl rfl rfl rfl rfl rfl rfl rfl rfl dX5_keeps_23 ?_
        refine z_iast (k := v * 12 + i) (ws' := [(w0, .inr (5, [.int th, .int (nI n), .ref w1, .int (nI v), .int (nI m), .ref w2, .ref w3, .ref w4, .ref w5, .ref w6, .ref w7, .ref w8, .ref w9, .ref w10, .ref w11, .int (nI j), .ref w12, .ref w13, .ref w14, .ref w15, .ref w16])), (w2, eI G 12 b), (w3, eI G 12 e), (w11, eI G 3612 (upd (wrF tn (v * 12) i (fun kk => if kk < m then numF (b kk) (e kk) else -1)) (v * 12 + i) (if i < m then numF (b i) (e i) else -1)))]) hF 3 rfl (by rw [Nat.mul_comm 12 v]) (by omega) rfl rfl dX5_keeps_26 ?_
        refine z_ws (ws' := [(w0, .inr (5, [.int th, .int (nI n), .ref w1, .int (nI v), .int (nI m), .ref w2, .ref w3, .ref w4, .ref w5, .ref w6, .ref w7, .ref w8, .ref w9, .ref w10, .ref w11, .int (nI j), .ref w12, .ref w13, .ref w14, .ref w15, .ref w16])), (w2, eI G 12 b), (w3, eI G 12 e), (w11, eI G 3612 (wrF tn (v * 12) (i + 1) (fun kk => if kk < m then numF (b kk) (e kk) else -1)))]) (by rw [← wrF_up]) ?_
        refine z_iinc (v := nI (i + 1)) (lv' := [some (.ref w0), some (.int (nI (i + 1)))]) hF dX5_keeps_27 rfl (nI_1 i) rfl rfl ?_
        refine z_goto (tgt := 2) hF dX5_keeps_30 (by decide) ?_
        exact ih (i + 1) (by omega) (by omega)
  exact J_2 ((12 - 0) + 1) 0 (Nat.lt_succ_self _) (by omega)
set_option maxHeartbeats 4000000 in
set_option maxRecDepth 100000 in
theorem c_X5_letterOf (G : zG) (w0 w1 w2 w3 w4 w5 w6 w7 w8 w9 w10 w11 w12 w13 w14 w15 w16 n v m j : Nat) (th : Int32) (f : Nat → Int32) (a : Int32) (hn : n ≤ 60) : zM G yX5_letterOf wsX5_letterOf ({ frames := 1, cells := 0, slots := 0, locals := 34 }) [.ref w0, .int a] [(w0, .inr (5, [.int th, .int (nI n), .ref w1, .int (nI v), .int (nI m), .ref w2, .ref w3, .ref w4, .ref w5, .ref w6, .ref w7, .ref w8, .ref w9, .ref w10, .ref w11, .int (nI j), .ref w12, .ref w13, .ref w14, .ref w15, .ref w16])), (w1, eI G 60 f)] [(w0, .inr (5, [.int th, .int (nI n), .ref w1, .int (nI v), .int (nI m), .ref w2, .ref w3, .ref w4, .ref w5, .ref w6, .ref w7, .ref w8, .ref w9, .ref w10, .ref w11, .int (nI j), .ref w12, .ref w13, .ref w14, .ref w15, .ref w16])), (w1, eI G 60 f)] (some (.int (letF n f a))) 0 0 := by
  refine zM.ofI (own := RX5) (cc := cX5_letterOf) (maxL := 2) rfl (by decide) rfl rfl (by simp [Value.category]) (Nat.le_of_ble_eq_true rfl) ?_
  intro X hF hR
  have k_0 : ∀ w ∈ wsX50, w ∈ wsX5_letterOf := by decide +kernel
  have k_1 : zH X (.fieldLink RX5 66 "MarginDeskModel" "length" "I") := hF.w (by decide +kernel)
  have k_2 : zH X (.fieldLink RX5 7 "MarginDeskModel" "letters" "[I") := hF.w (by decide +kernel)
  refine z_lv (lv' := [some (.ref w0), some (.int a)]) rfl ?_
  refine z_iload_n hF dX5_letterOf_0 rfl ?_
  refine z_iconst (v := nI 0) hF dX5_letterOf_1 (by decide) ?_
  refine z_aload_n hF dX5_letterOf_2 rfl ?_
  refine z_get (C := RX5) (T := TX5) (N := 21) (ci := 5) (v := .int (nI n)) hF k_0 1 (by decide) rfl k_1 rfl 0 rfl rfl dX5_letterOf_3 ?_
  refine z_iconst (v := nI 1) hF dX5_letterOf_6 (by decide) ?_
  refine z_isub hF dX5_letterOf_7 ?_
  refine z_S (As := [.int a, .int (nI 0), .int ((nI n) - (nI 1))]) (rest := []) (ws' := [(w0, .inr (5, [.int th, .int (nI n), .ref w1, .int (nI v), .int (nI m), .ref w2, .ref w3, .ref w4, .ref w5, .ref w6, .ref w7, .ref w8, .ref w9, .ref w10, .ref w11, .int (nI j), .ref w12, .ref w13, .ref w14, .ref w15, .ref w16])), (w1, eI G 60 f)]) (st2 := [.int (zb ((nI 0) ≤ a ∧ a ≤ ((nI n) - (nI 1))))]) (c2 := 0) (s2 := 0) hF (c_X5_in G a (nI 0) ((nI n) - (nI 1))) gX5_letterOf_X5_in rfl rfl rfl hs_X5_in ⟨⟨Nat.le_of_ble_eq_true rfl, Nat.le_of_ble_eq_true rfl⟩, ⟨Nat.le_of_ble_eq_true rfl, Nat.le_of_ble_eq_true rfl⟩, Nat.le_of_ble_eq_true rfl⟩ [] rfl rfl rfl rfl rfl rfl rfl rfl rfl rfl dX5_letterOf_8 ?_
  refine z_if_eq_b (tgt := 23) hF dX5_letterOf_11 (by decide) (fun hc => ?_) (fun hc => ?_)
  · refine z_iconst (v := -1) hF dX5_letterOf_23 (by decide) ?_
    exact hR.i dX5_letterOf_24 (Nat.le_of_ble_eq_true rfl) (Nat.le_of_ble_eq_true rfl) (rfl) (by rw [nI_lt1 (by omega)] at hc; simp only [show nI 0 = 0 from rfl] at hc; simp [letF, hc])
  · refine z_aload_n hF dX5_letterOf_14 rfl ?_
    refine z_get (C := RX5) (T := TX5) (N := 21) (ci := 5) (v := .ref w1) hF k_0 2 (by decide) rfl k_2 rfl 0 rfl rfl dX5_letterOf_15 ?_
    refine z_iload_n hF dX5_letterOf_18 rfl ?_
    refine z_iald (k := a.toNatClampNeg) hF 1 rfl ((zix (Int32.not_lt.mpr (show (0 : Int32) ≤ a from hc.1)) ((nI_lt1 (by omega)).mp hc.2) (by omega)).1) (Nat.lt_of_lt_of_le (zix (Int32.not_lt.mpr (show (0 : Int32) ≤ a from hc.1)) ((nI_lt1 (by omega)).mp hc.2) (by omega)).2 hn) rfl dX5_letterOf_19 ?_
    refine z_goto (tgt := 24) hF dX5_letterOf_20 (by decide) ?_
    exact hR.i dX5_letterOf_24 (Nat.le_of_ble_eq_true rfl) (Nat.le_of_ble_eq_true rfl) (rfl) (by rw [nI_lt1 (by omega)] at hc; simp only [show nI 0 = 0 from rfl] at hc; simp [letF, hc])
set_option maxHeartbeats 4000000 in
set_option maxRecDepth 100000 in
theorem c_X5_less (G : zG) (x p n : Int32)  : zM G yX5_less wsX5_less ({ frames := 0, cells := 0, slots := 0, locals := 12 }) [.int x, .int p, .int n] [] [] (some (.int (behF x p n))) 0 0 := by
  refine zM.ofI (own := RX5) (cc := cX5_less) (maxL := 3) rfl (by decide) rfl rfl (by simp [Value.category]) (Nat.le_of_ble_eq_true rfl) ?_
  intro X hF hR
  refine z_lv (lv' := [some (.int x), some (.int p), some (.int n)]) rfl ?_
  refine z_iload_n hF dX5_less_0 rfl ?_
  refine z_iload_n hF dX5_less_1 rfl ?_
  refine z_ic_gt (tgt := 9) hF dX5_less_2 (by decide) (fun c_1 => ?_) (fun c_1 => ?_)
  · refine z_iload_n hF dX5_less_9 rfl ?_
    refine z_iload_n hF dX5_less_10 rfl ?_
    refine z_isub hF dX5_less_11 ?_
    refine z_iload_n hF dX5_less_12 rfl ?_
    refine z_ic_ge (tgt := 20) hF dX5_less_13 (by decide) (fun c_2 => ?_) (fun c_2 => ?_)
    · refine z_iload_n hF dX5_less_20 rfl ?_
      refine z_iload_n hF dX5_less_21 rfl ?_
      refine z_isub hF dX5_less_22 ?_
      exact hR.i dX5_less_23 (Nat.le_of_ble_eq_true rfl) (Nat.le_of_ble_eq_true rfl) (rfl) (by unfold behF; grind)
    · refine z_iload_n hF dX5_less_16 rfl ?_
      refine z_goto (tgt := 23) hF dX5_less_17 (by decide) ?_
      exact hR.i dX5_less_23 (Nat.le_of_ble_eq_true rfl) (Nat.le_of_ble_eq_true rfl) (rfl) (by unfold behF; grind)
  · refine z_iload_n hF dX5_less_5 rfl ?_
    refine z_goto (tgt := 23) hF dX5_less_6 (by decide) ?_
    exact hR.i dX5_less_23 (Nat.le_of_ble_eq_true rfl) (Nat.le_of_ble_eq_true rfl) (rfl) (by unfold behF; grind)
