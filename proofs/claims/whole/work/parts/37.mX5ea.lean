set_option maxHeartbeats 4000000 in
set_option maxRecDepth 100000 in
theorem c_X5_pieceAt_f (G : zG) (w0 w1 w2 w3 w4 w5 w6 w7 w8 w9 w10 w11 w12 w13 w14 w15 w16 n v m j : Nat) (th : Int32) (b : Nat → Int32) (e : Nat → Int32) (x : Int32) (hn : n ≤ 60) (hm : m ≤ 12) (hg : ∀ i, i < m → b i = -1 → e i = -1) (hc : ¬ (cmC (cntF (pcP b e m) n) x) = 0) : zM G yX5_pieceAt wsX5_pieceAt ({ frames := 2, cells := 0, slots := 0, locals := 60 }) [.ref w0, .int x] [(w0, .inr (5, [.int th, .int (nI n), .ref w1, .int (nI v), .int (nI m), .ref w2, .ref w3, .ref w4, .ref w5, .ref w6, .ref w7, .ref w8, .ref w9, .ref w10, .ref w11, .int (nI j), .ref w12, .ref w13, .ref w14, .ref w15, .ref w16])), (w2, eI G 12 b), (w3, eI G 12 e)] [(w0, .inr (5, [.int (nI (cmC (cntF (pcP b e m) n) x)), .int (nI n), .ref w1, .int (nI v), .int (nI m), .ref w2, .ref w3, .ref w4, .ref w5, .ref w6, .ref w7, .ref w8, .ref w9, .ref w10, .ref w11, .int (nI j), .ref w12, .ref w13, .ref w14, .ref w15, .ref w16])), (w2, eI G 12 b), (w3, eI G 12 e)] (some (.int (nI 0))) 0 0 := by
  refine zM.ofI (own := RX5) (cc := cX5_pieceAt) (maxL := 2) rfl (by decide) rfl rfl (by simp [Value.category]) (Nat.le_of_ble_eq_true rfl) ?_
  intro X hF hR
  have k_0 : ∀ w ∈ wsX50, w ∈ wsX5_pieceAt := by decide +kernel
  have k_1 : zH X (.fieldLink RX5 62 "MarginDeskModel" "thrown" "I") := hF.w (by decide +kernel)
  refine z_lv (lv' := [some (.ref w0), some (.int x)]) rfl ?_
  have hq8 := cntF_le (P := pcP b e m) n
  have hq9 : cntF (pcP b e m) n < 2 ^ 29 := by omega
  have d_0 := cmC_d (cntF (pcP b e m) n) x
  refine z_aload_n hF dX5_pieceAt_0 rfl ?_
  refine z_iconst (v := nI 0) hF dX5_pieceAt_1 (by decide) ?_
  refine z_put (C := RX5) (T := TX5) (N := 21) (ci := 5) (ws' := [(w0, .inr (5, [.int (nI 0), .int (nI n), .ref w1, .int (nI v), .int (nI m), .ref w2, .ref w3, .ref w4, .ref w5, .ref w6, .ref w7, .ref w8, .ref w9, .ref w10, .ref w11, .int (nI j), .ref w12, .ref w13, .ref w14, .ref w15, .ref w16])), (w2, eI G 12 b), (w3, eI G 12 e)]) hF k_0 tyX5 tyX5_ok nmX5 0 (by decide) rfl k_1 rfl rfl rfl rfl 0 rfl rfl rfl dX5_pieceAt_2 ?_
  refine z_iload_n hF dX5_pieceAt_5 rfl ?_
  refine z_iconst (v := nI 0) hF dX5_pieceAt_6 (by decide) ?_
  refine z_aload_n hF dX5_pieceAt_7 rfl ?_
  refine z_iconst (v := -1) hF dX5_pieceAt_8 (by decide) ?_
  refine z_V (As := [.int (-1)]) (rest := [.int (nI 0), .int x]) (ws' := [(w0, .inr (5, [.int (nI 0), .int (nI n), .ref w1, .int (nI v), .int (nI m), .ref w2, .ref w3, .ref w4, .ref w5, .ref w6, .ref w7, .ref w8, .ref w9, .ref w10, .ref w11, .int (nI j), .ref w12, .ref w13, .ref w14, .ref w15, .ref w16])), (w2, eI G 12 b), (w3, eI G 12 e)]) (st2 := [.int (if (-1) = -1 then nI (cntF (pcP b e m) n) else lstF (pcP b e m) (-1) n), .int (nI 0), .int x]) (c2 := 0) (s2 := 0) hF (c_X5_pieceOf G w0 w1 w2 w3 w4 w5 w6 w7 w8 w9 w10 w11 w12 w13 w14 w15 w16 n v m j (nI 0) b e (-1) (by first | assumption | omega) (by first | assumption | omega) (by first | assumption | omega)) gX5_pieceAt_X5_pieceOf rfl rfl rfl hd_X5_pieceOf ⟨⟨Nat.le_of_ble_eq_true rfl, Nat.le_of_ble_eq_true rfl⟩, ⟨Nat.le_of_ble_eq_true rfl, Nat.le_of_ble_eq_true rfl⟩, Nat.le_of_ble_eq_true rfl⟩ [0, 1, 2] rfl rfl 0 rfl rfl rfl rfl rfl rfl rfl rfl rfl rfl dX5_pieceAt_9 ?_
  refine z_top (y := nI (cntF (pcP b e m) n)) (if_pos rfl) ?_
  refine z_iconst (v := nI 1) hF dX5_pieceAt_12 (by decide) ?_
  refine z_isub hF dX5_pieceAt_13 ?_
  refine z_S (As := [.int x, .int (nI 0), .int ((nI (cntF (pcP b e m) n)) - (nI 1))]) (rest := []) (ws' := [(w0, .inr (5, [.int (nI 0), .int (nI n), .ref w1, .int (nI v), .int (nI m), .ref w2, .ref w3, .ref w4, .ref w5, .ref w6, .ref w7, .ref w8, .ref w9, .ref w10, .ref w11, .int (nI j), .ref w12, .ref w13, .ref w14, .ref w15, .ref w16])), (w2, eI G 12 b), (w3, eI G 12 e)]) (st2 := [.int (zb ((nI 0) ≤ x ∧ x ≤ ((nI (cntF (pcP b e m) n)) - (nI 1))))]) (c2 := 0) (s2 := 0) hF (c_X5_in G x (nI 0) ((nI (cntF (pcP b e m) n)) - (nI 1))) gX5_pieceAt_X5_in rfl rfl rfl hs_X5_in ⟨⟨Nat.le_of_ble_eq_true rfl, Nat.le_of_ble_eq_true rfl⟩, ⟨Nat.le_of_ble_eq_true rfl, Nat.le_of_ble_eq_true rfl⟩, Nat.le_of_ble_eq_true rfl⟩ [] rfl rfl rfl rfl rfl rfl rfl rfl rfl rfl dX5_pieceAt_14 ?_
  refine z_top (y := zb (cmC (cntF (pcP b e m) n) x = 0)) (zb_iff (inL_cm hq9)) ?_
  refine z_if_eq_b (tgt := 28) hF dX5_pieceAt_17 (by decide) (fun c_1 => ?_) (fun c_1 => ?_)
  · refine z_aload_n hF dX5_pieceAt_28 rfl ?_
    refine z_iconst (v := nI 1) hF dX5_pieceAt_29 (by decide) ?_
    refine z_V (As := [.int (nI 1)]) (rest := []) (ws' := [(w0, .inr (5, [.int (nI 1), .int (nI n), .ref w1, .int (nI v), .int (nI m), .ref w2, .ref w3, .ref w4, .ref w5, .ref w6, .ref w7, .ref w8, .ref w9, .ref w10, .ref w11, .int (nI j), .ref w12, .ref w13, .ref w14, .ref w15, .ref w16])), (w2, eI G 12 b), (w3, eI G 12 e)]) (st2 := [.int (nI 0)]) (c2 := 0) (s2 := 0) hF (c_X5_fails G w0 w1 w2 w3 w4 w5 w6 w7 w8 w9 w10 w11 w12 w13 w14 w15 w16 n v m j (nI 0) (nI 1)) gX5_pieceAt_X5_fails rfl rfl rfl hd_X5_fails ⟨⟨Nat.le_of_ble_eq_true rfl, Nat.le_of_ble_eq_true rfl⟩, ⟨Nat.le_of_ble_eq_true rfl, Nat.le_of_ble_eq_true rfl⟩, Nat.le_of_ble_eq_true rfl⟩ [0] rfl rfl 0 rfl rfl rfl rfl rfl rfl rfl rfl rfl rfl dX5_pieceAt_30 ?_
    exact hR.i dX5_pieceAt_33 (Nat.le_of_ble_eq_true rfl) (Nat.le_of_ble_eq_true rfl) (by rw [show (cmC (cntF (pcP b e m) n) x) = 1 from (by (try simp only [fz]); grind)]) (rfl)
  · exact absurd (by (try simp only [fz]); grind : (cmC (cntF (pcP b e m) n) x) = 0) hc
set_option maxHeartbeats 4000000 in
set_option maxRecDepth 100000 in
theorem c_X5_pieceAt_k (G : zG) (w0 w1 w2 w3 w4 w5 w6 w7 w8 w9 w10 w11 w12 w13 w14 w15 w16 n v m j : Nat) (th : Int32) (b : Nat → Int32) (e : Nat → Int32) (x : Int32) (hn : n ≤ 60) (hm : m ≤ 12) (hg : ∀ i, i < m → b i = -1 → e i = -1) (hc : (cmC (cntF (pcP b e m) n) x) = 0) : zM G yX5_pieceAt wsX5_pieceAt ({ frames := 2, cells := 0, slots := 0, locals := 60 }) [.ref w0, .int x] [(w0, .inr (5, [.int th, .int (nI n), .ref w1, .int (nI v), .int (nI m), .ref w2, .ref w3, .ref w4, .ref w5, .ref w6, .ref w7, .ref w8, .ref w9, .ref w10, .ref w11, .int (nI j), .ref w12, .ref w13, .ref w14, .ref w15, .ref w16])), (w2, eI G 12 b), (w3, eI G 12 e)] [(w0, .inr (5, [.int (nI 0), .int (nI n), .ref w1, .int (nI v), .int (nI m), .ref w2, .ref w3, .ref w4, .ref w5, .ref w6, .ref w7, .ref w8, .ref w9, .ref w10, .ref w11, .int (nI j), .ref w12, .ref w13, .ref w14, .ref w15, .ref w16])), (w2, eI G 12 b), (w3, eI G 12 e)] (some (.int (lstF (pcP b e m) x n))) 0 0 := by
  refine zM.ofI (own := RX5) (cc := cX5_pieceAt) (maxL := 2) rfl (by decide) rfl rfl (by simp [Value.category]) (Nat.le_of_ble_eq_true rfl) ?_
  intro X hF hR
  have k_0 : ∀ w ∈ wsX50, w ∈ wsX5_pieceAt := by decide +kernel
  have k_1 : zH X (.fieldLink RX5 62 "MarginDeskModel" "thrown" "I") := hF.w (by decide +kernel)
  refine z_lv (lv' := [some (.ref w0), some (.int x)]) rfl ?_
  have hq8 := cntF_le (P := pcP b e m) n
  have hq9 : cntF (pcP b e m) n < 2 ^ 29 := by omega
  have d_0 := cmC_d (cntF (pcP b e m) n) x
  refine z_aload_n hF dX5_pieceAt_0 rfl ?_
  refine z_iconst (v := nI 0) hF dX5_pieceAt_1 (by decide) ?_
  refine z_put (C := RX5) (T := TX5) (N := 21) (ci := 5) (ws' := [(w0, .inr (5, [.int (nI 0), .int (nI n), .ref w1, .int (nI v), .int (nI m), .ref w2, .ref w3, .ref w4, .ref w5, .ref w6, .ref w7, .ref w8, .ref w9, .ref w10, .ref w11, .int (nI j), .ref w12, .ref w13, .ref w14, .ref w15, .ref w16])), (w2, eI G 12 b), (w3, eI G 12 e)]) hF k_0 tyX5 tyX5_ok nmX5 0 (by decide) rfl k_1 rfl rfl rfl rfl 0 rfl rfl rfl dX5_pieceAt_2 ?_
  refine z_iload_n hF dX5_pieceAt_5 rfl ?_
  refine z_iconst (v := nI 0) hF dX5_pieceAt_6 (by decide) ?_
  refine z_aload_n hF dX5_pieceAt_7 rfl ?_
  refine z_iconst (v := -1) hF dX5_pieceAt_8 (by decide) ?_
  refine z_V (As := [.int (-1)]) (rest := [.int (nI 0), .int x]) (ws' := [(w0, .inr (5, [.int (nI 0), .int (nI n), .ref w1, .int (nI v), .int (nI m), .ref w2, .ref w3, .ref w4, .ref w5, .ref w6, .ref w7, .ref w8, .ref w9, .ref w10, .ref w11, .int (nI j), .ref w12, .ref w13, .ref w14, .ref w15, .ref w16])), (w2, eI G 12 b), (w3, eI G 12 e)]) (st2 := [.int (if (-1) = -1 then nI (cntF (pcP b e m) n) else lstF (pcP b e m) (-1) n), .int (nI 0), .int x]) (c2 := 0) (s2 := 0) hF (c_X5_pieceOf G w0 w1 w2 w3 w4 w5 w6 w7 w8 w9 w10 w11 w12 w13 w14 w15 w16 n v m j (nI 0) b e (-1) (by first | assumption | omega) (by first | assumption | omega) (by first | assumption | omega)) gX5_pieceAt_X5_pieceOf rfl rfl rfl hd_X5_pieceOf ⟨⟨Nat.le_of_ble_eq_true rfl, Nat.le_of_ble_eq_true rfl⟩, ⟨Nat.le_of_ble_eq_true rfl, Nat.le_of_ble_eq_true rfl⟩, Nat.le_of_ble_eq_true rfl⟩ [0, 1, 2] rfl rfl 0 rfl rfl rfl rfl rfl rfl rfl rfl rfl rfl dX5_pieceAt_9 ?_
  refine z_top (y := nI (cntF (pcP b e m) n)) (if_pos rfl) ?_
  refine z_iconst (v := nI 1) hF dX5_pieceAt_12 (by decide) ?_
  refine z_isub hF dX5_pieceAt_13 ?_
  refine z_S (As := [.int x, .int (nI 0), .int ((nI (cntF (pcP b e m) n)) - (nI 1))]) (rest := []) (ws' := [(w0, .inr (5, [.int (nI 0), .int (nI n), .ref w1, .int (nI v), .int (nI m), .ref w2, .ref w3, .ref w4, .ref w5, .ref w6, .ref w7, .ref w8, .ref w9, .ref w10, .ref w11, .int (nI j), .ref w12, .ref w13, .ref w14, .ref w15, .ref w16])), (w2, eI G 12 b), (w3, eI G 12 e)]) (st2 := [.int (zb ((nI 0) ≤ x ∧ x ≤ ((nI (cntF (pcP b e m) n)) - (nI 1))))]) (c2 := 0) (s2 := 0) hF (c_X5_in G x (nI 0) ((nI (cntF (pcP b e m) n)) - (nI 1))) gX5_pieceAt_X5_in rfl rfl rfl hs_X5_in ⟨⟨Nat.le_of_ble_eq_true rfl, Nat.le_of_ble_eq_true rfl⟩, ⟨Nat.le_of_ble_eq_true rfl, Nat.le_of_ble_eq_true rfl⟩, Nat.le_of_ble_eq_true rfl⟩ [] rfl rfl rfl rfl rfl rfl rfl rfl rfl rfl dX5_pieceAt_14 ?_
  refine z_top (y := zb (cmC (cntF (pcP b e m) n) x = 0)) (zb_iff (inL_cm hq9)) ?_
  refine z_if_eq_b (tgt := 28) hF dX5_pieceAt_17 (by decide) (fun c_1 => ?_) (fun c_1 => ?_)
  · exact absurd hc (by (try simp only [fz]); grind)
  · have hx := cmC_0 (by omega) hc
    refine z_aload_n hF dX5_pieceAt_20 rfl ?_
    refine z_iload_n hF dX5_pieceAt_21 rfl ?_
    refine z_V (As := [.int x]) (rest := []) (ws' := [(w0, .inr (5, [.int (nI 0), .int (nI n), .ref w1, .int (nI v), .int (nI m), .ref w2, .ref w3, .ref w4, .ref w5, .ref w6, .ref w7, .ref w8, .ref w9, .ref w10, .ref w11, .int (nI j), .ref w12, .ref w13, .ref w14, .ref w15, .ref w16])), (w2, eI G 12 b), (w3, eI G 12 e)]) (st2 := [.int (if x = -1 then nI (cntF (pcP b e m) n) else lstF (pcP b e m) x n)]) (c2 := 0) (s2 := 0) hF (c_X5_pieceOf G w0 w1 w2 w3 w4 w5 w6 w7 w8 w9 w10 w11 w12 w13 w14 w15 w16 n v m j (nI 0) b e x (by first | assumption | omega) (by first | assumption | omega) (by first | assumption | omega)) gX5_pieceAt_X5_pieceOf rfl rfl rfl hd_X5_pieceOf ⟨⟨Nat.le_of_ble_eq_true rfl, Nat.le_of_ble_eq_true rfl⟩, ⟨Nat.le_of_ble_eq_true rfl, Nat.le_of_ble_eq_true rfl⟩, Nat.le_of_ble_eq_true rfl⟩ [0, 1, 2] rfl rfl 0 rfl rfl rfl rfl rfl rfl rfl rfl rfl rfl dX5_pieceAt_22 ?_
    refine z_top (y := lstF (pcP b e m) x n) (if_neg (fun h => by rw [hx.1] at h; exact nI_m1 (by omega) h)) ?_
    refine z_goto (tgt := 33) hF dX5_pieceAt_25 (by decide) ?_
    exact hR.i dX5_pieceAt_33 (Nat.le_of_ble_eq_true rfl) (Nat.le_of_ble_eq_true rfl) (rfl) (rfl)
set_option maxHeartbeats 4000000 in
set_option maxRecDepth 100000 in
theorem c_X5_suggest_f (G : zG) (w0 w1 w2 w3 w4 w5 w6 w7 w8 w9 w10 w11 w12 w13 w14 w15 w16 n v m j : Nat) (th : Int32) (b2 : Nat → Int32) (e2 : Nat → Int32) (xl : Nat → Int32) (xc : Nat → Int32) (a k l w : Int32) (hn : n ≤ 60) (hj : j ≤ 10) (hc : ¬ (fz (rgC n a k) (fz (amC l (nI 0) (nI 25)) (fz (amC w (nI 0) (nI 5)) (if j < 10 then 0 else 3)))) = 0) : zM G yX5_suggest wsX5_suggest ({ frames := 2, cells := 0, slots := 0, locals := 55 }) [.ref w0, .int a, .int k, .int l, .int w] [(w0, .inr (5, [.int th, .int (nI n), .ref w1, .int (nI v), .int (nI m), .ref w2, .ref w3, .ref w4, .ref w5, .ref w6, .ref w7, .ref w8, .ref w9, .ref w10, .ref w11, .int (nI j), .ref w12, .ref w13, .ref w14, .ref w15, .ref w16])), (w12, eI G 10 b2), (w13, eI G 10 e2), (w14, eI G 10 xl), (w15, eI G 10 xc)] [(w0, .inr (5, [.int (nI (fz (rgC n a k) (fz (amC l (nI 0) (nI 25)) (fz (amC w (nI 0) (nI 5)) (if j < 10 then 0 else 3))))), .int (nI n), .ref w1, .int (nI v), .int (nI m), .ref w2, .ref w3, .ref w4, .ref w5, .ref w6, .ref w7, .ref w8, .ref w9, .ref w10, .ref w11, .int (nI j), .ref w12, .ref w13, .ref w14, .ref w15, .ref w16])), (w12, eI G 10 b2), (w13, eI G 10 e2), (w14, eI G 10 xl), (w15, eI G 10 xc)] (some (.int (nI 0))) 0 0 := by
  refine zM.ofI (own := RX5) (cc := cX5_suggest) (maxL := 5) rfl (by decide) rfl rfl (by simp [Value.category]) (Nat.le_of_ble_eq_true rfl) ?_
  intro X hF hR
  have k_0 : ∀ w ∈ wsX50, w ∈ wsX5_suggest := by decide +kernel
  have k_1 : zH X (.fieldLink RX5 62 "MarginDeskModel" "thrown" "I") := hF.w (by decide +kernel)
  have k_2 : zH X (.fieldLink RX5 76 "MarginDeskModel" "suggestions" "I") := hF.w (by decide +kernel)
  refine z_lv (lv' := [some (.ref w0), some (.int a), some (.int k), some (.int l), some (.int w)]) rfl ?_
  have d_0 := rgI n a k
  have d_1 := amC_d l (nI 0) (nI 25)
  have d_2 := amC_d w (nI 0) (nI 5)
  have d_3 := plC_d n a
  have d_4 := plC_d n k
  refine z_aload_n hF dX5_suggest_0 rfl ?_
  refine z_iconst (v := nI 0) hF dX5_suggest_1 (by decide) ?_
  refine z_put (C := RX5) (T := TX5) (N := 21) (ci := 5) (ws' := [(w0, .inr (5, [.int (nI 0), .int (nI n), .ref w1, .int (nI v), .int (nI m), .ref w2, .ref w3, .ref w4, .ref w5, .ref w6, .ref w7, .ref w8, .ref w9, .ref w10, .ref w11, .int (nI j), .ref w12, .ref w13, .ref w14, .ref w15, .ref w16])), (w12, eI G 10 b2), (w13, eI G 10 e2), (w14, eI G 10 xl), (w15, eI G 10 xc)]) hF k_0 tyX5 tyX5_ok nmX5 0 (by decide) rfl k_1 rfl rfl rfl rfl 0 rfl rfl rfl dX5_suggest_2 ?_
  refine z_aload_n hF dX5_suggest_5 rfl ?_
  refine z_iload_n hF dX5_suggest_6 rfl ?_
  refine z_V (As := [.int a]) (rest := []) (ws' := [(w0, .inr (5, [.int (nI 0), .int (nI n), .ref w1, .int (nI v), .int (nI m), .ref w2, .ref w3, .ref w4, .ref w5, .ref w6, .ref w7, .ref w8, .ref w9, .ref w10, .ref w11, .int (nI j), .ref w12, .ref w13, .ref w14, .ref w15, .ref w16])), (w12, eI G 10 b2), (w13, eI G 10 e2), (w14, eI G 10 xl), (w15, eI G 10 xc)]) (st2 := [.int (zb (plC n a = 0))]) (c2 := 0) (s2 := 0) hF (c_X5_isPlace G w0 w1 w2 w3 w4 w5 w6 w7 w8 w9 w10 w11 w12 w13 w14 w15 w16 n v m j (nI 0) a) gX5_suggest_X5_isPlace rfl rfl rfl hd_X5_isPlace ⟨⟨Nat.le_of_ble_eq_true rfl, Nat.le_of_ble_eq_true rfl⟩, ⟨Nat.le_of_ble_eq_true rfl, Nat.le_of_ble_eq_true rfl⟩, Nat.le_of_ble_eq_true rfl⟩ [0] rfl rfl 0 rfl rfl rfl rfl rfl rfl rfl rfl rfl rfl dX5_suggest_7 ?_
  refine z_if_eq_b (tgt := 21) hF dX5_suggest_10 (by decide) (fun c_1 => ?_) (fun c_1 => ?_)
  · refine z_aload_n hF dX5_suggest_21 rfl ?_
    refine z_iconst (v := nI 1) hF dX5_suggest_22 (by decide) ?_
    refine z_V (As := [.int (nI 1)]) (rest := []) (ws' := [(w0, .inr (5, [.int (nI 1), .int (nI n), .ref w1, .int (nI v), .int (nI m), .ref w2, .ref w3, .ref w4, .ref w5, .ref w6, .ref w7, .ref w8, .ref w9, .ref w10, .ref w11, .int (nI j), .ref w12, .ref w13, .ref w14, .ref w15, .ref w16])), (w12, eI G 10 b2), (w13, eI G 10 e2), (w14, eI G 10 xl), (w15, eI G 10 xc)]) (st2 := [.int (nI 0)]) (c2 := 0) (s2 := 0) hF (c_X5_fails G w0 w1 w2 w3 w4 w5 w6 w7 w8 w9 w10 w11 w12 w13 w14 w15 w16 n v m j (nI 0) (nI 1)) gX5_suggest_X5_fails rfl rfl rfl hd_X5_fails ⟨⟨Nat.le_of_ble_eq_true rfl, Nat.le_of_ble_eq_true rfl⟩, ⟨Nat.le_of_ble_eq_true rfl, Nat.le_of_ble_eq_true rfl⟩, Nat.le_of_ble_eq_true rfl⟩ [0] rfl rfl 0 rfl rfl rfl rfl rfl rfl rfl rfl rfl rfl dX5_suggest_23 ?_
    exact hR.i dX5_suggest_26 (Nat.le_of_ble_eq_true rfl) (Nat.le_of_ble_eq_true rfl) (by rw [show (fz (rgC n a k) (fz (amC l (nI 0) (nI 25)) (fz (amC w (nI 0) (nI 5)) (if j < 10 then 0 else 3)))) = 1 from (by (try simp only [fz]); grind)]) (rfl)
  · refine z_aload_n hF dX5_suggest_13 rfl ?_
    refine z_iload_n hF dX5_suggest_14 rfl ?_
    refine z_V (As := [.int k]) (rest := []) (ws' := [(w0, .inr (5, [.int (nI 0), .int (nI n), .ref w1, .int (nI v), .int (nI m), .ref w2, .ref w3, .ref w4, .ref w5, .ref w6, .ref w7, .ref w8, .ref w9, .ref w10, .ref w11, .int (nI j), .ref w12, .ref w13, .ref w14, .ref w15, .ref w16])), (w12, eI G 10 b2), (w13, eI G 10 e2), (w14, eI G 10 xl), (w15, eI G 10 xc)]) (st2 := [.int (zb (plC n k = 0))]) (c2 := 0) (s2 := 0) hF (c_X5_isPlace G w0 w1 w2 w3 w4 w5 w6 w7 w8 w9 w10 w11 w12 w13 w14 w15 w16 n v m j (nI 0) k) gX5_suggest_X5_isPlace rfl rfl rfl hd_X5_isPlace ⟨⟨Nat.le_of_ble_eq_true rfl, Nat.le_of_ble_eq_true rfl⟩, ⟨Nat.le_of_ble_eq_true rfl, Nat.le_of_ble_eq_true rfl⟩, Nat.le_of_ble_eq_true rfl⟩ [0] rfl rfl 0 rfl rfl rfl rfl rfl rfl rfl rfl rfl rfl dX5_suggest_15 ?_
    refine z_if_ne_b (tgt := 27) hF dX5_suggest_18 (by decide) (fun c_2 => ?_) (fun c_2 => ?_)
    · refine z_iload_n hF dX5_suggest_27 rfl ?_
      refine z_iload_n hF dX5_suggest_28 rfl ?_
      refine z_ic_le (tgt := 52) hF dX5_suggest_29 (by decide) (fun c_3 => ?_) (fun c_3 => ?_)
      · refine z_aload_n hF dX5_suggest_52 rfl ?_
        refine z_iconst (v := nI 2) hF dX5_suggest_53 (by decide) ?_
        refine z_V (As := [.int (nI 2)]) (rest := []) (ws' := [(w0, .inr (5, [.int (nI 2), .int (nI n), .ref w1, .int (nI v), .int (nI m), .ref w2, .ref w3, .ref w4, .ref w5, .ref w6, .ref w7, .ref w8, .ref w9, .ref w10, .ref w11, .int (nI j), .ref w12, .ref w13, .ref w14, .ref w15, .ref w16])), (w12, eI G 10 b2), (w13, eI G 10 e2), (w14, eI G 10 xl), (w15, eI G 10 xc)]) (st2 := [.int (nI 0)]) (c2 := 0) (s2 := 0) hF (c_X5_fails G w0 w1 w2 w3 w4 w5 w6 w7 w8 w9 w10 w11 w12 w13 w14 w15 w16 n v m j (nI 0) (nI 2)) gX5_suggest_X5_fails rfl rfl rfl hd_X5_fails ⟨⟨Nat.le_of_ble_eq_true rfl, Nat.le_of_ble_eq_true rfl⟩, ⟨Nat.le_of_ble_eq_true rfl, Nat.le_of_ble_eq_true rfl⟩, Nat.le_of_ble_eq_true rfl⟩ [0] rfl rfl 0 rfl rfl rfl rfl rfl rfl rfl rfl rfl rfl dX5_suggest_54 ?_
        exact hR.i dX5_suggest_57 (Nat.le_of_ble_eq_true rfl) (Nat.le_of_ble_eq_true rfl) (by rw [show (fz (rgC n a k) (fz (amC l (nI 0) (nI 25)) (fz (amC w (nI 0) (nI 5)) (if j < 10 then 0 else 3)))) = 2 from (by (try simp only [fz]); grind)]) (rfl)
      · refine z_iload_n hF dX5_suggest_32 rfl ?_
        refine z_iconst (v := nI 0) hF dX5_suggest_33 (by decide) ?_
        refine z_bipush (v := nI 25) hF dX5_suggest_34 (by decide) ?_
        refine z_S (As := [.int l, .int (nI 0), .int (nI 25)]) (rest := []) (ws' := [(w0, .inr (5, [.int (nI 0), .int (nI n), .ref w1, .int (nI v), .int (nI m), .ref w2, .ref w3, .ref w4, .ref w5, .ref w6, .ref w7, .ref w8, .ref w9, .ref w10, .ref w11, .int (nI j), .ref w12, .ref w13, .ref w14, .ref w15, .ref w16])), (w12, eI G 10 b2), (w13, eI G 10 e2), (w14, eI G 10 xl), (w15, eI G 10 xc)]) (st2 := [.int (zb ((nI 0) ≤ l ∧ l ≤ (nI 25)))]) (c2 := 0) (s2 := 0) hF (c_X5_in G l (nI 0) (nI 25)) gX5_suggest_X5_in rfl rfl rfl hs_X5_in ⟨⟨Nat.le_of_ble_eq_true rfl, Nat.le_of_ble_eq_true rfl⟩, ⟨Nat.le_of_ble_eq_true rfl, Nat.le_of_ble_eq_true rfl⟩, Nat.le_of_ble_eq_true rfl⟩ [] rfl rfl rfl rfl rfl rfl rfl rfl rfl rfl dX5_suggest_36 ?_
        refine z_top (y := zb (amC l (nI 0) (nI 25) = 0)) (zb_iff inL_am) ?_
        refine z_if_eq_b (tgt := 52) hF dX5_suggest_39 (by decide) (fun c_4 => ?_) (fun c_4 => ?_)
        · refine z_aload_n hF dX5_suggest_52 rfl ?_
          refine z_iconst (v := nI 2) hF dX5_suggest_53 (by decide) ?_
          refine z_V (As := [.int (nI 2)]) (rest := []) (ws' := [(w0, .inr (5, [.int (nI 2), .int (nI n), .ref w1, .int (nI v), .int (nI m), .ref w2, .ref w3, .ref w4, .ref w5, .ref w6, .ref w7, .ref w8, .ref w9, .ref w10, .ref w11, .int (nI j), .ref w12, .ref w13, .ref w14, .ref w15, .ref w16])), (w12, eI G 10 b2), (w13, eI G 10 e2), (w14, eI G 10 xl), (w15, eI G 10 xc)]) (st2 := [.int (nI 0)]) (c2 := 0) (s2 := 0) hF (c_X5_fails G w0 w1 w2 w3 w4 w5 w6 w7 w8 w9 w10 w11 w12 w13 w14 w15 w16 n v m j (nI 0) (nI 2)) gX5_suggest_X5_fails rfl rfl rfl hd_X5_fails ⟨⟨Nat.le_of_ble_eq_true rfl, Nat.le_of_ble_eq_true rfl⟩, ⟨Nat.le_of_ble_eq_true rfl, Nat.le_of_ble_eq_true rfl⟩, Nat.le_of_ble_eq_true rfl⟩ [0] rfl rfl 0 rfl rfl rfl rfl rfl rfl rfl rfl rfl rfl dX5_suggest_54 ?_
          exact hR.i dX5_suggest_57 (Nat.le_of_ble_eq_true rfl) (Nat.le_of_ble_eq_true rfl) (by rw [show (fz (rgC n a k) (fz (amC l (nI 0) (nI 25)) (fz (amC w (nI 0) (nI 5)) (if j < 10 then 0 else 3)))) = 2 from (by (try simp only [fz]); grind)]) (rfl)
        · refine z_iload hF dX5_suggest_42 rfl ?_
          refine z_iconst (v := nI 0) hF dX5_suggest_44 (by decide) ?_
          refine z_iconst (v := nI 5) hF dX5_suggest_45 (by decide) ?_
          refine z_S (As := [.int w, .int (nI 0), .int (nI 5)]) (rest := []) (ws' := [(w0, .inr (5, [.int (nI 0), .int (nI n), .ref w1, .int (nI v), .int (nI m), .ref w2, .ref w3, .ref w4, .ref w5, .ref w6, .ref w7, .ref w8, .ref w9, .ref w10, .ref w11, .int (nI j), .ref w12, .ref w13, .ref w14, .ref w15, .ref w16])), (w12, eI G 10 b2), (w13, eI G 10 e2), (w14, eI G 10 xl), (w15, eI G 10 xc)]) (st2 := [.int (zb ((nI 0) ≤ w ∧ w ≤ (nI 5)))]) (c2 := 0) (s2 := 0) hF (c_X5_in G w (nI 0) (nI 5)) gX5_suggest_X5_in rfl rfl rfl hs_X5_in ⟨⟨Nat.le_of_ble_eq_true rfl, Nat.le_of_ble_eq_true rfl⟩, ⟨Nat.le_of_ble_eq_true rfl, Nat.le_of_ble_eq_true rfl⟩, Nat.le_of_ble_eq_true rfl⟩ [] rfl rfl rfl rfl rfl rfl rfl rfl rfl rfl dX5_suggest_46 ?_
          refine z_top (y := zb (amC w (nI 0) (nI 5) = 0)) (zb_iff inL_am) ?_
          refine z_if_ne_b (tgt := 58) hF dX5_suggest_49 (by decide) (fun c_5 => ?_) (fun c_5 => ?_)
          · refine z_aload_n hF dX5_suggest_58 rfl ?_
            refine z_get (C := RX5) (T := TX5) (N := 21) (ci := 5) (v := .int (nI j)) hF k_0 15 (by decide) rfl k_2 rfl 0 rfl rfl dX5_suggest_59 ?_
            refine z_bipush (v := nI 10) hF dX5_suggest_62 (by decide) ?_
            refine z_icn_ne (tgt := 73) hF (by omega) (by omega) dX5_suggest_64 (by decide) (fun c_6 => ?_) (fun c_6 => ?_)
            · exact absurd (by (try simp only [fz]); grind : (fz (rgC n a k) (fz (amC l (nI 0) (nI 25)) (fz (amC w (nI 0) (nI 5)) (if j < 10 then 0 else 3)))) = 0) hc
            · refine z_aload_n hF dX5_suggest_67 rfl ?_
              refine z_iconst (v := nI 3) hF dX5_suggest_68 (by decide) ?_
              refine z_V (As := [.int (nI 3)]) (rest := []) (ws' := [(w0, .inr (5, [.int (nI 3), .int (nI n), .ref w1, .int (nI v), .int (nI m), .ref w2, .ref w3, .ref w4, .ref w5, .ref w6, .ref w7, .ref w8, .ref w9, .ref w10, .ref w11, .int (nI j), .ref w12, .ref w13, .ref w14, .ref w15, .ref w16])), (w12, eI G 10 b2), (w13, eI G 10 e2), (w14, eI G 10 xl), (w15, eI G 10 xc)]) (st2 := [.int (nI 0)]) (c2 := 0) (s2 := 0) hF (c_X5_fails G w0 w1 w2 w3 w4 w5 w6 w7 w8 w9 w10 w11 w12 w13 w14 w15 w16 n v m j (nI 0) (nI 3)) gX5_suggest_X5_fails rfl rfl rfl hd_X5_fails ⟨⟨Nat.le_of_ble_eq_true rfl, Nat.le_of_ble_eq_true rfl⟩, ⟨Nat.le_of_ble_eq_true rfl, Nat.le_of_ble_eq_true rfl⟩, Nat.le_of_ble_eq_true rfl⟩ [0] rfl rfl 0 rfl rfl rfl rfl rfl rfl rfl rfl rfl rfl dX5_suggest_69 ?_
              exact hR.i dX5_suggest_72 (Nat.le_of_ble_eq_true rfl) (Nat.le_of_ble_eq_true rfl) (by rw [show (fz (rgC n a k) (fz (amC l (nI 0) (nI 25)) (fz (amC w (nI 0) (nI 5)) (if j < 10 then 0 else 3)))) = 3 from (by (try simp only [fz]); grind)]) (rfl)
          · refine z_aload_n hF dX5_suggest_52 rfl ?_
            refine z_iconst (v := nI 2) hF dX5_suggest_53 (by decide) ?_
            refine z_V (As := [.int (nI 2)]) (rest := []) (ws' := [(w0, .inr (5, [.int (nI 2), .int (nI n), .ref w1, .int (nI v), .int (nI m), .ref w2, .ref w3, .ref w4, .ref w5, .ref w6, .ref w7, .ref w8, .ref w9, .ref w10, .ref w11, .int (nI j), .ref w12, .ref w13, .ref w14, .ref w15, .ref w16])), (w12, eI G 10 b2), (w13, eI G 10 e2), (w14, eI G 10 xl), (w15, eI G 10 xc)]) (st2 := [.int (nI 0)]) (c2 := 0) (s2 := 0) hF (c_X5_fails G w0 w1 w2 w3 w4 w5 w6 w7 w8 w9 w10 w11 w12 w13 w14 w15 w16 n v m j (nI 0) (nI 2)) gX5_suggest_X5_fails rfl rfl rfl hd_X5_fails ⟨⟨Nat.le_of_ble_eq_true rfl, Nat.le_of_ble_eq_true rfl⟩, ⟨Nat.le_of_ble_eq_true rfl, Nat.le_of_ble_eq_true rfl⟩, Nat.le_of_ble_eq_true rfl⟩ [0] rfl rfl 0 rfl rfl rfl rfl rfl rfl rfl rfl rfl rfl dX5_suggest_54 ?_
            exact hR.i dX5_suggest_57 (Nat.le_of_ble_eq_true rfl) (Nat.le_of_ble_eq_true rfl) (by rw [show (fz (rgC n a k) (fz (amC l (nI 0) (nI 25)) (fz (amC w (nI 0) (nI 5)) (if j < 10 then 0 else 3)))) = 2 from (by (try simp only [fz]); grind)]) (rfl)
    · refine z_aload_n hF dX5_suggest_21 rfl ?_
      refine z_iconst (v := nI 1) hF dX5_suggest_22 (by decide) ?_
      refine z_V (As := [.int (nI 1)]) (rest := []) (ws' := [(w0, .inr (5, [.int (nI 1), .int (nI n), .ref w1, .int (nI v), .int (nI m), .ref w2, .ref w3, .ref w4, .ref w5, .ref w6, .ref w7, .ref w8, .ref w9, .ref w10, .ref w11, .int (nI j), .ref w12, .ref w13, .ref w14, .ref w15, .ref w16])), (w12, eI G 10 b2), (w13, eI G 10 e2), (w14, eI G 10 xl), (w15, eI G 10 xc)]) (st2 := [.int (nI 0)]) (c2 := 0) (s2 := 0) hF (c_X5_fails G w0 w1 w2 w3 w4 w5 w6 w7 w8 w9 w10 w11 w12 w13 w14 w15 w16 n v m j (nI 0) (nI 1)) gX5_suggest_X5_fails rfl rfl rfl hd_X5_fails ⟨⟨Nat.le_of_ble_eq_true rfl, Nat.le_of_ble_eq_true rfl⟩, ⟨Nat.le_of_ble_eq_true rfl, Nat.le_of_ble_eq_true rfl⟩, Nat.le_of_ble_eq_true rfl⟩ [0] rfl rfl 0 rfl rfl rfl rfl rfl rfl rfl rfl rfl rfl dX5_suggest_23 ?_
      exact hR.i dX5_suggest_26 (Nat.le_of_ble_eq_true rfl) (Nat.le_of_ble_eq_true rfl) (by rw [show (fz (rgC n a k) (fz (amC l (nI 0) (nI 25)) (fz (amC w (nI 0) (nI 5)) (if j < 10 then 0 else 3)))) = 1 from (by (try simp only [fz]); grind)]) (rfl)
set_option maxHeartbeats 4000000 in
set_option maxRecDepth 100000 in
theorem c_X5_suggest_k (G : zG) (w0 w1 w2 w3 w4 w5 w6 w7 w8 w9 w10 w11 w12 w13 w14 w15 w16 n v m j : Nat) (th : Int32) (b2 : Nat → Int32) (e2 : Nat → Int32) (xl : Nat → Int32) (xc : Nat → Int32) (a k l w : Int32) (hn : n ≤ 60) (hj : j ≤ 10) (hc : (fz (rgC n a k) (fz (amC l (nI 0) (nI 25)) (fz (amC w (nI 0) (nI 5)) (if j < 10 then 0 else 3)))) = 0) : zM G yX5_suggest wsX5_suggest ({ frames := 2, cells := 0, slots := 0, locals := 55 }) [.ref w0, .int a, .int k, .int l, .int w] [(w0, .inr (5, [.int th, .int (nI n), .ref w1, .int (nI v), .int (nI m), .ref w2, .ref w3, .ref w4, .ref w5, .ref w6, .ref w7, .ref w8, .ref w9, .ref w10, .ref w11, .int (nI j), .ref w12, .ref w13, .ref w14, .ref w15, .ref w16])), (w12, eI G 10 b2), (w13, eI G 10 e2), (w14, eI G 10 xl), (w15, eI G 10 xc)] [(w0, .inr (5, [.int (nI 0), .int (nI n), .ref w1, .int (nI v), .int (nI m), .ref w2, .ref w3, .ref w4, .ref w5, .ref w6, .ref w7, .ref w8, .ref w9, .ref w10, .ref w11, .int (nI (j + 1)), .ref w12, .ref w13, .ref w14, .ref w15, .ref w16])), (w12, eI G 10 (upd b2 j a)), (w13, eI G 10 (upd e2 j k)), (w14, eI G 10 (upd xl j l)), (w15, eI G 10 (upd xc j w))] (some (.int (nI j))) 0 0 := by
  refine zM.ofI (own := RX5) (cc := cX5_suggest) (maxL := 5) rfl (by decide) rfl rfl (by simp [Value.category]) (Nat.le_of_ble_eq_true rfl) ?_
  intro X hF hR
  have k_0 : ∀ w ∈ wsX50, w ∈ wsX5_suggest := by decide +kernel
  have k_1 : zH X (.fieldLink RX5 62 "MarginDeskModel" "thrown" "I") := hF.w (by decide +kernel)
  have k_2 : zH X (.fieldLink RX5 76 "MarginDeskModel" "suggestions" "I") := hF.w (by decide +kernel)
  have k_3 : zH X (.fieldLink RX5 44 "MarginDeskModel" "first" "[I") := hF.w (by decide +kernel)
  have k_4 : zH X (.fieldLink RX5 47 "MarginDeskModel" "last" "[I") := hF.w (by decide +kernel)
  have k_5 : zH X (.fieldLink RX5 50 "MarginDeskModel" "letter" "[I") := hF.w (by decide +kernel)
  have k_6 : zH X (.fieldLink RX5 53 "MarginDeskModel" "count" "[I") := hF.w (by decide +kernel)
  refine z_lv (lv' := [some (.ref w0), some (.int a), some (.int k), some (.int l), some (.int w)]) rfl ?_
  have d_0 := rgI n a k
  have d_1 := amC_d l (nI 0) (nI 25)
  have d_2 := amC_d w (nI 0) (nI 5)
  have d_3 := plC_d n a
  have d_4 := plC_d n k
  refine z_aload_n hF dX5_suggest_0 rfl ?_
  refine z_iconst (v := nI 0) hF dX5_suggest_1 (by decide) ?_
  refine z_put (C := RX5) (T := TX5) (N := 21) (ci := 5) (ws' := [(w0, .inr (5, [.int (nI 0), .int (nI n), .ref w1, .int (nI v), .int (nI m), .ref w2, .ref w3, .ref w4, .ref w5, .ref w6, .ref w7, .ref w8, .ref w9, .ref w10, .ref w11, .int (nI j), .ref w12, .ref w13, .ref w14, .ref w15, .ref w16])), (w12, eI G 10 b2), (w13, eI G 10 e2), (w14, eI G 10 xl), (w15, eI G 10 xc)]) hF k_0 tyX5 tyX5_ok nmX5 0 (by decide) rfl k_1 rfl rfl rfl rfl 0 rfl rfl rfl dX5_suggest_2 ?_
  refine z_aload_n hF dX5_suggest_5 rfl ?_
  refine z_iload_n hF dX5_suggest_6 rfl ?_
  refine z_V (As := [.int a]) (rest := []) (ws' := [(w0, .inr (5, [.int (nI 0), .int (nI n), .ref w1, .int (nI v), .int (nI m), .ref w2, .ref w3, .ref w4, .ref w5, .ref w6, .ref w7, .ref w8, .ref w9, .ref w10, .ref w11, .int (nI j), .ref w12, .ref w13, .ref w14, .ref w15, .ref w16])), (w12, eI G 10 b2), (w13, eI G 10 e2), (w14, eI G 10 xl), (w15, eI G 10 xc)]) (st2 := [.int (zb (plC n a = 0))]) (c2 := 0) (s2 := 0) hF (c_X5_isPlace G w0 w1 w2 w3 w4 w5 w6 w7 w8 w9 w10 w11 w12 w13 w14 w15 w16 n v m j (nI 0) a) gX5_suggest_X5_isPlace rfl rfl rfl hd_X5_isPlace ⟨⟨Nat.le_of_ble_eq_true rfl, Nat.le_of_ble_eq_true rfl⟩, ⟨Nat.le_of_ble_eq_true rfl, Nat.le_of_ble_eq_true rfl⟩, Nat.le_of_ble_eq_true rfl⟩ [0] rfl rfl 0 rfl rfl rfl rfl rfl rfl rfl rfl rfl rfl dX5_suggest_7 ?_
  refine z_if_eq_b (tgt := 21) hF dX5_suggest_10 (by decide) (fun c_1 => ?_) (fun c_1 => ?_)
  · exact absurd hc (by (try simp only [fz]); grind)
  · refine z_aload_n hF dX5_suggest_13 rfl ?_
    refine z_iload_n hF dX5_suggest_14 rfl ?_
    refine z_V (As := [.int k]) (rest := []) (ws' := [(w0, .inr (5, [.int (nI 0), .int (nI n), .ref w1, .int (nI v), .int (nI m), .ref w2, .ref w3, .ref w4, .ref w5, .ref w6, .ref w7, .ref w8, .ref w9, .ref w10, .ref w11, .int (nI j), .ref w12, .ref w13, .ref w14, .ref w15, .ref w16])), (w12, eI G 10 b2), (w13, eI G 10 e2), (w14, eI G 10 xl), (w15, eI G 10 xc)]) (st2 := [.int (zb (plC n k = 0))]) (c2 := 0) (s2 := 0) hF (c_X5_isPlace G w0 w1 w2 w3 w4 w5 w6 w7 w8 w9 w10 w11 w12 w13 w14 w15 w16 n v m j (nI 0) k) gX5_suggest_X5_isPlace rfl rfl rfl hd_X5_isPlace ⟨⟨Nat.le_of_ble_eq_true rfl, Nat.le_of_ble_eq_true rfl⟩, ⟨Nat.le_of_ble_eq_true rfl, Nat.le_of_ble_eq_true rfl⟩, Nat.le_of_ble_eq_true rfl⟩ [0] rfl rfl 0 rfl rfl rfl rfl rfl rfl rfl rfl rfl rfl dX5_suggest_15 ?_
    refine z_if_ne_b (tgt := 27) hF dX5_suggest_18 (by decide) (fun c_2 => ?_) (fun c_2 => ?_)
    · refine z_iload_n hF dX5_suggest_27 rfl ?_
      refine z_iload_n hF dX5_suggest_28 rfl ?_
      refine z_ic_le (tgt := 52) hF dX5_suggest_29 (by decide) (fun c_3 => ?_) (fun c_3 => ?_)
      · exact absurd hc (by (try simp only [fz]); grind)
      · refine z_iload_n hF dX5_suggest_32 rfl ?_
        refine z_iconst (v := nI 0) hF dX5_suggest_33 (by decide) ?_
        refine z_bipush (v := nI 25) hF dX5_suggest_34 (by decide) ?_
        refine z_S (As := [.int l, .int (nI 0), .int (nI 25)]) (rest := []) (ws' := [(w0, .inr (5, [.int (nI 0), .int (nI n), .ref w1, .int (nI v), .int (nI m), .ref w2, .ref w3, .ref w4, .ref w5, .ref w6, .ref w7, .ref w8, .ref w9, .ref w10, .ref w11, .int (nI j), .ref w12, .ref w13, .ref w14, .ref w15, .ref w16])), (w12, eI G 10 b2), (w13, eI G 10 e2), (w14, eI G 10 xl), (w15, eI G 10 xc)]) (st2 := [.int (zb ((nI 0) ≤ l ∧ l ≤ (nI 25)))]) (c2 := 0) (s2 := 0) hF (c_X5_in G l (nI 0) (nI 25)) gX5_suggest_X5_in rfl rfl rfl hs_X5_in ⟨⟨Nat.le_of_ble_eq_true rfl, Nat.le_of_ble_eq_true rfl⟩, ⟨Nat.le_of_ble_eq_true rfl, Nat.le_of_ble_eq_true rfl⟩, Nat.le_of_ble_eq_true rfl⟩ [] rfl rfl rfl rfl rfl rfl rfl rfl rfl rfl dX5_suggest_36 ?_
        refine z_top (y := zb (amC l (nI 0) (nI 25) = 0)) (zb_iff inL_am) ?_
        refine z_if_eq_b (tgt := 52) hF dX5_suggest_39 (by decide) (fun c_4 => ?_) (fun c_4 => ?_)
        · exact absurd hc (by (try simp only [fz]); grind)
        · refine z_iload hF dX5_suggest_42 rfl ?_
          refine z_iconst (v := nI 0) hF dX5_suggest_44 (by decide) ?_
          refine z_iconst (v := nI 5) hF dX5_suggest_45 (by decide) ?_
          refine z_S (As := [.int w, .int (nI 0), .int (nI 5)]) (rest := []) (ws' := [(w0, .inr (5, [.int (nI 0), .int (nI n), .ref w1, .int (nI v), .int (nI m), .ref w2, .ref w3, .ref w4, .ref w5, .ref w6, .ref w7, .ref w8, .ref w9, .ref w10, .ref w11, .int (nI j), .ref w12, .ref w13, .ref w14, .ref w15, .ref w16])), (w12, eI G 10 b2), (w13, eI G 10 e2), (w14, eI G 10 xl), (w15, eI G 10 xc)]) (st2 := [.int (zb ((nI 0) ≤ w ∧ w ≤ (nI 5)))]) (c2 := 0) (s2 := 0) hF (c_X5_in G w (nI 0) (nI 5)) gX5_suggest_X5_in rfl rfl rfl hs_X5_in ⟨⟨Nat.le_of_ble_eq_true rfl, Nat.le_of_ble_eq_true rfl⟩, ⟨Nat.le_of_ble_eq_true rfl, Nat.le_of_ble_eq_true rfl⟩, Nat.le_of_ble_eq_true rfl⟩ [] rfl rfl rfl rfl rfl rfl rfl rfl rfl rfl dX5_suggest_46 ?_
          refine z_top (y := zb (amC w (nI 0) (nI 5) = 0)) (zb_iff inL_am) ?_
          refine z_if_ne_b (tgt := 58) hF dX5_suggest_49 (by decide) (fun c_5 => ?_) (fun c_5 => ?_)
          · refine z_aload_n hF dX5_suggest_58 rfl ?_
            refine z_get (C := RX5) (T := TX5) (N := 21) (ci := 5) (v := .int (nI j)) hF k_0 15 (by decide) rfl k_2 rfl 0 rfl rfl dX5_suggest_59 ?_
            refine z_bipush (v := nI 10) hF dX5_suggest_62 (by decide) ?_
            refine z_icn_ne (tgt := 73) hF (by omega) (by omega) dX5_suggest_64 (by decide) (fun c_6 => ?_) (fun c_6 => ?_)
            · have hj2 : j < 10 := by simp only [fz] at hc; grind
              refine z_aload_n hF dX5_suggest_73 rfl ?_
              refine z_get (C := RX5) (T := TX5) (N := 21) (ci := 5) (v := .ref w12) hF k_0 16 (by decide) rfl k_3 rfl 0 rfl rfl dX5_suggest_74 ?_
              refine z_aload_n hF dX5_suggest_77 rfl ?_
              refine z_get (C := RX5) (T := TX5) (N := 21) (ci := 5) (v := .int (nI j)) hF k_0 15 (by decide) rfl k_2 rfl 0 rfl rfl dX5_suggest_78 ?_
              refine z_iload_n hF dX5_suggest_81 rfl ?_
              refine z_iast (k := j) (ws' := [(w0, .inr (5, [.int (nI 0), .int (nI n), .ref w1, .int (nI v), .int (nI m), .ref w2, .ref w3, .ref w4, .ref w5, .ref w6, .ref w7, .ref w8, .ref w9, .ref w10, .ref w11, .int (nI j), .ref w12, .ref w13, .ref w14, .ref w15, .ref w16])), (w12, eI G 10 (upd b2 j a)), (w13, eI G 10 e2), (w14, eI G 10 xl), (w15, eI G 10 xc)]) hF 1 rfl (rfl) (by omega) rfl rfl dX5_suggest_82 ?_
              refine z_aload_n hF dX5_suggest_83 rfl ?_
              refine z_get (C := RX5) (T := TX5) (N := 21) (ci := 5) (v := .ref w13) hF k_0 17 (by decide) rfl k_4 rfl 0 rfl rfl dX5_suggest_84 ?_
              refine z_aload_n hF dX5_suggest_87 rfl ?_
              refine z_get (C := RX5) (T := TX5) (N := 21) (ci := 5) (v := .int (nI j)) hF k_0 15 (by decide) rfl k_2 rfl 0 rfl rfl dX5_suggest_88 ?_
              refine z_iload_n hF dX5_suggest_91 rfl ?_
              refine z_iast (k := j) (ws' := [(w0, .inr (5, [.int (nI 0), .int (nI n), .ref w1, .int (nI v), .int (nI m), .ref w2, .ref w3, .ref w4, .ref w5, .ref w6, .ref w7, .ref w8, .ref w9, .ref w10, .ref w11, .int (nI j), .ref w12, .ref w13, .ref w14, .ref w15, .ref w16])), (w12, eI G 10 (upd b2 j a)), (w13, eI G 10 (upd e2 j k)), (w14, eI G 10 xl), (w15, eI G 10 xc)]) hF 2 rfl (rfl) (by omega) rfl rfl dX5_suggest_92 ?_
              refine z_aload_n hF dX5_suggest_93 rfl ?_
              refine z_get (C := RX5) (T := TX5) (N := 21) (ci := 5) (v := .ref w14) hF k_0 18 (by decide) rfl k_5 rfl 0 rfl rfl dX5_suggest_94 ?_
              refine z_aload_n hF dX5_suggest_97 rfl ?_
              refine z_get (C := RX5) (T := TX5) (N := 21) (ci := 5) (v := .int (nI j)) hF k_0 15 (by decide) rfl k_2 rfl 0 rfl rfl dX5_suggest_98 ?_
              refine z_iload_n hF dX5_suggest_101 rfl ?_
              refine z_iast (k := j) (ws' := [(w0, .inr (5, [.int (nI 0), .int (nI n), .ref w1, .int (nI v), .int (nI m), .ref w2, .ref w3, .ref w4, .ref w5, .ref w6, .ref w7, .ref w8, .ref w9, .ref w10, .ref w11, .int (nI j), .ref w12, .ref w13, .ref w14, .ref w15, .ref w16])), (w12, eI G 10 (upd b2 j a)), (w13, eI G 10 (upd e2 j k)), (w14, eI G 10 (upd xl j l)), (w15, eI G 10 xc)]) hF 3 rfl (rfl) (by omega) rfl rfl dX5_suggest_102 ?_
              refine z_aload_n hF dX5_suggest_103 rfl ?_
              refine z_get (C := RX5) (T := TX5) (N := 21) (ci := 5) (v := .ref w15) hF k_0 19 (by decide) rfl k_6 rfl 0 rfl rfl dX5_suggest_104 ?_
              refine z_aload_n hF dX5_suggest_107 rfl ?_
              refine z_get (C := RX5) (T := TX5) (N := 21) (ci := 5) (v := .int (nI j)) hF k_0 15 (by decide) rfl k_2 rfl 0 rfl rfl dX5_suggest_108 ?_
              refine z_iload hF dX5_suggest_111 rfl ?_
              refine z_iast (k := j) (ws' := [(w0, .inr (5, [.int (nI 0), .int (nI n), .ref w1, .int (nI v), .int (nI m), .ref w2, .ref w3, .ref w4, .ref w5, .ref w6, .ref w7, .ref w8, .ref w9, .ref w10, .ref w11, .int (nI j), .ref w12, .ref w13, .ref w14, .ref w15, .ref w16])), (w12, eI G 10 (upd b2 j a)), (w13, eI G 10 (upd e2 j k)), (w14, eI G 10 (upd xl j l)), (w15, eI G 10 (upd xc j w))]) hF 4 rfl (rfl) (by omega) rfl rfl dX5_suggest_113 ?_
              refine z_aload_n hF dX5_suggest_114 rfl ?_
              refine z_dup hF dX5_suggest_115 rfl ?_
              refine z_get (C := RX5) (T := TX5) (N := 21) (ci := 5) (v := .int (nI j)) hF k_0 15 (by decide) rfl k_2 rfl 0 rfl rfl dX5_suggest_116 ?_
              refine z_iconst (v := nI 1) hF dX5_suggest_119 (by decide) ?_
              refine z_iadd hF dX5_suggest_120 ?_
              refine z_top (nI_add j 1) ?_
              refine z_put (C := RX5) (T := TX5) (N := 21) (ci := 5) (ws' := [(w0, .inr (5, [.int (nI 0), .int (nI n), .ref w1, .int (nI v), .int (nI m), .ref w2, .ref w3, .ref w4, .ref w5, .ref w6, .ref w7, .ref w8, .ref w9, .ref w10, .ref w11, .int (nI (j + 1)), .ref w12, .ref w13, .ref w14, .ref w15, .ref w16])), (w12, eI G 10 (upd b2 j a)), (w13, eI G 10 (upd e2 j k)), (w14, eI G 10 (upd xl j l)), (w15, eI G 10 (upd xc j w))]) hF k_0 tyX5 tyX5_ok nmX5 15 (by decide) rfl k_2 rfl rfl rfl rfl 0 rfl rfl rfl dX5_suggest_121 ?_
              refine z_aload_n hF dX5_suggest_124 rfl ?_
              refine z_get (C := RX5) (T := TX5) (N := 21) (ci := 5) (v := .int (nI (j + 1))) hF k_0 15 (by decide) rfl k_2 rfl 0 rfl rfl dX5_suggest_125 ?_
              refine z_iconst (v := nI 1) hF dX5_suggest_128 (by decide) ?_
              refine z_isub hF dX5_suggest_129 ?_
              refine z_top (pk_sub (by omega)) ?_
              exact hR.i dX5_suggest_130 (Nat.le_of_ble_eq_true rfl) (Nat.le_of_ble_eq_true rfl) (rfl) (by rw [Nat.add_sub_cancel])
            · exact absurd hc (by (try simp only [fz]); grind)
          · exact absurd hc (by (try simp only [fz]); grind)
    · exact absurd hc (by (try simp only [fz]); grind)
set_option maxHeartbeats 4000000 in
set_option maxRecDepth 100000 in
theorem c_X5_stateOf_f (G : zG) (w0 w1 w2 w3 w4 w5 w6 w7 w8 w9 w10 w11 w12 w13 w14 w15 w16 n v m j : Nat) (th : Int32) (xs : Nat → Int32) (a : Int32) (hj : j ≤ 10) (hc : ¬ (cmC j a) = 0) : zM G yX5_stateOf wsX5_stateOf ({ frames := 2, cells := 0, slots := 0, locals := 55 }) [.ref w0, .int a] [(w0, .inr (5, [.int th, .int (nI n), .ref w1, .int (nI v), .int (nI m), .ref w2, .ref w3, .ref w4, .ref w5, .ref w6, .ref w7, .ref w8, .ref w9, .ref w10, .ref w11, .int (nI j), .ref w12, .ref w13, .ref w14, .ref w15, .ref w16])), (w16, eI G 10 xs)] [(w0, .inr (5, [.int (nI (cmC j a)), .int (nI n), .ref w1, .int (nI v), .int (nI m), .ref w2, .ref w3, .ref w4, .ref w5, .ref w6, .ref w7, .ref w8, .ref w9, .ref w10, .ref w11, .int (nI j), .ref w12, .ref w13, .ref w14, .ref w15, .ref w16])), (w16, eI G 10 xs)] (some (.int (nI 0))) 0 0 := by
  refine zM.ofI (own := RX5) (cc := cX5_stateOf) (maxL := 2) rfl (by decide) rfl rfl (by simp [Value.category]) (Nat.le_of_ble_eq_true rfl) ?_
  intro X hF hR
  have k_0 : ∀ w ∈ wsX50, w ∈ wsX5_stateOf := by decide +kernel
  have k_1 : zH X (.fieldLink RX5 62 "MarginDeskModel" "thrown" "I") := hF.w (by decide +kernel)
  refine z_lv (lv' := [some (.ref w0), some (.int a)]) rfl ?_
  have d_0 := cmC_d j a
  refine z_aload_n hF dX5_stateOf_0 rfl ?_
  refine z_iconst (v := nI 0) hF dX5_stateOf_1 (by decide) ?_
  refine z_put (C := RX5) (T := TX5) (N := 21) (ci := 5) (ws' := [(w0, .inr (5, [.int (nI 0), .int (nI n), .ref w1, .int (nI v), .int (nI m), .ref w2, .ref w3, .ref w4, .ref w5, .ref w6, .ref w7, .ref w8, .ref w9, .ref w10, .ref w11, .int (nI j), .ref w12, .ref w13, .ref w14, .ref w15, .ref w16])), (w16, eI G 10 xs)]) hF k_0 tyX5 tyX5_ok nmX5 0 (by decide) rfl k_1 rfl rfl rfl rfl 0 rfl rfl rfl dX5_stateOf_2 ?_
  refine z_aload_n hF dX5_stateOf_5 rfl ?_
  refine z_iload_n hF dX5_stateOf_6 rfl ?_
  refine z_V (As := [.int a]) (rest := []) (ws' := [(w0, .inr (5, [.int (nI 0), .int (nI n), .ref w1, .int (nI v), .int (nI m), .ref w2, .ref w3, .ref w4, .ref w5, .ref w6, .ref w7, .ref w8, .ref w9, .ref w10, .ref w11, .int (nI j), .ref w12, .ref w13, .ref w14, .ref w15, .ref w16])), (w16, eI G 10 xs)]) (st2 := [.int (zb (cmC j a = 0))]) (c2 := 0) (s2 := 0) hF (c_X5_isSuggestion G w0 w1 w2 w3 w4 w5 w6 w7 w8 w9 w10 w11 w12 w13 w14 w15 w16 n v m j (nI 0) a (by first | assumption | omega)) gX5_stateOf_X5_isSuggestion rfl rfl rfl hd_X5_isSuggestion ⟨⟨Nat.le_of_ble_eq_true rfl, Nat.le_of_ble_eq_true rfl⟩, ⟨Nat.le_of_ble_eq_true rfl, Nat.le_of_ble_eq_true rfl⟩, Nat.le_of_ble_eq_true rfl⟩ [0] rfl rfl 0 rfl rfl rfl rfl rfl rfl rfl rfl rfl rfl dX5_stateOf_7 ?_
  refine z_if_eq_b (tgt := 22) hF dX5_stateOf_10 (by decide) (fun c_1 => ?_) (fun c_1 => ?_)
  · refine z_aload_n hF dX5_stateOf_22 rfl ?_
    refine z_iconst (v := nI 1) hF dX5_stateOf_23 (by decide) ?_
    refine z_V (As := [.int (nI 1)]) (rest := []) (ws' := [(w0, .inr (5, [.int (nI 1), .int (nI n), .ref w1, .int (nI v), .int (nI m), .ref w2, .ref w3, .ref w4, .ref w5, .ref w6, .ref w7, .ref w8, .ref w9, .ref w10, .ref w11, .int (nI j), .ref w12, .ref w13, .ref w14, .ref w15, .ref w16])), (w16, eI G 10 xs)]) (st2 := [.int (nI 0)]) (c2 := 0) (s2 := 0) hF (c_X5_fails G w0 w1 w2 w3 w4 w5 w6 w7 w8 w9 w10 w11 w12 w13 w14 w15 w16 n v m j (nI 0) (nI 1)) gX5_stateOf_X5_fails rfl rfl rfl hd_X5_fails ⟨⟨Nat.le_of_ble_eq_true rfl, Nat.le_of_ble_eq_true rfl⟩, ⟨Nat.le_of_ble_eq_true rfl, Nat.le_of_ble_eq_true rfl⟩, Nat.le_of_ble_eq_true rfl⟩ [0] rfl rfl 0 rfl rfl rfl rfl rfl rfl rfl rfl rfl rfl dX5_stateOf_24 ?_
    exact hR.i dX5_stateOf_27 (Nat.le_of_ble_eq_true rfl) (Nat.le_of_ble_eq_true rfl) (by rw [show (cmC j a) = 1 from (by (try simp only [fz]); grind)]) (rfl)
  · exact absurd (by (try simp only [fz]); grind : (cmC j a) = 0) hc
