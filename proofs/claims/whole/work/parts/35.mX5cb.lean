set_option maxHeartbeats 4000000 in
set_option maxRecDepth 100000 in
theorem c_X5_version (G : zG) (w0 w1 w2 w3 w4 w5 w6 w7 w8 w9 w10 w11 w12 w13 w14 w15 w16 n v m j : Nat) (th : Int32)  : zM G yX5_version wsX5_version ({ frames := 0, cells := 0, slots := 0, locals := 12 }) [.ref w0] [(w0, .inr (5, [.int th, .int (nI n), .ref w1, .int (nI v), .int (nI m), .ref w2, .ref w3, .ref w4, .ref w5, .ref w6, .ref w7, .ref w8, .ref w9, .ref w10, .ref w11, .int (nI j), .ref w12, .ref w13, .ref w14, .ref w15, .ref w16]))] [(w0, .inr (5, [.int (nI 0), .int (nI n), .ref w1, .int (nI v), .int (nI m), .ref w2, .ref w3, .ref w4, .ref w5, .ref w6, .ref w7, .ref w8, .ref w9, .ref w10, .ref w11, .int (nI j), .ref w12, .ref w13, .ref w14, .ref w15, .ref w16]))] (some (.int (nI v))) 0 0 := by
  refine zM.ofI (own := RX5) (cc := cX5_version) (maxL := 1) rfl (by decide) rfl rfl (by simp [Value.category]) (Nat.le_of_ble_eq_true rfl) ?_
  intro X hF hR
  have k_0 : ∀ w ∈ wsX50, w ∈ wsX5_version := by decide +kernel
  have k_1 : zH X (.fieldLink RX5 62 "MarginDeskModel" "thrown" "I") := hF.w (by decide +kernel)
  have k_2 : zH X (.fieldLink RX5 79 "MarginDeskModel" "edits" "I") := hF.w (by decide +kernel)
  refine z_lv (lv' := [some (.ref w0)]) rfl ?_
  refine z_aload_n hF dX5_version_0 rfl ?_
  refine z_iconst (v := nI 0) hF dX5_version_1 (by decide) ?_
  refine z_put (C := RX5) (T := TX5) (N := 21) (ci := 5) (ws' := [(w0, .inr (5, [.int (nI 0), .int (nI n), .ref w1, .int (nI v), .int (nI m), .ref w2, .ref w3, .ref w4, .ref w5, .ref w6, .ref w7, .ref w8, .ref w9, .ref w10, .ref w11, .int (nI j), .ref w12, .ref w13, .ref w14, .ref w15, .ref w16]))]) hF k_0 tyX5 tyX5_ok nmX5 0 (by decide) rfl k_1 rfl rfl rfl rfl 0 rfl rfl rfl dX5_version_2 ?_
  refine z_aload_n hF dX5_version_5 rfl ?_
  refine z_get (C := RX5) (T := TX5) (N := 21) (ci := 5) (v := .int (nI v)) hF k_0 3 (by decide) rfl k_2 rfl 0 rfl rfl dX5_version_6 ?_
  exact hR.i dX5_version_9 (Nat.le_of_ble_eq_true rfl) (Nat.le_of_ble_eq_true rfl) (rfl) (rfl)
set_option maxHeartbeats 4000000 in
set_option maxRecDepth 100000 in
theorem c_X5_comments (G : zG) (w0 w1 w2 w3 w4 w5 w6 w7 w8 w9 w10 w11 w12 w13 w14 w15 w16 n v m j : Nat) (th : Int32)  : zM G yX5_comments wsX5_comments ({ frames := 0, cells := 0, slots := 0, locals := 12 }) [.ref w0] [(w0, .inr (5, [.int th, .int (nI n), .ref w1, .int (nI v), .int (nI m), .ref w2, .ref w3, .ref w4, .ref w5, .ref w6, .ref w7, .ref w8, .ref w9, .ref w10, .ref w11, .int (nI j), .ref w12, .ref w13, .ref w14, .ref w15, .ref w16]))] [(w0, .inr (5, [.int (nI 0), .int (nI n), .ref w1, .int (nI v), .int (nI m), .ref w2, .ref w3, .ref w4, .ref w5, .ref w6, .ref w7, .ref w8, .ref w9, .ref w10, .ref w11, .int (nI j), .ref w12, .ref w13, .ref w14, .ref w15, .ref w16]))] (some (.int (nI m))) 0 0 := by
  refine zM.ofI (own := RX5) (cc := cX5_comments) (maxL := 1) rfl (by decide) rfl rfl (by simp [Value.category]) (Nat.le_of_ble_eq_true rfl) ?_
  intro X hF hR
  have k_0 : ∀ w ∈ wsX50, w ∈ wsX5_comments := by decide +kernel
  have k_1 : zH X (.fieldLink RX5 62 "MarginDeskModel" "thrown" "I") := hF.w (by decide +kernel)
  have k_2 : zH X (.fieldLink RX5 73 "MarginDeskModel" "comments" "I") := hF.w (by decide +kernel)
  refine z_lv (lv' := [some (.ref w0)]) rfl ?_
  refine z_aload_n hF dX5_comments_0 rfl ?_
  refine z_iconst (v := nI 0) hF dX5_comments_1 (by decide) ?_
  refine z_put (C := RX5) (T := TX5) (N := 21) (ci := 5) (ws' := [(w0, .inr (5, [.int (nI 0), .int (nI n), .ref w1, .int (nI v), .int (nI m), .ref w2, .ref w3, .ref w4, .ref w5, .ref w6, .ref w7, .ref w8, .ref w9, .ref w10, .ref w11, .int (nI j), .ref w12, .ref w13, .ref w14, .ref w15, .ref w16]))]) hF k_0 tyX5 tyX5_ok nmX5 0 (by decide) rfl k_1 rfl rfl rfl rfl 0 rfl rfl rfl dX5_comments_2 ?_
  refine z_aload_n hF dX5_comments_5 rfl ?_
  refine z_get (C := RX5) (T := TX5) (N := 21) (ci := 5) (v := .int (nI m)) hF k_0 4 (by decide) rfl k_2 rfl 0 rfl rfl dX5_comments_6 ?_
  exact hR.i dX5_comments_9 (Nat.le_of_ble_eq_true rfl) (Nat.le_of_ble_eq_true rfl) (rfl) (rfl)
set_option maxHeartbeats 4000000 in
set_option maxRecDepth 100000 in
theorem c_X5_letterAt_f (G : zG) (w0 w1 w2 w3 w4 w5 w6 w7 w8 w9 w10 w11 w12 w13 w14 w15 w16 n v m j : Nat) (th : Int32) (f : Nat → Int32) (a : Int32) (hn : n ≤ 60) (hc : ¬ (plC n a) = 0) : zM G yX5_letterAt wsX5_letterAt ({ frames := 2, cells := 0, slots := 0, locals := 55 }) [.ref w0, .int a] [(w0, .inr (5, [.int th, .int (nI n), .ref w1, .int (nI v), .int (nI m), .ref w2, .ref w3, .ref w4, .ref w5, .ref w6, .ref w7, .ref w8, .ref w9, .ref w10, .ref w11, .int (nI j), .ref w12, .ref w13, .ref w14, .ref w15, .ref w16])), (w1, eI G 60 f)] [(w0, .inr (5, [.int (nI (plC n a)), .int (nI n), .ref w1, .int (nI v), .int (nI m), .ref w2, .ref w3, .ref w4, .ref w5, .ref w6, .ref w7, .ref w8, .ref w9, .ref w10, .ref w11, .int (nI j), .ref w12, .ref w13, .ref w14, .ref w15, .ref w16])), (w1, eI G 60 f)] (some (.int (nI 0))) 0 0 := by
  refine zM.ofI (own := RX5) (cc := cX5_letterAt) (maxL := 2) rfl (by decide) rfl rfl (by simp [Value.category]) (Nat.le_of_ble_eq_true rfl) ?_
  intro X hF hR
  have k_0 : ∀ w ∈ wsX50, w ∈ wsX5_letterAt := by decide +kernel
  have k_1 : zH X (.fieldLink RX5 62 "MarginDeskModel" "thrown" "I") := hF.w (by decide +kernel)
  refine z_lv (lv' := [some (.ref w0), some (.int a)]) rfl ?_
  have d_0 := plC_d n a
  refine z_aload_n hF dX5_letterAt_0 rfl ?_
  refine z_iconst (v := nI 0) hF dX5_letterAt_1 (by decide) ?_
  refine z_put (C := RX5) (T := TX5) (N := 21) (ci := 5) (ws' := [(w0, .inr (5, [.int (nI 0), .int (nI n), .ref w1, .int (nI v), .int (nI m), .ref w2, .ref w3, .ref w4, .ref w5, .ref w6, .ref w7, .ref w8, .ref w9, .ref w10, .ref w11, .int (nI j), .ref w12, .ref w13, .ref w14, .ref w15, .ref w16])), (w1, eI G 60 f)]) hF k_0 tyX5 tyX5_ok nmX5 0 (by decide) rfl k_1 rfl rfl rfl rfl 0 rfl rfl rfl dX5_letterAt_2 ?_
  refine z_aload_n hF dX5_letterAt_5 rfl ?_
  refine z_iload_n hF dX5_letterAt_6 rfl ?_
  refine z_V (As := [.int a]) (rest := []) (ws' := [(w0, .inr (5, [.int (nI 0), .int (nI n), .ref w1, .int (nI v), .int (nI m), .ref w2, .ref w3, .ref w4, .ref w5, .ref w6, .ref w7, .ref w8, .ref w9, .ref w10, .ref w11, .int (nI j), .ref w12, .ref w13, .ref w14, .ref w15, .ref w16])), (w1, eI G 60 f)]) (st2 := [.int (zb (plC n a = 0))]) (c2 := 0) (s2 := 0) hF (c_X5_isPlace G w0 w1 w2 w3 w4 w5 w6 w7 w8 w9 w10 w11 w12 w13 w14 w15 w16 n v m j (nI 0) a) gX5_letterAt_X5_isPlace rfl rfl rfl hd_X5_isPlace ⟨⟨Nat.le_of_ble_eq_true rfl, Nat.le_of_ble_eq_true rfl⟩, ⟨Nat.le_of_ble_eq_true rfl, Nat.le_of_ble_eq_true rfl⟩, Nat.le_of_ble_eq_true rfl⟩ [0] rfl rfl 0 rfl rfl rfl rfl rfl rfl rfl rfl rfl rfl dX5_letterAt_7 ?_
  refine z_if_eq_b (tgt := 21) hF dX5_letterAt_10 (by decide) (fun c_1 => ?_) (fun c_1 => ?_)
  · refine z_aload_n hF dX5_letterAt_21 rfl ?_
    refine z_iconst (v := nI 1) hF dX5_letterAt_22 (by decide) ?_
    refine z_V (As := [.int (nI 1)]) (rest := []) (ws' := [(w0, .inr (5, [.int (nI 1), .int (nI n), .ref w1, .int (nI v), .int (nI m), .ref w2, .ref w3, .ref w4, .ref w5, .ref w6, .ref w7, .ref w8, .ref w9, .ref w10, .ref w11, .int (nI j), .ref w12, .ref w13, .ref w14, .ref w15, .ref w16])), (w1, eI G 60 f)]) (st2 := [.int (nI 0)]) (c2 := 0) (s2 := 0) hF (c_X5_fails G w0 w1 w2 w3 w4 w5 w6 w7 w8 w9 w10 w11 w12 w13 w14 w15 w16 n v m j (nI 0) (nI 1)) gX5_letterAt_X5_fails rfl rfl rfl hd_X5_fails ⟨⟨Nat.le_of_ble_eq_true rfl, Nat.le_of_ble_eq_true rfl⟩, ⟨Nat.le_of_ble_eq_true rfl, Nat.le_of_ble_eq_true rfl⟩, Nat.le_of_ble_eq_true rfl⟩ [0] rfl rfl 0 rfl rfl rfl rfl rfl rfl rfl rfl rfl rfl dX5_letterAt_23 ?_
    exact hR.i dX5_letterAt_26 (Nat.le_of_ble_eq_true rfl) (Nat.le_of_ble_eq_true rfl) (by rw [show (plC n a) = 1 from (by (try simp only [fz]); grind)]) (rfl)
  · exact absurd (by (try simp only [fz]); grind : (plC n a) = 0) hc
set_option maxHeartbeats 4000000 in
set_option maxRecDepth 100000 in
theorem c_X5_letterAt_k (G : zG) (w0 w1 w2 w3 w4 w5 w6 w7 w8 w9 w10 w11 w12 w13 w14 w15 w16 n v m j : Nat) (th : Int32) (f : Nat → Int32) (a : Int32) (hn : n ≤ 60) (hc : (plC n a) = 0) : zM G yX5_letterAt wsX5_letterAt ({ frames := 2, cells := 0, slots := 0, locals := 55 }) [.ref w0, .int a] [(w0, .inr (5, [.int th, .int (nI n), .ref w1, .int (nI v), .int (nI m), .ref w2, .ref w3, .ref w4, .ref w5, .ref w6, .ref w7, .ref w8, .ref w9, .ref w10, .ref w11, .int (nI j), .ref w12, .ref w13, .ref w14, .ref w15, .ref w16])), (w1, eI G 60 f)] [(w0, .inr (5, [.int (nI 0), .int (nI n), .ref w1, .int (nI v), .int (nI m), .ref w2, .ref w3, .ref w4, .ref w5, .ref w6, .ref w7, .ref w8, .ref w9, .ref w10, .ref w11, .int (nI j), .ref w12, .ref w13, .ref w14, .ref w15, .ref w16])), (w1, eI G 60 f)] (some (.int (letF n f a))) 0 0 := by
  refine zM.ofI (own := RX5) (cc := cX5_letterAt) (maxL := 2) rfl (by decide) rfl rfl (by simp [Value.category]) (Nat.le_of_ble_eq_true rfl) ?_
  intro X hF hR
  have k_0 : ∀ w ∈ wsX50, w ∈ wsX5_letterAt := by decide +kernel
  have k_1 : zH X (.fieldLink RX5 62 "MarginDeskModel" "thrown" "I") := hF.w (by decide +kernel)
  refine z_lv (lv' := [some (.ref w0), some (.int a)]) rfl ?_
  have d_0 := plC_d n a
  refine z_aload_n hF dX5_letterAt_0 rfl ?_
  refine z_iconst (v := nI 0) hF dX5_letterAt_1 (by decide) ?_
  refine z_put (C := RX5) (T := TX5) (N := 21) (ci := 5) (ws' := [(w0, .inr (5, [.int (nI 0), .int (nI n), .ref w1, .int (nI v), .int (nI m), .ref w2, .ref w3, .ref w4, .ref w5, .ref w6, .ref w7, .ref w8, .ref w9, .ref w10, .ref w11, .int (nI j), .ref w12, .ref w13, .ref w14, .ref w15, .ref w16])), (w1, eI G 60 f)]) hF k_0 tyX5 tyX5_ok nmX5 0 (by decide) rfl k_1 rfl rfl rfl rfl 0 rfl rfl rfl dX5_letterAt_2 ?_
  refine z_aload_n hF dX5_letterAt_5 rfl ?_
  refine z_iload_n hF dX5_letterAt_6 rfl ?_
  refine z_V (As := [.int a]) (rest := []) (ws' := [(w0, .inr (5, [.int (nI 0), .int (nI n), .ref w1, .int (nI v), .int (nI m), .ref w2, .ref w3, .ref w4, .ref w5, .ref w6, .ref w7, .ref w8, .ref w9, .ref w10, .ref w11, .int (nI j), .ref w12, .ref w13, .ref w14, .ref w15, .ref w16])), (w1, eI G 60 f)]) (st2 := [.int (zb (plC n a = 0))]) (c2 := 0) (s2 := 0) hF (c_X5_isPlace G w0 w1 w2 w3 w4 w5 w6 w7 w8 w9 w10 w11 w12 w13 w14 w15 w16 n v m j (nI 0) a) gX5_letterAt_X5_isPlace rfl rfl rfl hd_X5_isPlace ⟨⟨Nat.le_of_ble_eq_true rfl, Nat.le_of_ble_eq_true rfl⟩, ⟨Nat.le_of_ble_eq_true rfl, Nat.le_of_ble_eq_true rfl⟩, Nat.le_of_ble_eq_true rfl⟩ [0] rfl rfl 0 rfl rfl rfl rfl rfl rfl rfl rfl rfl rfl dX5_letterAt_7 ?_
  refine z_if_eq_b (tgt := 21) hF dX5_letterAt_10 (by decide) (fun c_1 => ?_) (fun c_1 => ?_)
  · exact absurd hc (by (try simp only [fz]); grind)
  · refine z_aload_n hF dX5_letterAt_13 rfl ?_
    refine z_iload_n hF dX5_letterAt_14 rfl ?_
    refine z_V (As := [.int a]) (rest := []) (ws' := [(w0, .inr (5, [.int (nI 0), .int (nI n), .ref w1, .int (nI v), .int (nI m), .ref w2, .ref w3, .ref w4, .ref w5, .ref w6, .ref w7, .ref w8, .ref w9, .ref w10, .ref w11, .int (nI j), .ref w12, .ref w13, .ref w14, .ref w15, .ref w16])), (w1, eI G 60 f)]) (st2 := [.int (letF n f a)]) (c2 := 0) (s2 := 0) hF (c_X5_letterOf G w0 w1 w2 w3 w4 w5 w6 w7 w8 w9 w10 w11 w12 w13 w14 w15 w16 n v m j (nI 0) f a (by first | assumption | omega)) gX5_letterAt_X5_letterOf rfl rfl rfl hd_X5_letterOf ⟨⟨Nat.le_of_ble_eq_true rfl, Nat.le_of_ble_eq_true rfl⟩, ⟨Nat.le_of_ble_eq_true rfl, Nat.le_of_ble_eq_true rfl⟩, Nat.le_of_ble_eq_true rfl⟩ [0, 1] rfl rfl 0 rfl rfl rfl rfl rfl rfl rfl rfl rfl rfl dX5_letterAt_15 ?_
    refine z_goto (tgt := 26) hF dX5_letterAt_18 (by decide) ?_
    exact hR.i dX5_letterAt_26 (Nat.le_of_ble_eq_true rfl) (Nat.le_of_ble_eq_true rfl) (rfl) (rfl)
set_option maxHeartbeats 4000000 in
set_option maxRecDepth 100000 in
theorem c_X5_comment_f (G : zG) (w0 w1 w2 w3 w4 w5 w6 w7 w8 w9 w10 w11 w12 w13 w14 w15 w16 n v m j : Nat) (th : Int32) (f : Nat → Int32) (b : Nat → Int32) (e : Nat → Int32) (s : Nat → Int32) (op : Nat → Int32) (ql : Nat → Int32) (qs : Nat → Int32) (qa : Nat → Int32) (qb : Nat → Int32) (tn : Nat → Int32) (a k l : Int32) (hn : n ≤ 60) (hm : m ≤ 12) (hv : v ≤ 300) (hc : ¬ (fz (rgC n a k) (fz (amC l (nI 0) (nI 3)) (if m < 12 then 0 else 3))) = 0) : zM G yX5_comment wsX5_comment ({ frames := 2, cells := 0, slots := 0, locals := 55 }) [.ref w0, .int a, .int k, .int l] [(w0, .inr (5, [.int th, .int (nI n), .ref w1, .int (nI v), .int (nI m), .ref w2, .ref w3, .ref w4, .ref w5, .ref w6, .ref w7, .ref w8, .ref w9, .ref w10, .ref w11, .int (nI j), .ref w12, .ref w13, .ref w14, .ref w15, .ref w16])), (w1, eI G 60 f), (w2, eI G 12 b), (w3, eI G 12 e), (w4, eI G 12 s), (w5, eZ G 12 op), (w7, eI G 720 ql), (w8, eI G 12 qs), (w9, eI G 12 qa), (w10, eI G 12 qb), (w11, eI G 3612 tn)] [(w0, .inr (5, [.int (nI (fz (rgC n a k) (fz (amC l (nI 0) (nI 3)) (if m < 12 then 0 else 3)))), .int (nI n), .ref w1, .int (nI v), .int (nI m), .ref w2, .ref w3, .ref w4, .ref w5, .ref w6, .ref w7, .ref w8, .ref w9, .ref w10, .ref w11, .int (nI j), .ref w12, .ref w13, .ref w14, .ref w15, .ref w16])), (w1, eI G 60 f), (w2, eI G 12 b), (w3, eI G 12 e), (w4, eI G 12 s), (w5, eZ G 12 op), (w7, eI G 720 ql), (w8, eI G 12 qs), (w9, eI G 12 qa), (w10, eI G 12 qb), (w11, eI G 3612 tn)] (some (.int (nI 0))) 0 0 := by
  refine zM.ofI (own := RX5) (cc := cX5_comment) (maxL := 6) rfl (by decide) rfl rfl (by simp [Value.category]) (Nat.le_of_ble_eq_true rfl) ?_
  intro X hF hR
  have k_0 : ∀ w ∈ wsX50, w ∈ wsX5_comment := by decide +kernel
  have k_1 : zH X (.fieldLink RX5 62 "MarginDeskModel" "thrown" "I") := hF.w (by decide +kernel)
  have k_2 : zH X (.fieldLink RX5 73 "MarginDeskModel" "comments" "I") := hF.w (by decide +kernel)
  refine z_lv (lv' := [some (.ref w0), some (.int a), some (.int k), some (.int l), none, none]) rfl ?_
  have d_0 := rgI n a k
  have d_1 := amC_d l (nI 0) (nI 3)
  have d_2 := plC_d n a
  have d_3 := plC_d n k
  refine z_aload_n hF dX5_comment_0 rfl ?_
  refine z_iconst (v := nI 0) hF dX5_comment_1 (by decide) ?_
  refine z_put (C := RX5) (T := TX5) (N := 21) (ci := 5) (ws' := [(w0, .inr (5, [.int (nI 0), .int (nI n), .ref w1, .int (nI v), .int (nI m), .ref w2, .ref w3, .ref w4, .ref w5, .ref w6, .ref w7, .ref w8, .ref w9, .ref w10, .ref w11, .int (nI j), .ref w12, .ref w13, .ref w14, .ref w15, .ref w16])), (w1, eI G 60 f), (w2, eI G 12 b), (w3, eI G 12 e), (w4, eI G 12 s), (w5, eZ G 12 op), (w7, eI G 720 ql), (w8, eI G 12 qs), (w9, eI G 12 qa), (w10, eI G 12 qb), (w11, eI G 3612 tn)]) hF k_0 tyX5 tyX5_ok nmX5 0 (by decide) rfl k_1 rfl rfl rfl rfl 0 rfl rfl rfl dX5_comment_2 ?_
  refine z_aload_n hF dX5_comment_5 rfl ?_
  refine z_iload_n hF dX5_comment_6 rfl ?_
  refine z_V (As := [.int a]) (rest := []) (ws' := [(w0, .inr (5, [.int (nI 0), .int (nI n), .ref w1, .int (nI v), .int (nI m), .ref w2, .ref w3, .ref w4, .ref w5, .ref w6, .ref w7, .ref w8, .ref w9, .ref w10, .ref w11, .int (nI j), .ref w12, .ref w13, .ref w14, .ref w15, .ref w16])), (w1, eI G 60 f), (w2, eI G 12 b), (w3, eI G 12 e), (w4, eI G 12 s), (w5, eZ G 12 op), (w7, eI G 720 ql), (w8, eI G 12 qs), (w9, eI G 12 qa), (w10, eI G 12 qb), (w11, eI G 3612 tn)]) (st2 := [.int (zb (plC n a = 0))]) (c2 := 0) (s2 := 0) hF (c_X5_isPlace G w0 w1 w2 w3 w4 w5 w6 w7 w8 w9 w10 w11 w12 w13 w14 w15 w16 n v m j (nI 0) a) gX5_comment_X5_isPlace rfl rfl rfl hd_X5_isPlace ⟨⟨Nat.le_of_ble_eq_true rfl, Nat.le_of_ble_eq_true rfl⟩, ⟨Nat.le_of_ble_eq_true rfl, Nat.le_of_ble_eq_true rfl⟩, Nat.le_of_ble_eq_true rfl⟩ [0] rfl rfl 0 rfl rfl rfl rfl rfl rfl rfl rfl rfl rfl dX5_comment_7 ?_
  refine z_if_eq_b (tgt := 21) hF dX5_comment_10 (by decide) (fun c_1 => ?_) (fun c_1 => ?_)
  · refine z_aload_n hF dX5_comment_21 rfl ?_
    refine z_iconst (v := nI 1) hF dX5_comment_22 (by decide) ?_
    refine z_V (As := [.int (nI 1)]) (rest := []) (ws' := [(w0, .inr (5, [.int (nI 1), .int (nI n), .ref w1, .int (nI v), .int (nI m), .ref w2, .ref w3, .ref w4, .ref w5, .ref w6, .ref w7, .ref w8, .ref w9, .ref w10, .ref w11, .int (nI j), .ref w12, .ref w13, .ref w14, .ref w15, .ref w16])), (w1, eI G 60 f), (w2, eI G 12 b), (w3, eI G 12 e), (w4, eI G 12 s), (w5, eZ G 12 op), (w7, eI G 720 ql), (w8, eI G 12 qs), (w9, eI G 12 qa), (w10, eI G 12 qb), (w11, eI G 3612 tn)]) (st2 := [.int (nI 0)]) (c2 := 0) (s2 := 0) hF (c_X5_fails G w0 w1 w2 w3 w4 w5 w6 w7 w8 w9 w10 w11 w12 w13 w14 w15 w16 n v m j (nI 0) (nI 1)) gX5_comment_X5_fails rfl rfl rfl hd_X5_fails ⟨⟨Nat.le_of_ble_eq_true rfl, Nat.le_of_ble_eq_true rfl⟩, ⟨Nat.le_of_ble_eq_true rfl, Nat.le_of_ble_eq_true rfl⟩, Nat.le_of_ble_eq_true rfl⟩ [0] rfl rfl 0 rfl rfl rfl rfl rfl rfl rfl rfl rfl rfl dX5_comment_23 ?_
    exact hR.i dX5_comment_26 (Nat.le_of_ble_eq_true rfl) (Nat.le_of_ble_eq_true rfl) (by rw [show (fz (rgC n a k) (fz (amC l (nI 0) (nI 3)) (if m < 12 then 0 else 3))) = 1 from (by (try simp only [fz]); grind)]) (rfl)
  · refine z_aload_n hF dX5_comment_13 rfl ?_
    refine z_iload_n hF dX5_comment_14 rfl ?_
    refine z_V (As := [.int k]) (rest := []) (ws' := [(w0, .inr (5, [.int (nI 0), .int (nI n), .ref w1, .int (nI v), .int (nI m), .ref w2, .ref w3, .ref w4, .ref w5, .ref w6, .ref w7, .ref w8, .ref w9, .ref w10, .ref w11, .int (nI j), .ref w12, .ref w13, .ref w14, .ref w15, .ref w16])), (w1, eI G 60 f), (w2, eI G 12 b), (w3, eI G 12 e), (w4, eI G 12 s), (w5, eZ G 12 op), (w7, eI G 720 ql), (w8, eI G 12 qs), (w9, eI G 12 qa), (w10, eI G 12 qb), (w11, eI G 3612 tn)]) (st2 := [.int (zb (plC n k = 0))]) (c2 := 0) (s2 := 0) hF (c_X5_isPlace G w0 w1 w2 w3 w4 w5 w6 w7 w8 w9 w10 w11 w12 w13 w14 w15 w16 n v m j (nI 0) k) gX5_comment_X5_isPlace rfl rfl rfl hd_X5_isPlace ⟨⟨Nat.le_of_ble_eq_true rfl, Nat.le_of_ble_eq_true rfl⟩, ⟨Nat.le_of_ble_eq_true rfl, Nat.le_of_ble_eq_true rfl⟩, Nat.le_of_ble_eq_true rfl⟩ [0] rfl rfl 0 rfl rfl rfl rfl rfl rfl rfl rfl rfl rfl dX5_comment_15 ?_
    refine z_if_ne_b (tgt := 27) hF dX5_comment_18 (by decide) (fun c_2 => ?_) (fun c_2 => ?_)
    · refine z_iload_n hF dX5_comment_27 rfl ?_
      refine z_iload_n hF dX5_comment_28 rfl ?_
      refine z_ic_le (tgt := 41) hF dX5_comment_29 (by decide) (fun c_3 => ?_) (fun c_3 => ?_)
      · refine z_aload_n hF dX5_comment_41 rfl ?_
        refine z_iconst (v := nI 2) hF dX5_comment_42 (by decide) ?_
        refine z_V (As := [.int (nI 2)]) (rest := []) (ws' := [(w0, .inr (5, [.int (nI 2), .int (nI n), .ref w1, .int (nI v), .int (nI m), .ref w2, .ref w3, .ref w4, .ref w5, .ref w6, .ref w7, .ref w8, .ref w9, .ref w10, .ref w11, .int (nI j), .ref w12, .ref w13, .ref w14, .ref w15, .ref w16])), (w1, eI G 60 f), (w2, eI G 12 b), (w3, eI G 12 e), (w4, eI G 12 s), (w5, eZ G 12 op), (w7, eI G 720 ql), (w8, eI G 12 qs), (w9, eI G 12 qa), (w10, eI G 12 qb), (w11, eI G 3612 tn)]) (st2 := [.int (nI 0)]) (c2 := 0) (s2 := 0) hF (c_X5_fails G w0 w1 w2 w3 w4 w5 w6 w7 w8 w9 w10 w11 w12 w13 w14 w15 w16 n v m j (nI 0) (nI 2)) gX5_comment_X5_fails rfl rfl rfl hd_X5_fails ⟨⟨Nat.le_of_ble_eq_true rfl, Nat.le_of_ble_eq_true rfl⟩, ⟨Nat.le_of_ble_eq_true rfl, Nat.le_of_ble_eq_true rfl⟩, Nat.le_of_ble_eq_true rfl⟩ [0] rfl rfl 0 rfl rfl rfl rfl rfl rfl rfl rfl rfl rfl dX5_comment_43 ?_
        exact hR.i dX5_comment_46 (Nat.le_of_ble_eq_true rfl) (Nat.le_of_ble_eq_true rfl) (by rw [show (fz (rgC n a k) (fz (amC l (nI 0) (nI 3)) (if m < 12 then 0 else 3))) = 2 from (by (try simp only [fz]); grind)]) (rfl)
      · refine z_iload_n hF dX5_comment_32 rfl ?_
        refine z_iconst (v := nI 0) hF dX5_comment_33 (by decide) ?_
        refine z_iconst (v := nI 3) hF dX5_comment_34 (by decide) ?_
        refine z_S (As := [.int l, .int (nI 0), .int (nI 3)]) (rest := []) (ws' := [(w0, .inr (5, [.int (nI 0), .int (nI n), .ref w1, .int (nI v), .int (nI m), .ref w2, .ref w3, .ref w4, .ref w5, .ref w6, .ref w7, .ref w8, .ref w9, .ref w10, .ref w11, .int (nI j), .ref w12, .ref w13, .ref w14, .ref w15, .ref w16])), (w1, eI G 60 f), (w2, eI G 12 b), (w3, eI G 12 e), (w4, eI G 12 s), (w5, eZ G 12 op), (w7, eI G 720 ql), (w8, eI G 12 qs), (w9, eI G 12 qa), (w10, eI G 12 qb), (w11, eI G 3612 tn)]) (st2 := [.int (zb ((nI 0) ≤ l ∧ l ≤ (nI 3)))]) (c2 := 0) (s2 := 0) hF (c_X5_in G l (nI 0) (nI 3)) gX5_comment_X5_in rfl rfl rfl hs_X5_in ⟨⟨Nat.le_of_ble_eq_true rfl, Nat.le_of_ble_eq_true rfl⟩, ⟨Nat.le_of_ble_eq_true rfl, Nat.le_of_ble_eq_true rfl⟩, Nat.le_of_ble_eq_true rfl⟩ [] rfl rfl rfl rfl rfl rfl rfl rfl rfl rfl dX5_comment_35 ?_
        refine z_top (y := zb (amC l (nI 0) (nI 3) = 0)) (zb_iff inL_am) ?_
        refine z_if_ne_b (tgt := 47) hF dX5_comment_38 (by decide) (fun c_4 => ?_) (fun c_4 => ?_)
        · refine z_aload_n hF dX5_comment_47 rfl ?_
          refine z_get (C := RX5) (T := TX5) (N := 21) (ci := 5) (v := .int (nI m)) hF k_0 4 (by decide) rfl k_2 rfl 0 rfl rfl dX5_comment_48 ?_
          refine z_bipush (v := nI 12) hF dX5_comment_51 (by decide) ?_
          refine z_icn_ne (tgt := 62) hF (by omega) (by omega) dX5_comment_53 (by decide) (fun c_5 => ?_) (fun c_5 => ?_)
          · exact absurd (by (try simp only [fz]); grind : (fz (rgC n a k) (fz (amC l (nI 0) (nI 3)) (if m < 12 then 0 else 3))) = 0) hc
          · refine z_aload_n hF dX5_comment_56 rfl ?_
            refine z_iconst (v := nI 3) hF dX5_comment_57 (by decide) ?_
            refine z_V (As := [.int (nI 3)]) (rest := []) (ws' := [(w0, .inr (5, [.int (nI 3), .int (nI n), .ref w1, .int (nI v), .int (nI m), .ref w2, .ref w3, .ref w4, .ref w5, .ref w6, .ref w7, .ref w8, .ref w9, .ref w10, .ref w11, .int (nI j), .ref w12, .ref w13, .ref w14, .ref w15, .ref w16])), (w1, eI G 60 f), (w2, eI G 12 b), (w3, eI G 12 e), (w4, eI G 12 s), (w5, eZ G 12 op), (w7, eI G 720 ql), (w8, eI G 12 qs), (w9, eI G 12 qa), (w10, eI G 12 qb), (w11, eI G 3612 tn)]) (st2 := [.int (nI 0)]) (c2 := 0) (s2 := 0) hF (c_X5_fails G w0 w1 w2 w3 w4 w5 w6 w7 w8 w9 w10 w11 w12 w13 w14 w15 w16 n v m j (nI 0) (nI 3)) gX5_comment_X5_fails rfl rfl rfl hd_X5_fails ⟨⟨Nat.le_of_ble_eq_true rfl, Nat.le_of_ble_eq_true rfl⟩, ⟨Nat.le_of_ble_eq_true rfl, Nat.le_of_ble_eq_true rfl⟩, Nat.le_of_ble_eq_true rfl⟩ [0] rfl rfl 0 rfl rfl rfl rfl rfl rfl rfl rfl rfl rfl dX5_comment_58 ?_
            exact hR.i dX5_comment_61 (Nat.le_of_ble_eq_true rfl) (Nat.le_of_ble_eq_true rfl) (by rw [show (fz (rgC n a k) (fz (amC l (nI 0) (nI 3)) (if m < 12 then 0 else 3))) = 3 from (by (try simp only [fz]); grind)]) (rfl)
        · refine z_aload_n hF dX5_comment_41 rfl ?_
          refine z_iconst (v := nI 2) hF dX5_comment_42 (by decide) ?_
          refine z_V (As := [.int (nI 2)]) (rest := []) (ws' := [(w0, .inr (5, [.int (nI 2), .int (nI n), .ref w1, .int (nI v), .int (nI m), .ref w2, .ref w3, .ref w4, .ref w5, .ref w6, .ref w7, .ref w8, .ref w9, .ref w10, .ref w11, .int (nI j), .ref w12, .ref w13, .ref w14, .ref w15, .ref w16])), (w1, eI G 60 f), (w2, eI G 12 b), (w3, eI G 12 e), (w4, eI G 12 s), (w5, eZ G 12 op), (w7, eI G 720 ql), (w8, eI G 12 qs), (w9, eI G 12 qa), (w10, eI G 12 qb), (w11, eI G 3612 tn)]) (st2 := [.int (nI 0)]) (c2 := 0) (s2 := 0) hF (c_X5_fails G w0 w1 w2 w3 w4 w5 w6 w7 w8 w9 w10 w11 w12 w13 w14 w15 w16 n v m j (nI 0) (nI 2)) gX5_comment_X5_fails rfl rfl rfl hd_X5_fails ⟨⟨Nat.le_of_ble_eq_true rfl, Nat.le_of_ble_eq_true rfl⟩, ⟨Nat.le_of_ble_eq_true rfl, Nat.le_of_ble_eq_true rfl⟩, Nat.le_of_ble_eq_true rfl⟩ [0] rfl rfl 0 rfl rfl rfl rfl rfl rfl rfl rfl rfl rfl dX5_comment_43 ?_
          exact hR.i dX5_comment_46 (Nat.le_of_ble_eq_true rfl) (Nat.le_of_ble_eq_true rfl) (by rw [show (fz (rgC n a k) (fz (amC l (nI 0) (nI 3)) (if m < 12 then 0 else 3))) = 2 from (by (try simp only [fz]); grind)]) (rfl)
    · refine z_aload_n hF dX5_comment_21 rfl ?_
      refine z_iconst (v := nI 1) hF dX5_comment_22 (by decide) ?_
      refine z_V (As := [.int (nI 1)]) (rest := []) (ws' := [(w0, .inr (5, [.int (nI 1), .int (nI n), .ref w1, .int (nI v), .int (nI m), .ref w2, .ref w3, .ref w4, .ref w5, .ref w6, .ref w7, .ref w8, .ref w9, .ref w10, .ref w11, .int (nI j), .ref w12, .ref w13, .ref w14, .ref w15, .ref w16])), (w1, eI G 60 f), (w2, eI G 12 b), (w3, eI G 12 e), (w4, eI G 12 s), (w5, eZ G 12 op), (w7, eI G 720 ql), (w8, eI G 12 qs), (w9, eI G 12 qa), (w10, eI G 12 qb), (w11, eI G 3612 tn)]) (st2 := [.int (nI 0)]) (c2 := 0) (s2 := 0) hF (c_X5_fails G w0 w1 w2 w3 w4 w5 w6 w7 w8 w9 w10 w11 w12 w13 w14 w15 w16 n v m j (nI 0) (nI 1)) gX5_comment_X5_fails rfl rfl rfl hd_X5_fails ⟨⟨Nat.le_of_ble_eq_true rfl, Nat.le_of_ble_eq_true rfl⟩, ⟨Nat.le_of_ble_eq_true rfl, Nat.le_of_ble_eq_true rfl⟩, Nat.le_of_ble_eq_true rfl⟩ [0] rfl rfl 0 rfl rfl rfl rfl rfl rfl rfl rfl rfl rfl dX5_comment_23 ?_
      exact hR.i dX5_comment_26 (Nat.le_of_ble_eq_true rfl) (Nat.le_of_ble_eq_true rfl) (by rw [show (fz (rgC n a k) (fz (amC l (nI 0) (nI 3)) (if m < 12 then 0 else 3))) = 1 from (by (try simp only [fz]); grind)]) (rfl)
