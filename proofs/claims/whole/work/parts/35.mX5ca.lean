set_option maxHeartbeats 4000000 in
set_option maxRecDepth 100000 in
theorem c_X5_insert_f (G : zG) (w0 w1 w2 w3 w4 w5 w6 w7 w8 w9 w10 w11 w12 w13 w14 w15 w16 n v m j : Nat) (th : Int32) (f : Nat → Int32) (b : Nat → Int32) (e : Nat → Int32) (s : Nat → Int32) (tn : Nat → Int32) (b2 : Nat → Int32) (e2 : Nat → Int32) (a x k : Int32) (hn : n ≤ 60) (hm : m ≤ 12) (hj : j ≤ 10) (hv : v ≤ 300) (hs : ∀ i, i < m → st4 (s i)) (hc : ¬ (fz (plC n a) (fz (amC x (nI 0) (nI 25)) (fz (amC k (nI 1) (nI 10)) (roC n v k (nI 1))))) = 0) : zM G yX5_insert wsX5_insert ({ frames := 2, cells := 0, slots := 0, locals := 55 }) [.ref w0, .int a, .int x, .int k] [(w0, .inr (5, [.int th, .int (nI n), .ref w1, .int (nI v), .int (nI m), .ref w2, .ref w3, .ref w4, .ref w5, .ref w6, .ref w7, .ref w8, .ref w9, .ref w10, .ref w11, .int (nI j), .ref w12, .ref w13, .ref w14, .ref w15, .ref w16])), (w1, eI G 60 f), (w2, eI G 12 b), (w3, eI G 12 e), (w4, eI G 12 s), (w12, eI G 10 b2), (w13, eI G 10 e2), (w11, eI G 3612 tn)] [(w0, .inr (5, [.int (nI (fz (plC n a) (fz (amC x (nI 0) (nI 25)) (fz (amC k (nI 1) (nI 10)) (roC n v k (nI 1)))))), .int (nI n), .ref w1, .int (nI v), .int (nI m), .ref w2, .ref w3, .ref w4, .ref w5, .ref w6, .ref w7, .ref w8, .ref w9, .ref w10, .ref w11, .int (nI j), .ref w12, .ref w13, .ref w14, .ref w15, .ref w16])), (w1, eI G 60 f), (w2, eI G 12 b), (w3, eI G 12 e), (w4, eI G 12 s), (w12, eI G 10 b2), (w13, eI G 10 e2), (w11, eI G 3612 tn)] (some (.int (nI 0))) 0 0 := by
  refine zM.ofI (own := RX5) (cc := cX5_insert) (maxL := 4) rfl (by decide) rfl rfl (by simp [Value.category]) (Nat.le_of_ble_eq_true rfl) ?_
  intro X hF hR
  have k_0 : ∀ w ∈ wsX50, w ∈ wsX5_insert := by decide +kernel
  have k_1 : zH X (.fieldLink RX5 62 "MarginDeskModel" "thrown" "I") := hF.w (by decide +kernel)
  have k_2 : zH X (.fieldLink RX5 66 "MarginDeskModel" "length" "I") := hF.w (by decide +kernel)
  have k_3 : zH X (.fieldLink RX5 79 "MarginDeskModel" "edits" "I") := hF.w (by decide +kernel)
  refine z_lv (lv' := [some (.ref w0), some (.int a), some (.int x), some (.int k)]) rfl ?_
  have d_0 := plC_d n a
  have d_1 := amC_d x (nI 0) (nI 25)
  have d_2 := amC_d k (nI 1) (nI 10)
  have d_3 := roC_d n v k (nI 1)
  have d_4 := roI (n := n) (x := k) hv
  refine z_aload_n hF dX5_insert_0 rfl ?_
  refine z_iconst (v := nI 0) hF dX5_insert_1 (by decide) ?_
  refine z_put (C := RX5) (T := TX5) (N := 21) (ci := 5) (ws' := [(w0, .inr (5, [.int (nI 0), .int (nI n), .ref w1, .int (nI v), .int (nI m), .ref w2, .ref w3, .ref w4, .ref w5, .ref w6, .ref w7, .ref w8, .ref w9, .ref w10, .ref w11, .int (nI j), .ref w12, .ref w13, .ref w14, .ref w15, .ref w16])), (w1, eI G 60 f), (w2, eI G 12 b), (w3, eI G 12 e), (w4, eI G 12 s), (w12, eI G 10 b2), (w13, eI G 10 e2), (w11, eI G 3612 tn)]) hF k_0 tyX5 tyX5_ok nmX5 0 (by decide) rfl k_1 rfl rfl rfl rfl 0 rfl rfl rfl dX5_insert_2 ?_
  refine z_aload_n hF dX5_insert_5 rfl ?_
  refine z_iload_n hF dX5_insert_6 rfl ?_
  refine z_V (As := [.int a]) (rest := []) (ws' := [(w0, .inr (5, [.int (nI 0), .int (nI n), .ref w1, .int (nI v), .int (nI m), .ref w2, .ref w3, .ref w4, .ref w5, .ref w6, .ref w7, .ref w8, .ref w9, .ref w10, .ref w11, .int (nI j), .ref w12, .ref w13, .ref w14, .ref w15, .ref w16])), (w1, eI G 60 f), (w2, eI G 12 b), (w3, eI G 12 e), (w4, eI G 12 s), (w12, eI G 10 b2), (w13, eI G 10 e2), (w11, eI G 3612 tn)]) (st2 := [.int (zb (plC n a = 0))]) (c2 := 0) (s2 := 0) hF (c_X5_isPlace G w0 w1 w2 w3 w4 w5 w6 w7 w8 w9 w10 w11 w12 w13 w14 w15 w16 n v m j (nI 0) a) gX5_insert_X5_isPlace rfl rfl rfl hd_X5_isPlace ⟨⟨Nat.le_of_ble_eq_true rfl, Nat.le_of_ble_eq_true rfl⟩, ⟨Nat.le_of_ble_eq_true rfl, Nat.le_of_ble_eq_true rfl⟩, Nat.le_of_ble_eq_true rfl⟩ [0] rfl rfl 0 rfl rfl rfl rfl rfl rfl rfl rfl rfl rfl dX5_insert_7 ?_
  refine z_if_ne_b (tgt := 19) hF dX5_insert_10 (by decide) (fun c_1 => ?_) (fun c_1 => ?_)
  · refine z_iload_n hF dX5_insert_19 rfl ?_
    refine z_iconst (v := nI 0) hF dX5_insert_20 (by decide) ?_
    refine z_bipush (v := nI 25) hF dX5_insert_21 (by decide) ?_
    refine z_S (As := [.int x, .int (nI 0), .int (nI 25)]) (rest := []) (ws' := [(w0, .inr (5, [.int (nI 0), .int (nI n), .ref w1, .int (nI v), .int (nI m), .ref w2, .ref w3, .ref w4, .ref w5, .ref w6, .ref w7, .ref w8, .ref w9, .ref w10, .ref w11, .int (nI j), .ref w12, .ref w13, .ref w14, .ref w15, .ref w16])), (w1, eI G 60 f), (w2, eI G 12 b), (w3, eI G 12 e), (w4, eI G 12 s), (w12, eI G 10 b2), (w13, eI G 10 e2), (w11, eI G 3612 tn)]) (st2 := [.int (zb ((nI 0) ≤ x ∧ x ≤ (nI 25)))]) (c2 := 0) (s2 := 0) hF (c_X5_in G x (nI 0) (nI 25)) gX5_insert_X5_in rfl rfl rfl hs_X5_in ⟨⟨Nat.le_of_ble_eq_true rfl, Nat.le_of_ble_eq_true rfl⟩, ⟨Nat.le_of_ble_eq_true rfl, Nat.le_of_ble_eq_true rfl⟩, Nat.le_of_ble_eq_true rfl⟩ [] rfl rfl rfl rfl rfl rfl rfl rfl rfl rfl dX5_insert_23 ?_
    refine z_top (y := zb (amC x (nI 0) (nI 25) = 0)) (zb_iff inL_am) ?_
    refine z_if_eq_b (tgt := 39) hF dX5_insert_26 (by decide) (fun c_2 => ?_) (fun c_2 => ?_)
    · refine z_aload_n hF dX5_insert_39 rfl ?_
      refine z_iconst (v := nI 2) hF dX5_insert_40 (by decide) ?_
      refine z_V (As := [.int (nI 2)]) (rest := []) (ws' := [(w0, .inr (5, [.int (nI 2), .int (nI n), .ref w1, .int (nI v), .int (nI m), .ref w2, .ref w3, .ref w4, .ref w5, .ref w6, .ref w7, .ref w8, .ref w9, .ref w10, .ref w11, .int (nI j), .ref w12, .ref w13, .ref w14, .ref w15, .ref w16])), (w1, eI G 60 f), (w2, eI G 12 b), (w3, eI G 12 e), (w4, eI G 12 s), (w12, eI G 10 b2), (w13, eI G 10 e2), (w11, eI G 3612 tn)]) (st2 := [.int (nI 0)]) (c2 := 0) (s2 := 0) hF (c_X5_fails G w0 w1 w2 w3 w4 w5 w6 w7 w8 w9 w10 w11 w12 w13 w14 w15 w16 n v m j (nI 0) (nI 2)) gX5_insert_X5_fails rfl rfl rfl hd_X5_fails ⟨⟨Nat.le_of_ble_eq_true rfl, Nat.le_of_ble_eq_true rfl⟩, ⟨Nat.le_of_ble_eq_true rfl, Nat.le_of_ble_eq_true rfl⟩, Nat.le_of_ble_eq_true rfl⟩ [0] rfl rfl 0 rfl rfl rfl rfl rfl rfl rfl rfl rfl rfl dX5_insert_41 ?_
      exact hR.i dX5_insert_44 (Nat.le_of_ble_eq_true rfl) (Nat.le_of_ble_eq_true rfl) (by rw [show (fz (plC n a) (fz (amC x (nI 0) (nI 25)) (fz (amC k (nI 1) (nI 10)) (roC n v k (nI 1))))) = 2 from (by (try simp only [fz]); grind)]) (rfl)
    · refine z_iload_n hF dX5_insert_29 rfl ?_
      refine z_iconst (v := nI 1) hF dX5_insert_30 (by decide) ?_
      refine z_bipush (v := nI 10) hF dX5_insert_31 (by decide) ?_
      refine z_S (As := [.int k, .int (nI 1), .int (nI 10)]) (rest := []) (ws' := [(w0, .inr (5, [.int (nI 0), .int (nI n), .ref w1, .int (nI v), .int (nI m), .ref w2, .ref w3, .ref w4, .ref w5, .ref w6, .ref w7, .ref w8, .ref w9, .ref w10, .ref w11, .int (nI j), .ref w12, .ref w13, .ref w14, .ref w15, .ref w16])), (w1, eI G 60 f), (w2, eI G 12 b), (w3, eI G 12 e), (w4, eI G 12 s), (w12, eI G 10 b2), (w13, eI G 10 e2), (w11, eI G 3612 tn)]) (st2 := [.int (zb ((nI 1) ≤ k ∧ k ≤ (nI 10)))]) (c2 := 0) (s2 := 0) hF (c_X5_in G k (nI 1) (nI 10)) gX5_insert_X5_in rfl rfl rfl hs_X5_in ⟨⟨Nat.le_of_ble_eq_true rfl, Nat.le_of_ble_eq_true rfl⟩, ⟨Nat.le_of_ble_eq_true rfl, Nat.le_of_ble_eq_true rfl⟩, Nat.le_of_ble_eq_true rfl⟩ [] rfl rfl rfl rfl rfl rfl rfl rfl rfl rfl dX5_insert_33 ?_
      refine z_top (y := zb (amC k (nI 1) (nI 10) = 0)) (zb_iff inL_am) ?_
      refine z_if_ne_b (tgt := 45) hF dX5_insert_36 (by decide) (fun c_3 => ?_) (fun c_3 => ?_)
      · refine z_aload_n hF dX5_insert_45 rfl ?_
        refine z_get (C := RX5) (T := TX5) (N := 21) (ci := 5) (v := .int (nI n)) hF k_0 1 (by decide) rfl k_2 rfl 0 rfl rfl dX5_insert_46 ?_
        refine z_iload_n hF dX5_insert_49 rfl ?_
        refine z_iadd hF dX5_insert_50 ?_
        refine z_bipush (v := nI 60) hF dX5_insert_51 (by decide) ?_
        refine z_ic_gt (tgt := 66) hF dX5_insert_53 (by decide) (fun c_4 => ?_) (fun c_4 => ?_)
        · refine z_aload_n hF dX5_insert_66 rfl ?_
          refine z_iconst (v := nI 3) hF dX5_insert_67 (by decide) ?_
          refine z_V (As := [.int (nI 3)]) (rest := []) (ws' := [(w0, .inr (5, [.int (nI 3), .int (nI n), .ref w1, .int (nI v), .int (nI m), .ref w2, .ref w3, .ref w4, .ref w5, .ref w6, .ref w7, .ref w8, .ref w9, .ref w10, .ref w11, .int (nI j), .ref w12, .ref w13, .ref w14, .ref w15, .ref w16])), (w1, eI G 60 f), (w2, eI G 12 b), (w3, eI G 12 e), (w4, eI G 12 s), (w12, eI G 10 b2), (w13, eI G 10 e2), (w11, eI G 3612 tn)]) (st2 := [.int (nI 0)]) (c2 := 0) (s2 := 0) hF (c_X5_fails G w0 w1 w2 w3 w4 w5 w6 w7 w8 w9 w10 w11 w12 w13 w14 w15 w16 n v m j (nI 0) (nI 3)) gX5_insert_X5_fails rfl rfl rfl hd_X5_fails ⟨⟨Nat.le_of_ble_eq_true rfl, Nat.le_of_ble_eq_true rfl⟩, ⟨Nat.le_of_ble_eq_true rfl, Nat.le_of_ble_eq_true rfl⟩, Nat.le_of_ble_eq_true rfl⟩ [0] rfl rfl 0 rfl rfl rfl rfl rfl rfl rfl rfl rfl rfl dX5_insert_68 ?_
          exact hR.i dX5_insert_71 (Nat.le_of_ble_eq_true rfl) (Nat.le_of_ble_eq_true rfl) (by rw [show (fz (plC n a) (fz (amC x (nI 0) (nI 25)) (fz (amC k (nI 1) (nI 10)) (roC n v k (nI 1))))) = 3 from (by (try simp only [fz]); grind)]) (rfl)
        · refine z_aload_n hF dX5_insert_56 rfl ?_
          refine z_get (C := RX5) (T := TX5) (N := 21) (ci := 5) (v := .int (nI v)) hF k_0 3 (by decide) rfl k_3 rfl 0 rfl rfl dX5_insert_57 ?_
          refine z_sipush (v := nI 300) hF dX5_insert_60 (by decide) ?_
          refine z_icn_ne (tgt := 72) hF (by omega) (by omega) dX5_insert_63 (by decide) (fun c_5 => ?_) (fun c_5 => ?_)
          · exact absurd (by (try simp only [fz]); grind : (fz (plC n a) (fz (amC x (nI 0) (nI 25)) (fz (amC k (nI 1) (nI 10)) (roC n v k (nI 1))))) = 0) hc
          · refine z_aload_n hF dX5_insert_66 rfl ?_
            refine z_iconst (v := nI 3) hF dX5_insert_67 (by decide) ?_
            refine z_V (As := [.int (nI 3)]) (rest := []) (ws' := [(w0, .inr (5, [.int (nI 3), .int (nI n), .ref w1, .int (nI v), .int (nI m), .ref w2, .ref w3, .ref w4, .ref w5, .ref w6, .ref w7, .ref w8, .ref w9, .ref w10, .ref w11, .int (nI j), .ref w12, .ref w13, .ref w14, .ref w15, .ref w16])), (w1, eI G 60 f), (w2, eI G 12 b), (w3, eI G 12 e), (w4, eI G 12 s), (w12, eI G 10 b2), (w13, eI G 10 e2), (w11, eI G 3612 tn)]) (st2 := [.int (nI 0)]) (c2 := 0) (s2 := 0) hF (c_X5_fails G w0 w1 w2 w3 w4 w5 w6 w7 w8 w9 w10 w11 w12 w13 w14 w15 w16 n v m j (nI 0) (nI 3)) gX5_insert_X5_fails rfl rfl rfl hd_X5_fails ⟨⟨Nat.le_of_ble_eq_true rfl, Nat.le_of_ble_eq_true rfl⟩, ⟨Nat.le_of_ble_eq_true rfl, Nat.le_of_ble_eq_true rfl⟩, Nat.le_of_ble_eq_true rfl⟩ [0] rfl rfl 0 rfl rfl rfl rfl rfl rfl rfl rfl rfl rfl dX5_insert_68 ?_
            exact hR.i dX5_insert_71 (Nat.le_of_ble_eq_true rfl) (Nat.le_of_ble_eq_true rfl) (by rw [show (fz (plC n a) (fz (amC x (nI 0) (nI 25)) (fz (amC k (nI 1) (nI 10)) (roC n v k (nI 1))))) = 3 from (by (try simp only [fz]); grind)]) (rfl)
      · refine z_aload_n hF dX5_insert_39 rfl ?_
        refine z_iconst (v := nI 2) hF dX5_insert_40 (by decide) ?_
        refine z_V (As := [.int (nI 2)]) (rest := []) (ws' := [(w0, .inr (5, [.int (nI 2), .int (nI n), .ref w1, .int (nI v), .int (nI m), .ref w2, .ref w3, .ref w4, .ref w5, .ref w6, .ref w7, .ref w8, .ref w9, .ref w10, .ref w11, .int (nI j), .ref w12, .ref w13, .ref w14, .ref w15, .ref w16])), (w1, eI G 60 f), (w2, eI G 12 b), (w3, eI G 12 e), (w4, eI G 12 s), (w12, eI G 10 b2), (w13, eI G 10 e2), (w11, eI G 3612 tn)]) (st2 := [.int (nI 0)]) (c2 := 0) (s2 := 0) hF (c_X5_fails G w0 w1 w2 w3 w4 w5 w6 w7 w8 w9 w10 w11 w12 w13 w14 w15 w16 n v m j (nI 0) (nI 2)) gX5_insert_X5_fails rfl rfl rfl hd_X5_fails ⟨⟨Nat.le_of_ble_eq_true rfl, Nat.le_of_ble_eq_true rfl⟩, ⟨Nat.le_of_ble_eq_true rfl, Nat.le_of_ble_eq_true rfl⟩, Nat.le_of_ble_eq_true rfl⟩ [0] rfl rfl 0 rfl rfl rfl rfl rfl rfl rfl rfl rfl rfl dX5_insert_41 ?_
        exact hR.i dX5_insert_44 (Nat.le_of_ble_eq_true rfl) (Nat.le_of_ble_eq_true rfl) (by rw [show (fz (plC n a) (fz (amC x (nI 0) (nI 25)) (fz (amC k (nI 1) (nI 10)) (roC n v k (nI 1))))) = 2 from (by (try simp only [fz]); grind)]) (rfl)
  · refine z_aload_n hF dX5_insert_13 rfl ?_
    refine z_iconst (v := nI 1) hF dX5_insert_14 (by decide) ?_
    refine z_V (As := [.int (nI 1)]) (rest := []) (ws' := [(w0, .inr (5, [.int (nI 1), .int (nI n), .ref w1, .int (nI v), .int (nI m), .ref w2, .ref w3, .ref w4, .ref w5, .ref w6, .ref w7, .ref w8, .ref w9, .ref w10, .ref w11, .int (nI j), .ref w12, .ref w13, .ref w14, .ref w15, .ref w16])), (w1, eI G 60 f), (w2, eI G 12 b), (w3, eI G 12 e), (w4, eI G 12 s), (w12, eI G 10 b2), (w13, eI G 10 e2), (w11, eI G 3612 tn)]) (st2 := [.int (nI 0)]) (c2 := 0) (s2 := 0) hF (c_X5_fails G w0 w1 w2 w3 w4 w5 w6 w7 w8 w9 w10 w11 w12 w13 w14 w15 w16 n v m j (nI 0) (nI 1)) gX5_insert_X5_fails rfl rfl rfl hd_X5_fails ⟨⟨Nat.le_of_ble_eq_true rfl, Nat.le_of_ble_eq_true rfl⟩, ⟨Nat.le_of_ble_eq_true rfl, Nat.le_of_ble_eq_true rfl⟩, Nat.le_of_ble_eq_true rfl⟩ [0] rfl rfl 0 rfl rfl rfl rfl rfl rfl rfl rfl rfl rfl dX5_insert_15 ?_
    exact hR.i dX5_insert_18 (Nat.le_of_ble_eq_true rfl) (Nat.le_of_ble_eq_true rfl) (by rw [show (fz (plC n a) (fz (amC x (nI 0) (nI 25)) (fz (amC k (nI 1) (nI 10)) (roC n v k (nI 1))))) = 1 from (by (try simp only [fz]); grind)]) (rfl)
set_option maxHeartbeats 4000000 in
set_option maxRecDepth 100000 in
theorem c_X5_insert_k (G : zG) (w0 w1 w2 w3 w4 w5 w6 w7 w8 w9 w10 w11 w12 w13 w14 w15 w16 n v m j : Nat) (th : Int32) (f : Nat → Int32) (b : Nat → Int32) (e : Nat → Int32) (s : Nat → Int32) (tn : Nat → Int32) (b2 : Nat → Int32) (e2 : Nat → Int32) (a x k : Int32) (hn : n ≤ 60) (hm : m ≤ 12) (hj : j ≤ 10) (hv : v ≤ 300) (hs : ∀ i, i < m → st4 (s i)) (hc : (fz (plC n a) (fz (amC x (nI 0) (nI 25)) (fz (amC k (nI 1) (nI 10)) (roC n v k (nI 1))))) = 0) : zM G yX5_insert wsX5_insert ({ frames := 2, cells := 0, slots := 0, locals := 55 }) [.ref w0, .int a, .int x, .int k] [(w0, .inr (5, [.int th, .int (nI n), .ref w1, .int (nI v), .int (nI m), .ref w2, .ref w3, .ref w4, .ref w5, .ref w6, .ref w7, .ref w8, .ref w9, .ref w10, .ref w11, .int (nI j), .ref w12, .ref w13, .ref w14, .ref w15, .ref w16])), (w1, eI G 60 f), (w2, eI G 12 b), (w3, eI G 12 e), (w4, eI G 12 s), (w12, eI G 10 b2), (w13, eI G 10 e2), (w11, eI G 3612 tn)] [(w0, .inr (5, [.int (nI 0), .int (nI (n + k.toNatClampNeg)), .ref w1, .int (nI (v + 1)), .int (nI m), .ref w2, .ref w3, .ref w4, .ref w5, .ref w6, .ref w7, .ref w8, .ref w9, .ref w10, .ref w11, .int (nI j), .ref w12, .ref w13, .ref w14, .ref w15, .ref w16])), (w1, eI G 60 (filF (va_cpy f f a.toNatClampNeg (a.toNatClampNeg + k.toNatClampNeg) (n - a.toNatClampNeg)) a.toNatClampNeg (a.toNatClampNeg + k.toNatClampNeg) x)), (w2, eI G 12 (mpF m (insB (nI a.toNatClampNeg) (nI k.toNatClampNeg) b s) b)), (w3, eI G 12 (mpF m (insE (nI a.toNatClampNeg) (nI k.toNatClampNeg) b e s) e)), (w4, eI G 12 s), (w12, eI G 10 (mpF j (siB (nI a.toNatClampNeg) (nI k.toNatClampNeg) b2) b2)), (w13, eI G 10 (mpF j (siE (nI a.toNatClampNeg) (nI k.toNatClampNeg) e2) e2)), (w11, eI G 3612 (wrF tn ((v + 1) * 12) 12 (fun kk => if kk < m then numF ((mpF m (insB (nI a.toNatClampNeg) (nI k.toNatClampNeg) b s) b) kk) ((mpF m (insE (nI a.toNatClampNeg) (nI k.toNatClampNeg) b e s) e) kk) else -1)))] (some (.int (nI (n + k.toNatClampNeg)))) 0 0 := by
  refine zM.ofI (own := RX5) (cc := cX5_insert) (maxL := 4) rfl (by decide) rfl rfl (by simp [Value.category]) (Nat.le_of_ble_eq_true rfl) ?_
  intro X hF hR
  have k_0 : ∀ w ∈ wsX50, w ∈ wsX5_insert := by decide +kernel
  have k_1 : zH X (.fieldLink RX5 62 "MarginDeskModel" "thrown" "I") := hF.w (by decide +kernel)
  have k_2 : zH X (.fieldLink RX5 66 "MarginDeskModel" "length" "I") := hF.w (by decide +kernel)
  have k_3 : zH X (.fieldLink RX5 79 "MarginDeskModel" "edits" "I") := hF.w (by decide +kernel)
  refine z_lv (lv' := [some (.ref w0), some (.int a), some (.int x), some (.int k)]) rfl ?_
  have d_0 := plC_d n a
  have d_1 := amC_d x (nI 0) (nI 25)
  have d_2 := amC_d k (nI 1) (nI 10)
  have d_3 := roC_d n v k (nI 1)
  have d_4 := roI (n := n) (x := k) hv
  refine z_aload_n hF dX5_insert_0 rfl ?_
  refine z_iconst (v := nI 0) hF dX5_insert_1 (by decide) ?_
  refine z_put (C := RX5) (T := TX5) (N := 21) (ci := 5) (ws' := [(w0, .inr (5, [.int (nI 0), .int (nI n), .ref w1, .int (nI v), .int (nI m), .ref w2, .ref w3, .ref w4, .ref w5, .ref w6, .ref w7, .ref w8, .ref w9, .ref w10, .ref w11, .int (nI j), .ref w12, .ref w13, .ref w14, .ref w15, .ref w16])), (w1, eI G 60 f), (w2, eI G 12 b), (w3, eI G 12 e), (w4, eI G 12 s), (w12, eI G 10 b2), (w13, eI G 10 e2), (w11, eI G 3612 tn)]) hF k_0 tyX5 tyX5_ok nmX5 0 (by decide) rfl k_1 rfl rfl rfl rfl 0 rfl rfl rfl dX5_insert_2 ?_
  refine z_aload_n hF dX5_insert_5 rfl ?_
  refine z_iload_n hF dX5_insert_6 rfl ?_
  refine z_V (As := [.int a]) (rest := []) (ws' := [(w0, .inr (5, [.int (nI 0), .int (nI n), .ref w1, .int (nI v), .int (nI m), .ref w2, .ref w3, .ref w4, .ref w5, .ref w6, .ref w7, .ref w8, .ref w9, .ref w10, .ref w11, .int (nI j), .ref w12, .ref w13, .ref w14, .ref w15, .ref w16])), (w1, eI G 60 f), (w2, eI G 12 b), (w3, eI G 12 e), (w4, eI G 12 s), (w12, eI G 10 b2), (w13, eI G 10 e2), (w11, eI G 3612 tn)]) (st2 := [.int (zb (plC n a = 0))]) (c2 := 0) (s2 := 0) hF (c_X5_isPlace G w0 w1 w2 w3 w4 w5 w6 w7 w8 w9 w10 w11 w12 w13 w14 w15 w16 n v m j (nI 0) a) gX5_insert_X5_isPlace rfl rfl rfl hd_X5_isPlace ⟨⟨Nat.le_of_ble_eq_true rfl, Nat.le_of_ble_eq_true rfl⟩, ⟨Nat.le_of_ble_eq_true rfl, Nat.le_of_ble_eq_true rfl⟩, Nat.le_of_ble_eq_true rfl⟩ [0] rfl rfl 0 rfl rfl rfl rfl rfl rfl rfl rfl rfl rfl dX5_insert_7 ?_
  refine z_if_ne_b (tgt := 19) hF dX5_insert_10 (by decide) (fun c_1 => ?_) (fun c_1 => ?_)
  · refine z_iload_n hF dX5_insert_19 rfl ?_
    refine z_iconst (v := nI 0) hF dX5_insert_20 (by decide) ?_
    refine z_bipush (v := nI 25) hF dX5_insert_21 (by decide) ?_
    refine z_S (As := [.int x, .int (nI 0), .int (nI 25)]) (rest := []) (ws' := [(w0, .inr (5, [.int (nI 0), .int (nI n), .ref w1, .int (nI v), .int (nI m), .ref w2, .ref w3, .ref w4, .ref w5, .ref w6, .ref w7, .ref w8, .ref w9, .ref w10, .ref w11, .int (nI j), .ref w12, .ref w13, .ref w14, .ref w15, .ref w16])), (w1, eI G 60 f), (w2, eI G 12 b), (w3, eI G 12 e), (w4, eI G 12 s), (w12, eI G 10 b2), (w13, eI G 10 e2), (w11, eI G 3612 tn)]) (st2 := [.int (zb ((nI 0) ≤ x ∧ x ≤ (nI 25)))]) (c2 := 0) (s2 := 0) hF (c_X5_in G x (nI 0) (nI 25)) gX5_insert_X5_in rfl rfl rfl hs_X5_in ⟨⟨Nat.le_of_ble_eq_true rfl, Nat.le_of_ble_eq_true rfl⟩, ⟨Nat.le_of_ble_eq_true rfl, Nat.le_of_ble_eq_true rfl⟩, Nat.le_of_ble_eq_true rfl⟩ [] rfl rfl rfl rfl rfl rfl rfl rfl rfl rfl dX5_insert_23 ?_
    refine z_top (y := zb (amC x (nI 0) (nI 25) = 0)) (zb_iff inL_am) ?_
    refine z_if_eq_b (tgt := 39) hF dX5_insert_26 (by decide) (fun c_2 => ?_) (fun c_2 => ?_)
    · exact absurd hc (by (try simp only [fz]); grind)
    · refine z_iload_n hF dX5_insert_29 rfl ?_
      refine z_iconst (v := nI 1) hF dX5_insert_30 (by decide) ?_
      refine z_bipush (v := nI 10) hF dX5_insert_31 (by decide) ?_
      refine z_S (As := [.int k, .int (nI 1), .int (nI 10)]) (rest := []) (ws' := [(w0, .inr (5, [.int (nI 0), .int (nI n), .ref w1, .int (nI v), .int (nI m), .ref w2, .ref w3, .ref w4, .ref w5, .ref w6, .ref w7, .ref w8, .ref w9, .ref w10, .ref w11, .int (nI j), .ref w12, .ref w13, .ref w14, .ref w15, .ref w16])), (w1, eI G 60 f), (w2, eI G 12 b), (w3, eI G 12 e), (w4, eI G 12 s), (w12, eI G 10 b2), (w13, eI G 10 e2), (w11, eI G 3612 tn)]) (st2 := [.int (zb ((nI 1) ≤ k ∧ k ≤ (nI 10)))]) (c2 := 0) (s2 := 0) hF (c_X5_in G k (nI 1) (nI 10)) gX5_insert_X5_in rfl rfl rfl hs_X5_in ⟨⟨Nat.le_of_ble_eq_true rfl, Nat.le_of_ble_eq_true rfl⟩, ⟨Nat.le_of_ble_eq_true rfl, Nat.le_of_ble_eq_true rfl⟩, Nat.le_of_ble_eq_true rfl⟩ [] rfl rfl rfl rfl rfl rfl rfl rfl rfl rfl dX5_insert_33 ?_
      refine z_top (y := zb (amC k (nI 1) (nI 10) = 0)) (zb_iff inL_am) ?_
      refine z_if_ne_b (tgt := 45) hF dX5_insert_36 (by decide) (fun c_3 => ?_) (fun c_3 => ?_)
      · refine z_aload_n hF dX5_insert_45 rfl ?_
        refine z_get (C := RX5) (T := TX5) (N := 21) (ci := 5) (v := .int (nI n)) hF k_0 1 (by decide) rfl k_2 rfl 0 rfl rfl dX5_insert_46 ?_
        refine z_iload_n hF dX5_insert_49 rfl ?_
        refine z_iadd hF dX5_insert_50 ?_
        refine z_bipush (v := nI 60) hF dX5_insert_51 (by decide) ?_
        refine z_ic_gt (tgt := 66) hF dX5_insert_53 (by decide) (fun c_4 => ?_) (fun c_4 => ?_)
        · exact absurd hc (by (try simp only [fz]); grind)
        · refine z_aload_n hF dX5_insert_56 rfl ?_
          refine z_get (C := RX5) (T := TX5) (N := 21) (ci := 5) (v := .int (nI v)) hF k_0 3 (by decide) rfl k_3 rfl 0 rfl rfl dX5_insert_57 ?_
          refine z_sipush (v := nI 300) hF dX5_insert_60 (by decide) ?_
          refine z_icn_ne (tgt := 72) hF (by omega) (by omega) dX5_insert_63 (by decide) (fun c_5 => ?_) (fun c_5 => ?_)
          · have h1 : plC n a = 0 := by simp only [fz] at hc; grind
            have h3 : amC k (nI 1) (nI 10) = 0 := by simp only [fz] at hc; grind
            have h4 : roC n v k (nI 1) = 0 := by simp only [fz] at hc; grind
            have ha := plC_0 (by omega) h1
            have hk := amC_0 (a := 1) (b := 10) (by omega) (by omega) h3
            have hr := roC_0 (n := n) (v := v) (k := k.toNatClampNeg) (d := 1) (by omega) (by omega) (by omega) (by omega) (by rw [← hk.1]; exact h4)
            refine z_lv (lv' := [some (.ref w0), some (.int (nI a.toNatClampNeg)), some (.int x), some (.int k)]) (by rw [← ha.1]) ?_
            refine z_lv (lv' := [some (.ref w0), some (.int (nI a.toNatClampNeg)), some (.int x), some (.int (nI k.toNatClampNeg))]) (by rw [← hk.1]) ?_
            refine z_aload_n hF dX5_insert_72 rfl ?_
            refine z_iload_n hF dX5_insert_73 rfl ?_
            refine z_iload_n hF dX5_insert_74 rfl ?_
            refine z_iload_n hF dX5_insert_75 rfl ?_
            refine z_V (As := [.int (nI a.toNatClampNeg), .int x, .int (nI k.toNatClampNeg)]) (rest := []) (ws' := [(w0, .inr (5, [.int (nI 0), .int (nI (n + k.toNatClampNeg)), .ref w1, .int (nI (v + 1)), .int (nI m), .ref w2, .ref w3, .ref w4, .ref w5, .ref w6, .ref w7, .ref w8, .ref w9, .ref w10, .ref w11, .int (nI j), .ref w12, .ref w13, .ref w14, .ref w15, .ref w16])), (w1, eI G 60 (filF (va_cpy f f a.toNatClampNeg (a.toNatClampNeg + k.toNatClampNeg) (n - a.toNatClampNeg)) a.toNatClampNeg (a.toNatClampNeg + k.toNatClampNeg) x)), (w2, eI G 12 (mpF m (insB (nI a.toNatClampNeg) (nI k.toNatClampNeg) b s) b)), (w3, eI G 12 (mpF m (insE (nI a.toNatClampNeg) (nI k.toNatClampNeg) b e s) e)), (w4, eI G 12 s), (w12, eI G 10 (mpF j (siB (nI a.toNatClampNeg) (nI k.toNatClampNeg) b2) b2)), (w13, eI G 10 (mpF j (siE (nI a.toNatClampNeg) (nI k.toNatClampNeg) e2) e2)), (w11, eI G 3612 tn)]) (st2 := []) (c2 := 0) (s2 := 0) hF (c_X5_inserts G w0 w1 w2 w3 w4 w5 w6 w7 w8 w9 w10 w11 w12 w13 w14 w15 w16 n v m j (nI 0) f b e s b2 e2 a.toNatClampNeg k.toNatClampNeg x (by first | assumption | omega) (by first | assumption | omega) (by first | assumption | omega) (by first | assumption | omega) (by first | assumption | omega)) gX5_insert_X5_inserts rfl rfl rfl hd_X5_inserts ⟨⟨Nat.le_of_ble_eq_true rfl, Nat.le_of_ble_eq_true rfl⟩, ⟨Nat.le_of_ble_eq_true rfl, Nat.le_of_ble_eq_true rfl⟩, Nat.le_of_ble_eq_true rfl⟩ [0, 1, 2, 3, 4, 5, 6] rfl rfl 0 rfl rfl rfl rfl rfl rfl rfl rfl rfl rfl dX5_insert_76 ?_
            refine z_aload_n hF dX5_insert_79 rfl ?_
            refine z_V (As := []) (rest := []) (ws' := [(w0, .inr (5, [.int (nI 0), .int (nI (n + k.toNatClampNeg)), .ref w1, .int (nI (v + 1)), .int (nI m), .ref w2, .ref w3, .ref w4, .ref w5, .ref w6, .ref w7, .ref w8, .ref w9, .ref w10, .ref w11, .int (nI j), .ref w12, .ref w13, .ref w14, .ref w15, .ref w16])), (w1, eI G 60 (filF (va_cpy f f a.toNatClampNeg (a.toNatClampNeg + k.toNatClampNeg) (n - a.toNatClampNeg)) a.toNatClampNeg (a.toNatClampNeg + k.toNatClampNeg) x)), (w2, eI G 12 (mpF m (insB (nI a.toNatClampNeg) (nI k.toNatClampNeg) b s) b)), (w3, eI G 12 (mpF m (insE (nI a.toNatClampNeg) (nI k.toNatClampNeg) b e s) e)), (w4, eI G 12 s), (w12, eI G 10 (mpF j (siB (nI a.toNatClampNeg) (nI k.toNatClampNeg) b2) b2)), (w13, eI G 10 (mpF j (siE (nI a.toNatClampNeg) (nI k.toNatClampNeg) e2) e2)), (w11, eI G 3612 (wrF tn ((v + 1) * 12) 12 (fun kk => if kk < m then numF ((mpF m (insB (nI a.toNatClampNeg) (nI k.toNatClampNeg) b s) b) kk) ((mpF m (insE (nI a.toNatClampNeg) (nI k.toNatClampNeg) b e s) e) kk) else -1)))]) (st2 := []) (c2 := 0) (s2 := 0) hF (c_X5_keeps G w0 w1 w2 w3 w4 w5 w6 w7 w8 w9 w10 w11 w12 w13 w14 w15 w16 (n + k.toNatClampNeg) (v + 1) m j (nI 0) (mpF m (insB (nI a.toNatClampNeg) (nI k.toNatClampNeg) b s) b) (mpF m (insE (nI a.toNatClampNeg) (nI k.toNatClampNeg) b e s) e) tn (by first | assumption | omega) (by first | assumption | omega)) gX5_insert_X5_keeps rfl rfl rfl hd_X5_keeps ⟨⟨Nat.le_of_ble_eq_true rfl, Nat.le_of_ble_eq_true rfl⟩, ⟨Nat.le_of_ble_eq_true rfl, Nat.le_of_ble_eq_true rfl⟩, Nat.le_of_ble_eq_true rfl⟩ [0, 2, 3, 7] rfl rfl 0 rfl rfl rfl rfl rfl rfl rfl rfl rfl rfl dX5_insert_80 ?_
            refine z_aload_n hF dX5_insert_83 rfl ?_
            refine z_get (C := RX5) (T := TX5) (N := 21) (ci := 5) (v := .int (nI (n + k.toNatClampNeg))) hF k_0 1 (by decide) rfl k_2 rfl 0 rfl rfl dX5_insert_84 ?_
            exact hR.i dX5_insert_87 (Nat.le_of_ble_eq_true rfl) (Nat.le_of_ble_eq_true rfl) (rfl) (rfl)
          · exact absurd hc (by (try simp only [fz]); grind)
      · exact absurd hc (by (try simp only [fz]); grind)
  · exact absurd hc (by (try simp only [fz]); grind)
set_option maxHeartbeats 4000000 in
set_option maxRecDepth 100000 in
theorem c_X5_remove_f (G : zG) (w0 w1 w2 w3 w4 w5 w6 w7 w8 w9 w10 w11 w12 w13 w14 w15 w16 n v m j : Nat) (th : Int32) (f : Nat → Int32) (b : Nat → Int32) (e : Nat → Int32) (tn : Nat → Int32) (b2 : Nat → Int32) (e2 : Nat → Int32) (xs : Nat → Int32) (a k : Int32) (hn : n ≤ 60) (hm : m ≤ 12) (hj : j ≤ 10) (hv : v ≤ 300) (hc : ¬ (fz (plC n a) (fz (amC k (nI 1) (nI n - a)) (roC n v (-k) (nI 1)))) = 0) : zM G yX5_remove wsX5_remove ({ frames := 2, cells := 0, slots := 0, locals := 55 }) [.ref w0, .int a, .int k] [(w0, .inr (5, [.int th, .int (nI n), .ref w1, .int (nI v), .int (nI m), .ref w2, .ref w3, .ref w4, .ref w5, .ref w6, .ref w7, .ref w8, .ref w9, .ref w10, .ref w11, .int (nI j), .ref w12, .ref w13, .ref w14, .ref w15, .ref w16])), (w1, eI G 60 f), (w2, eI G 12 b), (w3, eI G 12 e), (w12, eI G 10 b2), (w13, eI G 10 e2), (w16, eI G 10 xs), (w11, eI G 3612 tn)] [(w0, .inr (5, [.int (nI (fz (plC n a) (fz (amC k (nI 1) (nI n - a)) (roC n v (-k) (nI 1))))), .int (nI n), .ref w1, .int (nI v), .int (nI m), .ref w2, .ref w3, .ref w4, .ref w5, .ref w6, .ref w7, .ref w8, .ref w9, .ref w10, .ref w11, .int (nI j), .ref w12, .ref w13, .ref w14, .ref w15, .ref w16])), (w1, eI G 60 f), (w2, eI G 12 b), (w3, eI G 12 e), (w12, eI G 10 b2), (w13, eI G 10 e2), (w16, eI G 10 xs), (w11, eI G 3612 tn)] (some (.int (nI 0))) 0 0 := by
  refine zM.ofI (own := RX5) (cc := cX5_remove) (maxL := 4) rfl (by decide) rfl rfl (by simp [Value.category]) (Nat.le_of_ble_eq_true rfl) ?_
  intro X hF hR
  have k_0 : ∀ w ∈ wsX50, w ∈ wsX5_remove := by decide +kernel
  have k_1 : zH X (.fieldLink RX5 62 "MarginDeskModel" "thrown" "I") := hF.w (by decide +kernel)
  have k_2 : zH X (.fieldLink RX5 66 "MarginDeskModel" "length" "I") := hF.w (by decide +kernel)
  have k_3 : zH X (.fieldLink RX5 79 "MarginDeskModel" "edits" "I") := hF.w (by decide +kernel)
  refine z_lv (lv' := [some (.ref w0), some (.int a), some (.int k), none]) rfl ?_
  have d_0 := plC_d n a
  have d_1 := amC_d k (nI 1) (nI n - a)
  have d_2 := roC_d n v (-k) (nI 1)
  have d_3 := roI (n := n) (x := -k) hv
  have d_4 := fun h1 h2 => roN (n := n) (a := a) (k := k) hn h1 h2
  refine z_aload_n hF dX5_remove_0 rfl ?_
  refine z_iconst (v := nI 0) hF dX5_remove_1 (by decide) ?_
  refine z_put (C := RX5) (T := TX5) (N := 21) (ci := 5) (ws' := [(w0, .inr (5, [.int (nI 0), .int (nI n), .ref w1, .int (nI v), .int (nI m), .ref w2, .ref w3, .ref w4, .ref w5, .ref w6, .ref w7, .ref w8, .ref w9, .ref w10, .ref w11, .int (nI j), .ref w12, .ref w13, .ref w14, .ref w15, .ref w16])), (w1, eI G 60 f), (w2, eI G 12 b), (w3, eI G 12 e), (w12, eI G 10 b2), (w13, eI G 10 e2), (w16, eI G 10 xs), (w11, eI G 3612 tn)]) hF k_0 tyX5 tyX5_ok nmX5 0 (by decide) rfl k_1 rfl rfl rfl rfl 0 rfl rfl rfl dX5_remove_2 ?_
  refine z_aload_n hF dX5_remove_5 rfl ?_
  refine z_iload_n hF dX5_remove_6 rfl ?_
  refine z_V (As := [.int a]) (rest := []) (ws' := [(w0, .inr (5, [.int (nI 0), .int (nI n), .ref w1, .int (nI v), .int (nI m), .ref w2, .ref w3, .ref w4, .ref w5, .ref w6, .ref w7, .ref w8, .ref w9, .ref w10, .ref w11, .int (nI j), .ref w12, .ref w13, .ref w14, .ref w15, .ref w16])), (w1, eI G 60 f), (w2, eI G 12 b), (w3, eI G 12 e), (w12, eI G 10 b2), (w13, eI G 10 e2), (w16, eI G 10 xs), (w11, eI G 3612 tn)]) (st2 := [.int (zb (plC n a = 0))]) (c2 := 0) (s2 := 0) hF (c_X5_isPlace G w0 w1 w2 w3 w4 w5 w6 w7 w8 w9 w10 w11 w12 w13 w14 w15 w16 n v m j (nI 0) a) gX5_remove_X5_isPlace rfl rfl rfl hd_X5_isPlace ⟨⟨Nat.le_of_ble_eq_true rfl, Nat.le_of_ble_eq_true rfl⟩, ⟨Nat.le_of_ble_eq_true rfl, Nat.le_of_ble_eq_true rfl⟩, Nat.le_of_ble_eq_true rfl⟩ [0] rfl rfl 0 rfl rfl rfl rfl rfl rfl rfl rfl rfl rfl dX5_remove_7 ?_
  refine z_if_ne_b (tgt := 19) hF dX5_remove_10 (by decide) (fun c_1 => ?_) (fun c_1 => ?_)
  · refine z_iload_n hF dX5_remove_19 rfl ?_
    refine z_iconst (v := nI 1) hF dX5_remove_20 (by decide) ?_
    refine z_aload_n hF dX5_remove_21 rfl ?_
    refine z_get (C := RX5) (T := TX5) (N := 21) (ci := 5) (v := .int (nI n)) hF k_0 1 (by decide) rfl k_2 rfl 0 rfl rfl dX5_remove_22 ?_
    refine z_iload_n hF dX5_remove_25 rfl ?_
    refine z_isub hF dX5_remove_26 ?_
    refine z_S (As := [.int k, .int (nI 1), .int ((nI n) - a)]) (rest := []) (ws' := [(w0, .inr (5, [.int (nI 0), .int (nI n), .ref w1, .int (nI v), .int (nI m), .ref w2, .ref w3, .ref w4, .ref w5, .ref w6, .ref w7, .ref w8, .ref w9, .ref w10, .ref w11, .int (nI j), .ref w12, .ref w13, .ref w14, .ref w15, .ref w16])), (w1, eI G 60 f), (w2, eI G 12 b), (w3, eI G 12 e), (w12, eI G 10 b2), (w13, eI G 10 e2), (w16, eI G 10 xs), (w11, eI G 3612 tn)]) (st2 := [.int (zb ((nI 1) ≤ k ∧ k ≤ ((nI n) - a)))]) (c2 := 0) (s2 := 0) hF (c_X5_in G k (nI 1) ((nI n) - a)) gX5_remove_X5_in rfl rfl rfl hs_X5_in ⟨⟨Nat.le_of_ble_eq_true rfl, Nat.le_of_ble_eq_true rfl⟩, ⟨Nat.le_of_ble_eq_true rfl, Nat.le_of_ble_eq_true rfl⟩, Nat.le_of_ble_eq_true rfl⟩ [] rfl rfl rfl rfl rfl rfl rfl rfl rfl rfl dX5_remove_27 ?_
    refine z_top (y := zb (amC k (nI 1) (nI n - a) = 0)) (zb_iff inL_am) ?_
    refine z_if_ne_b (tgt := 39) hF dX5_remove_30 (by decide) (fun c_2 => ?_) (fun c_2 => ?_)
    · refine z_aload_n hF dX5_remove_39 rfl ?_
      refine z_get (C := RX5) (T := TX5) (N := 21) (ci := 5) (v := .int (nI v)) hF k_0 3 (by decide) rfl k_3 rfl 0 rfl rfl dX5_remove_40 ?_
      refine z_sipush (v := nI 300) hF dX5_remove_43 (by decide) ?_
      refine z_icn_ne (tgt := 55) hF (by omega) (by omega) dX5_remove_46 (by decide) (fun c_3 => ?_) (fun c_3 => ?_)
      · exact absurd (by (try simp only [fz]); grind : (fz (plC n a) (fz (amC k (nI 1) (nI n - a)) (roC n v (-k) (nI 1)))) = 0) hc
      · refine z_aload_n hF dX5_remove_49 rfl ?_
        refine z_iconst (v := nI 3) hF dX5_remove_50 (by decide) ?_
        refine z_V (As := [.int (nI 3)]) (rest := []) (ws' := [(w0, .inr (5, [.int (nI 3), .int (nI n), .ref w1, .int (nI v), .int (nI m), .ref w2, .ref w3, .ref w4, .ref w5, .ref w6, .ref w7, .ref w8, .ref w9, .ref w10, .ref w11, .int (nI j), .ref w12, .ref w13, .ref w14, .ref w15, .ref w16])), (w1, eI G 60 f), (w2, eI G 12 b), (w3, eI G 12 e), (w12, eI G 10 b2), (w13, eI G 10 e2), (w16, eI G 10 xs), (w11, eI G 3612 tn)]) (st2 := [.int (nI 0)]) (c2 := 0) (s2 := 0) hF (c_X5_fails G w0 w1 w2 w3 w4 w5 w6 w7 w8 w9 w10 w11 w12 w13 w14 w15 w16 n v m j (nI 0) (nI 3)) gX5_remove_X5_fails rfl rfl rfl hd_X5_fails ⟨⟨Nat.le_of_ble_eq_true rfl, Nat.le_of_ble_eq_true rfl⟩, ⟨Nat.le_of_ble_eq_true rfl, Nat.le_of_ble_eq_true rfl⟩, Nat.le_of_ble_eq_true rfl⟩ [0] rfl rfl 0 rfl rfl rfl rfl rfl rfl rfl rfl rfl rfl dX5_remove_51 ?_
        exact hR.i dX5_remove_54 (Nat.le_of_ble_eq_true rfl) (Nat.le_of_ble_eq_true rfl) (by rw [show (fz (plC n a) (fz (amC k (nI 1) (nI n - a)) (roC n v (-k) (nI 1)))) = 3 from (by (try simp only [fz]); grind)]) (rfl)
    · refine z_aload_n hF dX5_remove_33 rfl ?_
      refine z_iconst (v := nI 2) hF dX5_remove_34 (by decide) ?_
      refine z_V (As := [.int (nI 2)]) (rest := []) (ws' := [(w0, .inr (5, [.int (nI 2), .int (nI n), .ref w1, .int (nI v), .int (nI m), .ref w2, .ref w3, .ref w4, .ref w5, .ref w6, .ref w7, .ref w8, .ref w9, .ref w10, .ref w11, .int (nI j), .ref w12, .ref w13, .ref w14, .ref w15, .ref w16])), (w1, eI G 60 f), (w2, eI G 12 b), (w3, eI G 12 e), (w12, eI G 10 b2), (w13, eI G 10 e2), (w16, eI G 10 xs), (w11, eI G 3612 tn)]) (st2 := [.int (nI 0)]) (c2 := 0) (s2 := 0) hF (c_X5_fails G w0 w1 w2 w3 w4 w5 w6 w7 w8 w9 w10 w11 w12 w13 w14 w15 w16 n v m j (nI 0) (nI 2)) gX5_remove_X5_fails rfl rfl rfl hd_X5_fails ⟨⟨Nat.le_of_ble_eq_true rfl, Nat.le_of_ble_eq_true rfl⟩, ⟨Nat.le_of_ble_eq_true rfl, Nat.le_of_ble_eq_true rfl⟩, Nat.le_of_ble_eq_true rfl⟩ [0] rfl rfl 0 rfl rfl rfl rfl rfl rfl rfl rfl rfl rfl dX5_remove_35 ?_
      exact hR.i dX5_remove_38 (Nat.le_of_ble_eq_true rfl) (Nat.le_of_ble_eq_true rfl) (by rw [show (fz (plC n a) (fz (amC k (nI 1) (nI n - a)) (roC n v (-k) (nI 1)))) = 2 from (by (try simp only [fz]); grind)]) (rfl)
  · refine z_aload_n hF dX5_remove_13 rfl ?_
    refine z_iconst (v := nI 1) hF dX5_remove_14 (by decide) ?_
    refine z_V (As := [.int (nI 1)]) (rest := []) (ws' := [(w0, .inr (5, [.int (nI 1), .int (nI n), .ref w1, .int (nI v), .int (nI m), .ref w2, .ref w3, .ref w4, .ref w5, .ref w6, .ref w7, .ref w8, .ref w9, .ref w10, .ref w11, .int (nI j), .ref w12, .ref w13, .ref w14, .ref w15, .ref w16])), (w1, eI G 60 f), (w2, eI G 12 b), (w3, eI G 12 e), (w12, eI G 10 b2), (w13, eI G 10 e2), (w16, eI G 10 xs), (w11, eI G 3612 tn)]) (st2 := [.int (nI 0)]) (c2 := 0) (s2 := 0) hF (c_X5_fails G w0 w1 w2 w3 w4 w5 w6 w7 w8 w9 w10 w11 w12 w13 w14 w15 w16 n v m j (nI 0) (nI 1)) gX5_remove_X5_fails rfl rfl rfl hd_X5_fails ⟨⟨Nat.le_of_ble_eq_true rfl, Nat.le_of_ble_eq_true rfl⟩, ⟨Nat.le_of_ble_eq_true rfl, Nat.le_of_ble_eq_true rfl⟩, Nat.le_of_ble_eq_true rfl⟩ [0] rfl rfl 0 rfl rfl rfl rfl rfl rfl rfl rfl rfl rfl dX5_remove_15 ?_
    exact hR.i dX5_remove_18 (Nat.le_of_ble_eq_true rfl) (Nat.le_of_ble_eq_true rfl) (by rw [show (fz (plC n a) (fz (amC k (nI 1) (nI n - a)) (roC n v (-k) (nI 1)))) = 1 from (by (try simp only [fz]); grind)]) (rfl)
set_option maxHeartbeats 4000000 in
set_option maxRecDepth 100000 in
theorem c_X5_remove_k (G : zG) (w0 w1 w2 w3 w4 w5 w6 w7 w8 w9 w10 w11 w12 w13 w14 w15 w16 n v m j : Nat) (th : Int32) (f : Nat → Int32) (b : Nat → Int32) (e : Nat → Int32) (tn : Nat → Int32) (b2 : Nat → Int32) (e2 : Nat → Int32) (xs : Nat → Int32) (a k : Int32) (hn : n ≤ 60) (hm : m ≤ 12) (hj : j ≤ 10) (hv : v ≤ 300) (hc : (fz (plC n a) (fz (amC k (nI 1) (nI n - a)) (roC n v (-k) (nI 1)))) = 0) : zM G yX5_remove wsX5_remove ({ frames := 2, cells := 0, slots := 0, locals := 60 }) [.ref w0, .int a, .int k] [(w0, .inr (5, [.int th, .int (nI n), .ref w1, .int (nI v), .int (nI m), .ref w2, .ref w3, .ref w4, .ref w5, .ref w6, .ref w7, .ref w8, .ref w9, .ref w10, .ref w11, .int (nI j), .ref w12, .ref w13, .ref w14, .ref w15, .ref w16])), (w1, eI G 60 f), (w2, eI G 12 b), (w3, eI G 12 e), (w12, eI G 10 b2), (w13, eI G 10 e2), (w16, eI G 10 xs), (w11, eI G 3612 tn)] [(w0, .inr (5, [.int (nI 0), .int (nI (n - k.toNatClampNeg)), .ref w1, .int (nI (v + 1)), .int (nI m), .ref w2, .ref w3, .ref w4, .ref w5, .ref w6, .ref w7, .ref w8, .ref w9, .ref w10, .ref w11, .int (nI j), .ref w12, .ref w13, .ref w14, .ref w15, .ref w16])), (w1, eI G 60 (va_cpy f f (a.toNatClampNeg + k.toNatClampNeg) a.toNatClampNeg (n - (a.toNatClampNeg + k.toNatClampNeg)))), (w2, eI G 12 (mpF m (remB (nI a.toNatClampNeg) (nI k.toNatClampNeg) b e) b)), (w3, eI G 12 (mpF m (remE (nI a.toNatClampNeg) (nI k.toNatClampNeg) b e) e)), (w12, eI G 10 (mpF j (slB (nI a.toNatClampNeg) (nI k.toNatClampNeg) b2) b2)), (w13, eI G 10 (mpF j (slB (nI a.toNatClampNeg) (nI k.toNatClampNeg) e2) e2)), (w16, eI G 10 (mpF j (slS (nI a.toNatClampNeg) (nI k.toNatClampNeg) (-1) b2 e2 xs) xs)), (w11, eI G 3612 (wrF tn ((v + 1) * 12) 12 (fun kk => if kk < m then numF ((mpF m (remB (nI a.toNatClampNeg) (nI k.toNatClampNeg) b e) b) kk) ((mpF m (remE (nI a.toNatClampNeg) (nI k.toNatClampNeg) b e) e) kk) else -1)))] (some (.int (nI (cntF (gonP (nI a.toNatClampNeg) (nI k.toNatClampNeg) b e) m)))) 0 0 := by
  refine zM.ofI (own := RX5) (cc := cX5_remove) (maxL := 4) rfl (by decide) rfl rfl (by simp [Value.category]) (Nat.le_of_ble_eq_true rfl) ?_
  intro X hF hR
  have k_0 : ∀ w ∈ wsX50, w ∈ wsX5_remove := by decide +kernel
  have k_1 : zH X (.fieldLink RX5 62 "MarginDeskModel" "thrown" "I") := hF.w (by decide +kernel)
  have k_2 : zH X (.fieldLink RX5 66 "MarginDeskModel" "length" "I") := hF.w (by decide +kernel)
  have k_3 : zH X (.fieldLink RX5 79 "MarginDeskModel" "edits" "I") := hF.w (by decide +kernel)
  refine z_lv (lv' := [some (.ref w0), some (.int a), some (.int k), none]) rfl ?_
  have d_0 := plC_d n a
  have d_1 := amC_d k (nI 1) (nI n - a)
  have d_2 := roC_d n v (-k) (nI 1)
  have d_3 := roI (n := n) (x := -k) hv
  have d_4 := fun h1 h2 => roN (n := n) (a := a) (k := k) hn h1 h2
  refine z_aload_n hF dX5_remove_0 rfl ?_
  refine z_iconst (v := nI 0) hF dX5_remove_1 (by decide) ?_
  refine z_put (C := RX5) (T := TX5) (N := 21) (ci := 5) (ws' := [(w0, .inr (5, [.int (nI 0), .int (nI n), .ref w1, .int (nI v), .int (nI m), .ref w2, .ref w3, .ref w4, .ref w5, .ref w6, .ref w7, .ref w8, .ref w9, .ref w10, .ref w11, .int (nI j), .ref w12, .ref w13, .ref w14, .ref w15, .ref w16])), (w1, eI G 60 f), (w2, eI G 12 b), (w3, eI G 12 e), (w12, eI G 10 b2), (w13, eI G 10 e2), (w16, eI G 10 xs), (w11, eI G 3612 tn)]) hF k_0 tyX5 tyX5_ok nmX5 0 (by decide) rfl k_1 rfl rfl rfl rfl 0 rfl rfl rfl dX5_remove_2 ?_
  refine z_aload_n hF dX5_remove_5 rfl ?_
  refine z_iload_n hF dX5_remove_6 rfl ?_
  refine z_V (As := [.int a]) (rest := []) (ws' := [(w0, .inr (5, [.int (nI 0), .int (nI n), .ref w1, .int (nI v), .int (nI m), .ref w2, .ref w3, .ref w4, .ref w5, .ref w6, .ref w7, .ref w8, .ref w9, .ref w10, .ref w11, .int (nI j), .ref w12, .ref w13, .ref w14, .ref w15, .ref w16])), (w1, eI G 60 f), (w2, eI G 12 b), (w3, eI G 12 e), (w12, eI G 10 b2), (w13, eI G 10 e2), (w16, eI G 10 xs), (w11, eI G 3612 tn)]) (st2 := [.int (zb (plC n a = 0))]) (c2 := 0) (s2 := 0) hF (c_X5_isPlace G w0 w1 w2 w3 w4 w5 w6 w7 w8 w9 w10 w11 w12 w13 w14 w15 w16 n v m j (nI 0) a) gX5_remove_X5_isPlace rfl rfl rfl hd_X5_isPlace ⟨⟨Nat.le_of_ble_eq_true rfl, Nat.le_of_ble_eq_true rfl⟩, ⟨Nat.le_of_ble_eq_true rfl, Nat.le_of_ble_eq_true rfl⟩, Nat.le_of_ble_eq_true rfl⟩ [0] rfl rfl 0 rfl rfl rfl rfl rfl rfl rfl rfl rfl rfl dX5_remove_7 ?_
  refine z_if_ne_b (tgt := 19) hF dX5_remove_10 (by decide) (fun c_1 => ?_) (fun c_1 => ?_)
  · refine z_iload_n hF dX5_remove_19 rfl ?_
    refine z_iconst (v := nI 1) hF dX5_remove_20 (by decide) ?_
    refine z_aload_n hF dX5_remove_21 rfl ?_
    refine z_get (C := RX5) (T := TX5) (N := 21) (ci := 5) (v := .int (nI n)) hF k_0 1 (by decide) rfl k_2 rfl 0 rfl rfl dX5_remove_22 ?_
    refine z_iload_n hF dX5_remove_25 rfl ?_
    refine z_isub hF dX5_remove_26 ?_
    refine z_S (As := [.int k, .int (nI 1), .int ((nI n) - a)]) (rest := []) (ws' := [(w0, .inr (5, [.int (nI 0), .int (nI n), .ref w1, .int (nI v), .int (nI m), .ref w2, .ref w3, .ref w4, .ref w5, .ref w6, .ref w7, .ref w8, .ref w9, .ref w10, .ref w11, .int (nI j), .ref w12, .ref w13, .ref w14, .ref w15, .ref w16])), (w1, eI G 60 f), (w2, eI G 12 b), (w3, eI G 12 e), (w12, eI G 10 b2), (w13, eI G 10 e2), (w16, eI G 10 xs), (w11, eI G 3612 tn)]) (st2 := [.int (zb ((nI 1) ≤ k ∧ k ≤ ((nI n) - a)))]) (c2 := 0) (s2 := 0) hF (c_X5_in G k (nI 1) ((nI n) - a)) gX5_remove_X5_in rfl rfl rfl hs_X5_in ⟨⟨Nat.le_of_ble_eq_true rfl, Nat.le_of_ble_eq_true rfl⟩, ⟨Nat.le_of_ble_eq_true rfl, Nat.le_of_ble_eq_true rfl⟩, Nat.le_of_ble_eq_true rfl⟩ [] rfl rfl rfl rfl rfl rfl rfl rfl rfl rfl dX5_remove_27 ?_
    refine z_top (y := zb (amC k (nI 1) (nI n - a) = 0)) (zb_iff inL_am) ?_
    refine z_if_ne_b (tgt := 39) hF dX5_remove_30 (by decide) (fun c_2 => ?_) (fun c_2 => ?_)
    · refine z_aload_n hF dX5_remove_39 rfl ?_
      refine z_get (C := RX5) (T := TX5) (N := 21) (ci := 5) (v := .int (nI v)) hF k_0 3 (by decide) rfl k_3 rfl 0 rfl rfl dX5_remove_40 ?_
      refine z_sipush (v := nI 300) hF dX5_remove_43 (by decide) ?_
      refine z_icn_ne (tgt := 55) hF (by omega) (by omega) dX5_remove_46 (by decide) (fun c_3 => ?_) (fun c_3 => ?_)
      · have h1 : plC n a = 0 := by simp only [fz] at hc; grind
        have h3 : amC k (nI 1) (nI n - a) = 0 := by simp only [fz] at hc; grind
        have h4 : roC n v (-k) (nI 1) = 0 := by simp only [fz] at hc; grind
        have ha := plC_0 (by omega) h1
        have hk := amC_0 (a := 1) (b := n - a.toNatClampNeg) (by omega) (by omega) (by rw [← nsubA ha]; exact h3)
        have hr := roC_v (by omega) (by omega) h4
        refine z_lv (lv' := [some (.ref w0), some (.int (nI a.toNatClampNeg)), some (.int k), none]) (by rw [← ha.1]) ?_
        refine z_lv (lv' := [some (.ref w0), some (.int (nI a.toNatClampNeg)), some (.int (nI k.toNatClampNeg)), none]) (by rw [← hk.1]) ?_
        refine z_aload_n hF dX5_remove_55 rfl ?_
        refine z_iload_n hF dX5_remove_56 rfl ?_
        refine z_iload_n hF dX5_remove_57 rfl ?_
        refine z_iconst (v := -1) hF dX5_remove_58 (by decide) ?_
        refine z_V (As := [.int (nI a.toNatClampNeg), .int (nI k.toNatClampNeg), .int (-1)]) (rest := []) (ws' := [(w0, .inr (5, [.int (nI 0), .int (nI (n - k.toNatClampNeg)), .ref w1, .int (nI (v + 1)), .int (nI m), .ref w2, .ref w3, .ref w4, .ref w5, .ref w6, .ref w7, .ref w8, .ref w9, .ref w10, .ref w11, .int (nI j), .ref w12, .ref w13, .ref w14, .ref w15, .ref w16])), (w1, eI G 60 (va_cpy f f (a.toNatClampNeg + k.toNatClampNeg) a.toNatClampNeg (n - (a.toNatClampNeg + k.toNatClampNeg)))), (w2, eI G 12 (mpF m (remB (nI a.toNatClampNeg) (nI k.toNatClampNeg) b e) b)), (w3, eI G 12 (mpF m (remE (nI a.toNatClampNeg) (nI k.toNatClampNeg) b e) e)), (w12, eI G 10 (mpF j (slB (nI a.toNatClampNeg) (nI k.toNatClampNeg) b2) b2)), (w13, eI G 10 (mpF j (slB (nI a.toNatClampNeg) (nI k.toNatClampNeg) e2) e2)), (w16, eI G 10 (mpF j (slS (nI a.toNatClampNeg) (nI k.toNatClampNeg) (-1) b2 e2 xs) xs)), (w11, eI G 3612 tn)]) (st2 := [.int (nI (cntF (gonP (nI a.toNatClampNeg) (nI k.toNatClampNeg) b e) m))]) (c2 := 0) (s2 := 0) hF (c_X5_removes G w0 w1 w2 w3 w4 w5 w6 w7 w8 w9 w10 w11 w12 w13 w14 w15 w16 n v m j (nI 0) f b e b2 e2 xs a.toNatClampNeg k.toNatClampNeg (-1) (by first | assumption | omega) (by first | assumption | omega) (by first | assumption | omega) (by first | assumption | omega)) gX5_remove_X5_removes rfl rfl rfl hd_X5_removes ⟨⟨Nat.le_of_ble_eq_true rfl, Nat.le_of_ble_eq_true rfl⟩, ⟨Nat.le_of_ble_eq_true rfl, Nat.le_of_ble_eq_true rfl⟩, Nat.le_of_ble_eq_true rfl⟩ [0, 1, 2, 3, 4, 5, 6] rfl rfl 0 rfl rfl rfl rfl rfl rfl rfl rfl rfl rfl dX5_remove_59 ?_
        refine z_istore_n (lv' := [some (.ref w0), some (.int (nI a.toNatClampNeg)), some (.int (nI k.toNatClampNeg)), some (.int (nI (cntF (gonP (nI a.toNatClampNeg) (nI k.toNatClampNeg) b e) m)))]) hF dX5_remove_62 rfl rfl ?_
        refine z_aload_n hF dX5_remove_63 rfl ?_
        refine z_V (As := []) (rest := []) (ws' := [(w0, .inr (5, [.int (nI 0), .int (nI (n - k.toNatClampNeg)), .ref w1, .int (nI (v + 1)), .int (nI m), .ref w2, .ref w3, .ref w4, .ref w5, .ref w6, .ref w7, .ref w8, .ref w9, .ref w10, .ref w11, .int (nI j), .ref w12, .ref w13, .ref w14, .ref w15, .ref w16])), (w1, eI G 60 (va_cpy f f (a.toNatClampNeg + k.toNatClampNeg) a.toNatClampNeg (n - (a.toNatClampNeg + k.toNatClampNeg)))), (w2, eI G 12 (mpF m (remB (nI a.toNatClampNeg) (nI k.toNatClampNeg) b e) b)), (w3, eI G 12 (mpF m (remE (nI a.toNatClampNeg) (nI k.toNatClampNeg) b e) e)), (w12, eI G 10 (mpF j (slB (nI a.toNatClampNeg) (nI k.toNatClampNeg) b2) b2)), (w13, eI G 10 (mpF j (slB (nI a.toNatClampNeg) (nI k.toNatClampNeg) e2) e2)), (w16, eI G 10 (mpF j (slS (nI a.toNatClampNeg) (nI k.toNatClampNeg) (-1) b2 e2 xs) xs)), (w11, eI G 3612 (wrF tn ((v + 1) * 12) 12 (fun kk => if kk < m then numF ((mpF m (remB (nI a.toNatClampNeg) (nI k.toNatClampNeg) b e) b) kk) ((mpF m (remE (nI a.toNatClampNeg) (nI k.toNatClampNeg) b e) e) kk) else -1)))]) (st2 := []) (c2 := 0) (s2 := 0) hF (c_X5_keeps G w0 w1 w2 w3 w4 w5 w6 w7 w8 w9 w10 w11 w12 w13 w14 w15 w16 (n - k.toNatClampNeg) (v + 1) m j (nI 0) (mpF m (remB (nI a.toNatClampNeg) (nI k.toNatClampNeg) b e) b) (mpF m (remE (nI a.toNatClampNeg) (nI k.toNatClampNeg) b e) e) tn (by first | assumption | omega) (by first | assumption | omega)) gX5_remove_X5_keeps rfl rfl rfl hd_X5_keeps ⟨⟨Nat.le_of_ble_eq_true rfl, Nat.le_of_ble_eq_true rfl⟩, ⟨Nat.le_of_ble_eq_true rfl, Nat.le_of_ble_eq_true rfl⟩, Nat.le_of_ble_eq_true rfl⟩ [0, 2, 3, 7] rfl rfl 0 rfl rfl rfl rfl rfl rfl rfl rfl rfl rfl dX5_remove_64 ?_
        refine z_iload_n hF dX5_remove_67 rfl ?_
        exact hR.i dX5_remove_68 (Nat.le_of_ble_eq_true rfl) (Nat.le_of_ble_eq_true rfl) (rfl) (rfl)
      · exact absurd hc (by (try simp only [fz]); grind)
    · exact absurd hc (by (try simp only [fz]); grind)
  · exact absurd hc (by (try simp only [fz]); grind)
set_option maxHeartbeats 4000000 in
set_option maxRecDepth 100000 in
theorem c_X5_length (G : zG) (w0 w1 w2 w3 w4 w5 w6 w7 w8 w9 w10 w11 w12 w13 w14 w15 w16 n v m j : Nat) (th : Int32)  : zM G yX5_length wsX5_length ({ frames := 0, cells := 0, slots := 0, locals := 12 }) [.ref w0] [(w0, .inr (5, [.int th, .int (nI n), .ref w1, .int (nI v), .int (nI m), .ref w2, .ref w3, .ref w4, .ref w5, .ref w6, .ref w7, .ref w8, .ref w9, .ref w10, .ref w11, .int (nI j), .ref w12, .ref w13, .ref w14, .ref w15, .ref w16]))] [(w0, .inr (5, [.int (nI 0), .int (nI n), .ref w1, .int (nI v), .int (nI m), .ref w2, .ref w3, .ref w4, .ref w5, .ref w6, .ref w7, .ref w8, .ref w9, .ref w10, .ref w11, .int (nI j), .ref w12, .ref w13, .ref w14, .ref w15, .ref w16]))] (some (.int (nI n))) 0 0 := by
  refine zM.ofI (own := RX5) (cc := cX5_length) (maxL := 1) rfl (by decide) rfl rfl (by simp [Value.category]) (Nat.le_of_ble_eq_true rfl) ?_
  intro X hF hR
  have k_0 : ∀ w ∈ wsX50, w ∈ wsX5_length := by decide +kernel
  have k_1 : zH X (.fieldLink RX5 62 "MarginDeskModel" "thrown" "I") := hF.w (by decide +kernel)
  have k_2 : zH X (.fieldLink RX5 66 "MarginDeskModel" "length" "I") := hF.w (by decide +kernel)
  refine z_lv (lv' := [some (.ref w0)]) rfl ?_
  refine z_aload_n hF dX5_length_0 rfl ?_
  refine z_iconst (v := nI 0) hF dX5_length_1 (by decide) ?_
  refine z_put (C := RX5) (T := TX5) (N := 21) (ci := 5) (ws' := [(w0, .inr (5, [.int (nI 0), .int (nI n), .ref w1, .int (nI v), .int (nI m), .ref w2, .ref w3, .ref w4, .ref w5, .ref w6, .ref w7, .ref w8, .ref w9, .ref w10, .ref w11, .int (nI j), .ref w12, .ref w13, .ref w14, .ref w15, .ref w16]))]) hF k_0 tyX5 tyX5_ok nmX5 0 (by decide) rfl k_1 rfl rfl rfl rfl 0 rfl rfl rfl dX5_length_2 ?_
  refine z_aload_n hF dX5_length_5 rfl ?_
  refine z_get (C := RX5) (T := TX5) (N := 21) (ci := 5) (v := .int (nI n)) hF k_0 1 (by decide) rfl k_2 rfl 0 rfl rfl dX5_length_6 ?_
  exact hR.i dX5_length_9 (Nat.le_of_ble_eq_true rfl) (Nat.le_of_ble_eq_true rfl) (rfl) (rfl)
