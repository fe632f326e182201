set_option maxHeartbeats 4000000 in
set_option maxRecDepth 100000 in
theorem c_X5_accept1_f (G : zG) (w0 w1 w2 w3 w4 w5 w6 w7 w8 w9 w10 w11 w12 w13 w14 w15 w16 n v m j : Nat) (th : Int32) (f : Nat → Int32) (b : Nat → Int32) (e : Nat → Int32) (s : Nat → Int32) (tn : Nat → Int32) (b2 : Nat → Int32) (e2 : Nat → Int32) (xl : Nat → Int32) (xc : Nat → Int32) (xs : Nat → Int32) (a : Int32) (p q : Nat) (z : Nat) (hn : n ≤ 60) (hm : m ≤ 12) (hj : j ≤ 10) (hv : v ≤ 300) (hs : ∀ i, i < m → st4 (s i)) (hw : cmC j a = 0 → waC (xs a.toNatClampNeg) = 0 → b2 a.toNatClampNeg = nI p ∧ e2 a.toNatClampNeg = nI q ∧ p < q ∧ q ≤ n) (hz : xc a.toNatClampNeg = nI z) (hz0 : 0 < z) (hz5 : z ≤ 5) (hc : ¬ (fz (cmC j a) (fz (waC (xs a.toNatClampNeg)) (fz (if ovM b2 e2 xs a.toNatClampNeg j = 0 then 0 else 3) (roC n v (nI z - nI (q - p)) (nI 2))))) = 0) : zM G yX5_accept wsX5_accept ({ frames := 2, cells := 0, slots := 0, locals := 55 }) [.ref w0, .int a] [(w0, .inr (5, [.int th, .int (nI n), .ref w1, .int (nI v), .int (nI m), .ref w2, .ref w3, .ref w4, .ref w5, .ref w6, .ref w7, .ref w8, .ref w9, .ref w10, .ref w11, .int (nI j), .ref w12, .ref w13, .ref w14, .ref w15, .ref w16])), (w1, eI G 60 f), (w2, eI G 12 b), (w3, eI G 12 e), (w4, eI G 12 s), (w12, eI G 10 b2), (w13, eI G 10 e2), (w11, eI G 3612 tn), (w14, eI G 10 xl), (w15, eI G 10 xc), (w16, eI G 10 xs)] [(w0, .inr (5, [.int (nI (if (fz (cmC j a) (fz (waC (xs a.toNatClampNeg)) (fz (if ovM b2 e2 xs a.toNatClampNeg j = 0 then 0 else 3) (roC n v (nI z - nI (q - p)) (nI 2))))) = 3 then 2 else (fz (cmC j a) (fz (waC (xs a.toNatClampNeg)) (fz (if ovM b2 e2 xs a.toNatClampNeg j = 0 then 0 else 3) (roC n v (nI z - nI (q - p)) (nI 2))))))), .int (nI n), .ref w1, .int (nI v), .int (nI m), .ref w2, .ref w3, .ref w4, .ref w5, .ref w6, .ref w7, .ref w8, .ref w9, .ref w10, .ref w11, .int (nI j), .ref w12, .ref w13, .ref w14, .ref w15, .ref w16])), (w1, eI G 60 f), (w2, eI G 12 b), (w3, eI G 12 e), (w4, eI G 12 s), (w12, eI G 10 b2), (w13, eI G 10 e2), (w11, eI G 3612 tn), (w14, eI G 10 xl), (w15, eI G 10 xc), (w16, eI G 10 xs)] (some (.int (nI 0))) 0 0 := by
  refine zM.ofI (own := RX5) (cc := cX5_accept) (maxL := 5) rfl (by decide) rfl rfl (by simp [Value.category]) (Nat.le_of_ble_eq_true rfl) ?_
  intro X hF hR
  have k_0 : ∀ w ∈ wsX50, w ∈ wsX5_accept := by decide +kernel
  have k_1 : zH X (.fieldLink RX5 62 "MarginDeskModel" "thrown" "I") := hF.w (by decide +kernel)
  have k_2 : zH X (.fieldLink RX5 44 "MarginDeskModel" "first" "[I") := hF.w (by decide +kernel)
  have k_3 : zH X (.fieldLink RX5 47 "MarginDeskModel" "last" "[I") := hF.w (by decide +kernel)
  have k_4 : zH X (.fieldLink RX5 56 "MarginDeskModel" "state" "[I") := hF.w (by decide +kernel)
  have k_5 : zH X (.fieldLink RX5 66 "MarginDeskModel" "length" "I") := hF.w (by decide +kernel)
  have k_6 : zH X (.fieldLink RX5 53 "MarginDeskModel" "count" "[I") := hF.w (by decide +kernel)
  have k_7 : zH X (.fieldLink RX5 79 "MarginDeskModel" "edits" "I") := hF.w (by decide +kernel)
  refine z_lv (lv' := [some (.ref w0), some (.int a), none, none, none]) rfl ?_
  have d_0 := cmC_d j a
  have d_1 := waC_d (xs a.toNatClampNeg)
  have d_2 := waI (x := xs a.toNatClampNeg)
  have d_3 := roC_d n v (nI z - nI (q - p)) (nI 2)
  refine z_aload_n hF dX5_accept_0 rfl ?_
  refine z_iconst (v := nI 0) hF dX5_accept_1 (by decide) ?_
  refine z_put (C := RX5) (T := TX5) (N := 21) (ci := 5) (ws' := [(w0, .inr (5, [.int (nI 0), .int (nI n), .ref w1, .int (nI v), .int (nI m), .ref w2, .ref w3, .ref w4, .ref w5, .ref w6, .ref w7, .ref w8, .ref w9, .ref w10, .ref w11, .int (nI j), .ref w12, .ref w13, .ref w14, .ref w15, .ref w16])), (w1, eI G 60 f), (w2, eI G 12 b), (w3, eI G 12 e), (w4, eI G 12 s), (w12, eI G 10 b2), (w13, eI G 10 e2), (w11, eI G 3612 tn), (w14, eI G 10 xl), (w15, eI G 10 xc), (w16, eI G 10 xs)]) hF k_0 tyX5 tyX5_ok nmX5 0 (by decide) rfl k_1 rfl rfl rfl rfl 0 rfl rfl rfl dX5_accept_2 ?_
  refine z_aload_n hF dX5_accept_5 rfl ?_
  refine z_iload_n hF dX5_accept_6 rfl ?_
  refine z_V (As := [.int a]) (rest := []) (ws' := [(w0, .inr (5, [.int (nI 0), .int (nI n), .ref w1, .int (nI v), .int (nI m), .ref w2, .ref w3, .ref w4, .ref w5, .ref w6, .ref w7, .ref w8, .ref w9, .ref w10, .ref w11, .int (nI j), .ref w12, .ref w13, .ref w14, .ref w15, .ref w16])), (w1, eI G 60 f), (w2, eI G 12 b), (w3, eI G 12 e), (w4, eI G 12 s), (w12, eI G 10 b2), (w13, eI G 10 e2), (w11, eI G 3612 tn), (w14, eI G 10 xl), (w15, eI G 10 xc), (w16, eI G 10 xs)]) (st2 := [.int (zb (cmC j a = 0))]) (c2 := 0) (s2 := 0) hF (c_X5_isSuggestion G w0 w1 w2 w3 w4 w5 w6 w7 w8 w9 w10 w11 w12 w13 w14 w15 w16 n v m j (nI 0) a (by first | assumption | omega)) gX5_accept_X5_isSuggestion rfl rfl rfl hd_X5_isSuggestion ⟨⟨Nat.le_of_ble_eq_true rfl, Nat.le_of_ble_eq_true rfl⟩, ⟨Nat.le_of_ble_eq_true rfl, Nat.le_of_ble_eq_true rfl⟩, Nat.le_of_ble_eq_true rfl⟩ [0] rfl rfl 0 rfl rfl rfl rfl rfl rfl rfl rfl rfl rfl dX5_accept_7 ?_
  refine z_if_ne_b (tgt := 19) hF dX5_accept_10 (by decide) (fun h1 => ?_) (fun h1 => ?_)
  · have ha := cmC_0 (by omega) h1
    refine z_lv (lv' := [some (.ref w0), some (.int (nI a.toNatClampNeg)), none, none, none]) (by rw [← ha.1]) ?_
    refine z_aload_n hF dX5_accept_19 rfl ?_
    refine z_get (C := RX5) (T := TX5) (N := 21) (ci := 5) (v := .ref w12) hF k_0 16 (by decide) rfl k_2 rfl 0 rfl rfl dX5_accept_20 ?_
    refine z_iload_n hF dX5_accept_23 rfl ?_
    refine z_iald (k := a.toNatClampNeg) hF 5 rfl (rfl) (by omega) rfl dX5_accept_24 ?_
    refine z_istore_n (lv' := [some (.ref w0), some (.int (nI a.toNatClampNeg)), some (.int (b2 a.toNatClampNeg)), none, none]) hF dX5_accept_25 rfl rfl ?_
    refine z_aload_n hF dX5_accept_26 rfl ?_
    refine z_get (C := RX5) (T := TX5) (N := 21) (ci := 5) (v := .ref w13) hF k_0 17 (by decide) rfl k_3 rfl 0 rfl rfl dX5_accept_27 ?_
    refine z_iload_n hF dX5_accept_30 rfl ?_
    refine z_iald (k := a.toNatClampNeg) hF 6 rfl (rfl) (by omega) rfl dX5_accept_31 ?_
    refine z_iload_n hF dX5_accept_32 rfl ?_
    refine z_isub hF dX5_accept_33 ?_
    refine z_istore_n (lv' := [some (.ref w0), some (.int (nI a.toNatClampNeg)), some (.int (b2 a.toNatClampNeg)), some (.int ((e2 a.toNatClampNeg) - (b2 a.toNatClampNeg))), none]) hF dX5_accept_34 rfl rfl ?_
    refine z_aload_n hF dX5_accept_35 rfl ?_
    refine z_get (C := RX5) (T := TX5) (N := 21) (ci := 5) (v := .ref w16) hF k_0 20 (by decide) rfl k_4 rfl 0 rfl rfl dX5_accept_36 ?_
    refine z_iload_n hF dX5_accept_39 rfl ?_
    refine z_iald (k := a.toNatClampNeg) hF 10 rfl (rfl) (by omega) rfl dX5_accept_40 ?_
    refine z_if_ne (tgt := 95) hF dX5_accept_41 (by decide) (fun h2 => ?_) (fun h2 => ?_)
    · refine z_aload_n hF dX5_accept_95 rfl ?_
      refine z_iconst (v := nI 2) hF dX5_accept_96 (by decide) ?_
      refine z_V (As := [.int (nI 2)]) (rest := []) (ws' := [(w0, .inr (5, [.int (nI 2), .int (nI n), .ref w1, .int (nI v), .int (nI m), .ref w2, .ref w3, .ref w4, .ref w5, .ref w6, .ref w7, .ref w8, .ref w9, .ref w10, .ref w11, .int (nI j), .ref w12, .ref w13, .ref w14, .ref w15, .ref w16])), (w1, eI G 60 f), (w2, eI G 12 b), (w3, eI G 12 e), (w4, eI G 12 s), (w12, eI G 10 b2), (w13, eI G 10 e2), (w11, eI G 3612 tn), (w14, eI G 10 xl), (w15, eI G 10 xc), (w16, eI G 10 xs)]) (st2 := [.int (nI 0)]) (c2 := 0) (s2 := 0) hF (c_X5_fails G w0 w1 w2 w3 w4 w5 w6 w7 w8 w9 w10 w11 w12 w13 w14 w15 w16 n v m j (nI 0) (nI 2)) gX5_accept_X5_fails rfl rfl rfl hd_X5_fails ⟨⟨Nat.le_of_ble_eq_true rfl, Nat.le_of_ble_eq_true rfl⟩, ⟨Nat.le_of_ble_eq_true rfl, Nat.le_of_ble_eq_true rfl⟩, Nat.le_of_ble_eq_true rfl⟩ [0] rfl rfl 0 rfl rfl rfl rfl rfl rfl rfl rfl rfl rfl dX5_accept_97 ?_
      exact hR.i dX5_accept_100 (Nat.le_of_ble_eq_true rfl) (Nat.le_of_ble_eq_true rfl) (by rw [show (if (fz (cmC j a) (fz (waC (xs a.toNatClampNeg)) (fz (if ovM b2 e2 xs a.toNatClampNeg j = 0 then 0 else 3) (roC n v (nI z - nI (q - p)) (nI 2))))) = 3 then 2 else (fz (cmC j a) (fz (waC (xs a.toNatClampNeg)) (fz (if ovM b2 e2 xs a.toNatClampNeg j = 0 then 0 else 3) (roC n v (nI z - nI (q - p)) (nI 2)))))) = 2 from (by (try simp only [fz]); grind)]) (rfl)
    · refine z_aload_n hF dX5_accept_44 rfl ?_
      refine z_iload_n hF dX5_accept_45 rfl ?_
      refine z_V (As := [.int (nI a.toNatClampNeg)]) (rest := []) (ws' := [(w0, .inr (5, [.int (nI 0), .int (nI n), .ref w1, .int (nI v), .int (nI m), .ref w2, .ref w3, .ref w4, .ref w5, .ref w6, .ref w7, .ref w8, .ref w9, .ref w10, .ref w11, .int (nI j), .ref w12, .ref w13, .ref w14, .ref w15, .ref w16])), (w1, eI G 60 f), (w2, eI G 12 b), (w3, eI G 12 e), (w4, eI G 12 s), (w12, eI G 10 b2), (w13, eI G 10 e2), (w11, eI G 3612 tn), (w14, eI G 10 xl), (w15, eI G 10 xc), (w16, eI G 10 xs)]) (st2 := [.int (ovM b2 e2 xs a.toNatClampNeg j)]) (c2 := 0) (s2 := 0) hF (c_X5_overlapsOf G w0 w1 w2 w3 w4 w5 w6 w7 w8 w9 w10 w11 w12 w13 w14 w15 w16 n v m j (nI 0) b2 e2 xs a.toNatClampNeg (by first | assumption | omega) (by first | assumption | omega)) gX5_accept_X5_overlapsOf rfl rfl rfl hd_X5_overlapsOf ⟨⟨Nat.le_of_ble_eq_true rfl, Nat.le_of_ble_eq_true rfl⟩, ⟨Nat.le_of_ble_eq_true rfl, Nat.le_of_ble_eq_true rfl⟩, Nat.le_of_ble_eq_true rfl⟩ [0, 5, 6, 10] rfl rfl 0 rfl rfl rfl rfl rfl rfl rfl rfl rfl rfl dX5_accept_46 ?_
      refine z_if_ne (tgt := 95) hF dX5_accept_49 (by decide) (fun h3 => ?_) (fun h3 => ?_)
      · refine z_aload_n hF dX5_accept_95 rfl ?_
        refine z_iconst (v := nI 2) hF dX5_accept_96 (by decide) ?_
        refine z_V (As := [.int (nI 2)]) (rest := []) (ws' := [(w0, .inr (5, [.int (nI 2), .int (nI n), .ref w1, .int (nI v), .int (nI m), .ref w2, .ref w3, .ref w4, .ref w5, .ref w6, .ref w7, .ref w8, .ref w9, .ref w10, .ref w11, .int (nI j), .ref w12, .ref w13, .ref w14, .ref w15, .ref w16])), (w1, eI G 60 f), (w2, eI G 12 b), (w3, eI G 12 e), (w4, eI G 12 s), (w12, eI G 10 b2), (w13, eI G 10 e2), (w11, eI G 3612 tn), (w14, eI G 10 xl), (w15, eI G 10 xc), (w16, eI G 10 xs)]) (st2 := [.int (nI 0)]) (c2 := 0) (s2 := 0) hF (c_X5_fails G w0 w1 w2 w3 w4 w5 w6 w7 w8 w9 w10 w11 w12 w13 w14 w15 w16 n v m j (nI 0) (nI 2)) gX5_accept_X5_fails rfl rfl rfl hd_X5_fails ⟨⟨Nat.le_of_ble_eq_true rfl, Nat.le_of_ble_eq_true rfl⟩, ⟨Nat.le_of_ble_eq_true rfl, Nat.le_of_ble_eq_true rfl⟩, Nat.le_of_ble_eq_true rfl⟩ [0] rfl rfl 0 rfl rfl rfl rfl rfl rfl rfl rfl rfl rfl dX5_accept_97 ?_
        exact hR.i dX5_accept_100 (Nat.le_of_ble_eq_true rfl) (Nat.le_of_ble_eq_true rfl) (by rw [show (if (fz (cmC j a) (fz (waC (xs a.toNatClampNeg)) (fz (if ovM b2 e2 xs a.toNatClampNeg j = 0 then 0 else 3) (roC n v (nI z - nI (q - p)) (nI 2))))) = 3 then 2 else (fz (cmC j a) (fz (waC (xs a.toNatClampNeg)) (fz (if ovM b2 e2 xs a.toNatClampNeg j = 0 then 0 else 3) (roC n v (nI z - nI (q - p)) (nI 2)))))) = 2 from (by (try simp only [fz]); grind)]) (rfl)
      · have hw9 := waI.mpr h2
        obtain ⟨hb, he, hpq, hqn⟩ := hw h1 hw9
        have hrt := roT (n := n) (v := v) (z := z) (t := q - p) (d := 2) (by omega) (by omega) (by omega) (by omega) (by omega)
        refine z_lv (lv' := [some (.ref w0), some (.int (nI a.toNatClampNeg)), some (.int (b2 a.toNatClampNeg)), some (.int (nI (q - p))), none]) (by rw [hb, he, pk_sub (by omega)]) ?_
        refine z_lv (lv' := [some (.ref w0), some (.int (nI a.toNatClampNeg)), some (.int (nI p)), some (.int (nI (q - p))), none]) (by rw [hb]) ?_
        refine z_aload_n hF dX5_accept_52 rfl ?_
        refine z_get (C := RX5) (T := TX5) (N := 21) (ci := 5) (v := .int (nI n)) hF k_0 1 (by decide) rfl k_5 rfl 0 rfl rfl dX5_accept_53 ?_
        refine z_iload_n hF dX5_accept_56 rfl ?_
        refine z_isub hF dX5_accept_57 ?_
        refine z_top (pk_sub (by omega)) ?_
        refine z_aload_n hF dX5_accept_58 rfl ?_
        refine z_get (C := RX5) (T := TX5) (N := 21) (ci := 5) (v := .ref w15) hF k_0 19 (by decide) rfl k_6 rfl 0 rfl rfl dX5_accept_59 ?_
        refine z_iload_n hF dX5_accept_62 rfl ?_
        refine z_iald (k := a.toNatClampNeg) hF 9 rfl (rfl) (by omega) rfl dX5_accept_63 ?_
        refine z_top (y := nI z) (hz) ?_
        refine z_iadd hF dX5_accept_64 ?_
        refine z_top (nI_add (n - (q - p)) z) ?_
        refine z_bipush (v := nI 60) hF dX5_accept_65 (by decide) ?_
        refine z_icn_gt (tgt := 95) hF (by omega) (by omega) dX5_accept_67 (by decide) (fun h4 => ?_) (fun h4 => ?_)
        · refine z_aload_n hF dX5_accept_95 rfl ?_
          refine z_iconst (v := nI 2) hF dX5_accept_96 (by decide) ?_
          refine z_V (As := [.int (nI 2)]) (rest := []) (ws' := [(w0, .inr (5, [.int (nI 2), .int (nI n), .ref w1, .int (nI v), .int (nI m), .ref w2, .ref w3, .ref w4, .ref w5, .ref w6, .ref w7, .ref w8, .ref w9, .ref w10, .ref w11, .int (nI j), .ref w12, .ref w13, .ref w14, .ref w15, .ref w16])), (w1, eI G 60 f), (w2, eI G 12 b), (w3, eI G 12 e), (w4, eI G 12 s), (w12, eI G 10 b2), (w13, eI G 10 e2), (w11, eI G 3612 tn), (w14, eI G 10 xl), (w15, eI G 10 xc), (w16, eI G 10 xs)]) (st2 := [.int (nI 0)]) (c2 := 0) (s2 := 0) hF (c_X5_fails G w0 w1 w2 w3 w4 w5 w6 w7 w8 w9 w10 w11 w12 w13 w14 w15 w16 n v m j (nI 0) (nI 2)) gX5_accept_X5_fails rfl rfl rfl hd_X5_fails ⟨⟨Nat.le_of_ble_eq_true rfl, Nat.le_of_ble_eq_true rfl⟩, ⟨Nat.le_of_ble_eq_true rfl, Nat.le_of_ble_eq_true rfl⟩, Nat.le_of_ble_eq_true rfl⟩ [0] rfl rfl 0 rfl rfl rfl rfl rfl rfl rfl rfl rfl rfl dX5_accept_97 ?_
          exact hR.i dX5_accept_100 (Nat.le_of_ble_eq_true rfl) (Nat.le_of_ble_eq_true rfl) (by rw [show (if (fz (cmC j a) (fz (waC (xs a.toNatClampNeg)) (fz (if ovM b2 e2 xs a.toNatClampNeg j = 0 then 0 else 3) (roC n v (nI z - nI (q - p)) (nI 2))))) = 3 then 2 else (fz (cmC j a) (fz (waC (xs a.toNatClampNeg)) (fz (if ovM b2 e2 xs a.toNatClampNeg j = 0 then 0 else 3) (roC n v (nI z - nI (q - p)) (nI 2)))))) = 2 from (by (try simp only [fz]); grind)]) (rfl)
        · refine z_aload_n hF dX5_accept_70 rfl ?_
          refine z_get (C := RX5) (T := TX5) (N := 21) (ci := 5) (v := .int (nI v)) hF k_0 3 (by decide) rfl k_7 rfl 0 rfl rfl dX5_accept_71 ?_
          refine z_aload_n hF dX5_accept_74 rfl ?_
          refine z_get (C := RX5) (T := TX5) (N := 21) (ci := 5) (v := .ref w15) hF k_0 19 (by decide) rfl k_6 rfl 0 rfl rfl dX5_accept_75 ?_
          refine z_iload_n hF dX5_accept_78 rfl ?_
          refine z_iald (k := a.toNatClampNeg) hF 9 rfl (rfl) (by omega) rfl dX5_accept_79 ?_
          refine z_top (y := nI z) (hz) ?_
          refine z_ifn_le (tgt := 87) hF (by omega) dX5_accept_80 (by decide) (fun c_1 => absurd c_1 (by omega)) (fun c_1 => ?_)
          refine z_iconst (v := nI 2) hF dX5_accept_83 (by decide) ?_
          refine z_goto (tgt := 88) hF dX5_accept_84 (by decide) ?_
          refine z_iadd hF dX5_accept_88 ?_
          refine z_top (nI_add v 2) ?_
          refine z_sipush (v := nI 300) hF dX5_accept_89 (by decide) ?_
          refine z_icn_le (tgt := 101) hF (by omega) (by omega) dX5_accept_92 (by decide) (fun h5 => ?_) (fun h5 => ?_)
          · have hr : roC n v (nI z - nI (q - p)) (nI 2) = 0 := hrt.mpr ⟨by omega, by omega⟩
            exact absurd (by (try simp only [fz]); grind : (fz (cmC j a) (fz (waC (xs a.toNatClampNeg)) (fz (if ovM b2 e2 xs a.toNatClampNeg j = 0 then 0 else 3) (roC n v (nI z - nI (q - p)) (nI 2))))) = 0) hc
          · refine z_aload_n hF dX5_accept_95 rfl ?_
            refine z_iconst (v := nI 2) hF dX5_accept_96 (by decide) ?_
            refine z_V (As := [.int (nI 2)]) (rest := []) (ws' := [(w0, .inr (5, [.int (nI 2), .int (nI n), .ref w1, .int (nI v), .int (nI m), .ref w2, .ref w3, .ref w4, .ref w5, .ref w6, .ref w7, .ref w8, .ref w9, .ref w10, .ref w11, .int (nI j), .ref w12, .ref w13, .ref w14, .ref w15, .ref w16])), (w1, eI G 60 f), (w2, eI G 12 b), (w3, eI G 12 e), (w4, eI G 12 s), (w12, eI G 10 b2), (w13, eI G 10 e2), (w11, eI G 3612 tn), (w14, eI G 10 xl), (w15, eI G 10 xc), (w16, eI G 10 xs)]) (st2 := [.int (nI 0)]) (c2 := 0) (s2 := 0) hF (c_X5_fails G w0 w1 w2 w3 w4 w5 w6 w7 w8 w9 w10 w11 w12 w13 w14 w15 w16 n v m j (nI 0) (nI 2)) gX5_accept_X5_fails rfl rfl rfl hd_X5_fails ⟨⟨Nat.le_of_ble_eq_true rfl, Nat.le_of_ble_eq_true rfl⟩, ⟨Nat.le_of_ble_eq_true rfl, Nat.le_of_ble_eq_true rfl⟩, Nat.le_of_ble_eq_true rfl⟩ [0] rfl rfl 0 rfl rfl rfl rfl rfl rfl rfl rfl rfl rfl dX5_accept_97 ?_
            exact hR.i dX5_accept_100 (Nat.le_of_ble_eq_true rfl) (Nat.le_of_ble_eq_true rfl) (by rw [show (if (fz (cmC j a) (fz (waC (xs a.toNatClampNeg)) (fz (if ovM b2 e2 xs a.toNatClampNeg j = 0 then 0 else 3) (roC n v (nI z - nI (q - p)) (nI 2))))) = 3 then 2 else (fz (cmC j a) (fz (waC (xs a.toNatClampNeg)) (fz (if ovM b2 e2 xs a.toNatClampNeg j = 0 then 0 else 3) (roC n v (nI z - nI (q - p)) (nI 2)))))) = 2 from (by (try simp only [fz]); grind)]) (rfl)
  · refine z_aload_n hF dX5_accept_13 rfl ?_
    refine z_iconst (v := nI 1) hF dX5_accept_14 (by decide) ?_
    refine z_V (As := [.int (nI 1)]) (rest := []) (ws' := [(w0, .inr (5, [.int (nI 1), .int (nI n), .ref w1, .int (nI v), .int (nI m), .ref w2, .ref w3, .ref w4, .ref w5, .ref w6, .ref w7, .ref w8, .ref w9, .ref w10, .ref w11, .int (nI j), .ref w12, .ref w13, .ref w14, .ref w15, .ref w16])), (w1, eI G 60 f), (w2, eI G 12 b), (w3, eI G 12 e), (w4, eI G 12 s), (w12, eI G 10 b2), (w13, eI G 10 e2), (w11, eI G 3612 tn), (w14, eI G 10 xl), (w15, eI G 10 xc), (w16, eI G 10 xs)]) (st2 := [.int (nI 0)]) (c2 := 0) (s2 := 0) hF (c_X5_fails G w0 w1 w2 w3 w4 w5 w6 w7 w8 w9 w10 w11 w12 w13 w14 w15 w16 n v m j (nI 0) (nI 1)) gX5_accept_X5_fails rfl rfl rfl hd_X5_fails ⟨⟨Nat.le_of_ble_eq_true rfl, Nat.le_of_ble_eq_true rfl⟩, ⟨Nat.le_of_ble_eq_true rfl, Nat.le_of_ble_eq_true rfl⟩, Nat.le_of_ble_eq_true rfl⟩ [0] rfl rfl 0 rfl rfl rfl rfl rfl rfl rfl rfl rfl rfl dX5_accept_15 ?_
    exact hR.i dX5_accept_18 (Nat.le_of_ble_eq_true rfl) (Nat.le_of_ble_eq_true rfl) (by rw [show (if (fz (cmC j a) (fz (waC (xs a.toNatClampNeg)) (fz (if ovM b2 e2 xs a.toNatClampNeg j = 0 then 0 else 3) (roC n v (nI z - nI (q - p)) (nI 2))))) = 3 then 2 else (fz (cmC j a) (fz (waC (xs a.toNatClampNeg)) (fz (if ovM b2 e2 xs a.toNatClampNeg j = 0 then 0 else 3) (roC n v (nI z - nI (q - p)) (nI 2)))))) = 1 from (by (try simp only [fz]); grind)]) (rfl)
set_option maxHeartbeats 4000000 in
set_option maxRecDepth 100000 in
theorem c_X5_accept1_k (G : zG) (w0 w1 w2 w3 w4 w5 w6 w7 w8 w9 w10 w11 w12 w13 w14 w15 w16 n v m j : Nat) (th : Int32) (f : Nat → Int32) (b : Nat → Int32) (e : Nat → Int32) (s : Nat → Int32) (tn : Nat → Int32) (b2 : Nat → Int32) (e2 : Nat → Int32) (xl : Nat → Int32) (xc : Nat → Int32) (xs : Nat → Int32) (a : Int32) (p q : Nat) (z : Nat) (hn : n ≤ 60) (hm : m ≤ 12) (hj : j ≤ 10) (hv : v ≤ 300) (hs : ∀ i, i < m → st4 (s i)) (hw : cmC j a = 0 → waC (xs a.toNatClampNeg) = 0 → b2 a.toNatClampNeg = nI p ∧ e2 a.toNatClampNeg = nI q ∧ p < q ∧ q ≤ n) (hz : xc a.toNatClampNeg = nI z) (hz0 : 0 < z) (hz5 : z ≤ 5) (hc : (fz (cmC j a) (fz (waC (xs a.toNatClampNeg)) (fz (if ovM b2 e2 xs a.toNatClampNeg j = 0 then 0 else 3) (roC n v (nI z - nI (q - p)) (nI 2))))) = 0) : zM G yX5_accept wsX5_accept ({ frames := 2, cells := 0, slots := 0, locals := 60 }) [.ref w0, .int a] [(w0, .inr (5, [.int th, .int (nI n), .ref w1, .int (nI v), .int (nI m), .ref w2, .ref w3, .ref w4, .ref w5, .ref w6, .ref w7, .ref w8, .ref w9, .ref w10, .ref w11, .int (nI j), .ref w12, .ref w13, .ref w14, .ref w15, .ref w16])), (w1, eI G 60 f), (w2, eI G 12 b), (w3, eI G 12 e), (w4, eI G 12 s), (w12, eI G 10 b2), (w13, eI G 10 e2), (w11, eI G 3612 tn), (w14, eI G 10 xl), (w15, eI G 10 xc), (w16, eI G 10 xs)] [(w0, .inr (5, [.int (nI 0), .int (nI ((n - (q - p)) + z)), .ref w1, .int (nI ((v + 1) + 1)), .int (nI m), .ref w2, .ref w3, .ref w4, .ref w5, .ref w6, .ref w7, .ref w8, .ref w9, .ref w10, .ref w11, .int (nI j), .ref w12, .ref w13, .ref w14, .ref w15, .ref w16])), (w1, eI G 60 (filF (va_cpy (va_cpy f f (p + (q - p)) p (n - (p + (q - p)))) (va_cpy f f (p + (q - p)) p (n - (p + (q - p)))) p (p + z) ((n - (q - p)) - p)) p (p + z) (xl a.toNatClampNeg))), (w2, eI G 12 (mpF m (insB (nI p) (nI z) (mpF m (remB (nI p) (nI (q - p)) b e) b) s) (mpF m (remB (nI p) (nI (q - p)) b e) b))), (w3, eI G 12 (mpF m (insE (nI p) (nI z) (mpF m (remB (nI p) (nI (q - p)) b e) b) (mpF m (remE (nI p) (nI (q - p)) b e) e) s) (mpF m (remE (nI p) (nI (q - p)) b e) e))), (w4, eI G 12 s), (w12, eI G 10 (mpF j (siB (nI p) (nI z) (mpF j (slB (nI p) (nI (q - p)) b2) b2)) (mpF j (slB (nI p) (nI (q - p)) b2) b2))), (w13, eI G 10 (mpF j (siE (nI p) (nI z) (mpF j (slB (nI p) (nI (q - p)) e2) e2)) (mpF j (slB (nI p) (nI (q - p)) e2) e2))), (w11, eI G 3612 (wrF (wrF tn ((v + 1) * 12) 12 (fun kk => if kk < m then numF ((mpF m (remB (nI p) (nI (q - p)) b e) b) kk) ((mpF m (remE (nI p) (nI (q - p)) b e) e) kk) else -1)) (((v + 1) + 1) * 12) 12 (fun kk => if kk < m then numF ((mpF m (insB (nI p) (nI z) (mpF m (remB (nI p) (nI (q - p)) b e) b) s) (mpF m (remB (nI p) (nI (q - p)) b e) b)) kk) ((mpF m (insE (nI p) (nI z) (mpF m (remB (nI p) (nI (q - p)) b e) b) (mpF m (remE (nI p) (nI (q - p)) b e) e) s) (mpF m (remE (nI p) (nI (q - p)) b e) e)) kk) else -1))), (w14, eI G 10 xl), (w15, eI G 10 xc), (w16, eI G 10 (upd (mpF j (slS (nI p) (nI (q - p)) (nI a.toNatClampNeg) b2 e2 xs) xs) a.toNatClampNeg (nI 1)))] (some (.int (nI ((n - (q - p)) + z)))) 0 0 := by
  refine zM.ofI (own := RX5) (cc := cX5_accept) (maxL := 5) rfl (by decide) rfl rfl (by simp [Value.category]) (Nat.le_of_ble_eq_true rfl) ?_
  intro X hF hR
  have k_0 : ∀ w ∈ wsX50, w ∈ wsX5_accept := by decide +kernel
  have k_1 : zH X (.fieldLink RX5 62 "MarginDeskModel" "thrown" "I") := hF.w (by decide +kernel)
  have k_2 : zH X (.fieldLink RX5 44 "MarginDeskModel" "first" "[I") := hF.w (by decide +kernel)
  have k_3 : zH X (.fieldLink RX5 47 "MarginDeskModel" "last" "[I") := hF.w (by decide +kernel)
  have k_4 : zH X (.fieldLink RX5 56 "MarginDeskModel" "state" "[I") := hF.w (by decide +kernel)
  have k_5 : zH X (.fieldLink RX5 66 "MarginDeskModel" "length" "I") := hF.w (by decide +kernel)
  have k_6 : zH X (.fieldLink RX5 53 "MarginDeskModel" "count" "[I") := hF.w (by decide +kernel)
  have k_7 : zH X (.fieldLink RX5 79 "MarginDeskModel" "edits" "I") := hF.w (by decide +kernel)
  have k_8 : zH X (.fieldLink RX5 50 "MarginDeskModel" "letter" "[I") := hF.w (by decide +kernel)
  refine z_lv (lv' := [some (.ref w0), some (.int a), none, none, none]) rfl ?_
  have d_0 := cmC_d j a
  have d_1 := waC_d (xs a.toNatClampNeg)
  have d_2 := waI (x := xs a.toNatClampNeg)
  have d_3 := roC_d n v (nI z - nI (q - p)) (nI 2)
  refine z_aload_n hF dX5_accept_0 rfl ?_
  refine z_iconst (v := nI 0) hF dX5_accept_1 (by decide) ?_
  refine z_put (C := RX5) (T := TX5) (N := 21) (ci := 5) (ws' := [(w0, .inr (5, [.int (nI 0), .int (nI n), .ref w1, .int (nI v), .int (nI m), .ref w2, .ref w3, .ref w4, .ref w5, .ref w6, .ref w7, .ref w8, .ref w9, .ref w10, .ref w11, .int (nI j), .ref w12, .ref w13, .ref w14, .ref w15, .ref w16])), (w1, eI G 60 f), (w2, eI G 12 b), (w3, eI G 12 e), (w4, eI G 12 s), (w12, eI G 10 b2), (w13, eI G 10 e2), (w11, eI G 3612 tn), (w14, eI G 10 xl), (w15, eI G 10 xc), (w16, eI G 10 xs)]) hF k_0 tyX5 tyX5_ok nmX5 0 (by decide) rfl k_1 rfl rfl rfl rfl 0 rfl rfl rfl dX5_accept_2 ?_
  refine z_aload_n hF dX5_accept_5 rfl ?_
  refine z_iload_n hF dX5_accept_6 rfl ?_
  refine z_V (As := [.int a]) (rest := []) (ws' := [(w0, .inr (5, [.int (nI 0), .int (nI n), .ref w1, .int (nI v), .int (nI m), .ref w2, .ref w3, .ref w4, .ref w5, .ref w6, .ref w7, .ref w8, .ref w9, .ref w10, .ref w11, .int (nI j), .ref w12, .ref w13, .ref w14, .ref w15, .ref w16])), (w1, eI G 60 f), (w2, eI G 12 b), (w3, eI G 12 e), (w4, eI G 12 s), (w12, eI G 10 b2), (w13, eI G 10 e2), (w11, eI G 3612 tn), (w14, eI G 10 xl), (w15, eI G 10 xc), (w16, eI G 10 xs)]) (st2 := [.int (zb (cmC j a = 0))]) (c2 := 0) (s2 := 0) hF (c_X5_isSuggestion G w0 w1 w2 w3 w4 w5 w6 w7 w8 w9 w10 w11 w12 w13 w14 w15 w16 n v m j (nI 0) a (by first | assumption | omega)) gX5_accept_X5_isSuggestion rfl rfl rfl hd_X5_isSuggestion ⟨⟨Nat.le_of_ble_eq_true rfl, Nat.le_of_ble_eq_true rfl⟩, ⟨Nat.le_of_ble_eq_true rfl, Nat.le_of_ble_eq_true rfl⟩, Nat.le_of_ble_eq_true rfl⟩ [0] rfl rfl 0 rfl rfl rfl rfl rfl rfl rfl rfl rfl rfl dX5_accept_7 ?_
  refine z_if_ne_b (tgt := 19) hF dX5_accept_10 (by decide) (fun h1 => ?_) (fun h1 => ?_)
  · have ha := cmC_0 (by omega) h1
    refine z_lv (lv' := [some (.ref w0), some (.int (nI a.toNatClampNeg)), none, none, none]) (by rw [← ha.1]) ?_
    refine z_aload_n hF dX5_accept_19 rfl ?_
    refine z_get (C := RX5) (T := TX5) (N := 21) (ci := 5) (v := .ref w12) hF k_0 16 (by decide) rfl k_2 rfl 0 rfl rfl dX5_accept_20 ?_
    refine z_iload_n hF dX5_accept_23 rfl ?_
    refine z_iald (k := a.toNatClampNeg) hF 5 rfl (rfl) (by omega) rfl dX5_accept_24 ?_
    refine z_istore_n (lv' := [some (.ref w0), some (.int (nI a.toNatClampNeg)), some (.int (b2 a.toNatClampNeg)), none, none]) hF dX5_accept_25 rfl rfl ?_
    refine z_aload_n hF dX5_accept_26 rfl ?_
    refine z_get (C := RX5) (T := TX5) (N := 21) (ci := 5) (v := .ref w13) hF k_0 17 (by decide) rfl k_3 rfl 0 rfl rfl dX5_accept_27 ?_
    refine z_iload_n hF dX5_accept_30 rfl ?_
    refine z_iald (k := a.toNatClampNeg) hF 6 rfl (rfl) (by omega) rfl dX5_accept_31 ?_
    refine z_iload_n hF dX5_accept_32 rfl ?_
    refine z_isub hF dX5_accept_33 ?_
    refine z_istore_n (lv' := [some (.ref w0), some (.int (nI a.toNatClampNeg)), some (.int (b2 a.toNatClampNeg)), some (.int ((e2 a.toNatClampNeg) - (b2 a.toNatClampNeg))), none]) hF dX5_accept_34 rfl rfl ?_
    refine z_aload_n hF dX5_accept_35 rfl ?_
    refine z_get (C := RX5) (T := TX5) (N := 21) (ci := 5) (v := .ref w16) hF k_0 20 (by decide) rfl k_4 rfl 0 rfl rfl dX5_accept_36 ?_
    refine z_iload_n hF dX5_accept_39 rfl ?_
    refine z_iald (k := a.toNatClampNeg) hF 10 rfl (rfl) (by omega) rfl dX5_accept_40 ?_
    refine z_if_ne (tgt := 95) hF dX5_accept_41 (by decide) (fun h2 => ?_) (fun h2 => ?_)
    · exact absurd hc (by (try simp only [fz]); grind)
    · refine z_aload_n hF dX5_accept_44 rfl ?_
      refine z_iload_n hF dX5_accept_45 rfl ?_
      refine z_V (As := [.int (nI a.toNatClampNeg)]) (rest := []) (ws' := [(w0, .inr (5, [.int (nI 0), .int (nI n), .ref w1, .int (nI v), .int (nI m), .ref w2, .ref w3, .ref w4, .ref w5, .ref w6, .ref w7, .ref w8, .ref w9, .ref w10, .ref w11, .int (nI j), .ref w12, .ref w13, .ref w14, .ref w15, .ref w16])), (w1, eI G 60 f), (w2, eI G 12 b), (w3, eI G 12 e), (w4, eI G 12 s), (w12, eI G 10 b2), (w13, eI G 10 e2), (w11, eI G 3612 tn), (w14, eI G 10 xl), (w15, eI G 10 xc), (w16, eI G 10 xs)]) (st2 := [.int (ovM b2 e2 xs a.toNatClampNeg j)]) (c2 := 0) (s2 := 0) hF (c_X5_overlapsOf G w0 w1 w2 w3 w4 w5 w6 w7 w8 w9 w10 w11 w12 w13 w14 w15 w16 n v m j (nI 0) b2 e2 xs a.toNatClampNeg (by first | assumption | omega) (by first | assumption | omega)) gX5_accept_X5_overlapsOf rfl rfl rfl hd_X5_overlapsOf ⟨⟨Nat.le_of_ble_eq_true rfl, Nat.le_of_ble_eq_true rfl⟩, ⟨Nat.le_of_ble_eq_true rfl, Nat.le_of_ble_eq_true rfl⟩, Nat.le_of_ble_eq_true rfl⟩ [0, 5, 6, 10] rfl rfl 0 rfl rfl rfl rfl rfl rfl rfl rfl rfl rfl dX5_accept_46 ?_
      refine z_if_ne (tgt := 95) hF dX5_accept_49 (by decide) (fun h3 => ?_) (fun h3 => ?_)
      · exact absurd hc (by (try simp only [fz]); grind)
      · have hw9 := waI.mpr h2
        obtain ⟨hb, he, hpq, hqn⟩ := hw h1 hw9
        have hrt := roT (n := n) (v := v) (z := z) (t := q - p) (d := 2) (by omega) (by omega) (by omega) (by omega) (by omega)
        refine z_lv (lv' := [some (.ref w0), some (.int (nI a.toNatClampNeg)), some (.int (b2 a.toNatClampNeg)), some (.int (nI (q - p))), none]) (by rw [hb, he, pk_sub (by omega)]) ?_
        refine z_lv (lv' := [some (.ref w0), some (.int (nI a.toNatClampNeg)), some (.int (nI p)), some (.int (nI (q - p))), none]) (by rw [hb]) ?_
        refine z_aload_n hF dX5_accept_52 rfl ?_
        refine z_get (C := RX5) (T := TX5) (N := 21) (ci := 5) (v := .int (nI n)) hF k_0 1 (by decide) rfl k_5 rfl 0 rfl rfl dX5_accept_53 ?_
        refine z_iload_n hF dX5_accept_56 rfl ?_
        refine z_isub hF dX5_accept_57 ?_
        refine z_top (pk_sub (by omega)) ?_
        refine z_aload_n hF dX5_accept_58 rfl ?_
        refine z_get (C := RX5) (T := TX5) (N := 21) (ci := 5) (v := .ref w15) hF k_0 19 (by decide) rfl k_6 rfl 0 rfl rfl dX5_accept_59 ?_
        refine z_iload_n hF dX5_accept_62 rfl ?_
        refine z_iald (k := a.toNatClampNeg) hF 9 rfl (rfl) (by omega) rfl dX5_accept_63 ?_
        refine z_top (y := nI z) (hz) ?_
        refine z_iadd hF dX5_accept_64 ?_
        refine z_top (nI_add (n - (q - p)) z) ?_
        refine z_bipush (v := nI 60) hF dX5_accept_65 (by decide) ?_
        refine z_icn_gt (tgt := 95) hF (by omega) (by omega) dX5_accept_67 (by decide) (fun h4 => ?_) (fun h4 => ?_)
        · exact absurd hc (by (try simp only [fz]); grind)
        · refine z_aload_n hF dX5_accept_70 rfl ?_
          refine z_get (C := RX5) (T := TX5) (N := 21) (ci := 5) (v := .int (nI v)) hF k_0 3 (by decide) rfl k_7 rfl 0 rfl rfl dX5_accept_71 ?_
          refine z_aload_n hF dX5_accept_74 rfl ?_
          refine z_get (C := RX5) (T := TX5) (N := 21) (ci := 5) (v := .ref w15) hF k_0 19 (by decide) rfl k_6 rfl 0 rfl rfl dX5_accept_75 ?_
          refine z_iload_n hF dX5_accept_78 rfl ?_
          refine z_iald (k := a.toNatClampNeg) hF 9 rfl (rfl) (by omega) rfl dX5_accept_79 ?_
          refine z_top (y := nI z) (hz) ?_
          refine z_ifn_le (tgt := 87) hF (by omega) dX5_accept_80 (by decide) (fun c_1 => absurd c_1 (by omega)) (fun c_1 => ?_)
          refine z_iconst (v := nI 2) hF dX5_accept_83 (by decide) ?_
          refine z_goto (tgt := 88) hF dX5_accept_84 (by decide) ?_
          refine z_iadd hF dX5_accept_88 ?_
          refine z_top (nI_add v 2) ?_
          refine z_sipush (v := nI 300) hF dX5_accept_89 (by decide) ?_
          refine z_icn_le (tgt := 101) hF (by omega) (by omega) dX5_accept_92 (by decide) (fun h5 => ?_) (fun h5 => ?_)
          · have hr : roC n v (nI z - nI (q - p)) (nI 2) = 0 := hrt.mpr ⟨by omega, by omega⟩
            have hrs := roC_s (n := n) (v := v) (z := z) (t := q - p) (d := 2) (by omega) (by omega) (by omega) (by omega) (by omega) hr
            refine z_aload_n hF dX5_accept_101 rfl ?_
            refine z_iload_n hF dX5_accept_102 rfl ?_
            refine z_iload_n hF dX5_accept_103 rfl ?_
            refine z_iload_n hF dX5_accept_104 rfl ?_
            refine z_V (As := [.int (nI p), .int (nI (q - p)), .int (nI a.toNatClampNeg)]) (rest := []) (ws' := [(w0, .inr (5, [.int (nI 0), .int (nI (n - (q - p))), .ref w1, .int (nI (v + 1)), .int (nI m), .ref w2, .ref w3, .ref w4, .ref w5, .ref w6, .ref w7, .ref w8, .ref w9, .ref w10, .ref w11, .int (nI j), .ref w12, .ref w13, .ref w14, .ref w15, .ref w16])), (w1, eI G 60 (va_cpy f f (p + (q - p)) p (n - (p + (q - p))))), (w2, eI G 12 (mpF m (remB (nI p) (nI (q - p)) b e) b)), (w3, eI G 12 (mpF m (remE (nI p) (nI (q - p)) b e) e)), (w4, eI G 12 s), (w12, eI G 10 (mpF j (slB (nI p) (nI (q - p)) b2) b2)), (w13, eI G 10 (mpF j (slB (nI p) (nI (q - p)) e2) e2)), (w11, eI G 3612 tn), (w14, eI G 10 xl), (w15, eI G 10 xc), (w16, eI G 10 (mpF j (slS (nI p) (nI (q - p)) (nI a.toNatClampNeg) b2 e2 xs) xs))]) (st2 := [.int (nI (cntF (gonP (nI p) (nI (q - p)) b e) m))]) (c2 := 0) (s2 := 0) hF (c_X5_removes G w0 w1 w2 w3 w4 w5 w6 w7 w8 w9 w10 w11 w12 w13 w14 w15 w16 n v m j (nI 0) f b e b2 e2 xs p (q - p) (nI a.toNatClampNeg) (by first | assumption | omega) (by first | assumption | omega) (by first | assumption | omega) (by first | assumption | omega)) gX5_accept_X5_removes rfl rfl rfl hd_X5_removes ⟨⟨Nat.le_of_ble_eq_true rfl, Nat.le_of_ble_eq_true rfl⟩, ⟨Nat.le_of_ble_eq_true rfl, Nat.le_of_ble_eq_true rfl⟩, Nat.le_of_ble_eq_true rfl⟩ [0, 1, 2, 3, 5, 6, 10] rfl rfl 0 rfl rfl rfl rfl rfl rfl rfl rfl rfl rfl dX5_accept_105 ?_
            refine z_istore (lv' := [some (.ref w0), some (.int (nI a.toNatClampNeg)), some (.int (nI p)), some (.int (nI (q - p))), some (.int (nI (cntF (gonP (nI p) (nI (q - p)) b e) m)))]) hF dX5_accept_108 rfl rfl ?_
            refine z_aload_n hF dX5_accept_110 rfl ?_
            refine z_V (As := []) (rest := []) (ws' := [(w0, .inr (5, [.int (nI 0), .int (nI (n - (q - p))), .ref w1, .int (nI (v + 1)), .int (nI m), .ref w2, .ref w3, .ref w4, .ref w5, .ref w6, .ref w7, .ref w8, .ref w9, .ref w10, .ref w11, .int (nI j), .ref w12, .ref w13, .ref w14, .ref w15, .ref w16])), (w1, eI G 60 (va_cpy f f (p + (q - p)) p (n - (p + (q - p))))), (w2, eI G 12 (mpF m (remB (nI p) (nI (q - p)) b e) b)), (w3, eI G 12 (mpF m (remE (nI p) (nI (q - p)) b e) e)), (w4, eI G 12 s), (w12, eI G 10 (mpF j (slB (nI p) (nI (q - p)) b2) b2)), (w13, eI G 10 (mpF j (slB (nI p) (nI (q - p)) e2) e2)), (w11, eI G 3612 (wrF tn ((v + 1) * 12) 12 (fun kk => if kk < m then numF ((mpF m (remB (nI p) (nI (q - p)) b e) b) kk) ((mpF m (remE (nI p) (nI (q - p)) b e) e) kk) else -1))), (w14, eI G 10 xl), (w15, eI G 10 xc), (w16, eI G 10 (mpF j (slS (nI p) (nI (q - p)) (nI a.toNatClampNeg) b2 e2 xs) xs))]) (st2 := []) (c2 := 0) (s2 := 0) hF (c_X5_keeps G w0 w1 w2 w3 w4 w5 w6 w7 w8 w9 w10 w11 w12 w13 w14 w15 w16 (n - (q - p)) (v + 1) m j (nI 0) (mpF m (remB (nI p) (nI (q - p)) b e) b) (mpF m (remE (nI p) (nI (q - p)) b e) e) tn (by first | assumption | omega) (by first | assumption | omega)) gX5_accept_X5_keeps rfl rfl rfl hd_X5_keeps ⟨⟨Nat.le_of_ble_eq_true rfl, Nat.le_of_ble_eq_true rfl⟩, ⟨Nat.le_of_ble_eq_true rfl, Nat.le_of_ble_eq_true rfl⟩, Nat.le_of_ble_eq_true rfl⟩ [0, 2, 3, 7] rfl rfl 0 rfl rfl rfl rfl rfl rfl rfl rfl rfl rfl dX5_accept_111 ?_
            refine z_aload_n hF dX5_accept_114 rfl ?_
            refine z_get (C := RX5) (T := TX5) (N := 21) (ci := 5) (v := .ref w16) hF k_0 20 (by decide) rfl k_4 rfl 0 rfl rfl dX5_accept_115 ?_
            refine z_iload_n hF dX5_accept_118 rfl ?_
            refine z_iconst (v := nI 1) hF dX5_accept_119 (by decide) ?_
            refine z_iast (k := a.toNatClampNeg) (ws' := [(w0, .inr (5, [.int (nI 0), .int (nI (n - (q - p))), .ref w1, .int (nI (v + 1)), .int (nI m), .ref w2, .ref w3, .ref w4, .ref w5, .ref w6, .ref w7, .ref w8, .ref w9, .ref w10, .ref w11, .int (nI j), .ref w12, .ref w13, .ref w14, .ref w15, .ref w16])), (w1, eI G 60 (va_cpy f f (p + (q - p)) p (n - (p + (q - p))))), (w2, eI G 12 (mpF m (remB (nI p) (nI (q - p)) b e) b)), (w3, eI G 12 (mpF m (remE (nI p) (nI (q - p)) b e) e)), (w4, eI G 12 s), (w12, eI G 10 (mpF j (slB (nI p) (nI (q - p)) b2) b2)), (w13, eI G 10 (mpF j (slB (nI p) (nI (q - p)) e2) e2)), (w11, eI G 3612 (wrF tn ((v + 1) * 12) 12 (fun kk => if kk < m then numF ((mpF m (remB (nI p) (nI (q - p)) b e) b) kk) ((mpF m (remE (nI p) (nI (q - p)) b e) e) kk) else -1))), (w14, eI G 10 xl), (w15, eI G 10 xc), (w16, eI G 10 (upd (mpF j (slS (nI p) (nI (q - p)) (nI a.toNatClampNeg) b2 e2 xs) xs) a.toNatClampNeg (nI 1)))]) hF 10 rfl (rfl) (by omega) rfl rfl dX5_accept_120 ?_
            refine z_aload_n hF dX5_accept_121 rfl ?_
            refine z_get (C := RX5) (T := TX5) (N := 21) (ci := 5) (v := .ref w15) hF k_0 19 (by decide) rfl k_6 rfl 0 rfl rfl dX5_accept_122 ?_
            refine z_iload_n hF dX5_accept_125 rfl ?_
            refine z_iald (k := a.toNatClampNeg) hF 9 rfl (rfl) (by omega) rfl dX5_accept_126 ?_
            refine z_top (y := nI z) (hz) ?_
            refine z_ifn_le (tgt := 151) hF (by omega) dX5_accept_127 (by decide) (fun c_2 => absurd c_2 (by omega)) (fun c_2 => ?_)
            refine z_aload_n hF dX5_accept_130 rfl ?_
            refine z_iload_n hF dX5_accept_131 rfl ?_
            refine z_aload_n hF dX5_accept_132 rfl ?_
            refine z_get (C := RX5) (T := TX5) (N := 21) (ci := 5) (v := .ref w14) hF k_0 18 (by decide) rfl k_8 rfl 0 rfl rfl dX5_accept_133 ?_
            refine z_iload_n hF dX5_accept_136 rfl ?_
            refine z_iald (k := a.toNatClampNeg) hF 8 rfl (rfl) (by omega) rfl dX5_accept_137 ?_
            refine z_aload_n hF dX5_accept_138 rfl ?_
            refine z_get (C := RX5) (T := TX5) (N := 21) (ci := 5) (v := .ref w15) hF k_0 19 (by decide) rfl k_6 rfl 0 rfl rfl dX5_accept_139 ?_
            refine z_iload_n hF dX5_accept_142 rfl ?_
            refine z_iald (k := a.toNatClampNeg) hF 9 rfl (rfl) (by omega) rfl dX5_accept_143 ?_
            refine z_top (y := nI z) (hz) ?_
            refine z_V (As := [.int (nI p), .int (xl a.toNatClampNeg), .int (nI z)]) (rest := []) (ws' := [(w0, .inr (5, [.int (nI 0), .int (nI ((n - (q - p)) + z)), .ref w1, .int (nI ((v + 1) + 1)), .int (nI m), .ref w2, .ref w3, .ref w4, .ref w5, .ref w6, .ref w7, .ref w8, .ref w9, .ref w10, .ref w11, .int (nI j), .ref w12, .ref w13, .ref w14, .ref w15, .ref w16])), (w1, eI G 60 (filF (va_cpy (va_cpy f f (p + (q - p)) p (n - (p + (q - p)))) (va_cpy f f (p + (q - p)) p (n - (p + (q - p)))) p (p + z) ((n - (q - p)) - p)) p (p + z) (xl a.toNatClampNeg))), (w2, eI G 12 (mpF m (insB (nI p) (nI z) (mpF m (remB (nI p) (nI (q - p)) b e) b) s) (mpF m (remB (nI p) (nI (q - p)) b e) b))), (w3, eI G 12 (mpF m (insE (nI p) (nI z) (mpF m (remB (nI p) (nI (q - p)) b e) b) (mpF m (remE (nI p) (nI (q - p)) b e) e) s) (mpF m (remE (nI p) (nI (q - p)) b e) e))), (w4, eI G 12 s), (w12, eI G 10 (mpF j (siB (nI p) (nI z) (mpF j (slB (nI p) (nI (q - p)) b2) b2)) (mpF j (slB (nI p) (nI (q - p)) b2) b2))), (w13, eI G 10 (mpF j (siE (nI p) (nI z) (mpF j (slB (nI p) (nI (q - p)) e2) e2)) (mpF j (slB (nI p) (nI (q - p)) e2) e2))), (w11, eI G 3612 (wrF tn ((v + 1) * 12) 12 (fun kk => if kk < m then numF ((mpF m (remB (nI p) (nI (q - p)) b e) b) kk) ((mpF m (remE (nI p) (nI (q - p)) b e) e) kk) else -1))), (w14, eI G 10 xl), (w15, eI G 10 xc), (w16, eI G 10 (upd (mpF j (slS (nI p) (nI (q - p)) (nI a.toNatClampNeg) b2 e2 xs) xs) a.toNatClampNeg (nI 1)))]) (st2 := []) (c2 := 0) (s2 := 0) hF (c_X5_inserts G w0 w1 w2 w3 w4 w5 w6 w7 w8 w9 w10 w11 w12 w13 w14 w15 w16 (n - (q - p)) (v + 1) m j (nI 0) (va_cpy f f (p + (q - p)) p (n - (p + (q - p)))) (mpF m (remB (nI p) (nI (q - p)) b e) b) (mpF m (remE (nI p) (nI (q - p)) b e) e) s (mpF j (slB (nI p) (nI (q - p)) b2) b2) (mpF j (slB (nI p) (nI (q - p)) e2) e2) p z (xl a.toNatClampNeg) (by first | assumption | omega) (by first | assumption | omega) (by first | assumption | omega) (by first | assumption | omega) (by first | assumption | omega)) gX5_accept_X5_inserts rfl rfl rfl hd_X5_inserts ⟨⟨Nat.le_of_ble_eq_true rfl, Nat.le_of_ble_eq_true rfl⟩, ⟨Nat.le_of_ble_eq_true rfl, Nat.le_of_ble_eq_true rfl⟩, Nat.le_of_ble_eq_true rfl⟩ [0, 1, 2, 3, 4, 5, 6] rfl rfl 0 rfl rfl rfl rfl rfl rfl rfl rfl rfl rfl dX5_accept_144 ?_
            refine z_aload_n hF dX5_accept_147 rfl ?_
            refine z_V (As := []) (rest := []) (ws' := [(w0, .inr (5, [.int (nI 0), .int (nI ((n - (q - p)) + z)), .ref w1, .int (nI ((v + 1) + 1)), .int (nI m), .ref w2, .ref w3, .ref w4, .ref w5, .ref w6, .ref w7, .ref w8, .ref w9, .ref w10, .ref w11, .int (nI j), .ref w12, .ref w13, .ref w14, .ref w15, .ref w16])), (w1, eI G 60 (filF (va_cpy (va_cpy f f (p + (q - p)) p (n - (p + (q - p)))) (va_cpy f f (p + (q - p)) p (n - (p + (q - p)))) p (p + z) ((n - (q - p)) - p)) p (p + z) (xl a.toNatClampNeg))), (w2, eI G 12 (mpF m (insB (nI p) (nI z) (mpF m (remB (nI p) (nI (q - p)) b e) b) s) (mpF m (remB (nI p) (nI (q - p)) b e) b))), (w3, eI G 12 (mpF m (insE (nI p) (nI z) (mpF m (remB (nI p) (nI (q - p)) b e) b) (mpF m (remE (nI p) (nI (q - p)) b e) e) s) (mpF m (remE (nI p) (nI (q - p)) b e) e))), (w4, eI G 12 s), (w12, eI G 10 (mpF j (siB (nI p) (nI z) (mpF j (slB (nI p) (nI (q - p)) b2) b2)) (mpF j (slB (nI p) (nI (q - p)) b2) b2))), (w13, eI G 10 (mpF j (siE (nI p) (nI z) (mpF j (slB (nI p) (nI (q - p)) e2) e2)) (mpF j (slB (nI p) (nI (q - p)) e2) e2))), (w11, eI G 3612 (wrF (wrF tn ((v + 1) * 12) 12 (fun kk => if kk < m then numF ((mpF m (remB (nI p) (nI (q - p)) b e) b) kk) ((mpF m (remE (nI p) (nI (q - p)) b e) e) kk) else -1)) (((v + 1) + 1) * 12) 12 (fun kk => if kk < m then numF ((mpF m (insB (nI p) (nI z) (mpF m (remB (nI p) (nI (q - p)) b e) b) s) (mpF m (remB (nI p) (nI (q - p)) b e) b)) kk) ((mpF m (insE (nI p) (nI z) (mpF m (remB (nI p) (nI (q - p)) b e) b) (mpF m (remE (nI p) (nI (q - p)) b e) e) s) (mpF m (remE (nI p) (nI (q - p)) b e) e)) kk) else -1))), (w14, eI G 10 xl), (w15, eI G 10 xc), (w16, eI G 10 (upd (mpF j (slS (nI p) (nI (q - p)) (nI a.toNatClampNeg) b2 e2 xs) xs) a.toNatClampNeg (nI 1)))]) (st2 := []) (c2 := 0) (s2 := 0) hF (c_X5_keeps G w0 w1 w2 w3 w4 w5 w6 w7 w8 w9 w10 w11 w12 w13 w14 w15 w16 ((n - (q - p)) + z) ((v + 1) + 1) m j (nI 0) (mpF m (insB (nI p) (nI z) (mpF m (remB (nI p) (nI (q - p)) b e) b) s) (mpF m (remB (nI p) (nI (q - p)) b e) b)) (mpF m (insE (nI p) (nI z) (mpF m (remB (nI p) (nI (q - p)) b e) b) (mpF m (remE (nI p) (nI (q - p)) b e) e) s) (mpF m (remE (nI p) (nI (q - p)) b e) e)) (wrF tn ((v + 1) * 12) 12 (fun kk => if kk < m then numF ((mpF m (remB (nI p) (nI (q - p)) b e) b) kk) ((mpF m (remE (nI p) (nI (q - p)) b e) e) kk) else -1)) (by first | assumption | omega) (by first | assumption | omega)) gX5_accept_X5_keeps rfl rfl rfl hd_X5_keeps ⟨⟨Nat.le_of_ble_eq_true rfl, Nat.le_of_ble_eq_true rfl⟩, ⟨Nat.le_of_ble_eq_true rfl, Nat.le_of_ble_eq_true rfl⟩, Nat.le_of_ble_eq_true rfl⟩ [0, 2, 3, 7] rfl rfl 0 rfl rfl rfl rfl rfl rfl rfl rfl rfl rfl dX5_accept_148 ?_
            refine z_aload_n hF dX5_accept_151 rfl ?_
            refine z_get (C := RX5) (T := TX5) (N := 21) (ci := 5) (v := .int (nI ((n - (q - p)) + z))) hF k_0 1 (by decide) rfl k_5 rfl 0 rfl rfl dX5_accept_152 ?_
            exact hR.i dX5_accept_155 (Nat.le_of_ble_eq_true rfl) (Nat.le_of_ble_eq_true rfl) (rfl) (rfl)
          · exact absurd hc (by (try simp only [fz]); grind)
  · exact absurd hc (by (try simp only [fz]); grind)
