set_option maxHeartbeats 4000000 in
set_option maxRecDepth 100000 in
theorem c_X5_rangeThen_f (G : zG) (w0 w1 w2 w3 w4 w5 w6 w7 w8 w9 w10 w11 w12 w13 w14 w15 w16 n v m j : Nat) (th : Int32) (tn : Nat → Int32) (a w : Int32) (hm : m ≤ 12) (hv : v ≤ 300) (hc : ¬ (fz (cmC m a) (plC v w)) = 0) : zM G yX5_rangeThen wsX5_rangeThen ({ frames := 2, cells := 0, slots := 0, locals := 55 }) [.ref w0, .int a, .int w] [(w0, .inr (5, [.int th, .int (nI n), .ref w1, .int (nI v), .int (nI m), .ref w2, .ref w3, .ref w4, .ref w5, .ref w6, .ref w7, .ref w8, .ref w9, .ref w10, .ref w11, .int (nI j), .ref w12, .ref w13, .ref w14, .ref w15, .ref w16])), (w11, eI G 3612 tn)] [(w0, .inr (5, [.int (nI (fz (cmC m a) (plC v w))), .int (nI n), .ref w1, .int (nI v), .int (nI m), .ref w2, .ref w3, .ref w4, .ref w5, .ref w6, .ref w7, .ref w8, .ref w9, .ref w10, .ref w11, .int (nI j), .ref w12, .ref w13, .ref w14, .ref w15, .ref w16])), (w11, eI G 3612 tn)] (some (.int (nI 0))) 0 0 := by
  refine zM.ofI (own := RX5) (cc := cX5_rangeThen) (maxL := 3) rfl (by decide) rfl rfl (by simp [Value.category]) (Nat.le_of_ble_eq_true rfl) ?_
  intro X hF hR
  have k_0 : ∀ w ∈ wsX50, w ∈ wsX5_rangeThen := by decide +kernel
  have k_1 : zH X (.fieldLink RX5 62 "MarginDeskModel" "thrown" "I") := hF.w (by decide +kernel)
  have k_2 : zH X (.fieldLink RX5 79 "MarginDeskModel" "edits" "I") := hF.w (by decide +kernel)
  refine z_lv (lv' := [some (.ref w0), some (.int a), some (.int w)]) rfl ?_
  have d_0 := cmC_d m a
  have d_1 := plC_d v w
  refine z_aload_n hF dX5_rangeThen_0 rfl ?_
  refine z_iconst (v := nI 0) hF dX5_rangeThen_1 (by decide) ?_
  refine z_put (C := RX5) (T := TX5) (N := 21) (ci := 5) (ws' := [(w0, .inr (5, [.int (nI 0), .int (nI n), .ref w1, .int (nI v), .int (nI m), .ref w2, .ref w3, .ref w4, .ref w5, .ref w6, .ref w7, .ref w8, .ref w9, .ref w10, .ref w11, .int (nI j), .ref w12, .ref w13, .ref w14, .ref w15, .ref w16])), (w11, eI G 3612 tn)]) hF k_0 tyX5 tyX5_ok nmX5 0 (by decide) rfl k_1 rfl rfl rfl rfl 0 rfl rfl rfl dX5_rangeThen_2 ?_
  refine z_aload_n hF dX5_rangeThen_5 rfl ?_
  refine z_iload_n hF dX5_rangeThen_6 rfl ?_
  refine z_V (As := [.int a]) (rest := []) (ws' := [(w0, .inr (5, [.int (nI 0), .int (nI n), .ref w1, .int (nI v), .int (nI m), .ref w2, .ref w3, .ref w4, .ref w5, .ref w6, .ref w7, .ref w8, .ref w9, .ref w10, .ref w11, .int (nI j), .ref w12, .ref w13, .ref w14, .ref w15, .ref w16])), (w11, eI G 3612 tn)]) (st2 := [.int (zb (cmC m a = 0))]) (c2 := 0) (s2 := 0) hF (c_X5_isComment G w0 w1 w2 w3 w4 w5 w6 w7 w8 w9 w10 w11 w12 w13 w14 w15 w16 n v m j (nI 0) a (by first | assumption | omega)) gX5_rangeThen_X5_isComment rfl rfl rfl hd_X5_isComment ⟨⟨Nat.le_of_ble_eq_true rfl, Nat.le_of_ble_eq_true rfl⟩, ⟨Nat.le_of_ble_eq_true rfl, Nat.le_of_ble_eq_true rfl⟩, Nat.le_of_ble_eq_true rfl⟩ [0] rfl rfl 0 rfl rfl rfl rfl rfl rfl rfl rfl rfl rfl dX5_rangeThen_7 ?_
  refine z_if_eq_b (tgt := 39) hF dX5_rangeThen_10 (by decide) (fun c_1 => ?_) (fun c_1 => ?_)
  · refine z_aload_n hF dX5_rangeThen_39 rfl ?_
    refine z_iconst (v := nI 1) hF dX5_rangeThen_40 (by decide) ?_
    refine z_V (As := [.int (nI 1)]) (rest := []) (ws' := [(w0, .inr (5, [.int (nI 1), .int (nI n), .ref w1, .int (nI v), .int (nI m), .ref w2, .ref w3, .ref w4, .ref w5, .ref w6, .ref w7, .ref w8, .ref w9, .ref w10, .ref w11, .int (nI j), .ref w12, .ref w13, .ref w14, .ref w15, .ref w16])), (w11, eI G 3612 tn)]) (st2 := [.int (nI 0)]) (c2 := 0) (s2 := 0) hF (c_X5_fails G w0 w1 w2 w3 w4 w5 w6 w7 w8 w9 w10 w11 w12 w13 w14 w15 w16 n v m j (nI 0) (nI 1)) gX5_rangeThen_X5_fails rfl rfl rfl hd_X5_fails ⟨⟨Nat.le_of_ble_eq_true rfl, Nat.le_of_ble_eq_true rfl⟩, ⟨Nat.le_of_ble_eq_true rfl, Nat.le_of_ble_eq_true rfl⟩, Nat.le_of_ble_eq_true rfl⟩ [0] rfl rfl 0 rfl rfl rfl rfl rfl rfl rfl rfl rfl rfl dX5_rangeThen_41 ?_
    exact hR.i dX5_rangeThen_44 (Nat.le_of_ble_eq_true rfl) (Nat.le_of_ble_eq_true rfl) (by rw [show (fz (cmC m a) (plC v w)) = 1 from (by (try simp only [fz]); grind)]) (rfl)
  · refine z_iload_n hF dX5_rangeThen_13 rfl ?_
    refine z_iconst (v := nI 0) hF dX5_rangeThen_14 (by decide) ?_
    refine z_aload_n hF dX5_rangeThen_15 rfl ?_
    refine z_get (C := RX5) (T := TX5) (N := 21) (ci := 5) (v := .int (nI v)) hF k_0 3 (by decide) rfl k_2 rfl 0 rfl rfl dX5_rangeThen_16 ?_
    refine z_S (As := [.int w, .int (nI 0), .int (nI v)]) (rest := []) (ws' := [(w0, .inr (5, [.int (nI 0), .int (nI n), .ref w1, .int (nI v), .int (nI m), .ref w2, .ref w3, .ref w4, .ref w5, .ref w6, .ref w7, .ref w8, .ref w9, .ref w10, .ref w11, .int (nI j), .ref w12, .ref w13, .ref w14, .ref w15, .ref w16])), (w11, eI G 3612 tn)]) (st2 := [.int (zb ((nI 0) ≤ w ∧ w ≤ (nI v)))]) (c2 := 0) (s2 := 0) hF (c_X5_in G w (nI 0) (nI v)) gX5_rangeThen_X5_in rfl rfl rfl hs_X5_in ⟨⟨Nat.le_of_ble_eq_true rfl, Nat.le_of_ble_eq_true rfl⟩, ⟨Nat.le_of_ble_eq_true rfl, Nat.le_of_ble_eq_true rfl⟩, Nat.le_of_ble_eq_true rfl⟩ [] rfl rfl rfl rfl rfl rfl rfl rfl rfl rfl dX5_rangeThen_19 ?_
    refine z_top (y := zb (plC v w = 0)) (zb_iff inL_pl) ?_
    refine z_if_eq_b (tgt := 39) hF dX5_rangeThen_22 (by decide) (fun c_2 => ?_) (fun c_2 => ?_)
    · refine z_aload_n hF dX5_rangeThen_39 rfl ?_
      refine z_iconst (v := nI 1) hF dX5_rangeThen_40 (by decide) ?_
      refine z_V (As := [.int (nI 1)]) (rest := []) (ws' := [(w0, .inr (5, [.int (nI 1), .int (nI n), .ref w1, .int (nI v), .int (nI m), .ref w2, .ref w3, .ref w4, .ref w5, .ref w6, .ref w7, .ref w8, .ref w9, .ref w10, .ref w11, .int (nI j), .ref w12, .ref w13, .ref w14, .ref w15, .ref w16])), (w11, eI G 3612 tn)]) (st2 := [.int (nI 0)]) (c2 := 0) (s2 := 0) hF (c_X5_fails G w0 w1 w2 w3 w4 w5 w6 w7 w8 w9 w10 w11 w12 w13 w14 w15 w16 n v m j (nI 0) (nI 1)) gX5_rangeThen_X5_fails rfl rfl rfl hd_X5_fails ⟨⟨Nat.le_of_ble_eq_true rfl, Nat.le_of_ble_eq_true rfl⟩, ⟨Nat.le_of_ble_eq_true rfl, Nat.le_of_ble_eq_true rfl⟩, Nat.le_of_ble_eq_true rfl⟩ [0] rfl rfl 0 rfl rfl rfl rfl rfl rfl rfl rfl rfl rfl dX5_rangeThen_41 ?_
      exact hR.i dX5_rangeThen_44 (Nat.le_of_ble_eq_true rfl) (Nat.le_of_ble_eq_true rfl) (by rw [show (fz (cmC m a) (plC v w)) = 1 from (by (try simp only [fz]); grind)]) (rfl)
    · exact absurd (by (try simp only [fz]); grind : (fz (cmC m a) (plC v w)) = 0) hc
set_option maxHeartbeats 4000000 in
set_option maxRecDepth 100000 in
theorem c_X5_rangeThen_k (G : zG) (w0 w1 w2 w3 w4 w5 w6 w7 w8 w9 w10 w11 w12 w13 w14 w15 w16 n v m j : Nat) (th : Int32) (tn : Nat → Int32) (a w : Int32) (hm : m ≤ 12) (hv : v ≤ 300) (hc : (fz (cmC m a) (plC v w)) = 0) : zM G yX5_rangeThen wsX5_rangeThen ({ frames := 2, cells := 0, slots := 0, locals := 55 }) [.ref w0, .int a, .int w] [(w0, .inr (5, [.int th, .int (nI n), .ref w1, .int (nI v), .int (nI m), .ref w2, .ref w3, .ref w4, .ref w5, .ref w6, .ref w7, .ref w8, .ref w9, .ref w10, .ref w11, .int (nI j), .ref w12, .ref w13, .ref w14, .ref w15, .ref w16])), (w11, eI G 3612 tn)] [(w0, .inr (5, [.int (nI 0), .int (nI n), .ref w1, .int (nI v), .int (nI m), .ref w2, .ref w3, .ref w4, .ref w5, .ref w6, .ref w7, .ref w8, .ref w9, .ref w10, .ref w11, .int (nI j), .ref w12, .ref w13, .ref w14, .ref w15, .ref w16])), (w11, eI G 3612 tn)] (some (.int (tn (w.toNatClampNeg * 12 + a.toNatClampNeg)))) 0 0 := by
  refine zM.ofI (own := RX5) (cc := cX5_rangeThen) (maxL := 3) rfl (by decide) rfl rfl (by simp [Value.category]) (Nat.le_of_ble_eq_true rfl) ?_
  intro X hF hR
  have k_0 : ∀ w ∈ wsX50, w ∈ wsX5_rangeThen := by decide +kernel
  have k_1 : zH X (.fieldLink RX5 62 "MarginDeskModel" "thrown" "I") := hF.w (by decide +kernel)
  have k_2 : zH X (.fieldLink RX5 79 "MarginDeskModel" "edits" "I") := hF.w (by decide +kernel)
  have k_3 : zH X (.fieldLink RX5 41 "MarginDeskModel" "then" "[I") := hF.w (by decide +kernel)
  refine z_lv (lv' := [some (.ref w0), some (.int a), some (.int w)]) rfl ?_
  have d_0 := cmC_d m a
  have d_1 := plC_d v w
  refine z_aload_n hF dX5_rangeThen_0 rfl ?_
  refine z_iconst (v := nI 0) hF dX5_rangeThen_1 (by decide) ?_
  refine z_put (C := RX5) (T := TX5) (N := 21) (ci := 5) (ws' := [(w0, .inr (5, [.int (nI 0), .int (nI n), .ref w1, .int (nI v), .int (nI m), .ref w2, .ref w3, .ref w4, .ref w5, .ref w6, .ref w7, .ref w8, .ref w9, .ref w10, .ref w11, .int (nI j), .ref w12, .ref w13, .ref w14, .ref w15, .ref w16])), (w11, eI G 3612 tn)]) hF k_0 tyX5 tyX5_ok nmX5 0 (by decide) rfl k_1 rfl rfl rfl rfl 0 rfl rfl rfl dX5_rangeThen_2 ?_
  refine z_aload_n hF dX5_rangeThen_5 rfl ?_
  refine z_iload_n hF dX5_rangeThen_6 rfl ?_
  refine z_V (As := [.int a]) (rest := []) (ws' := [(w0, .inr (5, [.int (nI 0), .int (nI n), .ref w1, .int (nI v), .int (nI m), .ref w2, .ref w3, .ref w4, .ref w5, .ref w6, .ref w7, .ref w8, .ref w9, .ref w10, .ref w11, .int (nI j), .ref w12, .ref w13, .ref w14, .ref w15, .ref w16])), (w11, eI G 3612 tn)]) (st2 := [.int (zb (cmC m a = 0))]) (c2 := 0) (s2 := 0) hF (c_X5_isComment G w0 w1 w2 w3 w4 w5 w6 w7 w8 w9 w10 w11 w12 w13 w14 w15 w16 n v m j (nI 0) a (by first | assumption | omega)) gX5_rangeThen_X5_isComment rfl rfl rfl hd_X5_isComment ⟨⟨Nat.le_of_ble_eq_true rfl, Nat.le_of_ble_eq_true rfl⟩, ⟨Nat.le_of_ble_eq_true rfl, Nat.le_of_ble_eq_true rfl⟩, Nat.le_of_ble_eq_true rfl⟩ [0] rfl rfl 0 rfl rfl rfl rfl rfl rfl rfl rfl rfl rfl dX5_rangeThen_7 ?_
  refine z_if_eq_b (tgt := 39) hF dX5_rangeThen_10 (by decide) (fun c_1 => ?_) (fun c_1 => ?_)
  · exact absurd hc (by (try simp only [fz]); grind)
  · refine z_iload_n hF dX5_rangeThen_13 rfl ?_
    refine z_iconst (v := nI 0) hF dX5_rangeThen_14 (by decide) ?_
    refine z_aload_n hF dX5_rangeThen_15 rfl ?_
    refine z_get (C := RX5) (T := TX5) (N := 21) (ci := 5) (v := .int (nI v)) hF k_0 3 (by decide) rfl k_2 rfl 0 rfl rfl dX5_rangeThen_16 ?_
    refine z_S (As := [.int w, .int (nI 0), .int (nI v)]) (rest := []) (ws' := [(w0, .inr (5, [.int (nI 0), .int (nI n), .ref w1, .int (nI v), .int (nI m), .ref w2, .ref w3, .ref w4, .ref w5, .ref w6, .ref w7, .ref w8, .ref w9, .ref w10, .ref w11, .int (nI j), .ref w12, .ref w13, .ref w14, .ref w15, .ref w16])), (w11, eI G 3612 tn)]) (st2 := [.int (zb ((nI 0) ≤ w ∧ w ≤ (nI v)))]) (c2 := 0) (s2 := 0) hF (c_X5_in G w (nI 0) (nI v)) gX5_rangeThen_X5_in rfl rfl rfl hs_X5_in ⟨⟨Nat.le_of_ble_eq_true rfl, Nat.le_of_ble_eq_true rfl⟩, ⟨Nat.le_of_ble_eq_true rfl, Nat.le_of_ble_eq_true rfl⟩, Nat.le_of_ble_eq_true rfl⟩ [] rfl rfl rfl rfl rfl rfl rfl rfl rfl rfl dX5_rangeThen_19 ?_
    refine z_top (y := zb (plC v w = 0)) (zb_iff inL_pl) ?_
    refine z_if_eq_b (tgt := 39) hF dX5_rangeThen_22 (by decide) (fun c_2 => ?_) (fun c_2 => ?_)
    · exact absurd hc (by (try simp only [fz]); grind)
    · have h1 : cmC m a = 0 := by simp only [fz] at hc; grind
      have h2 : plC v w = 0 := by simp only [fz] at hc; grind
      have ha := cmC_0 (by omega) h1
      have hw := plC_0 (by omega) h2
      refine z_lv (lv' := [some (.ref w0), some (.int (nI a.toNatClampNeg)), some (.int w)]) (by rw [← ha.1]) ?_
      refine z_lv (lv' := [some (.ref w0), some (.int (nI a.toNatClampNeg)), some (.int (nI w.toNatClampNeg))]) (by rw [← hw.1]) ?_
      refine z_aload_n hF dX5_rangeThen_25 rfl ?_
      refine z_get (C := RX5) (T := TX5) (N := 21) (ci := 5) (v := .ref w11) hF k_0 14 (by decide) rfl k_3 rfl 0 rfl rfl dX5_rangeThen_26 ?_
      refine z_bipush (v := nI 12) hF dX5_rangeThen_29 (by decide) ?_
      refine z_iload_n hF dX5_rangeThen_31 rfl ?_
      refine z_imul hF dX5_rangeThen_32 ?_
      refine z_top (pk_mul 12 w.toNatClampNeg) ?_
      refine z_iload_n hF dX5_rangeThen_33 rfl ?_
      refine z_iadd hF dX5_rangeThen_34 ?_
      refine z_top (nI_add (12 * w.toNatClampNeg) a.toNatClampNeg) ?_
      refine z_iald (k := w.toNatClampNeg * 12 + a.toNatClampNeg) hF 1 rfl (by rw [Nat.mul_comm 12]) (by omega) rfl dX5_rangeThen_35 ?_
      refine z_goto (tgt := 44) hF dX5_rangeThen_36 (by decide) ?_
      exact hR.i dX5_rangeThen_44 (Nat.le_of_ble_eq_true rfl) (Nat.le_of_ble_eq_true rfl) (rfl) (rfl)
