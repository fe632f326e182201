set_option maxHeartbeats 4000000 in
set_option maxRecDepth 100000 in
theorem c_X5_resolve_f (G : zG) (w0 w1 w2 w3 w4 w5 w6 w7 w8 w9 w10 w11 w12 w13 w14 w15 w16 n v m j : Nat) (th : Int32) (op : Nat → Int32) (a : Int32) (hm : m ≤ 12) (hc : ¬ cmC m a = 0) : zM G yX5_resolve wsX5_resolve ({ frames := 2, cells := 0, slots := 0, locals := 55 }) [.ref w0, .int a] [(w0, .inr (5, [.int th, .int (nI n), .ref w1, .int (nI v), .int (nI m), .ref w2, .ref w3, .ref w4, .ref w5, .ref w6, .ref w7, .ref w8, .ref w9, .ref w10, .ref w11, .int (nI j), .ref w12, .ref w13, .ref w14, .ref w15, .ref w16])), (w5, eZ G 12 op)] [(w0, .inr (5, [.int (nI (cmC m a)), .int (nI n), .ref w1, .int (nI v), .int (nI m), .ref w2, .ref w3, .ref w4, .ref w5, .ref w6, .ref w7, .ref w8, .ref w9, .ref w10, .ref w11, .int (nI j), .ref w12, .ref w13, .ref w14, .ref w15, .ref w16])), (w5, eZ G 12 op)] (some (.int (zb False))) 0 0 := by
  refine zM.ofI (own := RX5) (cc := cX5_resolve) (maxL := 3) rfl (by decide) rfl zb_nar (by simp [Value.category]) (Nat.le_of_ble_eq_true rfl) ?_
  intro X hF hR
  have k_0 : ∀ w ∈ wsX50, w ∈ wsX5_resolve := by decide +kernel
  have k_1 : zH X (.fieldLink RX5 62 "MarginDeskModel" "thrown" "I") := hF.w (by decide +kernel)
  refine z_lv (lv' := [some (.ref w0), some (.int a), none]) rfl ?_
  have d_0 := cmC_d m a
  refine z_aload_n hF dX5_resolve_0 rfl ?_
  refine z_aload_n hF dX5_resolve_1 rfl ?_
  refine z_iload_n hF dX5_resolve_2 rfl ?_
  refine z_V (As := [.int a]) (rest := [.ref w0]) (ws' := [(w0, .inr (5, [.int th, .int (nI n), .ref w1, .int (nI v), .int (nI m), .ref w2, .ref w3, .ref w4, .ref w5, .ref w6, .ref w7, .ref w8, .ref w9, .ref w10, .ref w11, .int (nI j), .ref w12, .ref w13, .ref w14, .ref w15, .ref w16])), (w5, eZ G 12 op)]) (st2 := [.int (zb (cmC m a = 0)), .ref w0]) (c2 := 0) (s2 := 0) hF (c_X5_isComment G w0 w1 w2 w3 w4 w5 w6 w7 w8 w9 w10 w11 w12 w13 w14 w15 w16 n v m j th a (by first | assumption | omega)) gX5_resolve_X5_isComment rfl rfl rfl hd_X5_isComment ⟨⟨Nat.le_of_ble_eq_true rfl, Nat.le_of_ble_eq_true rfl⟩, ⟨Nat.le_of_ble_eq_true rfl, Nat.le_of_ble_eq_true rfl⟩, Nat.le_of_ble_eq_true rfl⟩ [0] rfl rfl 0 rfl rfl rfl rfl rfl rfl rfl rfl rfl rfl dX5_resolve_3 ?_
  refine z_if_eq_b (tgt := 13) hF dX5_resolve_6 (by decide) (fun c_1 => ?_) (fun c_1 => ?_)
  · refine z_iconst (v := nI 1) hF dX5_resolve_13 (by decide) ?_
    refine z_put (C := RX5) (T := TX5) (N := 21) (ci := 5) (ws' := [(w0, .inr (5, [.int (nI 1), .int (nI n), .ref w1, .int (nI v), .int (nI m), .ref w2, .ref w3, .ref w4, .ref w5, .ref w6, .ref w7, .ref w8, .ref w9, .ref w10, .ref w11, .int (nI j), .ref w12, .ref w13, .ref w14, .ref w15, .ref w16])), (w5, eZ G 12 op)]) hF k_0 tyX5 tyX5_ok nmX5 0 (by decide) rfl k_1 rfl rfl rfl rfl 0 rfl rfl rfl dX5_resolve_14 ?_
    refine z_aload_n hF dX5_resolve_17 rfl ?_
    refine z_get (C := RX5) (T := TX5) (N := 21) (ci := 5) (v := .int (nI 1)) hF k_0 0 (by decide) rfl k_1 rfl 0 rfl rfl dX5_resolve_18 ?_
    refine z_if_ne (tgt := 37) hF dX5_resolve_21 (by decide) (fun c_2 => ?_) (fun c_2 => absurd c_2 (by decide))
    refine z_iconst (v := nI 0) hF dX5_resolve_37 (by decide) ?_
    refine z_istore_n (lv' := [some (.ref w0), some (.int a), some (.int (nI 0))]) hF dX5_resolve_38 rfl rfl ?_
    refine z_iload_n hF dX5_resolve_39 rfl ?_
    refine z_if_eq (tgt := 50) hF dX5_resolve_40 (by decide) (fun c_3 => ?_) (fun c_3 => absurd c_3 (by decide))
    refine z_iload_n hF dX5_resolve_50 rfl ?_
    exact hR.i dX5_resolve_51 (Nat.le_of_ble_eq_true rfl) (Nat.le_of_ble_eq_true rfl) (by rw [show cmC m a = 1 by grind]) (by first | rfl | decide)
  · exact absurd (by grind : cmC m a = 0) hc
set_option maxHeartbeats 4000000 in
set_option maxRecDepth 100000 in
theorem c_X5_resolve_k (G : zG) (w0 w1 w2 w3 w4 w5 w6 w7 w8 w9 w10 w11 w12 w13 w14 w15 w16 n v m j : Nat) (th : Int32) (op : Nat → Int32) (a : Int32) (hm : m ≤ 12) (hc : cmC m a = 0) : zM G yX5_resolve wsX5_resolve ({ frames := 2, cells := 0, slots := 0, locals := 55 }) [.ref w0, .int a] [(w0, .inr (5, [.int th, .int (nI n), .ref w1, .int (nI v), .int (nI m), .ref w2, .ref w3, .ref w4, .ref w5, .ref w6, .ref w7, .ref w8, .ref w9, .ref w10, .ref w11, .int (nI j), .ref w12, .ref w13, .ref w14, .ref w15, .ref w16])), (w5, eZ G 12 op)] [(w0, .inr (5, [.int (nI 0), .int (nI n), .ref w1, .int (nI v), .int (nI m), .ref w2, .ref w3, .ref w4, .ref w5, .ref w6, .ref w7, .ref w8, .ref w9, .ref w10, .ref w11, .int (nI j), .ref w12, .ref w13, .ref w14, .ref w15, .ref w16])), (w5, eZ G 12 (upd op a.toNatClampNeg (nI 0)))] (some (.int (zb (¬ op a.toNatClampNeg = 0)))) 0 0 := by
  refine zM.ofI (own := RX5) (cc := cX5_resolve) (maxL := 3) rfl (by decide) rfl zb_nar (by simp [Value.category]) (Nat.le_of_ble_eq_true rfl) ?_
  intro X hF hR
  have k_0 : ∀ w ∈ wsX50, w ∈ wsX5_resolve := by decide +kernel
  have k_1 : zH X (.fieldLink RX5 62 "MarginDeskModel" "thrown" "I") := hF.w (by decide +kernel)
  have k_2 : zH X (.fieldLink RX5 22 "MarginDeskModel" "open" "[Z") := hF.w (by decide +kernel)
  refine z_lv (lv' := [some (.ref w0), some (.int a), none]) rfl ?_
  refine z_aload_n hF dX5_resolve_0 rfl ?_
  refine z_aload_n hF dX5_resolve_1 rfl ?_
  refine z_iload_n hF dX5_resolve_2 rfl ?_
  refine z_V (As := [.int a]) (rest := [.ref w0]) (ws' := [(w0, .inr (5, [.int th, .int (nI n), .ref w1, .int (nI v), .int (nI m), .ref w2, .ref w3, .ref w4, .ref w5, .ref w6, .ref w7, .ref w8, .ref w9, .ref w10, .ref w11, .int (nI j), .ref w12, .ref w13, .ref w14, .ref w15, .ref w16])), (w5, eZ G 12 op)]) (st2 := [.int (zb (cmC m a = 0)), .ref w0]) (c2 := 0) (s2 := 0) hF (c_X5_isComment G w0 w1 w2 w3 w4 w5 w6 w7 w8 w9 w10 w11 w12 w13 w14 w15 w16 n v m j th a (by first | assumption | omega)) gX5_resolve_X5_isComment rfl rfl rfl hd_X5_isComment ⟨⟨Nat.le_of_ble_eq_true rfl, Nat.le_of_ble_eq_true rfl⟩, ⟨Nat.le_of_ble_eq_true rfl, Nat.le_of_ble_eq_true rfl⟩, Nat.le_of_ble_eq_true rfl⟩ [0] rfl rfl 0 rfl rfl rfl rfl rfl rfl rfl rfl rfl rfl dX5_resolve_3 ?_
  refine z_if_eq_b (tgt := 13) hF dX5_resolve_6 (by decide) (fun c_1 => ?_) (fun c_1 => ?_)
  · exact absurd hc (by grind)
  · refine z_iconst (v := nI 0) hF dX5_resolve_9 (by decide) ?_
    refine z_goto (tgt := 14) hF dX5_resolve_10 (by decide) ?_
    refine z_put (C := RX5) (T := TX5) (N := 21) (ci := 5) (ws' := [(w0, .inr (5, [.int (nI 0), .int (nI n), .ref w1, .int (nI v), .int (nI m), .ref w2, .ref w3, .ref w4, .ref w5, .ref w6, .ref w7, .ref w8, .ref w9, .ref w10, .ref w11, .int (nI j), .ref w12, .ref w13, .ref w14, .ref w15, .ref w16])), (w5, eZ G 12 op)]) hF k_0 tyX5 tyX5_ok nmX5 0 (by decide) rfl k_1 rfl rfl rfl rfl 0 rfl rfl rfl dX5_resolve_14 ?_
    refine z_aload_n hF dX5_resolve_17 rfl ?_
    refine z_get (C := RX5) (T := TX5) (N := 21) (ci := 5) (v := .int (nI 0)) hF k_0 0 (by decide) rfl k_1 rfl 0 rfl rfl dX5_resolve_18 ?_
    refine z_if_ne (tgt := 37) hF dX5_resolve_21 (by decide) (fun c_2 => absurd c_2 (by decide)) (fun c_2 => ?_)
    have ha := cmC_0 (by omega) hc
    refine z_lv (lv' := [some (.ref w0), some (.int (nI a.toNatClampNeg)), none]) (by rw [← ha.1]) ?_
    refine z_aload_n hF dX5_resolve_24 rfl ?_
    refine z_get (C := RX5) (T := TX5) (N := 21) (ci := 5) (v := .ref w5) hF k_0 8 (by decide) rfl k_2 rfl 0 rfl rfl dX5_resolve_25 ?_
    refine z_iload_n hF dX5_resolve_28 rfl ?_
    refine z_zald (k := a.toNatClampNeg) hF 1 rfl (rfl) (by omega) rfl dX5_resolve_29 ?_
    refine z_if_eq (tgt := 37) hF dX5_resolve_30 (by decide) (fun c_3 => ?_) (fun c_3 => ?_)
    · refine z_iconst (v := nI 0) hF dX5_resolve_37 (by decide) ?_
      refine z_istore_n (lv' := [some (.ref w0), some (.int (nI a.toNatClampNeg)), some (.int (nI 0))]) hF dX5_resolve_38 rfl rfl ?_
      refine z_iload_n hF dX5_resolve_39 rfl ?_
      refine z_if_eq (tgt := 50) hF dX5_resolve_40 (by decide) (fun c_4 => ?_) (fun c_4 => absurd c_4 (by decide))
      refine z_ws (ws' := [(w0, .inr (5, [.int (nI 0), .int (nI n), .ref w1, .int (nI v), .int (nI m), .ref w2, .ref w3, .ref w4, .ref w5, .ref w6, .ref w7, .ref w8, .ref w9, .ref w10, .ref w11, .int (nI j), .ref w12, .ref w13, .ref w14, .ref w15, .ref w16])), (w5, eZ G 12 (upd op a.toNatClampNeg (nI 0)))]) (by rw [upd_id (by assumption)]) ?_
      refine z_iload_n hF dX5_resolve_50 rfl ?_
      exact hR.i dX5_resolve_51 (Nat.le_of_ble_eq_true rfl) (Nat.le_of_ble_eq_true rfl) (rfl) (by first | exact zb1 (by assumption) | exact zb0 (not_not_intro (by assumption)))
    · refine z_iconst (v := nI 1) hF dX5_resolve_33 (by decide) ?_
      refine z_goto (tgt := 38) hF dX5_resolve_34 (by decide) ?_
      refine z_istore_n (lv' := [some (.ref w0), some (.int (nI a.toNatClampNeg)), some (.int (nI 1))]) hF dX5_resolve_38 rfl rfl ?_
      refine z_iload_n hF dX5_resolve_39 rfl ?_
      refine z_if_eq (tgt := 50) hF dX5_resolve_40 (by decide) (fun c_5 => absurd c_5 (by decide)) (fun c_5 => ?_)
      refine z_aload_n hF dX5_resolve_43 rfl ?_
      refine z_get (C := RX5) (T := TX5) (N := 21) (ci := 5) (v := .ref w5) hF k_0 8 (by decide) rfl k_2 rfl 0 rfl rfl dX5_resolve_44 ?_
      refine z_iload_n hF dX5_resolve_47 rfl ?_
      refine z_iconst (v := nI 0) hF dX5_resolve_48 (by decide) ?_
      refine z_zast (k := a.toNatClampNeg) (ws' := [(w0, .inr (5, [.int (nI 0), .int (nI n), .ref w1, .int (nI v), .int (nI m), .ref w2, .ref w3, .ref w4, .ref w5, .ref w6, .ref w7, .ref w8, .ref w9, .ref w10, .ref w11, .int (nI j), .ref w12, .ref w13, .ref w14, .ref w15, .ref w16])), (w5, eZ G 12 (upd op a.toNatClampNeg (nI 0)))]) hF 1 rfl (rfl) (by omega) rfl (by decide) rfl dX5_resolve_49 ?_
      refine z_iload_n hF dX5_resolve_50 rfl ?_
      exact hR.i dX5_resolve_51 (Nat.le_of_ble_eq_true rfl) (Nat.le_of_ble_eq_true rfl) (rfl) (by first | exact zb1 (by assumption) | exact zb0 (not_not_intro (by assumption)))
