set_option maxHeartbeats 4000000 in
set_option maxRecDepth 100000 in
theorem c_X5_reject_k (G : zG) (w0 w1 w2 w3 w4 w5 w6 w7 w8 w9 w10 w11 w12 w13 w14 w15 w16 n v m j : Nat) (th : Int32) (xs : Nat → Int32) (a : Int32) (hj : j ≤ 10) (hc : (fz (cmC j a) (waC (xs a.toNatClampNeg))) = 0) : zM G yX5_reject wsX5_reject ({ frames := 2, cells := 0, slots := 0, locals := 55 }) [.ref w0, .int a] [(w0, .inr (5, [.int th, .int (nI n), .ref w1, .int (nI v), .int (nI m), .ref w2, .ref w3, .ref w4, .ref w5, .ref w6, .ref w7, .ref w8, .ref w9, .ref w10, .ref w11, .int (nI j), .ref w12, .ref w13, .ref w14, .ref w15, .ref w16])), (w16, eI G 10 xs)] [(w0, .inr (5, [.int (nI 0), .int (nI n), .ref w1, .int (nI v), .int (nI m), .ref w2, .ref w3, .ref w4, .ref w5, .ref w6, .ref w7, .ref w8, .ref w9, .ref w10, .ref w11, .int (nI j), .ref w12, .ref w13, .ref w14, .ref w15, .ref w16])), (w16, eI G 10 (upd xs a.toNatClampNeg (nI 2)))] (some (.int (nI (cntF (fun kk => upd xs a.toNatClampNeg (nI 2) kk = 0) j)))) 0 0 := by
  refine zM.ofI (own := RX5) (cc := cX5_reject) (maxL := 4) rfl (by decide) rfl rfl (by simp [Value.category]) (Nat.le_of_ble_eq_true rfl) ?_
  intro X hF hR
  have k_0 : ∀ w ∈ wsX50, w ∈ wsX5_reject := by decide +kernel
  have k_1 : zH X (.fieldLink RX5 62 "MarginDeskModel" "thrown" "I") := hF.w (by decide +kernel)
  have k_2 : zH X (.fieldLink RX5 56 "MarginDeskModel" "state" "[I") := hF.w (by decide +kernel)
  have k_3 : zH X (.fieldLink RX5 76 "MarginDeskModel" "suggestions" "I") := hF.w (by decide +kernel)
  refine z_lv (lv' := [some (.ref w0), some (.int a), none, none]) rfl ?_
  have d_0 := cmC_d j a
  have d_1 := waC_d (xs a.toNatClampNeg)
  have d_2 := waI (x := xs a.toNatClampNeg)
  refine z_aload_n hF dX5_reject_0 rfl ?_
  refine z_iconst (v := nI 0) hF dX5_reject_1 (by decide) ?_
  refine z_put (C := RX5) (T := TX5) (N := 21) (ci := 5) (ws' := [(w0, .inr (5, [.int (nI 0), .int (nI n), .ref w1, .int (nI v), .int (nI m), .ref w2, .ref w3, .ref w4, .ref w5, .ref w6, .ref w7, .ref w8, .ref w9, .ref w10, .ref w11, .int (nI j), .ref w12, .ref w13, .ref w14, .ref w15, .ref w16])), (w16, eI G 10 xs)]) hF k_0 tyX5 tyX5_ok nmX5 0 (by decide) rfl k_1 rfl rfl rfl rfl 0 rfl rfl rfl dX5_reject_2 ?_
  refine z_aload_n hF dX5_reject_5 rfl ?_
  refine z_iload_n hF dX5_reject_6 rfl ?_
  refine z_V (As := [.int a]) (rest := []) (ws' := [(w0, .inr (5, [.int (nI 0), .int (nI n), .ref w1, .int (nI v), .int (nI m), .ref w2, .ref w3, .ref w4, .ref w5, .ref w6, .ref w7, .ref w8, .ref w9, .ref w10, .ref w11, .int (nI j), .ref w12, .ref w13, .ref w14, .ref w15, .ref w16])), (w16, eI G 10 xs)]) (st2 := [.int (zb (cmC j a = 0))]) (c2 := 0) (s2 := 0) hF (c_X5_isSuggestion G w0 w1 w2 w3 w4 w5 w6 w7 w8 w9 w10 w11 w12 w13 w14 w15 w16 n v m j (nI 0) a (by first | assumption | omega)) gX5_reject_X5_isSuggestion rfl rfl rfl hd_X5_isSuggestion ⟨⟨Nat.le_of_ble_eq_true rfl, Nat.le_of_ble_eq_true rfl⟩, ⟨Nat.le_of_ble_eq_true rfl, Nat.le_of_ble_eq_true rfl⟩, Nat.le_of_ble_eq_true rfl⟩ [0] rfl rfl 0 rfl rfl rfl rfl rfl rfl rfl rfl rfl rfl dX5_reject_7 ?_
  refine z_if_ne_b (tgt := 19) hF dX5_reject_10 (by decide) (fun h1 => ?_) (fun h1 => ?_)
  · have ha := cmC_0 (by omega) h1
    refine z_lv (lv' := [some (.ref w0), some (.int (nI a.toNatClampNeg)), none, none]) (by rw [← ha.1]) ?_
    refine z_aload_n hF dX5_reject_19 rfl ?_
    refine z_get (C := RX5) (T := TX5) (N := 21) (ci := 5) (v := .ref w16) hF k_0 20 (by decide) rfl k_2 rfl 0 rfl rfl dX5_reject_20 ?_
    refine z_iload_n hF dX5_reject_23 rfl ?_
    refine z_iald (k := a.toNatClampNeg) hF 1 rfl (rfl) (by omega) rfl dX5_reject_24 ?_
    refine z_if_eq (tgt := 34) hF dX5_reject_25 (by decide) (fun c_1 => ?_) (fun c_1 => ?_)
    · refine z_aload_n hF dX5_reject_34 rfl ?_
      refine z_get (C := RX5) (T := TX5) (N := 21) (ci := 5) (v := .ref w16) hF k_0 20 (by decide) rfl k_2 rfl 0 rfl rfl dX5_reject_35 ?_
      refine z_iload_n hF dX5_reject_38 rfl ?_
      refine z_iconst (v := nI 2) hF dX5_reject_39 (by decide) ?_
      refine z_iast (k := a.toNatClampNeg) (ws' := [(w0, .inr (5, [.int (nI 0), .int (nI n), .ref w1, .int (nI v), .int (nI m), .ref w2, .ref w3, .ref w4, .ref w5, .ref w6, .ref w7, .ref w8, .ref w9, .ref w10, .ref w11, .int (nI j), .ref w12, .ref w13, .ref w14, .ref w15, .ref w16])), (w16, eI G 10 (upd xs a.toNatClampNeg (nI 2)))]) hF 1 rfl (rfl) (by omega) rfl rfl dX5_reject_40 ?_
      refine z_iconst (v := nI 0) hF dX5_reject_41 (by decide) ?_
      refine z_istore_n (lv' := [some (.ref w0), some (.int (nI a.toNatClampNeg)), some (.int (nI 0)), none]) hF dX5_reject_42 rfl rfl ?_
      refine z_iconst (v := nI 0) hF dX5_reject_43 (by decide) ?_
      refine z_istore_n (lv' := [some (.ref w0), some (.int (nI a.toNatClampNeg)), some (.int (nI 0)), some (.int (nI 0))]) hF dX5_reject_44 rfl rfl ?_
      refine z_lv (lv' := [some (.ref w0), some (.int (nI a.toNatClampNeg)), some (.int (nI (cntF (fun kk => upd xs a.toNatClampNeg (nI 2) kk = 0) 0))), some (.int (nI 0))]) (by rfl) ?_
      have J_45 : ∀ (n9 : Nat) (i : Nat), j - i < n9 → (i ≤ j) → zJ G X 45 [(w0, .inr (5, [.int (nI 0), .int (nI n), .ref w1, .int (nI v), .int (nI m), .ref w2, .ref w3, .ref w4, .ref w5, .ref w6, .ref w7, .ref w8, .ref w9, .ref w10, .ref w11, .int (nI j), .ref w12, .ref w13, .ref w14, .ref w15, .ref w16])), (w16, eI G 10 (upd xs a.toNatClampNeg (nI 2)))] [some (.ref w0), some (.int (nI a.toNatClampNeg)), some (.int (nI (cntF (fun kk => upd xs a.toNatClampNeg (nI 2) kk = 0) i))), some (.int (nI i))] [] 0 0 := by
        intro n9
        induction n9 with
        | zero => intro i hmu; exact absurd hmu (Nat.not_lt_zero _)
        | succ n9 ih =>
          intro i hmu h2
          refine z_iload_n hF dX5_reject_45 rfl ?_
          refine z_aload_n hF dX5_reject_46 rfl ?_
          refine z_get (C := RX5) (T := TX5) (N := 21) (ci := 5) (v := .int (nI j)) hF k_0 15 (by decide) rfl k_3 rfl 0 rfl rfl dX5_reject_47 ?_
          refine z_icn_ge (tgt := 76) hF (by omega) (by omega) dX5_reject_50 (by decide) (fun c_2 => ?_) (fun c_2 => ?_)
          · refine z_iload_n hF dX5_reject_76 rfl ?_
            exact hR.i dX5_reject_77 (Nat.le_of_ble_eq_true rfl) (Nat.le_of_ble_eq_true rfl) (rfl) (by rw [show i = j by omega])
          · refine z_iload_n hF dX5_reject_53 rfl ?_
            refine z_aload_n hF dX5_reject_54 rfl ?_
            refine z_get (C := RX5) (T := TX5) (N := 21) (ci := 5) (v := .ref w16) hF k_0 20 (by decide) rfl k_2 rfl 0 rfl rfl dX5_reject_55 ?_
            refine z_iload_n hF dX5_reject_58 rfl ?_
            refine z_iald (k := i) hF 1 rfl (rfl) (by omega) rfl dX5_reject_59 ?_
            refine z_if_ne (tgt := 67) hF dX5_reject_60 (by decide) (fun c_3 => ?_) (fun c_3 => ?_)
            · refine z_iconst (v := nI 0) hF dX5_reject_67 (by decide) ?_
              refine z_iadd hF dX5_reject_68 ?_
              refine z_top (nI_add (cntF (fun kk => upd xs a.toNatClampNeg (nI 2) kk = 0) i) 0) ?_
              refine z_top (y := nI (cntF (fun kk => upd xs a.toNatClampNeg (nI 2) kk = 0) (i + 1))) (by rw [Nat.add_zero, cntF_f (k := i) (by assumption)]) ?_
              refine z_istore_n (lv' := [some (.ref w0), some (.int (nI a.toNatClampNeg)), some (.int (nI (cntF (fun kk => upd xs a.toNatClampNeg (nI 2) kk = 0) (i + 1)))), some (.int (nI i))]) hF dX5_reject_69 rfl rfl ?_
              refine z_iinc (v := nI (i + 1)) (lv' := [some (.ref w0), some (.int (nI a.toNatClampNeg)), some (.int (nI (cntF (fun kk => upd xs a.toNatClampNeg (nI 2) kk = 0) (i + 1)))), some (.int (nI (i + 1)))]) hF dX5_reject_70 rfl (nI_1 i) rfl rfl ?_
              refine z_goto (tgt := 45) hF dX5_reject_73 (by decide) ?_
              exact ih (i + 1) (by omega) (by omega)
            · refine z_iconst (v := nI 1) hF dX5_reject_63 (by decide) ?_
              refine z_goto (tgt := 68) hF dX5_reject_64 (by decide) ?_
              refine z_iadd hF dX5_reject_68 ?_
              refine z_top (nI_add (cntF (fun kk => upd xs a.toNatClampNeg (nI 2) kk = 0) i) 1) ?_
              refine z_top (y := nI (cntF (fun kk => upd xs a.toNatClampNeg (nI 2) kk = 0) (i + 1))) (by rw [cntF_t (k := i) (by assumption)]) ?_
              refine z_istore_n (lv' := [some (.ref w0), some (.int (nI a.toNatClampNeg)), some (.int (nI (cntF (fun kk => upd xs a.toNatClampNeg (nI 2) kk = 0) (i + 1)))), some (.int (nI i))]) hF dX5_reject_69 rfl rfl ?_
              refine z_iinc (v := nI (i + 1)) (lv' := [some (.ref w0), some (.int (nI a.toNatClampNeg)), some (.int (nI (cntF (fun kk => upd xs a.toNatClampNeg (nI 2) kk = 0) (i + 1)))), some (.int (nI (i + 1)))]) hF dX5_reject_70 rfl (nI_1 i) rfl rfl ?_
              refine z_goto (tgt := 45) hF dX5_reject_73 (by decide) ?_
              exact ih (i + 1) (by omega) (by omega)
      exact J_45 ((j - 0) + 1) 0 (Nat.lt_succ_self _) (by omega)
    · exact absurd hc (by (try simp only [fz]); grind)
  · exact absurd hc (by (try simp only [fz]); grind)
