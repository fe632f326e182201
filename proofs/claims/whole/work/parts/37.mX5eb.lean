set_option maxHeartbeats 4000000 in
set_option maxRecDepth 100000 in
theorem c_X5_stateOf_k (G : zG) (w0 w1 w2 w3 w4 w5 w6 w7 w8 w9 w10 w11 w12 w13 w14 w15 w16 n v m j : Nat) (th : Int32) (xs : Nat → Int32) (a : Int32) (hj : j ≤ 10) (hc : (cmC j a) = 0) : zM G yX5_stateOf wsX5_stateOf ({ frames := 2, cells := 0, slots := 0, locals := 55 }) [.ref w0, .int a] [(w0, .inr (5, [.int th, .int (nI n), .ref w1, .int (nI v), .int (nI m), .ref w2, .ref w3, .ref w4, .ref w5, .ref w6, .ref w7, .ref w8, .ref w9, .ref w10, .ref w11, .int (nI j), .ref w12, .ref w13, .ref w14, .ref w15, .ref w16])), (w16, eI G 10 xs)] [(w0, .inr (5, [.int (nI 0), .int (nI n), .ref w1, .int (nI v), .int (nI m), .ref w2, .ref w3, .ref w4, .ref w5, .ref w6, .ref w7, .ref w8, .ref w9, .ref w10, .ref w11, .int (nI j), .ref w12, .ref w13, .ref w14, .ref w15, .ref w16])), (w16, eI G 10 xs)] (some (.int (xs a.toNatClampNeg))) 0 0 := by
  refine zM.ofI (own := RX5) (cc := cX5_stateOf) (maxL := 2) rfl (by decide) rfl rfl (by simp [Value.category]) (Nat.le_of_ble_eq_true rfl) ?_
  intro X hF hR
  have k_0 : ∀ w ∈ wsX50, w ∈ wsX5_stateOf := by decide +kernel
  have k_1 : zH X (.fieldLink RX5 62 "MarginDeskModel" "thrown" "I") := hF.w (by decide +kernel)
  have k_2 : zH X (.fieldLink RX5 56 "MarginDeskModel" "state" "[I") := hF.w (by decide +kernel)
  refine z_lv (lv' := [some (.ref w0), some (.int a)]) rfl ?_
  have d_0 := cmC_d j a
  refine z_aload_n hF dX5_stateOf_0 rfl ?_
  refine z_iconst (v := nI 0) hF dX5_stateOf_1 (by decide) ?_
  refine z_put (C := RX5) (T := TX5) (N := 21) (ci := 5) (ws' := [(w0, .inr (5, [.int (nI 0), .int (nI n), .ref w1, .int (nI v), .int (nI m), .ref w2, .ref w3, .ref w4, .ref w5, .ref w6, .ref w7, .ref w8, .ref w9, .ref w10, .ref w11, .int (nI j), .ref w12, .ref w13, .ref w14, .ref w15, .ref w16])), (w16, eI G 10 xs)]) hF k_0 tyX5 tyX5_ok nmX5 0 (by decide) rfl k_1 rfl rfl rfl rfl 0 rfl rfl rfl dX5_stateOf_2 ?_
  refine z_aload_n hF dX5_stateOf_5 rfl ?_
  refine z_iload_n hF dX5_stateOf_6 rfl ?_
  refine z_V (As := [.int a]) (rest := []) (ws' := [(w0, .inr (5, [.int (nI 0), .int (nI n), .ref w1, .int (nI v), .int (nI m), .ref w2, .ref w3, .ref w4, .ref w5, .ref w6, .ref w7, .ref w8, .ref w9, .ref w10, .ref w11, .int (nI j), .ref w12, .ref w13, .ref w14, .ref w15, .ref w16])), (w16, eI G 10 xs)]) (st2 := [.int (zb (cmC j a = 0))]) (c2 := 0) (s2 := 0) hF (c_X5_isSuggestion G w0 w1 w2 w3 w4 w5 w6 w7 w8 w9 w10 w11 w12 w13 w14 w15 w16 n v m j (nI 0) a (by first | assumption | omega)) gX5_stateOf_X5_isSuggestion rfl rfl rfl hd_X5_isSuggestion ⟨⟨Nat.le_of_ble_eq_true rfl, Nat.le_of_ble_eq_true rfl⟩, ⟨Nat.le_of_ble_eq_true rfl, Nat.le_of_ble_eq_true rfl⟩, Nat.le_of_ble_eq_true rfl⟩ [0] rfl rfl 0 rfl rfl rfl rfl rfl rfl rfl rfl rfl rfl dX5_stateOf_7 ?_
  refine z_if_eq_b (tgt := 22) hF dX5_stateOf_10 (by decide) (fun c_1 => ?_) (fun c_1 => ?_)
  · exact absurd hc (by (try simp only [fz]); grind)
  · have ha := cmC_0 (by omega) hc
    refine z_lv (lv' := [some (.ref w0), some (.int (nI a.toNatClampNeg))]) (by rw [← ha.1]) ?_
    refine z_aload_n hF dX5_stateOf_13 rfl ?_
    refine z_get (C := RX5) (T := TX5) (N := 21) (ci := 5) (v := .ref w16) hF k_0 20 (by decide) rfl k_2 rfl 0 rfl rfl dX5_stateOf_14 ?_
    refine z_iload_n hF dX5_stateOf_17 rfl ?_
    refine z_iald (k := a.toNatClampNeg) hF 1 rfl (rfl) (by omega) rfl dX5_stateOf_18 ?_
    refine z_goto (tgt := 27) hF dX5_stateOf_19 (by decide) ?_
    exact hR.i dX5_stateOf_27 (Nat.le_of_ble_eq_true rfl) (Nat.le_of_ble_eq_true rfl) (rfl) (rfl)
set_option maxHeartbeats 4000000 in
set_option maxRecDepth 100000 in
theorem c_X5_overlapsOf (G : zG) (w0 w1 w2 w3 w4 w5 w6 w7 w8 w9 w10 w11 w12 w13 w14 w15 w16 n v m j : Nat) (th : Int32) (b2 : Nat → Int32) (e2 : Nat → Int32) (xs : Nat → Int32) (i : Nat) (hj : j ≤ 10) (hi : i < 10) : zM G yX5_overlapsOf wsX5_overlapsOf ({ frames := 0, cells := 0, slots := 0, locals := 12 }) [.ref w0, .int (nI i)] [(w0, .inr (5, [.int th, .int (nI n), .ref w1, .int (nI v), .int (nI m), .ref w2, .ref w3, .ref w4, .ref w5, .ref w6, .ref w7, .ref w8, .ref w9, .ref w10, .ref w11, .int (nI j), .ref w12, .ref w13, .ref w14, .ref w15, .ref w16])), (w12, eI G 10 b2), (w13, eI G 10 e2), (w16, eI G 10 xs)] [(w0, .inr (5, [.int th, .int (nI n), .ref w1, .int (nI v), .int (nI m), .ref w2, .ref w3, .ref w4, .ref w5, .ref w6, .ref w7, .ref w8, .ref w9, .ref w10, .ref w11, .int (nI j), .ref w12, .ref w13, .ref w14, .ref w15, .ref w16])), (w12, eI G 10 b2), (w13, eI G 10 e2), (w16, eI G 10 xs)] (some (.int (ovM b2 e2 xs i j))) 0 0 := by
  refine zM.ofI (own := RX5) (cc := cX5_overlapsOf) (maxL := 5) rfl (by decide) rfl rfl (by simp [Value.category]) (Nat.le_of_ble_eq_true rfl) ?_
  intro X hF hR
  have k_0 : ∀ w ∈ wsX50, w ∈ wsX5_overlapsOf := by decide +kernel
  have k_1 : zH X (.fieldLink RX5 76 "MarginDeskModel" "suggestions" "I") := hF.w (by decide +kernel)
  have k_2 : zH X (.fieldLink RX5 56 "MarginDeskModel" "state" "[I") := hF.w (by decide +kernel)
  have k_3 : zH X (.fieldLink RX5 44 "MarginDeskModel" "first" "[I") := hF.w (by decide +kernel)
  have k_4 : zH X (.fieldLink RX5 47 "MarginDeskModel" "last" "[I") := hF.w (by decide +kernel)
  refine z_lv (lv' := [some (.ref w0), some (.int (nI i)), none, none, none]) rfl ?_
  refine z_iconst (v := nI 0) hF dX5_overlapsOf_0 (by decide) ?_
  refine z_istore_n (lv' := [some (.ref w0), some (.int (nI i)), some (.int (nI 0)), none, none]) hF dX5_overlapsOf_1 rfl rfl ?_
  refine z_iconst (v := nI 0) hF dX5_overlapsOf_2 (by decide) ?_
  refine z_istore_n (lv' := [some (.ref w0), some (.int (nI i)), some (.int (nI 0)), some (.int (nI 0)), none]) hF dX5_overlapsOf_3 rfl rfl ?_
  refine z_lv (lv' := [some (.ref w0), some (.int (nI i)), some (.int (cov (fun kk => ¬ kk = i ∧ xs kk = 0 ∧ b2 kk < e2 i ∧ b2 i < e2 kk) 0)), some (.int (nI 0)), none]) (by rfl) ?_
  have J_4 : ∀ (n9 : Nat) (k : Nat), j - k < n9 → (k ≤ j) → (xs i = 0 ∨ k = 0) → zJ G X 4 [(w0, .inr (5, [.int th, .int (nI n), .ref w1, .int (nI v), .int (nI m), .ref w2, .ref w3, .ref w4, .ref w5, .ref w6, .ref w7, .ref w8, .ref w9, .ref w10, .ref w11, .int (nI j), .ref w12, .ref w13, .ref w14, .ref w15, .ref w16])), (w12, eI G 10 b2), (w13, eI G 10 e2), (w16, eI G 10 xs)] [some (.ref w0), some (.int (nI i)), some (.int (cov (fun kk => ¬ kk = i ∧ xs kk = 0 ∧ b2 kk < e2 i ∧ b2 i < e2 kk) k)), some (.int (nI k)), none] [] 0 0 := by
    intro n9
    induction n9 with
    | zero => intro k hmu; exact absurd hmu (Nat.not_lt_zero _)
    | succ n9 ih =>
      intro k hmu h2 hp
      refine z_iload_n hF dX5_overlapsOf_4 rfl ?_
      refine z_aload_n hF dX5_overlapsOf_5 rfl ?_
      refine z_get (C := RX5) (T := TX5) (N := 21) (ci := 5) (v := .int (nI j)) hF k_0 15 (by decide) rfl k_1 rfl 0 rfl rfl dX5_overlapsOf_6 ?_
      refine z_icn_ge (tgt := 93) hF (by omega) (by omega) dX5_overlapsOf_9 (by decide) (fun c_1 => ?_) (fun c_1 => ?_)
      · refine z_iload_n hF dX5_overlapsOf_93 rfl ?_
        exact hR.i dX5_overlapsOf_94 (Nat.le_of_ble_eq_true rfl) (Nat.le_of_ble_eq_true rfl) (rfl) (by exact hp.elim (fun hp => by rw [show k = j by omega]; unfold ovM; rw [if_pos hp]) (fun hp => by rw [show j = 0 by omega, hp]; unfold ovM; split <;> rfl))
      · refine z_aload_n hF dX5_overlapsOf_12 rfl ?_
        refine z_get (C := RX5) (T := TX5) (N := 21) (ci := 5) (v := .ref w16) hF k_0 20 (by decide) rfl k_2 rfl 0 rfl rfl dX5_overlapsOf_13 ?_
        refine z_iload_n hF dX5_overlapsOf_16 rfl ?_
        refine z_iald (k := i) hF 3 rfl (rfl) (by omega) rfl dX5_overlapsOf_17 ?_
        refine z_if_ne (tgt := 93) hF dX5_overlapsOf_18 (by decide) (fun hn9 => ?_) (fun hn9 => ?_)
        · refine z_iload_n hF dX5_overlapsOf_93 rfl ?_
          exact hR.i dX5_overlapsOf_94 (Nat.le_of_ble_eq_true rfl) (Nat.le_of_ble_eq_true rfl) (rfl) (by unfold ovM; rw [if_neg (by grind), show k = 0 by grind]; rfl)
        · have J_56 : zJ G X 56 [(w0, .inr (5, [.int th, .int (nI n), .ref w1, .int (nI v), .int (nI m), .ref w2, .ref w3, .ref w4, .ref w5, .ref w6, .ref w7, .ref w8, .ref w9, .ref w10, .ref w11, .int (nI j), .ref w12, .ref w13, .ref w14, .ref w15, .ref w16])), (w12, eI G 10 b2), (w13, eI G 10 e2), (w16, eI G 10 xs)] [some (.ref w0), some (.int (nI i)), some (.int (cov (fun kk => ¬ kk = i ∧ xs kk = 0 ∧ b2 kk < e2 i ∧ b2 i < e2 kk) k)), some (.int (nI k)), none] [.int (zb (b2 k < e2 i ∧ b2 i < e2 k))] 0 0 := by
            refine z_istore (lv' := [some (.ref w0), some (.int (nI i)), some (.int (cov (fun kk => ¬ kk = i ∧ xs kk = 0 ∧ b2 kk < e2 i ∧ b2 i < e2 kk) k)), some (.int (nI k)), some (.int (zb (b2 k < e2 i ∧ b2 i < e2 k)))]) hF dX5_overlapsOf_56 rfl rfl ?_
            refine z_iload_n hF dX5_overlapsOf_58 rfl ?_
            refine z_iload_n hF dX5_overlapsOf_59 rfl ?_
            refine z_iload_n hF dX5_overlapsOf_60 rfl ?_
            refine z_icn_eq (tgt := 84) hF (by omega) (by omega) dX5_overlapsOf_61 (by decide) (fun c_2 => ?_) (fun c_2 => ?_)
            · refine z_iconst (v := nI 0) hF dX5_overlapsOf_84 (by decide) ?_
              refine z_ior hF dX5_overlapsOf_85 ?_
              refine z_top (y := cov (fun kk => ¬ kk = i ∧ xs kk = 0 ∧ b2 kk < e2 i ∧ b2 i < e2 kk) (k + 1)) (by rw [or_0, cov_f (k := k) (by first | assumption | grind)]) ?_
              refine z_istore_n (lv' := [some (.ref w0), some (.int (nI i)), some (.int (cov (fun kk => ¬ kk = i ∧ xs kk = 0 ∧ b2 kk < e2 i ∧ b2 i < e2 kk) (k + 1))), some (.int (nI k)), some (.int (zb (b2 k < e2 i ∧ b2 i < e2 k)))]) hF dX5_overlapsOf_86 rfl rfl ?_
              refine z_iinc (v := nI (k + 1)) (lv' := [some (.ref w0), some (.int (nI i)), some (.int (cov (fun kk => ¬ kk = i ∧ xs kk = 0 ∧ b2 kk < e2 i ∧ b2 i < e2 kk) (k + 1))), some (.int (nI (k + 1))), some (.int (zb (b2 k < e2 i ∧ b2 i < e2 k)))]) hF dX5_overlapsOf_87 rfl (nI_1 k) rfl rfl ?_
              refine z_goto (tgt := 4) hF dX5_overlapsOf_90 (by decide) ?_
              refine z_forget (lv' := [some (.ref w0), some (.int (nI i)), some (.int (cov (fun kk => ¬ kk = i ∧ xs kk = 0 ∧ b2 kk < e2 i ∧ b2 i < e2 kk) (k + 1))), some (.int (nI (k + 1))), none]) ⟨rfl, ⟨rfl, ⟨rfl, ⟨rfl, trivial⟩⟩⟩⟩ ?_
              exact ih (k + 1) (by omega) (by omega) (Or.inl (by grind))
            · refine z_aload_n hF dX5_overlapsOf_64 rfl ?_
              refine z_get (C := RX5) (T := TX5) (N := 21) (ci := 5) (v := .ref w16) hF k_0 20 (by decide) rfl k_2 rfl 0 rfl rfl dX5_overlapsOf_65 ?_
              refine z_iload_n hF dX5_overlapsOf_68 rfl ?_
              refine z_iald (k := k) hF 3 rfl (rfl) (by omega) rfl dX5_overlapsOf_69 ?_
              refine z_if_ne (tgt := 84) hF dX5_overlapsOf_70 (by decide) (fun c_3 => ?_) (fun c_3 => ?_)
              · refine z_iconst (v := nI 0) hF dX5_overlapsOf_84 (by decide) ?_
                refine z_ior hF dX5_overlapsOf_85 ?_
                refine z_top (y := cov (fun kk => ¬ kk = i ∧ xs kk = 0 ∧ b2 kk < e2 i ∧ b2 i < e2 kk) (k + 1)) (by rw [or_0, cov_f (k := k) (by first | assumption | grind)]) ?_
                refine z_istore_n (lv' := [some (.ref w0), some (.int (nI i)), some (.int (cov (fun kk => ¬ kk = i ∧ xs kk = 0 ∧ b2 kk < e2 i ∧ b2 i < e2 kk) (k + 1))), some (.int (nI k)), some (.int (zb (b2 k < e2 i ∧ b2 i < e2 k)))]) hF dX5_overlapsOf_86 rfl rfl ?_
                refine z_iinc (v := nI (k + 1)) (lv' := [some (.ref w0), some (.int (nI i)), some (.int (cov (fun kk => ¬ kk = i ∧ xs kk = 0 ∧ b2 kk < e2 i ∧ b2 i < e2 kk) (k + 1))), some (.int (nI (k + 1))), some (.int (zb (b2 k < e2 i ∧ b2 i < e2 k)))]) hF dX5_overlapsOf_87 rfl (nI_1 k) rfl rfl ?_
                refine z_goto (tgt := 4) hF dX5_overlapsOf_90 (by decide) ?_
                refine z_forget (lv' := [some (.ref w0), some (.int (nI i)), some (.int (cov (fun kk => ¬ kk = i ∧ xs kk = 0 ∧ b2 kk < e2 i ∧ b2 i < e2 kk) (k + 1))), some (.int (nI (k + 1))), none]) ⟨rfl, ⟨rfl, ⟨rfl, ⟨rfl, trivial⟩⟩⟩⟩ ?_
                exact ih (k + 1) (by omega) (by omega) (Or.inl (by grind))
              · refine z_iload hF dX5_overlapsOf_73 rfl ?_
                refine z_if_eq_b (tgt := 84) hF dX5_overlapsOf_75 (by decide) (fun c_4 => ?_) (fun c_4 => ?_)
                · refine z_iconst (v := nI 0) hF dX5_overlapsOf_84 (by decide) ?_
                  refine z_ior hF dX5_overlapsOf_85 ?_
                  refine z_top (y := cov (fun kk => ¬ kk = i ∧ xs kk = 0 ∧ b2 kk < e2 i ∧ b2 i < e2 kk) (k + 1)) (by rw [or_0, cov_f (k := k) (by first | assumption | grind)]) ?_
                  refine z_istore_n (lv' := [some (.ref w0), some (.int (nI i)), some (.int (cov (fun kk => ¬ kk = i ∧ xs kk = 0 ∧ b2 kk < e2 i ∧ b2 i < e2 kk) (k + 1))), some (.int (nI k)), some (.int (zb (b2 k < e2 i ∧ b2 i < e2 k)))]) hF dX5_overlapsOf_86 rfl rfl ?_
                  refine z_iinc (v := nI (k + 1)) (lv' := [some (.ref w0), some (.int (nI i)), some (.int (cov (fun kk => ¬ kk = i ∧ xs kk = 0 ∧ b2 kk < e2 i ∧ b2 i < e2 kk) (k + 1))), some (.int (nI (k + 1))), some (.int (zb (b2 k < e2 i ∧ b2 i < e2 k)))]) hF dX5_overlapsOf_87 rfl (nI_1 k) rfl rfl ?_
                  refine z_goto (tgt := 4) hF dX5_overlapsOf_90 (by decide) ?_
                  refine z_forget (lv' := [some (.ref w0), some (.int (nI i)), some (.int (cov (fun kk => ¬ kk = i ∧ xs kk = 0 ∧ b2 kk < e2 i ∧ b2 i < e2 kk) (k + 1))), some (.int (nI (k + 1))), none]) ⟨rfl, ⟨rfl, ⟨rfl, ⟨rfl, trivial⟩⟩⟩⟩ ?_
                  exact ih (k + 1) (by omega) (by omega) (Or.inl (by grind))
                · refine z_iconst (v := nI 1) hF dX5_overlapsOf_78 (by decide) ?_
                  refine z_iload_n hF dX5_overlapsOf_79 rfl ?_
                  refine z_ishl hF dX5_overlapsOf_80 ?_
                  refine z_goto (tgt := 85) hF dX5_overlapsOf_81 (by decide) ?_
                  refine z_ior hF dX5_overlapsOf_85 ?_
                  refine z_top (y := cov (fun kk => ¬ kk = i ∧ xs kk = 0 ∧ b2 kk < e2 i ∧ b2 i < e2 kk) (k + 1)) (cov_t (P := fun kk => ¬ kk = i ∧ xs kk = 0 ∧ b2 kk < e2 i ∧ b2 i < e2 kk) (by first | assumption | grind)) ?_
                  refine z_istore_n (lv' := [some (.ref w0), some (.int (nI i)), some (.int (cov (fun kk => ¬ kk = i ∧ xs kk = 0 ∧ b2 kk < e2 i ∧ b2 i < e2 kk) (k + 1))), some (.int (nI k)), some (.int (zb (b2 k < e2 i ∧ b2 i < e2 k)))]) hF dX5_overlapsOf_86 rfl rfl ?_
                  refine z_iinc (v := nI (k + 1)) (lv' := [some (.ref w0), some (.int (nI i)), some (.int (cov (fun kk => ¬ kk = i ∧ xs kk = 0 ∧ b2 kk < e2 i ∧ b2 i < e2 kk) (k + 1))), some (.int (nI (k + 1))), some (.int (zb (b2 k < e2 i ∧ b2 i < e2 k)))]) hF dX5_overlapsOf_87 rfl (nI_1 k) rfl rfl ?_
                  refine z_goto (tgt := 4) hF dX5_overlapsOf_90 (by decide) ?_
                  refine z_forget (lv' := [some (.ref w0), some (.int (nI i)), some (.int (cov (fun kk => ¬ kk = i ∧ xs kk = 0 ∧ b2 kk < e2 i ∧ b2 i < e2 kk) (k + 1))), some (.int (nI (k + 1))), none]) ⟨rfl, ⟨rfl, ⟨rfl, ⟨rfl, trivial⟩⟩⟩⟩ ?_
                  exact ih (k + 1) (by omega) (by omega) (Or.inl (by grind))
          refine z_aload_n hF dX5_overlapsOf_21 rfl ?_
          refine z_get (C := RX5) (T := TX5) (N := 21) (ci := 5) (v := .ref w12) hF k_0 16 (by decide) rfl k_3 rfl 0 rfl rfl dX5_overlapsOf_22 ?_
          refine z_iload_n hF dX5_overlapsOf_25 rfl ?_
          refine z_iald (k := k) hF 1 rfl (rfl) (by omega) rfl dX5_overlapsOf_26 ?_
          refine z_aload_n hF dX5_overlapsOf_27 rfl ?_
          refine z_get (C := RX5) (T := TX5) (N := 21) (ci := 5) (v := .ref w13) hF k_0 17 (by decide) rfl k_4 rfl 0 rfl rfl dX5_overlapsOf_28 ?_
          refine z_iload_n hF dX5_overlapsOf_31 rfl ?_
          refine z_iald (k := i) hF 2 rfl (rfl) (by omega) rfl dX5_overlapsOf_32 ?_
          refine z_ic_ge (tgt := 55) hF dX5_overlapsOf_33 (by decide) (fun c_5 => ?_) (fun c_5 => ?_)
          · refine z_iconst (v := nI 0) hF dX5_overlapsOf_55 (by decide) ?_
            refine z_top (y := zb (b2 k < e2 i ∧ b2 i < e2 k)) (zb0 (by first | assumption | grind)) ?_
            exact J_56  
          · refine z_aload_n hF dX5_overlapsOf_36 rfl ?_
            refine z_get (C := RX5) (T := TX5) (N := 21) (ci := 5) (v := .ref w12) hF k_0 16 (by decide) rfl k_3 rfl 0 rfl rfl dX5_overlapsOf_37 ?_
            refine z_iload_n hF dX5_overlapsOf_40 rfl ?_
            refine z_iald (k := i) hF 1 rfl (rfl) (by omega) rfl dX5_overlapsOf_41 ?_
            refine z_aload_n hF dX5_overlapsOf_42 rfl ?_
            refine z_get (C := RX5) (T := TX5) (N := 21) (ci := 5) (v := .ref w13) hF k_0 17 (by decide) rfl k_4 rfl 0 rfl rfl dX5_overlapsOf_43 ?_
            refine z_iload_n hF dX5_overlapsOf_46 rfl ?_
            refine z_iald (k := k) hF 2 rfl (rfl) (by omega) rfl dX5_overlapsOf_47 ?_
            refine z_ic_ge (tgt := 55) hF dX5_overlapsOf_48 (by decide) (fun c_6 => ?_) (fun c_6 => ?_)
            · refine z_iconst (v := nI 0) hF dX5_overlapsOf_55 (by decide) ?_
              refine z_top (y := zb (b2 k < e2 i ∧ b2 i < e2 k)) (zb0 (by first | assumption | grind)) ?_
              exact J_56  
            · refine z_iconst (v := nI 1) hF dX5_overlapsOf_51 (by decide) ?_
              refine z_goto (tgt := 56) hF dX5_overlapsOf_52 (by decide) ?_
              refine z_top (y := zb (b2 k < e2 i ∧ b2 i < e2 k)) (zb1 (by first | assumption | grind)) ?_
              exact J_56  
  exact J_4 ((j - 0) + 1) 0 (Nat.lt_succ_self _) (by omega) (Or.inr rfl)
set_option maxHeartbeats 4000000 in
set_option maxRecDepth 100000 in
theorem c_X5_overlaps_f (G : zG) (w0 w1 w2 w3 w4 w5 w6 w7 w8 w9 w10 w11 w12 w13 w14 w15 w16 n v m j : Nat) (th : Int32) (b2 : Nat → Int32) (e2 : Nat → Int32) (xs : Nat → Int32) (a : Int32) (hj : j ≤ 10) (hc : ¬ (cmC j a) = 0) : zM G yX5_overlaps wsX5_overlaps ({ frames := 2, cells := 0, slots := 0, locals := 55 }) [.ref w0, .int a] [(w0, .inr (5, [.int th, .int (nI n), .ref w1, .int (nI v), .int (nI m), .ref w2, .ref w3, .ref w4, .ref w5, .ref w6, .ref w7, .ref w8, .ref w9, .ref w10, .ref w11, .int (nI j), .ref w12, .ref w13, .ref w14, .ref w15, .ref w16])), (w12, eI G 10 b2), (w13, eI G 10 e2), (w16, eI G 10 xs)] [(w0, .inr (5, [.int (nI (cmC j a)), .int (nI n), .ref w1, .int (nI v), .int (nI m), .ref w2, .ref w3, .ref w4, .ref w5, .ref w6, .ref w7, .ref w8, .ref w9, .ref w10, .ref w11, .int (nI j), .ref w12, .ref w13, .ref w14, .ref w15, .ref w16])), (w12, eI G 10 b2), (w13, eI G 10 e2), (w16, eI G 10 xs)] (some (.int (nI 0))) 0 0 := by
  refine zM.ofI (own := RX5) (cc := cX5_overlaps) (maxL := 2) rfl (by decide) rfl rfl (by simp [Value.category]) (Nat.le_of_ble_eq_true rfl) ?_
  intro X hF hR
  have k_0 : ∀ w ∈ wsX50, w ∈ wsX5_overlaps := by decide +kernel
  have k_1 : zH X (.fieldLink RX5 62 "MarginDeskModel" "thrown" "I") := hF.w (by decide +kernel)
  refine z_lv (lv' := [some (.ref w0), some (.int a)]) rfl ?_
  have d_0 := cmC_d j a
  refine z_aload_n hF dX5_overlaps_0 rfl ?_
  refine z_iconst (v := nI 0) hF dX5_overlaps_1 (by decide) ?_
  refine z_put (C := RX5) (T := TX5) (N := 21) (ci := 5) (ws' := [(w0, .inr (5, [.int (nI 0), .int (nI n), .ref w1, .int (nI v), .int (nI m), .ref w2, .ref w3, .ref w4, .ref w5, .ref w6, .ref w7, .ref w8, .ref w9, .ref w10, .ref w11, .int (nI j), .ref w12, .ref w13, .ref w14, .ref w15, .ref w16])), (w12, eI G 10 b2), (w13, eI G 10 e2), (w16, eI G 10 xs)]) hF k_0 tyX5 tyX5_ok nmX5 0 (by decide) rfl k_1 rfl rfl rfl rfl 0 rfl rfl rfl dX5_overlaps_2 ?_
  refine z_aload_n hF dX5_overlaps_5 rfl ?_
  refine z_iload_n hF dX5_overlaps_6 rfl ?_
  refine z_V (As := [.int a]) (rest := []) (ws' := [(w0, .inr (5, [.int (nI 0), .int (nI n), .ref w1, .int (nI v), .int (nI m), .ref w2, .ref w3, .ref w4, .ref w5, .ref w6, .ref w7, .ref w8, .ref w9, .ref w10, .ref w11, .int (nI j), .ref w12, .ref w13, .ref w14, .ref w15, .ref w16])), (w12, eI G 10 b2), (w13, eI G 10 e2), (w16, eI G 10 xs)]) (st2 := [.int (zb (cmC j a = 0))]) (c2 := 0) (s2 := 0) hF (c_X5_isSuggestion G w0 w1 w2 w3 w4 w5 w6 w7 w8 w9 w10 w11 w12 w13 w14 w15 w16 n v m j (nI 0) a (by first | assumption | omega)) gX5_overlaps_X5_isSuggestion rfl rfl rfl hd_X5_isSuggestion ⟨⟨Nat.le_of_ble_eq_true rfl, Nat.le_of_ble_eq_true rfl⟩, ⟨Nat.le_of_ble_eq_true rfl, Nat.le_of_ble_eq_true rfl⟩, Nat.le_of_ble_eq_true rfl⟩ [0] rfl rfl 0 rfl rfl rfl rfl rfl rfl rfl rfl rfl rfl dX5_overlaps_7 ?_
  refine z_if_eq_b (tgt := 21) hF dX5_overlaps_10 (by decide) (fun c_1 => ?_) (fun c_1 => ?_)
  · refine z_aload_n hF dX5_overlaps_21 rfl ?_
    refine z_iconst (v := nI 1) hF dX5_overlaps_22 (by decide) ?_
    refine z_V (As := [.int (nI 1)]) (rest := []) (ws' := [(w0, .inr (5, [.int (nI 1), .int (nI n), .ref w1, .int (nI v), .int (nI m), .ref w2, .ref w3, .ref w4, .ref w5, .ref w6, .ref w7, .ref w8, .ref w9, .ref w10, .ref w11, .int (nI j), .ref w12, .ref w13, .ref w14, .ref w15, .ref w16])), (w12, eI G 10 b2), (w13, eI G 10 e2), (w16, eI G 10 xs)]) (st2 := [.int (nI 0)]) (c2 := 0) (s2 := 0) hF (c_X5_fails G w0 w1 w2 w3 w4 w5 w6 w7 w8 w9 w10 w11 w12 w13 w14 w15 w16 n v m j (nI 0) (nI 1)) gX5_overlaps_X5_fails rfl rfl rfl hd_X5_fails ⟨⟨Nat.le_of_ble_eq_true rfl, Nat.le_of_ble_eq_true rfl⟩, ⟨Nat.le_of_ble_eq_true rfl, Nat.le_of_ble_eq_true rfl⟩, Nat.le_of_ble_eq_true rfl⟩ [0] rfl rfl 0 rfl rfl rfl rfl rfl rfl rfl rfl rfl rfl dX5_overlaps_23 ?_
    exact hR.i dX5_overlaps_26 (Nat.le_of_ble_eq_true rfl) (Nat.le_of_ble_eq_true rfl) (by rw [show (cmC j a) = 1 from (by (try simp only [fz]); grind)]) (rfl)
  · exact absurd (by (try simp only [fz]); grind : (cmC j a) = 0) hc
set_option maxHeartbeats 4000000 in
set_option maxRecDepth 100000 in
theorem c_X5_overlaps_k (G : zG) (w0 w1 w2 w3 w4 w5 w6 w7 w8 w9 w10 w11 w12 w13 w14 w15 w16 n v m j : Nat) (th : Int32) (b2 : Nat → Int32) (e2 : Nat → Int32) (xs : Nat → Int32) (a : Int32) (hj : j ≤ 10) (hc : (cmC j a) = 0) : zM G yX5_overlaps wsX5_overlaps ({ frames := 2, cells := 0, slots := 0, locals := 55 }) [.ref w0, .int a] [(w0, .inr (5, [.int th, .int (nI n), .ref w1, .int (nI v), .int (nI m), .ref w2, .ref w3, .ref w4, .ref w5, .ref w6, .ref w7, .ref w8, .ref w9, .ref w10, .ref w11, .int (nI j), .ref w12, .ref w13, .ref w14, .ref w15, .ref w16])), (w12, eI G 10 b2), (w13, eI G 10 e2), (w16, eI G 10 xs)] [(w0, .inr (5, [.int (nI 0), .int (nI n), .ref w1, .int (nI v), .int (nI m), .ref w2, .ref w3, .ref w4, .ref w5, .ref w6, .ref w7, .ref w8, .ref w9, .ref w10, .ref w11, .int (nI j), .ref w12, .ref w13, .ref w14, .ref w15, .ref w16])), (w12, eI G 10 b2), (w13, eI G 10 e2), (w16, eI G 10 xs)] (some (.int (ovM b2 e2 xs a.toNatClampNeg j))) 0 0 := by
  refine zM.ofI (own := RX5) (cc := cX5_overlaps) (maxL := 2) rfl (by decide) rfl rfl (by simp [Value.category]) (Nat.le_of_ble_eq_true rfl) ?_
  intro X hF hR
  have k_0 : ∀ w ∈ wsX50, w ∈ wsX5_overlaps := by decide +kernel
  have k_1 : zH X (.fieldLink RX5 62 "MarginDeskModel" "thrown" "I") := hF.w (by decide +kernel)
  refine z_lv (lv' := [some (.ref w0), some (.int a)]) rfl ?_
  have d_0 := cmC_d j a
  refine z_aload_n hF dX5_overlaps_0 rfl ?_
  refine z_iconst (v := nI 0) hF dX5_overlaps_1 (by decide) ?_
  refine z_put (C := RX5) (T := TX5) (N := 21) (ci := 5) (ws' := [(w0, .inr (5, [.int (nI 0), .int (nI n), .ref w1, .int (nI v), .int (nI m), .ref w2, .ref w3, .ref w4, .ref w5, .ref w6, .ref w7, .ref w8, .ref w9, .ref w10, .ref w11, .int (nI j), .ref w12, .ref w13, .ref w14, .ref w15, .ref w16])), (w12, eI G 10 b2), (w13, eI G 10 e2), (w16, eI G 10 xs)]) hF k_0 tyX5 tyX5_ok nmX5 0 (by decide) rfl k_1 rfl rfl rfl rfl 0 rfl rfl rfl dX5_overlaps_2 ?_
  refine z_aload_n hF dX5_overlaps_5 rfl ?_
  refine z_iload_n hF dX5_overlaps_6 rfl ?_
  refine z_V (As := [.int a]) (rest := []) (ws' := [(w0, .inr (5, [.int (nI 0), .int (nI n), .ref w1, .int (nI v), .int (nI m), .ref w2, .ref w3, .ref w4, .ref w5, .ref w6, .ref w7, .ref w8, .ref w9, .ref w10, .ref w11, .int (nI j), .ref w12, .ref w13, .ref w14, .ref w15, .ref w16])), (w12, eI G 10 b2), (w13, eI G 10 e2), (w16, eI G 10 xs)]) (st2 := [.int (zb (cmC j a = 0))]) (c2 := 0) (s2 := 0) hF (c_X5_isSuggestion G w0 w1 w2 w3 w4 w5 w6 w7 w8 w9 w10 w11 w12 w13 w14 w15 w16 n v m j (nI 0) a (by first | assumption | omega)) gX5_overlaps_X5_isSuggestion rfl rfl rfl hd_X5_isSuggestion ⟨⟨Nat.le_of_ble_eq_true rfl, Nat.le_of_ble_eq_true rfl⟩, ⟨Nat.le_of_ble_eq_true rfl, Nat.le_of_ble_eq_true rfl⟩, Nat.le_of_ble_eq_true rfl⟩ [0] rfl rfl 0 rfl rfl rfl rfl rfl rfl rfl rfl rfl rfl dX5_overlaps_7 ?_
  refine z_if_eq_b (tgt := 21) hF dX5_overlaps_10 (by decide) (fun c_1 => ?_) (fun c_1 => ?_)
  · exact absurd hc (by (try simp only [fz]); grind)
  · have ha := cmC_0 (by omega) hc
    refine z_lv (lv' := [some (.ref w0), some (.int (nI a.toNatClampNeg))]) (by rw [← ha.1]) ?_
    refine z_aload_n hF dX5_overlaps_13 rfl ?_
    refine z_iload_n hF dX5_overlaps_14 rfl ?_
    refine z_V (As := [.int (nI a.toNatClampNeg)]) (rest := []) (ws' := [(w0, .inr (5, [.int (nI 0), .int (nI n), .ref w1, .int (nI v), .int (nI m), .ref w2, .ref w3, .ref w4, .ref w5, .ref w6, .ref w7, .ref w8, .ref w9, .ref w10, .ref w11, .int (nI j), .ref w12, .ref w13, .ref w14, .ref w15, .ref w16])), (w12, eI G 10 b2), (w13, eI G 10 e2), (w16, eI G 10 xs)]) (st2 := [.int (ovM b2 e2 xs a.toNatClampNeg j)]) (c2 := 0) (s2 := 0) hF (c_X5_overlapsOf G w0 w1 w2 w3 w4 w5 w6 w7 w8 w9 w10 w11 w12 w13 w14 w15 w16 n v m j (nI 0) b2 e2 xs a.toNatClampNeg (by first | assumption | omega) (by first | assumption | omega)) gX5_overlaps_X5_overlapsOf rfl rfl rfl hd_X5_overlapsOf ⟨⟨Nat.le_of_ble_eq_true rfl, Nat.le_of_ble_eq_true rfl⟩, ⟨Nat.le_of_ble_eq_true rfl, Nat.le_of_ble_eq_true rfl⟩, Nat.le_of_ble_eq_true rfl⟩ [0, 1, 2, 3] rfl rfl 0 rfl rfl rfl rfl rfl rfl rfl rfl rfl rfl dX5_overlaps_15 ?_
    refine z_goto (tgt := 26) hF dX5_overlaps_18 (by decide) ?_
    exact hR.i dX5_overlaps_26 (Nat.le_of_ble_eq_true rfl) (Nat.le_of_ble_eq_true rfl) (rfl) (rfl)
set_option maxHeartbeats 4000000 in
set_option maxRecDepth 100000 in
theorem c_X5_reject_f (G : zG) (w0 w1 w2 w3 w4 w5 w6 w7 w8 w9 w10 w11 w12 w13 w14 w15 w16 n v m j : Nat) (th : Int32) (xs : Nat → Int32) (a : Int32) (hj : j ≤ 10) (hc : ¬ (fz (cmC j a) (waC (xs a.toNatClampNeg))) = 0) : zM G yX5_reject wsX5_reject ({ frames := 2, cells := 0, slots := 0, locals := 55 }) [.ref w0, .int a] [(w0, .inr (5, [.int th, .int (nI n), .ref w1, .int (nI v), .int (nI m), .ref w2, .ref w3, .ref w4, .ref w5, .ref w6, .ref w7, .ref w8, .ref w9, .ref w10, .ref w11, .int (nI j), .ref w12, .ref w13, .ref w14, .ref w15, .ref w16])), (w16, eI G 10 xs)] [(w0, .inr (5, [.int (nI (if (fz (cmC j a) (waC (xs a.toNatClampNeg))) = 3 then 2 else (fz (cmC j a) (waC (xs a.toNatClampNeg))))), .int (nI n), .ref w1, .int (nI v), .int (nI m), .ref w2, .ref w3, .ref w4, .ref w5, .ref w6, .ref w7, .ref w8, .ref w9, .ref w10, .ref w11, .int (nI j), .ref w12, .ref w13, .ref w14, .ref w15, .ref w16])), (w16, eI G 10 xs)] (some (.int (nI 0))) 0 0 := by
  refine zM.ofI (own := RX5) (cc := cX5_reject) (maxL := 4) rfl (by decide) rfl rfl (by simp [Value.category]) (Nat.le_of_ble_eq_true rfl) ?_
  intro X hF hR
  have k_0 : ∀ w ∈ wsX50, w ∈ wsX5_reject := by decide +kernel
  have k_1 : zH X (.fieldLink RX5 62 "MarginDeskModel" "thrown" "I") := hF.w (by decide +kernel)
  have k_2 : zH X (.fieldLink RX5 56 "MarginDeskModel" "state" "[I") := hF.w (by decide +kernel)
  refine z_lv (lv' := [some (.ref w0), some (.int a), none, none]) rfl ?_
  have d_0 := cmC_d j a
  have d_1 := waC_d (xs a.toNatClampNeg)
  have d_2 := waI (x := xs a.toNatClampNeg)
  refine z_aload_n hF dX5_reject_0 rfl ?_
  refine z_iconst (v := nI 0) hF dX5_reject_1 (by decide) ?_
  refine z_put (C := RX5) (T := TX5) (N := 21) (ci := 5) (ws' := [(w0, .inr (5, [.int (nI 0), .int (nI n), .ref w1, .int (nI v), .int (nI m), .ref w2, .ref w3, .ref w4, .ref w5, .ref w6, .ref w7, .ref w8, .ref w9, .ref w10, .ref w11, .int (nI j), .ref w12, .ref w13, .ref w14, .ref w15, .ref w16])), (w16, eI G 10 xs)]) hF k_0 tyX5 tyX5_ok nmX5 0 (by decide) rfl k_1 rfl rfl rfl rfl 0 rfl rfl rfl dX5_reject_2 ?_
  refine z_aload_n hF dX5_reject_5 rfl ?_
  refine z_iload_n hF dX5_reject_6 rfl ?_
  refine z_V (As := [.int a]) (rest := []) (ws' := [(w0, .inr (5, [.int (nI 0), .int (nI n), .ref w1, .int (nI v), .int (nI m), .ref w2, .ref w3, .ref w4, .ref w5, .ref w6, .ref w7, .ref w8, .ref w9, .ref w10, .ref w11, .int (nI j), .ref w12, .ref w13, .ref w14, .ref w15, .ref w16])), (w16, eI G 10 xs)]) (st2 := [.int (zb (cmC j a = 0))]) (c2 := 0) (s2 := 0) hF (c_X5_isSuggestion G w0 w1 w2 w3 w4 w5 w6 w7 w8 w9 w10 w11 w12 w13 w14 w15 w16 n v m j (nI 0) a (by first | assumption | omega)) gX5_reject_X5_isSuggestion rfl rfl rfl hd_X5_isSuggestion ⟨⟨Nat.le_of_ble_eq_true rfl, Nat.le_of_ble_eq_true rfl⟩, ⟨Nat.le_of_ble_eq_true rfl, Nat.le_of_ble_eq_true rfl⟩, Nat.le_of_ble_eq_true rfl⟩ [0] rfl rfl 0 rfl rfl rfl rfl rfl rfl rfl rfl rfl rfl dX5_reject_7 ?_
  refine z_if_ne_b (tgt := 19) hF dX5_reject_10 (by decide) (fun h1 => ?_) (fun h1 => ?_)
  · have ha := cmC_0 (by omega) h1
    refine z_lv (lv' := [some (.ref w0), some (.int (nI a.toNatClampNeg)), none, none]) (by rw [← ha.1]) ?_
    refine z_aload_n hF dX5_reject_19 rfl ?_
    refine z_get (C := RX5) (T := TX5) (N := 21) (ci := 5) (v := .ref w16) hF k_0 20 (by decide) rfl k_2 rfl 0 rfl rfl dX5_reject_20 ?_
    refine z_iload_n hF dX5_reject_23 rfl ?_
    refine z_iald (k := a.toNatClampNeg) hF 1 rfl (rfl) (by omega) rfl dX5_reject_24 ?_
    refine z_if_eq (tgt := 34) hF dX5_reject_25 (by decide) (fun c_1 => ?_) (fun c_1 => ?_)
    · exact absurd (by (try simp only [fz]); grind : (fz (cmC j a) (waC (xs a.toNatClampNeg))) = 0) hc
    · refine z_aload_n hF dX5_reject_28 rfl ?_
      refine z_iconst (v := nI 2) hF dX5_reject_29 (by decide) ?_
      refine z_V (As := [.int (nI 2)]) (rest := []) (ws' := [(w0, .inr (5, [.int (nI 2), .int (nI n), .ref w1, .int (nI v), .int (nI m), .ref w2, .ref w3, .ref w4, .ref w5, .ref w6, .ref w7, .ref w8, .ref w9, .ref w10, .ref w11, .int (nI j), .ref w12, .ref w13, .ref w14, .ref w15, .ref w16])), (w16, eI G 10 xs)]) (st2 := [.int (nI 0)]) (c2 := 0) (s2 := 0) hF (c_X5_fails G w0 w1 w2 w3 w4 w5 w6 w7 w8 w9 w10 w11 w12 w13 w14 w15 w16 n v m j (nI 0) (nI 2)) gX5_reject_X5_fails rfl rfl rfl hd_X5_fails ⟨⟨Nat.le_of_ble_eq_true rfl, Nat.le_of_ble_eq_true rfl⟩, ⟨Nat.le_of_ble_eq_true rfl, Nat.le_of_ble_eq_true rfl⟩, Nat.le_of_ble_eq_true rfl⟩ [0] rfl rfl 0 rfl rfl rfl rfl rfl rfl rfl rfl rfl rfl dX5_reject_30 ?_
      exact hR.i dX5_reject_33 (Nat.le_of_ble_eq_true rfl) (Nat.le_of_ble_eq_true rfl) (by rw [show (if (fz (cmC j a) (waC (xs a.toNatClampNeg))) = 3 then 2 else (fz (cmC j a) (waC (xs a.toNatClampNeg)))) = 2 from (by (try simp only [fz]); grind)]) (rfl)
  · refine z_aload_n hF dX5_reject_13 rfl ?_
    refine z_iconst (v := nI 1) hF dX5_reject_14 (by decide) ?_
    refine z_V (As := [.int (nI 1)]) (rest := []) (ws' := [(w0, .inr (5, [.int (nI 1), .int (nI n), .ref w1, .int (nI v), .int (nI m), .ref w2, .ref w3, .ref w4, .ref w5, .ref w6, .ref w7, .ref w8, .ref w9, .ref w10, .ref w11, .int (nI j), .ref w12, .ref w13, .ref w14, .ref w15, .ref w16])), (w16, eI G 10 xs)]) (st2 := [.int (nI 0)]) (c2 := 0) (s2 := 0) hF (c_X5_fails G w0 w1 w2 w3 w4 w5 w6 w7 w8 w9 w10 w11 w12 w13 w14 w15 w16 n v m j (nI 0) (nI 1)) gX5_reject_X5_fails rfl rfl rfl hd_X5_fails ⟨⟨Nat.le_of_ble_eq_true rfl, Nat.le_of_ble_eq_true rfl⟩, ⟨Nat.le_of_ble_eq_true rfl, Nat.le_of_ble_eq_true rfl⟩, Nat.le_of_ble_eq_true rfl⟩ [0] rfl rfl 0 rfl rfl rfl rfl rfl rfl rfl rfl rfl rfl dX5_reject_15 ?_
    exact hR.i dX5_reject_18 (Nat.le_of_ble_eq_true rfl) (Nat.le_of_ble_eq_true rfl) (by rw [show (if (fz (cmC j a) (waC (xs a.toNatClampNeg))) = 3 then 2 else (fz (cmC j a) (waC (xs a.toNatClampNeg)))) = 1 from (by (try simp only [fz]); grind)]) (rfl)
