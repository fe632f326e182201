set_option maxHeartbeats 4000000 in
set_option maxRecDepth 100000 in
theorem c_X5_open (G : zG) (w0 w1 w2 w3 w4 w5 w6 w7 w8 w9 w10 w11 w12 w13 w14 w15 w16 n v m j : Nat) (th : Int32) (op : Nat → Int32) (hm : m ≤ 12) : zM G yX5_open wsX5_open ({ frames := 0, cells := 0, slots := 0, locals := 12 }) [.ref w0] [(w0, .inr (5, [.int th, .int (nI n), .ref w1, .int (nI v), .int (nI m), .ref w2, .ref w3, .ref w4, .ref w5, .ref w6, .ref w7, .ref w8, .ref w9, .ref w10, .ref w11, .int (nI j), .ref w12, .ref w13, .ref w14, .ref w15, .ref w16])), (w5, eZ G 12 op)] [(w0, .inr (5, [.int (nI 0), .int (nI n), .ref w1, .int (nI v), .int (nI m), .ref w2, .ref w3, .ref w4, .ref w5, .ref w6, .ref w7, .ref w8, .ref w9, .ref w10, .ref w11, .int (nI j), .ref w12, .ref w13, .ref w14, .ref w15, .ref w16])), (w5, eZ G 12 op)] (some (.int (cov (fun kk => ¬ op kk = 0) m))) 0 0 := by
  refine zM.ofI (own := RX5) (cc := cX5_open) (maxL := 3) rfl (by decide) rfl rfl (by simp [Value.category]) (Nat.le_of_ble_eq_true rfl) ?_
  intro X hF hR
  have k_0 : ∀ w ∈ wsX50, w ∈ wsX5_open := by decide +kernel
  have k_1 : zH X (.fieldLink RX5 62 "MarginDeskModel" "thrown" "I") := hF.w (by decide +kernel)
  have k_2 : zH X (.fieldLink RX5 73 "MarginDeskModel" "comments" "I") := hF.w (by decide +kernel)
  have k_3 : zH X (.fieldLink RX5 22 "MarginDeskModel" "open" "[Z") := hF.w (by decide +kernel)
  refine z_lv (lv' := [some (.ref w0), none, none]) rfl ?_
  refine z_aload_n hF dX5_open_0 rfl ?_
  refine z_iconst (v := nI 0) hF dX5_open_1 (by decide) ?_
  refine z_put (C := RX5) (T := TX5) (N := 21) (ci := 5) (ws' := [(w0, .inr (5, [.int (nI 0), .int (nI n), .ref w1, .int (nI v), .int (nI m), .ref w2, .ref w3, .ref w4, .ref w5, .ref w6, .ref w7, .ref w8, .ref w9, .ref w10, .ref w11, .int (nI j), .ref w12, .ref w13, .ref w14, .ref w15, .ref w16])), (w5, eZ G 12 op)]) hF k_0 tyX5 tyX5_ok nmX5 0 (by decide) rfl k_1 rfl rfl rfl rfl 0 rfl rfl rfl dX5_open_2 ?_
  refine z_iconst (v := nI 0) hF dX5_open_5 (by decide) ?_
  refine z_istore_n (lv' := [some (.ref w0), some (.int (nI 0)), none]) hF dX5_open_6 rfl rfl ?_
  refine z_iconst (v := nI 0) hF dX5_open_7 (by decide) ?_
  refine z_istore_n (lv' := [some (.ref w0), some (.int (nI 0)), some (.int (nI 0))]) hF dX5_open_8 rfl rfl ?_
  refine z_lv (lv' := [some (.ref w0), some (.int (cov (fun kk => ¬ op kk = 0) 0)), some (.int (nI 0))]) (by rfl) ?_
  have J_9 : ∀ (n9 : Nat) (i : Nat), m - i < n9 → (i ≤ m) → zJ G X 9 [(w0, .inr (5, [.int (nI 0), .int (nI n), .ref w1, .int (nI v), .int (nI m), .ref w2, .ref w3, .ref w4, .ref w5, .ref w6, .ref w7, .ref w8, .ref w9, .ref w10, .ref w11, .int (nI j), .ref w12, .ref w13, .ref w14, .ref w15, .ref w16])), (w5, eZ G 12 op)] [some (.ref w0), some (.int (cov (fun kk => ¬ op kk = 0) i)), some (.int (nI i))] [] 0 0 := by
    intro n9
    induction n9 with
    | zero => intro i hmu; exact absurd hmu (Nat.not_lt_zero _)
    | succ n9 ih =>
      intro i hmu h2
      refine z_iload_n hF dX5_open_9 rfl ?_
      refine z_aload_n hF dX5_open_10 rfl ?_
      refine z_get (C := RX5) (T := TX5) (N := 21) (ci := 5) (v := .int (nI m)) hF k_0 4 (by decide) rfl k_2 rfl 0 rfl rfl dX5_open_11 ?_
      refine z_icn_ge (tgt := 42) hF (by omega) (by omega) dX5_open_14 (by decide) (fun c_1 => ?_) (fun c_1 => ?_)
      · refine z_iload_n hF dX5_open_42 rfl ?_
        exact hR.i dX5_open_43 (Nat.le_of_ble_eq_true rfl) (Nat.le_of_ble_eq_true rfl) (rfl) (by rw [show i = m by omega])
      · refine z_iload_n hF dX5_open_17 rfl ?_
        refine z_aload_n hF dX5_open_18 rfl ?_
        refine z_get (C := RX5) (T := TX5) (N := 21) (ci := 5) (v := .ref w5) hF k_0 8 (by decide) rfl k_3 rfl 0 rfl rfl dX5_open_19 ?_
        refine z_iload_n hF dX5_open_22 rfl ?_
        refine z_zald (k := i) hF 1 rfl (rfl) (by omega) rfl dX5_open_23 ?_
        refine z_if_eq (tgt := 33) hF dX5_open_24 (by decide) (fun c_2 => ?_) (fun c_2 => ?_)
        · refine z_iconst (v := nI 0) hF dX5_open_33 (by decide) ?_
          refine z_ior hF dX5_open_34 ?_
          refine z_top (y := cov (fun kk => ¬ op kk = 0) (i + 1)) (by rw [or_0, cov_f (k := i) (by first | assumption | grind)]) ?_
          refine z_istore_n (lv' := [some (.ref w0), some (.int (cov (fun kk => ¬ op kk = 0) (i + 1))), some (.int (nI i))]) hF dX5_open_35 rfl rfl ?_
          refine z_iinc (v := nI (i + 1)) (lv' := [some (.ref w0), some (.int (cov (fun kk => ¬ op kk = 0) (i + 1))), some (.int (nI (i + 1)))]) hF dX5_open_36 rfl (nI_1 i) rfl rfl ?_
          refine z_goto (tgt := 9) hF dX5_open_39 (by decide) ?_
          exact ih (i + 1) (by omega) (by omega)
        · refine z_iconst (v := nI 1) hF dX5_open_27 (by decide) ?_
          refine z_iload_n hF dX5_open_28 rfl ?_
          refine z_ishl hF dX5_open_29 ?_
          refine z_goto (tgt := 34) hF dX5_open_30 (by decide) ?_
          refine z_ior hF dX5_open_34 ?_
          refine z_top (y := cov (fun kk => ¬ op kk = 0) (i + 1)) (cov_t (P := fun kk => ¬ op kk = 0) (by first | assumption | grind)) ?_
          refine z_istore_n (lv' := [some (.ref w0), some (.int (cov (fun kk => ¬ op kk = 0) (i + 1))), some (.int (nI i))]) hF dX5_open_35 rfl rfl ?_
          refine z_iinc (v := nI (i + 1)) (lv' := [some (.ref w0), some (.int (cov (fun kk => ¬ op kk = 0) (i + 1))), some (.int (nI (i + 1)))]) hF dX5_open_36 rfl (nI_1 i) rfl rfl ?_
          refine z_goto (tgt := 9) hF dX5_open_39 (by decide) ?_
          exact ih (i + 1) (by omega) (by omega)
  exact J_9 ((m - 0) + 1) 0 (Nat.lt_succ_self _) (by omega)
set_option maxHeartbeats 4000000 in
set_option maxRecDepth 100000 in
theorem c_X5_orphans (G : zG) (w0 w1 w2 w3 w4 w5 w6 w7 w8 w9 w10 w11 w12 w13 w14 w15 w16 n v m j : Nat) (th : Int32) (b : Nat → Int32) (hm : m ≤ 12) : zM G yX5_orphans wsX5_orphans ({ frames := 0, cells := 0, slots := 0, locals := 12 }) [.ref w0] [(w0, .inr (5, [.int th, .int (nI n), .ref w1, .int (nI v), .int (nI m), .ref w2, .ref w3, .ref w4, .ref w5, .ref w6, .ref w7, .ref w8, .ref w9, .ref w10, .ref w11, .int (nI j), .ref w12, .ref w13, .ref w14, .ref w15, .ref w16])), (w2, eI G 12 b)] [(w0, .inr (5, [.int (nI 0), .int (nI n), .ref w1, .int (nI v), .int (nI m), .ref w2, .ref w3, .ref w4, .ref w5, .ref w6, .ref w7, .ref w8, .ref w9, .ref w10, .ref w11, .int (nI j), .ref w12, .ref w13, .ref w14, .ref w15, .ref w16])), (w2, eI G 12 b)] (some (.int (cov (fun kk => b kk = -1) m))) 0 0 := by
  refine zM.ofI (own := RX5) (cc := cX5_orphans) (maxL := 3) rfl (by decide) rfl rfl (by simp [Value.category]) (Nat.le_of_ble_eq_true rfl) ?_
  intro X hF hR
  have k_0 : ∀ w ∈ wsX50, w ∈ wsX5_orphans := by decide +kernel
  have k_1 : zH X (.fieldLink RX5 62 "MarginDeskModel" "thrown" "I") := hF.w (by decide +kernel)
  have k_2 : zH X (.fieldLink RX5 73 "MarginDeskModel" "comments" "I") := hF.w (by decide +kernel)
  have k_3 : zH X (.fieldLink RX5 13 "MarginDeskModel" "from" "[I") := hF.w (by decide +kernel)
  refine z_lv (lv' := [some (.ref w0), none, none]) rfl ?_
  refine z_aload_n hF dX5_orphans_0 rfl ?_
  refine z_iconst (v := nI 0) hF dX5_orphans_1 (by decide) ?_
  refine z_put (C := RX5) (T := TX5) (N := 21) (ci := 5) (ws' := [(w0, .inr (5, [.int (nI 0), .int (nI n), .ref w1, .int (nI v), .int (nI m), .ref w2, .ref w3, .ref w4, .ref w5, .ref w6, .ref w7, .ref w8, .ref w9, .ref w10, .ref w11, .int (nI j), .ref w12, .ref w13, .ref w14, .ref w15, .ref w16])), (w2, eI G 12 b)]) hF k_0 tyX5 tyX5_ok nmX5 0 (by decide) rfl k_1 rfl rfl rfl rfl 0 rfl rfl rfl dX5_orphans_2 ?_
  refine z_iconst (v := nI 0) hF dX5_orphans_5 (by decide) ?_
  refine z_istore_n (lv' := [some (.ref w0), some (.int (nI 0)), none]) hF dX5_orphans_6 rfl rfl ?_
  refine z_iconst (v := nI 0) hF dX5_orphans_7 (by decide) ?_
  refine z_istore_n (lv' := [some (.ref w0), some (.int (nI 0)), some (.int (nI 0))]) hF dX5_orphans_8 rfl rfl ?_
  refine z_lv (lv' := [some (.ref w0), some (.int (cov (fun kk => b kk = -1) 0)), some (.int (nI 0))]) (by rfl) ?_
  have J_9 : ∀ (n9 : Nat) (i : Nat), m - i < n9 → (i ≤ m) → zJ G X 9 [(w0, .inr (5, [.int (nI 0), .int (nI n), .ref w1, .int (nI v), .int (nI m), .ref w2, .ref w3, .ref w4, .ref w5, .ref w6, .ref w7, .ref w8, .ref w9, .ref w10, .ref w11, .int (nI j), .ref w12, .ref w13, .ref w14, .ref w15, .ref w16])), (w2, eI G 12 b)] [some (.ref w0), some (.int (cov (fun kk => b kk = -1) i)), some (.int (nI i))] [] 0 0 := by
    intro n9
    induction n9 with
    | zero => intro i hmu; exact absurd hmu (Nat.not_lt_zero _)
    | succ n9 ih =>
      intro i hmu h2
      refine z_iload_n hF dX5_orphans_9 rfl ?_
      refine z_aload_n hF dX5_orphans_10 rfl ?_
      refine z_get (C := RX5) (T := TX5) (N := 21) (ci := 5) (v := .int (nI m)) hF k_0 4 (by decide) rfl k_2 rfl 0 rfl rfl dX5_orphans_11 ?_
      refine z_icn_ge (tgt := 43) hF (by omega) (by omega) dX5_orphans_14 (by decide) (fun c_1 => ?_) (fun c_1 => ?_)
      · refine z_iload_n hF dX5_orphans_43 rfl ?_
        exact hR.i dX5_orphans_44 (Nat.le_of_ble_eq_true rfl) (Nat.le_of_ble_eq_true rfl) (rfl) (by rw [show i = m by omega])
      · refine z_iload_n hF dX5_orphans_17 rfl ?_
        refine z_aload_n hF dX5_orphans_18 rfl ?_
        refine z_get (C := RX5) (T := TX5) (N := 21) (ci := 5) (v := .ref w2) hF k_0 5 (by decide) rfl k_3 rfl 0 rfl rfl dX5_orphans_19 ?_
        refine z_iload_n hF dX5_orphans_22 rfl ?_
        refine z_iald (k := i) hF 1 rfl (rfl) (by omega) rfl dX5_orphans_23 ?_
        refine z_iconst (v := -1) hF dX5_orphans_24 (by decide) ?_
        refine z_ic_ne (tgt := 34) hF dX5_orphans_25 (by decide) (fun c_2 => ?_) (fun c_2 => ?_)
        · refine z_iconst (v := nI 0) hF dX5_orphans_34 (by decide) ?_
          refine z_ior hF dX5_orphans_35 ?_
          refine z_top (y := cov (fun kk => b kk = -1) (i + 1)) (by rw [or_0, cov_f (k := i) (by first | assumption | grind)]) ?_
          refine z_istore_n (lv' := [some (.ref w0), some (.int (cov (fun kk => b kk = -1) (i + 1))), some (.int (nI i))]) hF dX5_orphans_36 rfl rfl ?_
          refine z_iinc (v := nI (i + 1)) (lv' := [some (.ref w0), some (.int (cov (fun kk => b kk = -1) (i + 1))), some (.int (nI (i + 1)))]) hF dX5_orphans_37 rfl (nI_1 i) rfl rfl ?_
          refine z_goto (tgt := 9) hF dX5_orphans_40 (by decide) ?_
          exact ih (i + 1) (by omega) (by omega)
        · refine z_iconst (v := nI 1) hF dX5_orphans_28 (by decide) ?_
          refine z_iload_n hF dX5_orphans_29 rfl ?_
          refine z_ishl hF dX5_orphans_30 ?_
          refine z_goto (tgt := 35) hF dX5_orphans_31 (by decide) ?_
          refine z_ior hF dX5_orphans_35 ?_
          refine z_top (y := cov (fun kk => b kk = -1) (i + 1)) (cov_t (P := fun kk => b kk = -1) (by first | assumption | grind)) ?_
          refine z_istore_n (lv' := [some (.ref w0), some (.int (cov (fun kk => b kk = -1) (i + 1))), some (.int (nI i))]) hF dX5_orphans_36 rfl rfl ?_
          refine z_iinc (v := nI (i + 1)) (lv' := [some (.ref w0), some (.int (cov (fun kk => b kk = -1) (i + 1))), some (.int (nI (i + 1)))]) hF dX5_orphans_37 rfl (nI_1 i) rfl rfl ?_
          refine z_goto (tgt := 9) hF dX5_orphans_40 (by decide) ?_
          exact ih (i + 1) (by omega) (by omega)
  exact J_9 ((m - 0) + 1) 0 (Nat.lt_succ_self _) (by omega)
set_option maxHeartbeats 4000000 in
set_option maxRecDepth 100000 in
theorem c_X5_coverOf (G : zG) (w0 w1 w2 w3 w4 w5 w6 w7 w8 w9 w10 w11 w12 w13 w14 w15 w16 n v m j : Nat) (th : Int32) (b : Nat → Int32) (e : Nat → Int32) (a : Int32) (hm : m ≤ 12) (hg : ∀ i, i < m → b i = -1 → e i = -1) : zM G yX5_coverOf wsX5_coverOf ({ frames := 0, cells := 0, slots := 0, locals := 12 }) [.ref w0, .int a] [(w0, .inr (5, [.int th, .int (nI n), .ref w1, .int (nI v), .int (nI m), .ref w2, .ref w3, .ref w4, .ref w5, .ref w6, .ref w7, .ref w8, .ref w9, .ref w10, .ref w11, .int (nI j), .ref w12, .ref w13, .ref w14, .ref w15, .ref w16])), (w2, eI G 12 b), (w3, eI G 12 e)] [(w0, .inr (5, [.int th, .int (nI n), .ref w1, .int (nI v), .int (nI m), .ref w2, .ref w3, .ref w4, .ref w5, .ref w6, .ref w7, .ref w8, .ref w9, .ref w10, .ref w11, .int (nI j), .ref w12, .ref w13, .ref w14, .ref w15, .ref w16])), (w2, eI G 12 b), (w3, eI G 12 e)] (some (.int (if a < nI n then covF b e m a else 0))) 0 0 := by
  refine zM.ofI (own := RX5) (cc := cX5_coverOf) (maxL := 4) rfl (by decide) rfl rfl (by simp [Value.category]) (Nat.le_of_ble_eq_true rfl) ?_
  intro X hF hR
  have k_0 : ∀ w ∈ wsX50, w ∈ wsX5_coverOf := by decide +kernel
  have k_1 : zH X (.fieldLink RX5 73 "MarginDeskModel" "comments" "I") := hF.w (by decide +kernel)
  have k_2 : zH X (.fieldLink RX5 66 "MarginDeskModel" "length" "I") := hF.w (by decide +kernel)
  have k_3 : zH X (.fieldLink RX5 13 "MarginDeskModel" "from" "[I") := hF.w (by decide +kernel)
  have k_4 : zH X (.fieldLink RX5 16 "MarginDeskModel" "to" "[I") := hF.w (by decide +kernel)
  refine z_lv (lv' := [some (.ref w0), some (.int a), none, none]) rfl ?_
  refine z_iconst (v := nI 0) hF dX5_coverOf_0 (by decide) ?_
  refine z_istore_n (lv' := [some (.ref w0), some (.int a), some (.int (nI 0)), none]) hF dX5_coverOf_1 rfl rfl ?_
  refine z_iconst (v := nI 0) hF dX5_coverOf_2 (by decide) ?_
  refine z_istore_n (lv' := [some (.ref w0), some (.int a), some (.int (nI 0)), some (.int (nI 0))]) hF dX5_coverOf_3 rfl rfl ?_
  refine z_lv (lv' := [some (.ref w0), some (.int a), some (.int (cov (fun kk => b kk ≤ a ∧ a < e kk) 0)), some (.int (nI 0))]) (by rfl) ?_
  have J_4 : ∀ (n9 : Nat) (i : Nat), m - i < n9 → (i ≤ m) → (a < nI n ∨ i = 0) → zJ G X 4 [(w0, .inr (5, [.int th, .int (nI n), .ref w1, .int (nI v), .int (nI m), .ref w2, .ref w3, .ref w4, .ref w5, .ref w6, .ref w7, .ref w8, .ref w9, .ref w10, .ref w11, .int (nI j), .ref w12, .ref w13, .ref w14, .ref w15, .ref w16])), (w2, eI G 12 b), (w3, eI G 12 e)] [some (.ref w0), some (.int a), some (.int (cov (fun kk => b kk ≤ a ∧ a < e kk) i)), some (.int (nI i))] [] 0 0 := by
    intro n9
    induction n9 with
    | zero => intro i hmu; exact absurd hmu (Nat.not_lt_zero _)
    | succ n9 ih =>
      intro i hmu h2 hp
      refine z_iload_n hF dX5_coverOf_4 rfl ?_
      refine z_aload_n hF dX5_coverOf_5 rfl ?_
      refine z_get (C := RX5) (T := TX5) (N := 21) (ci := 5) (v := .int (nI m)) hF k_0 4 (by decide) rfl k_1 rfl 0 rfl rfl dX5_coverOf_6 ?_
      refine z_icn_ge (tgt := 66) hF (by omega) (by omega) dX5_coverOf_9 (by decide) (fun c_1 => ?_) (fun c_1 => ?_)
      · refine z_iload_n hF dX5_coverOf_66 rfl ?_
        exact hR.i dX5_coverOf_67 (Nat.le_of_ble_eq_true rfl) (Nat.le_of_ble_eq_true rfl) (rfl) (by exact hp.elim (fun hp => by rw [if_pos hp, show i = m by omega]; try rfl) (fun hp => by rw [show m = 0 by omega, hp]; split <;> rfl))
      · refine z_iload_n hF dX5_coverOf_12 rfl ?_
        refine z_aload_n hF dX5_coverOf_13 rfl ?_
        refine z_get (C := RX5) (T := TX5) (N := 21) (ci := 5) (v := .int (nI n)) hF k_0 1 (by decide) rfl k_2 rfl 0 rfl rfl dX5_coverOf_14 ?_
        refine z_ic_ge (tgt := 66) hF dX5_coverOf_17 (by decide) (fun hn9 => ?_) (fun hn9 => ?_)
        · refine z_iload_n hF dX5_coverOf_66 rfl ?_
          exact hR.i dX5_coverOf_67 (Nat.le_of_ble_eq_true rfl) (Nat.le_of_ble_eq_true rfl) (rfl) (by rw [if_neg (by grind)]; rw [show i = 0 by grind]; rfl)
        · have hgi := hg i (by omega)
          refine z_iload_n hF dX5_coverOf_20 rfl ?_
          refine z_aload_n hF dX5_coverOf_21 rfl ?_
          refine z_get (C := RX5) (T := TX5) (N := 21) (ci := 5) (v := .ref w2) hF k_0 5 (by decide) rfl k_3 rfl 0 rfl rfl dX5_coverOf_22 ?_
          refine z_iload_n hF dX5_coverOf_25 rfl ?_
          refine z_iald (k := i) hF 1 rfl (rfl) (by omega) rfl dX5_coverOf_26 ?_
          refine z_iconst (v := -1) hF dX5_coverOf_27 (by decide) ?_
          refine z_ic_eq (tgt := 57) hF dX5_coverOf_28 (by decide) (fun c_2 => ?_) (fun c_2 => ?_)
          · refine z_iconst (v := nI 0) hF dX5_coverOf_57 (by decide) ?_
            refine z_ior hF dX5_coverOf_58 ?_
            refine z_top (y := cov (fun kk => b kk ≤ a ∧ a < e kk) (i + 1)) (by rw [or_0, cov_f (k := i) (by first | assumption | grind)]) ?_
            refine z_istore_n (lv' := [some (.ref w0), some (.int a), some (.int (cov (fun kk => b kk ≤ a ∧ a < e kk) (i + 1))), some (.int (nI i))]) hF dX5_coverOf_59 rfl rfl ?_
            refine z_iinc (v := nI (i + 1)) (lv' := [some (.ref w0), some (.int a), some (.int (cov (fun kk => b kk ≤ a ∧ a < e kk) (i + 1))), some (.int (nI (i + 1)))]) hF dX5_coverOf_60 rfl (nI_1 i) rfl rfl ?_
            refine z_goto (tgt := 4) hF dX5_coverOf_63 (by decide) ?_
            exact ih (i + 1) (by omega) (by omega) (Or.inl (by grind))
          · refine z_aload_n hF dX5_coverOf_31 rfl ?_
            refine z_get (C := RX5) (T := TX5) (N := 21) (ci := 5) (v := .ref w2) hF k_0 5 (by decide) rfl k_3 rfl 0 rfl rfl dX5_coverOf_32 ?_
            refine z_iload_n hF dX5_coverOf_35 rfl ?_
            refine z_iald (k := i) hF 1 rfl (rfl) (by omega) rfl dX5_coverOf_36 ?_
            refine z_iload_n hF dX5_coverOf_37 rfl ?_
            refine z_ic_gt (tgt := 57) hF dX5_coverOf_38 (by decide) (fun c_3 => ?_) (fun c_3 => ?_)
            · refine z_iconst (v := nI 0) hF dX5_coverOf_57 (by decide) ?_
              refine z_ior hF dX5_coverOf_58 ?_
              refine z_top (y := cov (fun kk => b kk ≤ a ∧ a < e kk) (i + 1)) (by rw [or_0, cov_f (k := i) (by first | assumption | grind)]) ?_
              refine z_istore_n (lv' := [some (.ref w0), some (.int a), some (.int (cov (fun kk => b kk ≤ a ∧ a < e kk) (i + 1))), some (.int (nI i))]) hF dX5_coverOf_59 rfl rfl ?_
              refine z_iinc (v := nI (i + 1)) (lv' := [some (.ref w0), some (.int a), some (.int (cov (fun kk => b kk ≤ a ∧ a < e kk) (i + 1))), some (.int (nI (i + 1)))]) hF dX5_coverOf_60 rfl (nI_1 i) rfl rfl ?_
              refine z_goto (tgt := 4) hF dX5_coverOf_63 (by decide) ?_
              exact ih (i + 1) (by omega) (by omega) (Or.inl (by grind))
            · refine z_iload_n hF dX5_coverOf_41 rfl ?_
              refine z_aload_n hF dX5_coverOf_42 rfl ?_
              refine z_get (C := RX5) (T := TX5) (N := 21) (ci := 5) (v := .ref w3) hF k_0 6 (by decide) rfl k_4 rfl 0 rfl rfl dX5_coverOf_43 ?_
              refine z_iload_n hF dX5_coverOf_46 rfl ?_
              refine z_iald (k := i) hF 2 rfl (rfl) (by omega) rfl dX5_coverOf_47 ?_
              refine z_ic_ge (tgt := 57) hF dX5_coverOf_48 (by decide) (fun c_4 => ?_) (fun c_4 => ?_)
              · refine z_iconst (v := nI 0) hF dX5_coverOf_57 (by decide) ?_
                refine z_ior hF dX5_coverOf_58 ?_
                refine z_top (y := cov (fun kk => b kk ≤ a ∧ a < e kk) (i + 1)) (by rw [or_0, cov_f (k := i) (by first | assumption | grind)]) ?_
                refine z_istore_n (lv' := [some (.ref w0), some (.int a), some (.int (cov (fun kk => b kk ≤ a ∧ a < e kk) (i + 1))), some (.int (nI i))]) hF dX5_coverOf_59 rfl rfl ?_
                refine z_iinc (v := nI (i + 1)) (lv' := [some (.ref w0), some (.int a), some (.int (cov (fun kk => b kk ≤ a ∧ a < e kk) (i + 1))), some (.int (nI (i + 1)))]) hF dX5_coverOf_60 rfl (nI_1 i) rfl rfl ?_
                refine z_goto (tgt := 4) hF dX5_coverOf_63 (by decide) ?_
                exact ih (i + 1) (by omega) (by omega) (Or.inl (by grind))
              · refine z_iconst (v := nI 1) hF dX5_coverOf_51 (by decide) ?_
                refine z_iload_n hF dX5_coverOf_52 rfl ?_
                refine z_ishl hF dX5_coverOf_53 ?_
                refine z_goto (tgt := 58) hF dX5_coverOf_54 (by decide) ?_
                refine z_ior hF dX5_coverOf_58 ?_
                refine z_top (y := cov (fun kk => b kk ≤ a ∧ a < e kk) (i + 1)) (cov_t (P := fun kk => b kk ≤ a ∧ a < e kk) (by first | assumption | grind)) ?_
                refine z_istore_n (lv' := [some (.ref w0), some (.int a), some (.int (cov (fun kk => b kk ≤ a ∧ a < e kk) (i + 1))), some (.int (nI i))]) hF dX5_coverOf_59 rfl rfl ?_
                refine z_iinc (v := nI (i + 1)) (lv' := [some (.ref w0), some (.int a), some (.int (cov (fun kk => b kk ≤ a ∧ a < e kk) (i + 1))), some (.int (nI (i + 1)))]) hF dX5_coverOf_60 rfl (nI_1 i) rfl rfl ?_
                refine z_goto (tgt := 4) hF dX5_coverOf_63 (by decide) ?_
                exact ih (i + 1) (by omega) (by omega) (Or.inl (by grind))
  exact J_4 ((m - 0) + 1) 0 (Nat.lt_succ_self _) (by omega) (Or.inr rfl)
set_option maxHeartbeats 4000000 in
set_option maxRecDepth 100000 in
theorem c_X5_cover_f (G : zG) (w0 w1 w2 w3 w4 w5 w6 w7 w8 w9 w10 w11 w12 w13 w14 w15 w16 n v m j : Nat) (th : Int32) (b : Nat → Int32) (e : Nat → Int32) (a : Int32) (hm : m ≤ 12) (hg : ∀ i, i < m → b i = -1 → e i = -1) (hc : ¬ (plC n a) = 0) : zM G yX5_cover wsX5_cover ({ frames := 2, cells := 0, slots := 0, locals := 55 }) [.ref w0, .int a] [(w0, .inr (5, [.int th, .int (nI n), .ref w1, .int (nI v), .int (nI m), .ref w2, .ref w3, .ref w4, .ref w5, .ref w6, .ref w7, .ref w8, .ref w9, .ref w10, .ref w11, .int (nI j), .ref w12, .ref w13, .ref w14, .ref w15, .ref w16])), (w2, eI G 12 b), (w3, eI G 12 e)] [(w0, .inr (5, [.int (nI (plC n a)), .int (nI n), .ref w1, .int (nI v), .int (nI m), .ref w2, .ref w3, .ref w4, .ref w5, .ref w6, .ref w7, .ref w8, .ref w9, .ref w10, .ref w11, .int (nI j), .ref w12, .ref w13, .ref w14, .ref w15, .ref w16])), (w2, eI G 12 b), (w3, eI G 12 e)] (some (.int (nI 0))) 0 0 := by
  refine zM.ofI (own := RX5) (cc := cX5_cover) (maxL := 2) rfl (by decide) rfl rfl (by simp [Value.category]) (Nat.le_of_ble_eq_true rfl) ?_
  intro X hF hR
  have k_0 : ∀ w ∈ wsX50, w ∈ wsX5_cover := by decide +kernel
  have k_1 : zH X (.fieldLink RX5 62 "MarginDeskModel" "thrown" "I") := hF.w (by decide +kernel)
  refine z_lv (lv' := [some (.ref w0), some (.int a)]) rfl ?_
  have d_0 := plC_d n a
  refine z_aload_n hF dX5_cover_0 rfl ?_
  refine z_iconst (v := nI 0) hF dX5_cover_1 (by decide) ?_
  refine z_put (C := RX5) (T := TX5) (N := 21) (ci := 5) (ws' := [(w0, .inr (5, [.int (nI 0), .int (nI n), .ref w1, .int (nI v), .int (nI m), .ref w2, .ref w3, .ref w4, .ref w5, .ref w6, .ref w7, .ref w8, .ref w9, .ref w10, .ref w11, .int (nI j), .ref w12, .ref w13, .ref w14, .ref w15, .ref w16])), (w2, eI G 12 b), (w3, eI G 12 e)]) hF k_0 tyX5 tyX5_ok nmX5 0 (by decide) rfl k_1 rfl rfl rfl rfl 0 rfl rfl rfl dX5_cover_2 ?_
  refine z_aload_n hF dX5_cover_5 rfl ?_
  refine z_iload_n hF dX5_cover_6 rfl ?_
  refine z_V (As := [.int a]) (rest := []) (ws' := [(w0, .inr (5, [.int (nI 0), .int (nI n), .ref w1, .int (nI v), .int (nI m), .ref w2, .ref w3, .ref w4, .ref w5, .ref w6, .ref w7, .ref w8, .ref w9, .ref w10, .ref w11, .int (nI j), .ref w12, .ref w13, .ref w14, .ref w15, .ref w16])), (w2, eI G 12 b), (w3, eI G 12 e)]) (st2 := [.int (zb (plC n a = 0))]) (c2 := 0) (s2 := 0) hF (c_X5_isPlace G w0 w1 w2 w3 w4 w5 w6 w7 w8 w9 w10 w11 w12 w13 w14 w15 w16 n v m j (nI 0) a) gX5_cover_X5_isPlace rfl rfl rfl hd_X5_isPlace ⟨⟨Nat.le_of_ble_eq_true rfl, Nat.le_of_ble_eq_true rfl⟩, ⟨Nat.le_of_ble_eq_true rfl, Nat.le_of_ble_eq_true rfl⟩, Nat.le_of_ble_eq_true rfl⟩ [0] rfl rfl 0 rfl rfl rfl rfl rfl rfl rfl rfl rfl rfl dX5_cover_7 ?_
  refine z_if_eq_b (tgt := 21) hF dX5_cover_10 (by decide) (fun c_1 => ?_) (fun c_1 => ?_)
  · refine z_aload_n hF dX5_cover_21 rfl ?_
    refine z_iconst (v := nI 1) hF dX5_cover_22 (by decide) ?_
    refine z_V (As := [.int (nI 1)]) (rest := []) (ws' := [(w0, .inr (5, [.int (nI 1), .int (nI n), .ref w1, .int (nI v), .int (nI m), .ref w2, .ref w3, .ref w4, .ref w5, .ref w6, .ref w7, .ref w8, .ref w9, .ref w10, .ref w11, .int (nI j), .ref w12, .ref w13, .ref w14, .ref w15, .ref w16])), (w2, eI G 12 b), (w3, eI G 12 e)]) (st2 := [.int (nI 0)]) (c2 := 0) (s2 := 0) hF (c_X5_fails G w0 w1 w2 w3 w4 w5 w6 w7 w8 w9 w10 w11 w12 w13 w14 w15 w16 n v m j (nI 0) (nI 1)) gX5_cover_X5_fails rfl rfl rfl hd_X5_fails ⟨⟨Nat.le_of_ble_eq_true rfl, Nat.le_of_ble_eq_true rfl⟩, ⟨Nat.le_of_ble_eq_true rfl, Nat.le_of_ble_eq_true rfl⟩, Nat.le_of_ble_eq_true rfl⟩ [0] rfl rfl 0 rfl rfl rfl rfl rfl rfl rfl rfl rfl rfl dX5_cover_23 ?_
    exact hR.i dX5_cover_26 (Nat.le_of_ble_eq_true rfl) (Nat.le_of_ble_eq_true rfl) (by rw [show (plC n a) = 1 from (by (try simp only [fz]); grind)]) (rfl)
  · exact absurd (by (try simp only [fz]); grind : (plC n a) = 0) hc
set_option maxHeartbeats 4000000 in
set_option maxRecDepth 100000 in
theorem c_X5_cover_k (G : zG) (w0 w1 w2 w3 w4 w5 w6 w7 w8 w9 w10 w11 w12 w13 w14 w15 w16 n v m j : Nat) (th : Int32) (b : Nat → Int32) (e : Nat → Int32) (a : Int32) (hm : m ≤ 12) (hg : ∀ i, i < m → b i = -1 → e i = -1) (hc : (plC n a) = 0) : zM G yX5_cover wsX5_cover ({ frames := 2, cells := 0, slots := 0, locals := 55 }) [.ref w0, .int a] [(w0, .inr (5, [.int th, .int (nI n), .ref w1, .int (nI v), .int (nI m), .ref w2, .ref w3, .ref w4, .ref w5, .ref w6, .ref w7, .ref w8, .ref w9, .ref w10, .ref w11, .int (nI j), .ref w12, .ref w13, .ref w14, .ref w15, .ref w16])), (w2, eI G 12 b), (w3, eI G 12 e)] [(w0, .inr (5, [.int (nI 0), .int (nI n), .ref w1, .int (nI v), .int (nI m), .ref w2, .ref w3, .ref w4, .ref w5, .ref w6, .ref w7, .ref w8, .ref w9, .ref w10, .ref w11, .int (nI j), .ref w12, .ref w13, .ref w14, .ref w15, .ref w16])), (w2, eI G 12 b), (w3, eI G 12 e)] (some (.int (if a < nI n then covF b e m a else 0))) 0 0 := by
  refine zM.ofI (own := RX5) (cc := cX5_cover) (maxL := 2) rfl (by decide) rfl rfl (by simp [Value.category]) (Nat.le_of_ble_eq_true rfl) ?_
  intro X hF hR
  have k_0 : ∀ w ∈ wsX50, w ∈ wsX5_cover := by decide +kernel
  have k_1 : zH X (.fieldLink RX5 62 "MarginDeskModel" "thrown" "I") := hF.w (by decide +kernel)
  refine z_lv (lv' := [some (.ref w0), some (.int a)]) rfl ?_
  have d_0 := plC_d n a
  refine z_aload_n hF dX5_cover_0 rfl ?_
  refine z_iconst (v := nI 0) hF dX5_cover_1 (by decide) ?_
  refine z_put (C := RX5) (T := TX5) (N := 21) (ci := 5) (ws' := [(w0, .inr (5, [.int (nI 0), .int (nI n), .ref w1, .int (nI v), .int (nI m), .ref w2, .ref w3, .ref w4, .ref w5, .ref w6, .ref w7, .ref w8, .ref w9, .ref w10, .ref w11, .int (nI j), .ref w12, .ref w13, .ref w14, .ref w15, .ref w16])), (w2, eI G 12 b), (w3, eI G 12 e)]) hF k_0 tyX5 tyX5_ok nmX5 0 (by decide) rfl k_1 rfl rfl rfl rfl 0 rfl rfl rfl dX5_cover_2 ?_
  refine z_aload_n hF dX5_cover_5 rfl ?_
  refine z_iload_n hF dX5_cover_6 rfl ?_
  refine z_V (As := [.int a]) (rest := []) (ws' := [(w0, .inr (5, [.int (nI 0), .int (nI n), .ref w1, .int (nI v), .int (nI m), .ref w2, .ref w3, .ref w4, .ref w5, .ref w6, .ref w7, .ref w8, .ref w9, .ref w10, .ref w11, .int (nI j), .ref w12, .ref w13, .ref w14, .ref w15, .ref w16])), (w2, eI G 12 b), (w3, eI G 12 e)]) (st2 := [.int (zb (plC n a = 0))]) (c2 := 0) (s2 := 0) hF (c_X5_isPlace G w0 w1 w2 w3 w4 w5 w6 w7 w8 w9 w10 w11 w12 w13 w14 w15 w16 n v m j (nI 0) a) gX5_cover_X5_isPlace rfl rfl rfl hd_X5_isPlace ⟨⟨Nat.le_of_ble_eq_true rfl, Nat.le_of_ble_eq_true rfl⟩, ⟨Nat.le_of_ble_eq_true rfl, Nat.le_of_ble_eq_true rfl⟩, Nat.le_of_ble_eq_true rfl⟩ [0] rfl rfl 0 rfl rfl rfl rfl rfl rfl rfl rfl rfl rfl dX5_cover_7 ?_
  refine z_if_eq_b (tgt := 21) hF dX5_cover_10 (by decide) (fun c_1 => ?_) (fun c_1 => ?_)
  · exact absurd hc (by (try simp only [fz]); grind)
  · refine z_aload_n hF dX5_cover_13 rfl ?_
    refine z_iload_n hF dX5_cover_14 rfl ?_
    refine z_V (As := [.int a]) (rest := []) (ws' := [(w0, .inr (5, [.int (nI 0), .int (nI n), .ref w1, .int (nI v), .int (nI m), .ref w2, .ref w3, .ref w4, .ref w5, .ref w6, .ref w7, .ref w8, .ref w9, .ref w10, .ref w11, .int (nI j), .ref w12, .ref w13, .ref w14, .ref w15, .ref w16])), (w2, eI G 12 b), (w3, eI G 12 e)]) (st2 := [.int (if a < nI n then covF b e m a else 0)]) (c2 := 0) (s2 := 0) hF (c_X5_coverOf G w0 w1 w2 w3 w4 w5 w6 w7 w8 w9 w10 w11 w12 w13 w14 w15 w16 n v m j (nI 0) b e a (by first | assumption | omega) (by first | assumption | omega)) gX5_cover_X5_coverOf rfl rfl rfl hd_X5_coverOf ⟨⟨Nat.le_of_ble_eq_true rfl, Nat.le_of_ble_eq_true rfl⟩, ⟨Nat.le_of_ble_eq_true rfl, Nat.le_of_ble_eq_true rfl⟩, Nat.le_of_ble_eq_true rfl⟩ [0, 1, 2] rfl rfl 0 rfl rfl rfl rfl rfl rfl rfl rfl rfl rfl dX5_cover_15 ?_
    refine z_goto (tgt := 26) hF dX5_cover_18 (by decide) ?_
    exact hR.i dX5_cover_26 (Nat.le_of_ble_eq_true rfl) (Nat.le_of_ble_eq_true rfl) (rfl) (rfl)
set_option maxHeartbeats 4000000 in
set_option maxRecDepth 100000 in
theorem c_X5_coverByLetters_f (G : zG) (w0 w1 w2 w3 w4 w5 w6 w7 w8 w9 w10 w11 w12 w13 w14 w15 w16 n v m j : Nat) (th : Int32) (b : Nat → Int32) (e : Nat → Int32) (a : Int32) (hm : m ≤ 12) (hg : ∀ i, i < m → b i = -1 → e i = -1) (hc : ¬ (plC n a) = 0) : zM G yX5_coverByLetters wsX5_coverByLetters ({ frames := 2, cells := 0, slots := 0, locals := 55 }) [.ref w0, .int a] [(w0, .inr (5, [.int th, .int (nI n), .ref w1, .int (nI v), .int (nI m), .ref w2, .ref w3, .ref w4, .ref w5, .ref w6, .ref w7, .ref w8, .ref w9, .ref w10, .ref w11, .int (nI j), .ref w12, .ref w13, .ref w14, .ref w15, .ref w16])), (w2, eI G 12 b), (w3, eI G 12 e)] [(w0, .inr (5, [.int (nI (plC n a)), .int (nI n), .ref w1, .int (nI v), .int (nI m), .ref w2, .ref w3, .ref w4, .ref w5, .ref w6, .ref w7, .ref w8, .ref w9, .ref w10, .ref w11, .int (nI j), .ref w12, .ref w13, .ref w14, .ref w15, .ref w16])), (w2, eI G 12 b), (w3, eI G 12 e)] (some (.int (nI 0))) 0 0 := by
  refine zM.ofI (own := RX5) (cc := cX5_coverByLetters) (maxL := 2) rfl (by decide) rfl rfl (by simp [Value.category]) (Nat.le_of_ble_eq_true rfl) ?_
  intro X hF hR
  have k_0 : ∀ w ∈ wsX50, w ∈ wsX5_coverByLetters := by decide +kernel
  have k_1 : zH X (.fieldLink RX5 62 "MarginDeskModel" "thrown" "I") := hF.w (by decide +kernel)
  refine z_lv (lv' := [some (.ref w0), some (.int a)]) rfl ?_
  have d_0 := plC_d n a
  refine z_aload_n hF dX5_coverByLetters_0 rfl ?_
  refine z_iconst (v := nI 0) hF dX5_coverByLetters_1 (by decide) ?_
  refine z_put (C := RX5) (T := TX5) (N := 21) (ci := 5) (ws' := [(w0, .inr (5, [.int (nI 0), .int (nI n), .ref w1, .int (nI v), .int (nI m), .ref w2, .ref w3, .ref w4, .ref w5, .ref w6, .ref w7, .ref w8, .ref w9, .ref w10, .ref w11, .int (nI j), .ref w12, .ref w13, .ref w14, .ref w15, .ref w16])), (w2, eI G 12 b), (w3, eI G 12 e)]) hF k_0 tyX5 tyX5_ok nmX5 0 (by decide) rfl k_1 rfl rfl rfl rfl 0 rfl rfl rfl dX5_coverByLetters_2 ?_
  refine z_aload_n hF dX5_coverByLetters_5 rfl ?_
  refine z_iload_n hF dX5_coverByLetters_6 rfl ?_
  refine z_V (As := [.int a]) (rest := []) (ws' := [(w0, .inr (5, [.int (nI 0), .int (nI n), .ref w1, .int (nI v), .int (nI m), .ref w2, .ref w3, .ref w4, .ref w5, .ref w6, .ref w7, .ref w8, .ref w9, .ref w10, .ref w11, .int (nI j), .ref w12, .ref w13, .ref w14, .ref w15, .ref w16])), (w2, eI G 12 b), (w3, eI G 12 e)]) (st2 := [.int (zb (plC n a = 0))]) (c2 := 0) (s2 := 0) hF (c_X5_isPlace G w0 w1 w2 w3 w4 w5 w6 w7 w8 w9 w10 w11 w12 w13 w14 w15 w16 n v m j (nI 0) a) gX5_coverByLetters_X5_isPlace rfl rfl rfl hd_X5_isPlace ⟨⟨Nat.le_of_ble_eq_true rfl, Nat.le_of_ble_eq_true rfl⟩, ⟨Nat.le_of_ble_eq_true rfl, Nat.le_of_ble_eq_true rfl⟩, Nat.le_of_ble_eq_true rfl⟩ [0] rfl rfl 0 rfl rfl rfl rfl rfl rfl rfl rfl rfl rfl dX5_coverByLetters_7 ?_
  refine z_if_eq_b (tgt := 21) hF dX5_coverByLetters_10 (by decide) (fun c_1 => ?_) (fun c_1 => ?_)
  · refine z_aload_n hF dX5_coverByLetters_21 rfl ?_
    refine z_iconst (v := nI 1) hF dX5_coverByLetters_22 (by decide) ?_
    refine z_V (As := [.int (nI 1)]) (rest := []) (ws' := [(w0, .inr (5, [.int (nI 1), .int (nI n), .ref w1, .int (nI v), .int (nI m), .ref w2, .ref w3, .ref w4, .ref w5, .ref w6, .ref w7, .ref w8, .ref w9, .ref w10, .ref w11, .int (nI j), .ref w12, .ref w13, .ref w14, .ref w15, .ref w16])), (w2, eI G 12 b), (w3, eI G 12 e)]) (st2 := [.int (nI 0)]) (c2 := 0) (s2 := 0) hF (c_X5_fails G w0 w1 w2 w3 w4 w5 w6 w7 w8 w9 w10 w11 w12 w13 w14 w15 w16 n v m j (nI 0) (nI 1)) gX5_coverByLetters_X5_fails rfl rfl rfl hd_X5_fails ⟨⟨Nat.le_of_ble_eq_true rfl, Nat.le_of_ble_eq_true rfl⟩, ⟨Nat.le_of_ble_eq_true rfl, Nat.le_of_ble_eq_true rfl⟩, Nat.le_of_ble_eq_true rfl⟩ [0] rfl rfl 0 rfl rfl rfl rfl rfl rfl rfl rfl rfl rfl dX5_coverByLetters_23 ?_
    exact hR.i dX5_coverByLetters_26 (Nat.le_of_ble_eq_true rfl) (Nat.le_of_ble_eq_true rfl) (by rw [show (plC n a) = 1 from (by (try simp only [fz]); grind)]) (rfl)
  · exact absurd (by (try simp only [fz]); grind : (plC n a) = 0) hc
