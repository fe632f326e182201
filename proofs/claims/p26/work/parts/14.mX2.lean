set_option maxHeartbeats 4000000 in
set_option maxRecDepth 100000 in
theorem c_X4_bit (G : zG) (k : Int32)  : zM G yX4_bit wsX4_bit ({ frames := 0, cells := 0, slots := 0, locals := 12 }) [.int k] [] [] (some (.int (bitF k))) 0 0 := by
  refine zM.ofI (own := RX4) (cc := cX4_bit) (maxL := 1) rfl (by decide) rfl rfl (by simp [Value.category]) (Nat.le_of_ble_eq_true rfl) ?_
  intro X hF hR
  refine z_lv (lv' := [some (.int k)]) rfl ?_
  refine z_iconst (v := nI 1) hF dX4_bit_0 (by decide) ?_
  refine z_iload_n hF dX4_bit_1 rfl ?_
  refine z_ishl hF dX4_bit_2 ?_
  exact hR.i dX4_bit_3 (Nat.le_of_ble_eq_true rfl) (Nat.le_of_ble_eq_true rfl) (rfl) (rfl)
set_option maxHeartbeats 4000000 in
set_option maxRecDepth 100000 in
theorem c_X2_isGone (G : zG) (r0 r1 r2 r3 m : Nat) (i : Nat) (b : Nat → Int32) (hi : i < 12) : zM G yX2_isGone wsX2_isGone ({ frames := 0, cells := 0, slots := 0, locals := 12 }) [.ref r0, .int (nI i)] [(r0, .inr (2, [.ref r1, .ref r2, .ref r3, .int (nI m)])), (r1, eI G 12 b)] [(r0, .inr (2, [.ref r1, .ref r2, .ref r3, .int (nI m)])), (r1, eI G 12 b)] (some (.int (zb (b i = -1)))) 0 0 := by
  refine zM.ofI (own := RX2) (cc := cX2_isGone) (maxL := 2) rfl (by decide) rfl zb_nar (by simp [Value.category]) (Nat.le_of_ble_eq_true rfl) ?_
  intro X hF hR
  have k_0 : ∀ w ∈ wsX20, w ∈ wsX2_isGone := by decide +kernel
  have k_1 : zH X (.fieldLink RX2 9 "MarginDesk$Ranges" "begins" "[I") := hF.w (by decide +kernel)
  refine z_lv (lv' := [some (.ref r0), some (.int (nI i))]) rfl ?_
  refine z_aload_n hF dX2_isGone_0 rfl ?_
  refine z_get (C := RX2) (T := TX2) (N := 4) (ci := 2) (v := .ref r1) hF k_0 0 (by decide) rfl k_1 rfl 0 rfl rfl dX2_isGone_1 ?_
  refine z_iload_n hF dX2_isGone_4 rfl ?_
  refine z_iald (k := i) hF 1 rfl (rfl) (by omega) rfl dX2_isGone_5 ?_
  refine z_iconst (v := -1) hF dX2_isGone_6 (by decide) ?_
  refine z_ic_ne (tgt := 14) hF dX2_isGone_7 (by decide) (fun c_1 => ?_) (fun c_1 => ?_)
  · refine z_iconst (v := nI 0) hF dX2_isGone_14 (by decide) ?_
    exact hR.i dX2_isGone_15 (Nat.le_of_ble_eq_true rfl) (Nat.le_of_ble_eq_true rfl) (rfl) (by first | exact zb1 (by assumption) | exact zb0 (by assumption))
  · refine z_iconst (v := nI 1) hF dX2_isGone_10 (by decide) ?_
    refine z_goto (tgt := 15) hF dX2_isGone_11 (by decide) ?_
    exact hR.i dX2_isGone_15 (Nat.le_of_ble_eq_true rfl) (Nat.le_of_ble_eq_true rfl) (rfl) (by first | exact zb1 (by assumption) | exact zb0 (by assumption))
set_option maxHeartbeats 4000000 in
set_option maxRecDepth 100000 in
theorem c_X2_asNumber (G : zG) (r0 r1 r2 r3 m : Nat) (i : Nat) (b e : Nat → Int32) (hi : i < 12) : zM G yX2_asNumber wsX2_asNumber ({ frames := 1, cells := 0, slots := 0, locals := 33 }) [.ref r0, .int (nI i)] [(r0, .inr (2, [.ref r1, .ref r2, .ref r3, .int (nI m)])), (r1, eI G 12 b), (r2, eI G 12 e)] [(r0, .inr (2, [.ref r1, .ref r2, .ref r3, .int (nI m)])), (r1, eI G 12 b), (r2, eI G 12 e)] (some (.int (numF (b i) (e i)))) 0 0 := by
  refine zM.ofI (own := RX2) (cc := cX2_asNumber) (maxL := 2) rfl (by decide) rfl rfl (by simp [Value.category]) (Nat.le_of_ble_eq_true rfl) ?_
  intro X hF hR
  have k_0 : ∀ w ∈ wsX20, w ∈ wsX2_asNumber := by decide +kernel
  have k_1 : zH X (.fieldLink RX2 9 "MarginDesk$Ranges" "begins" "[I") := hF.w (by decide +kernel)
  have k_2 : zH X (.fieldLink RX2 15 "MarginDesk$Ranges" "ends" "[I") := hF.w (by decide +kernel)
  refine z_lv (lv' := [some (.ref r0), some (.int (nI i))]) rfl ?_
  refine z_aload_n hF dX2_asNumber_0 rfl ?_
  refine z_iload_n hF dX2_asNumber_1 rfl ?_
  refine z_V (As := [.int (nI i)]) (rest := []) (ws' := [(r0, .inr (2, [.ref r1, .ref r2, .ref r3, .int (nI m)])), (r1, eI G 12 b), (r2, eI G 12 e)]) (st2 := [.int (zb (b i = -1))]) (c2 := 0) (s2 := 0) hF (c_X2_isGone G r0 r1 r2 r3 m i b (by first | assumption | omega)) gX2_asNumber_X2_isGone rfl rfl rfl hd_X2_isGone ⟨⟨Nat.le_of_ble_eq_true rfl, Nat.le_of_ble_eq_true rfl⟩, ⟨Nat.le_of_ble_eq_true rfl, Nat.le_of_ble_eq_true rfl⟩, Nat.le_of_ble_eq_true rfl⟩ [0, 1] rfl rfl 0 rfl rfl rfl rfl rfl rfl rfl rfl rfl rfl dX2_asNumber_2 ?_
  refine z_if_eq_b (tgt := 12) hF dX2_asNumber_5 (by decide) (fun hc => ?_) (fun hc => ?_)
  · refine z_bipush (v := nI 100) hF dX2_asNumber_12 (by decide) ?_
    refine z_aload_n hF dX2_asNumber_14 rfl ?_
    refine z_get (C := RX2) (T := TX2) (N := 4) (ci := 2) (v := .ref r1) hF k_0 0 (by decide) rfl k_1 rfl 0 rfl rfl dX2_asNumber_15 ?_
    refine z_iload_n hF dX2_asNumber_18 rfl ?_
    refine z_iald (k := i) hF 1 rfl (rfl) (by omega) rfl dX2_asNumber_19 ?_
    refine z_imul hF dX2_asNumber_20 ?_
    refine z_aload_n hF dX2_asNumber_21 rfl ?_
    refine z_get (C := RX2) (T := TX2) (N := 4) (ci := 2) (v := .ref r2) hF k_0 1 (by decide) rfl k_2 rfl 0 rfl rfl dX2_asNumber_22 ?_
    refine z_iload_n hF dX2_asNumber_25 rfl ?_
    refine z_iald (k := i) hF 2 rfl (rfl) (by omega) rfl dX2_asNumber_26 ?_
    refine z_iadd hF dX2_asNumber_27 ?_
    exact hR.i dX2_asNumber_28 (Nat.le_of_ble_eq_true rfl) (Nat.le_of_ble_eq_true rfl) (rfl) (by simp [numF, hc])
  · refine z_iconst (v := -1) hF dX2_asNumber_8 (by decide) ?_
    refine z_goto (tgt := 28) hF dX2_asNumber_9 (by decide) ?_
    exact hR.i dX2_asNumber_28 (Nat.le_of_ble_eq_true rfl) (Nat.le_of_ble_eq_true rfl) (rfl) (by simp [numF, hc])
set_option maxHeartbeats 4000000 in
set_option maxRecDepth 100000 in
theorem c_X2_covering (G : zG) (r0 r1 r2 r3 m : Nat) (p : Int32) (b e : Nat → Int32) (hm : m ≤ 12) : zM G yX2_covering wsX2_covering ({ frames := 1, cells := 0, slots := 0, locals := 32 }) [.ref r0, .int p] [(r0, .inr (2, [.ref r1, .ref r2, .ref r3, .int (nI m)])), (r1, eI G 12 b), (r2, eI G 12 e)] [(r0, .inr (2, [.ref r1, .ref r2, .ref r3, .int (nI m)])), (r1, eI G 12 b), (r2, eI G 12 e)] (some (.int (covF b e m p))) 0 0 := by
  refine zM.ofI (own := RX2) (cc := cX2_covering) (maxL := 4) rfl (by decide) rfl rfl (by simp [Value.category]) (Nat.le_of_ble_eq_true rfl) ?_
  intro X hF hR
  have k_0 : ∀ w ∈ wsX20, w ∈ wsX2_covering := by decide +kernel
  have k_1 : zH X (.fieldLink RX2 21 "MarginDesk$Ranges" "count" "I") := hF.w (by decide +kernel)
  have k_2 : zH X (.fieldLink RX2 9 "MarginDesk$Ranges" "begins" "[I") := hF.w (by decide +kernel)
  have k_3 : zH X (.fieldLink RX2 15 "MarginDesk$Ranges" "ends" "[I") := hF.w (by decide +kernel)
  have k_4 : zH X (.initialized RX4) := hF.w (by decide +kernel)
  have k_5 : zH X (.static yX4_bit) := hF.w (by decide +kernel)
  refine z_lv (lv' := [some (.ref r0), some (.int p), none, none]) rfl ?_
  refine z_iconst (v := nI 0) hF dX2_covering_0 (by decide) ?_
  refine z_istore_n (lv' := [some (.ref r0), some (.int p), some (.int (nI 0)), none]) hF dX2_covering_1 rfl rfl ?_
  refine z_iconst (v := nI 0) hF dX2_covering_2 (by decide) ?_
  refine z_istore_n (lv' := [some (.ref r0), some (.int p), some (.int (nI 0)), some (.int (nI 0))]) hF dX2_covering_3 rfl rfl ?_
  refine z_lv (lv' := [some (.ref r0), some (.int p), some (.int (cov (fun kk => b kk ≤ p ∧ p < e kk) 0)), some (.int (nI 0))]) (by rfl) ?_
  have J_4 : ∀ (n9 : Nat) (i : Nat), m - i < n9 → (i ≤ m) → zJ G X 4 [(r0, .inr (2, [.ref r1, .ref r2, .ref r3, .int (nI m)])), (r1, eI G 12 b), (r2, eI G 12 e)] [some (.ref r0), some (.int p), some (.int (cov (fun kk => b kk ≤ p ∧ p < e kk) i)), some (.int (nI i))] [] 0 0 := by
    intro n9
    induction n9 with
    | zero => intro i hmu; exact absurd hmu (Nat.not_lt_zero _)
    | succ n9 ih =>
      intro i hmu h2
      refine z_iload_n hF dX2_covering_4 rfl ?_
      refine z_aload_n hF dX2_covering_5 rfl ?_
      refine z_get (C := RX2) (T := TX2) (N := 4) (ci := 2) (v := .int (nI m)) hF k_0 3 (by decide) rfl k_1 rfl 0 rfl rfl dX2_covering_6 ?_
      refine z_icn_ge (tgt := 45) hF (by omega) (by omega) dX2_covering_9 (by decide) (fun c_1 => ?_) (fun c_1 => ?_)
      · refine z_iload_n hF dX2_covering_45 rfl ?_
        exact hR.i dX2_covering_46 (Nat.le_of_ble_eq_true rfl) (Nat.le_of_ble_eq_true rfl) (rfl) (by rw [show i = m by omega]; rfl)
      · refine z_aload_n hF dX2_covering_12 rfl ?_
        refine z_get (C := RX2) (T := TX2) (N := 4) (ci := 2) (v := .ref r1) hF k_0 0 (by decide) rfl k_2 rfl 0 rfl rfl dX2_covering_13 ?_
        refine z_iload_n hF dX2_covering_16 rfl ?_
        refine z_iald (k := i) hF 1 rfl (rfl) (by omega) rfl dX2_covering_17 ?_
        refine z_iload_n hF dX2_covering_18 rfl ?_
        refine z_ic_gt (tgt := 39) hF dX2_covering_19 (by decide) (fun c_2 => ?_) (fun c_2 => ?_)
        · refine z_iinc (v := nI (i + 1)) (lv' := [some (.ref r0), some (.int p), some (.int (cov (fun kk => b kk ≤ p ∧ p < e kk) i)), some (.int (nI (i + 1)))]) hF dX2_covering_39 rfl (nI_1 i) rfl rfl ?_
          refine z_goto (tgt := 4) hF dX2_covering_42 (by decide) ?_
          refine z_lv (lv' := [some (.ref r0), some (.int p), some (.int (cov (fun kk => b kk ≤ p ∧ p < e kk) (i + 1))), some (.int (nI (i + 1)))]) (by rw [cov_f (k := i) (by grind)]) ?_
          exact ih (i + 1) (by omega) (by omega)
        · refine z_iload_n hF dX2_covering_22 rfl ?_
          refine z_aload_n hF dX2_covering_23 rfl ?_
          refine z_get (C := RX2) (T := TX2) (N := 4) (ci := 2) (v := .ref r2) hF k_0 1 (by decide) rfl k_3 rfl 0 rfl rfl dX2_covering_24 ?_
          refine z_iload_n hF dX2_covering_27 rfl ?_
          refine z_iald (k := i) hF 2 rfl (rfl) (by omega) rfl dX2_covering_28 ?_
          refine z_ic_ge (tgt := 39) hF dX2_covering_29 (by decide) (fun c_3 => ?_) (fun c_3 => ?_)
          · refine z_iinc (v := nI (i + 1)) (lv' := [some (.ref r0), some (.int p), some (.int (cov (fun kk => b kk ≤ p ∧ p < e kk) i)), some (.int (nI (i + 1)))]) hF dX2_covering_39 rfl (nI_1 i) rfl rfl ?_
            refine z_goto (tgt := 4) hF dX2_covering_42 (by decide) ?_
            refine z_lv (lv' := [some (.ref r0), some (.int p), some (.int (cov (fun kk => b kk ≤ p ∧ p < e kk) (i + 1))), some (.int (nI (i + 1)))]) (by rw [cov_f (k := i) (by grind)]) ?_
            exact ih (i + 1) (by omega) (by omega)
          · refine z_iload_n hF dX2_covering_32 rfl ?_
            refine z_iload_n hF dX2_covering_33 rfl ?_
            refine z_SN (As := [.int (nI i)]) (rest := [.int (cov (fun kk => b kk ≤ p ∧ p < e kk) i)]) (ws' := [(r0, .inr (2, [.ref r1, .ref r2, .ref r3, .int (nI m)])), (r1, eI G 12 b), (r2, eI G 12 e)]) (st2 := [.int (bitF (nI i)), .int (cov (fun kk => b kk ≤ p ∧ p < e kk) i)]) (c2 := 0) (s2 := 0) hF (c_X4_bit G (nI i)) ggX2_covering_X4_bit (List.mem_of_getElem? (i := 6) rfl) k_4 k_5 rfl rfl rfl hs_X4_bit ⟨⟨Nat.le_of_ble_eq_true rfl, Nat.le_of_ble_eq_true rfl⟩, ⟨Nat.le_of_ble_eq_true rfl, Nat.le_of_ble_eq_true rfl⟩, Nat.le_of_ble_eq_true rfl⟩ [] rfl rfl rfl rfl rfl rfl rfl rfl rfl rfl dX2_covering_34 ?_
            refine z_ior hF dX2_covering_37 ?_
            refine z_top (y := cov (fun kk => b kk ≤ p ∧ p < e kk) (i + 1)) (cov_t (P := fun kk => b kk ≤ p ∧ p < e kk) ⟨by grind, by grind⟩) ?_
            refine z_istore_n (lv' := [some (.ref r0), some (.int p), some (.int (cov (fun kk => b kk ≤ p ∧ p < e kk) (i + 1))), some (.int (nI i))]) hF dX2_covering_38 rfl rfl ?_
            refine z_iinc (v := nI (i + 1)) (lv' := [some (.ref r0), some (.int p), some (.int (cov (fun kk => b kk ≤ p ∧ p < e kk) (i + 1))), some (.int (nI (i + 1)))]) hF dX2_covering_39 rfl (nI_1 i) rfl rfl ?_
            refine z_goto (tgt := 4) hF dX2_covering_42 (by decide) ?_
            exact ih (i + 1) (by omega) (by omega)
  exact J_4 ((m - 0) + 1) 0 (Nat.lt_succ_self _) (by omega)
set_option maxHeartbeats 4000000 in
set_option maxRecDepth 100000 in
theorem c_X2_share (G : zG) (r0 r1 r2 r3 m : Nat) (i j : Nat) (b e : Nat → Int32) (hi : i < 12) (hj : j < 12) : zM G yX2_share wsX2_share ({ frames := 1, cells := 0, slots := 0, locals := 20 }) [.ref r0, .int (nI i), .int (nI j)] [(r0, .inr (2, [.ref r1, .ref r2, .ref r3, .int (nI m)])), (r1, eI G 12 b), (r2, eI G 12 e)] [(r0, .inr (2, [.ref r1, .ref r2, .ref r3, .int (nI m)])), (r1, eI G 12 b), (r2, eI G 12 e)] (some (.int (zb ((if b i < b j then b j else b i) < (if e j < e i then e j else e i))))) 0 0 := by
  refine zM.ofI (own := RX2) (cc := cX2_share) (maxL := 3) rfl (by decide) rfl zb_nar (by simp [Value.category]) (Nat.le_of_ble_eq_true rfl) ?_
  intro X hF hR
  have k_0 : ∀ w ∈ wsX20, w ∈ wsX2_share := by decide +kernel
  have k_1 : zH X (.fieldLink RX2 9 "MarginDesk$Ranges" "begins" "[I") := hF.w (by decide +kernel)
  have k_2 : zH X (.methodLink RX2 33 Lib.Math.max.name) := hF.w (by decide +kernel)
  have k_3 : zH X (.static Lib.Math.max.name) := hF.w (by decide +kernel)
  have k_4 : zH X (.initialized "java/lang/Math") := hF.w (by decide +kernel)
  have k_5 : zH X (.code Lib.Math.max.name Lib.Math.max.code 2 (some .int)) := hF.w (by decide +kernel)
  have k_6 : zH X (.fieldLink RX2 15 "MarginDesk$Ranges" "ends" "[I") := hF.w (by decide +kernel)
  have k_7 : zH X (.methodLink RX2 39 Lib.Math.min.name) := hF.w (by decide +kernel)
  have k_8 : zH X (.static Lib.Math.min.name) := hF.w (by decide +kernel)
  have k_9 : zH X (.code Lib.Math.min.name Lib.Math.min.code 2 (some .int)) := hF.w (by decide +kernel)
  refine z_lv (lv' := [some (.ref r0), some (.int (nI i)), some (.int (nI j))]) rfl ?_
  refine z_aload_n hF dX2_share_0 rfl ?_
  refine z_get (C := RX2) (T := TX2) (N := 4) (ci := 2) (v := .ref r1) hF k_0 0 (by decide) rfl k_1 rfl 0 rfl rfl dX2_share_1 ?_
  refine z_iload_n hF dX2_share_4 rfl ?_
  refine z_iald (k := i) hF 1 rfl (rfl) (by omega) rfl dX2_share_5 ?_
  refine z_aload_n hF dX2_share_6 rfl ?_
  refine z_get (C := RX2) (T := TX2) (N := 4) (ci := 2) (v := .ref r1) hF k_0 0 (by decide) rfl k_1 rfl 0 rfl rfl dX2_share_7 ?_
  refine z_iload_n hF dX2_share_10 rfl ?_
  refine z_iald (k := j) hF 1 rfl (rfl) (by omega) rfl dX2_share_11 ?_
  refine z_max hF k_2 k_3 k_4 k_5 rfl dX2_share_12 ?_
  refine z_aload_n hF dX2_share_15 rfl ?_
  refine z_get (C := RX2) (T := TX2) (N := 4) (ci := 2) (v := .ref r2) hF k_0 1 (by decide) rfl k_6 rfl 0 rfl rfl dX2_share_16 ?_
  refine z_iload_n hF dX2_share_19 rfl ?_
  refine z_iald (k := i) hF 2 rfl (rfl) (by omega) rfl dX2_share_20 ?_
  refine z_aload_n hF dX2_share_21 rfl ?_
  refine z_get (C := RX2) (T := TX2) (N := 4) (ci := 2) (v := .ref r2) hF k_0 1 (by decide) rfl k_6 rfl 0 rfl rfl dX2_share_22 ?_
  refine z_iload_n hF dX2_share_25 rfl ?_
  refine z_iald (k := j) hF 2 rfl (rfl) (by omega) rfl dX2_share_26 ?_
  refine z_min hF k_7 k_8 k_4 k_9 rfl dX2_share_27 ?_
  refine z_ic_ge (tgt := 37) hF dX2_share_30 (by decide) (fun c_1 => ?_) (fun c_1 => ?_)
  · refine z_iconst (v := nI 0) hF dX2_share_37 (by decide) ?_
    exact hR.i dX2_share_38 (Nat.le_of_ble_eq_true rfl) (Nat.le_of_ble_eq_true rfl) (rfl) (by first | exact zb1 (by grind) | exact zb0 (by grind))
  · refine z_iconst (v := nI 1) hF dX2_share_33 (by decide) ?_
    refine z_goto (tgt := 38) hF dX2_share_34 (by decide) ?_
    exact hR.i dX2_share_38 (Nat.le_of_ble_eq_true rfl) (Nat.le_of_ble_eq_true rfl) (rfl) (by first | exact zb1 (by grind) | exact zb0 (by grind))
set_option maxHeartbeats 4000000 in
set_option maxRecDepth 100000 in
theorem c_X2_behindInsertion (G : zG) (x p n r : Int32)  : zM G yX2_behindInsertion wsX2_behindInsertion ({ frames := 0, cells := 0, slots := 0, locals := 12 }) [.int x, .int p, .int n, .int r] [] [] (some (.int (bInsF x p n r))) 0 0 := by
  refine zM.ofI (own := RX2) (cc := cX2_behindInsertion) (maxL := 5) rfl (by decide) rfl rfl (by simp [Value.category]) (Nat.le_of_ble_eq_true rfl) ?_
  intro X hF hR
  refine z_lv (lv' := [some (.int x), some (.int p), some (.int n), some (.int r), none]) rfl ?_
  refine z_iload_n hF dX2_behindInsertion_0 rfl ?_
  refine z_iload_n hF dX2_behindInsertion_1 rfl ?_
  refine z_ic_gt (tgt := 14) hF dX2_behindInsertion_2 (by decide) (fun c_1 => ?_) (fun c_1 => ?_)
  · refine z_iconst (v := nI 1) hF dX2_behindInsertion_14 (by decide) ?_
    refine z_goto (tgt := 19) hF dX2_behindInsertion_15 (by decide) ?_
    refine z_istore (lv' := [some (.int x), some (.int p), some (.int n), some (.int r), some (.int (nI 1))]) hF dX2_behindInsertion_19 rfl rfl ?_
    refine z_iload hF dX2_behindInsertion_21 rfl ?_
    refine z_if_eq (tgt := 32) hF dX2_behindInsertion_23 (by decide) (fun c_2 => absurd c_2 (by decide)) (fun c_2 => ?_)
    refine z_iload_n hF dX2_behindInsertion_26 rfl ?_
    refine z_iload_n hF dX2_behindInsertion_27 rfl ?_
    refine z_iadd hF dX2_behindInsertion_28 ?_
    refine z_goto (tgt := 33) hF dX2_behindInsertion_29 (by decide) ?_
    exact hR.i dX2_behindInsertion_33 (Nat.le_of_ble_eq_true rfl) (Nat.le_of_ble_eq_true rfl) (rfl) (by unfold bInsF; grind)
  · refine z_iload_n hF dX2_behindInsertion_5 rfl ?_
    refine z_iload_n hF dX2_behindInsertion_6 rfl ?_
    refine z_ic_ne (tgt := 18) hF dX2_behindInsertion_7 (by decide) (fun c_3 => ?_) (fun c_3 => ?_)
    · refine z_iconst (v := nI 0) hF dX2_behindInsertion_18 (by decide) ?_
      refine z_istore (lv' := [some (.int x), some (.int p), some (.int n), some (.int r), some (.int (nI 0))]) hF dX2_behindInsertion_19 rfl rfl ?_
      refine z_iload hF dX2_behindInsertion_21 rfl ?_
      refine z_if_eq (tgt := 32) hF dX2_behindInsertion_23 (by decide) (fun c_4 => ?_) (fun c_4 => absurd c_4 (by decide))
      refine z_iload_n hF dX2_behindInsertion_32 rfl ?_
      exact hR.i dX2_behindInsertion_33 (Nat.le_of_ble_eq_true rfl) (Nat.le_of_ble_eq_true rfl) (rfl) (by unfold bInsF; grind)
    · refine z_iload_n hF dX2_behindInsertion_10 rfl ?_
      refine z_if_ne (tgt := 18) hF dX2_behindInsertion_11 (by decide) (fun c_5 => ?_) (fun c_5 => ?_)
      · refine z_iconst (v := nI 0) hF dX2_behindInsertion_18 (by decide) ?_
        refine z_istore (lv' := [some (.int x), some (.int p), some (.int n), some (.int r), some (.int (nI 0))]) hF dX2_behindInsertion_19 rfl rfl ?_
        refine z_iload hF dX2_behindInsertion_21 rfl ?_
        refine z_if_eq (tgt := 32) hF dX2_behindInsertion_23 (by decide) (fun c_6 => ?_) (fun c_6 => absurd c_6 (by decide))
        refine z_iload_n hF dX2_behindInsertion_32 rfl ?_
        exact hR.i dX2_behindInsertion_33 (Nat.le_of_ble_eq_true rfl) (Nat.le_of_ble_eq_true rfl) (rfl) (by unfold bInsF; grind)
      · refine z_iconst (v := nI 1) hF dX2_behindInsertion_14 (by decide) ?_
        refine z_goto (tgt := 19) hF dX2_behindInsertion_15 (by decide) ?_
        refine z_istore (lv' := [some (.int x), some (.int p), some (.int n), some (.int r), some (.int (nI 1))]) hF dX2_behindInsertion_19 rfl rfl ?_
        refine z_iload hF dX2_behindInsertion_21 rfl ?_
        refine z_if_eq (tgt := 32) hF dX2_behindInsertion_23 (by decide) (fun c_7 => absurd c_7 (by decide)) (fun c_7 => ?_)
        refine z_iload_n hF dX2_behindInsertion_26 rfl ?_
        refine z_iload_n hF dX2_behindInsertion_27 rfl ?_
        refine z_iadd hF dX2_behindInsertion_28 ?_
        refine z_goto (tgt := 33) hF dX2_behindInsertion_29 (by decide) ?_
        exact hR.i dX2_behindInsertion_33 (Nat.le_of_ble_eq_true rfl) (Nat.le_of_ble_eq_true rfl) (rfl) (by unfold bInsF; grind)
set_option maxHeartbeats 4000000 in
set_option maxRecDepth 100000 in
theorem c_X2_behindRemoval (G : zG) (x p n : Int32)  : zM G yX2_behindRemoval wsX2_behindRemoval ({ frames := 1, cells := 0, slots := 0, locals := 20 }) [.int x, .int p, .int n] [] [] (some (.int (behF x p n))) 0 0 := by
  refine zM.ofI (own := RX2) (cc := cX2_behindRemoval) (maxL := 3) rfl (by decide) rfl rfl (by simp [Value.category]) (Nat.le_of_ble_eq_true rfl) ?_
  intro X hF hR
  have k_0 : zH X (.methodLink RX2 33 Lib.Math.max.name) := hF.w (by decide +kernel)
  have k_1 : zH X (.static Lib.Math.max.name) := hF.w (by decide +kernel)
  have k_2 : zH X (.initialized "java/lang/Math") := hF.w (by decide +kernel)
  have k_3 : zH X (.code Lib.Math.max.name Lib.Math.max.code 2 (some .int)) := hF.w (by decide +kernel)
  refine z_lv (lv' := [some (.int x), some (.int p), some (.int n)]) rfl ?_
  refine z_iload_n hF dX2_behindRemoval_0 rfl ?_
  refine z_iload_n hF dX2_behindRemoval_1 rfl ?_
  refine z_ic_le (tgt := 15) hF dX2_behindRemoval_2 (by decide) (fun c_1 => ?_) (fun c_1 => ?_)
  · refine z_iload_n hF dX2_behindRemoval_15 rfl ?_
    exact hR.i dX2_behindRemoval_16 (Nat.le_of_ble_eq_true rfl) (Nat.le_of_ble_eq_true rfl) (rfl) (by unfold behF; grind)
  · refine z_iload_n hF dX2_behindRemoval_5 rfl ?_
    refine z_iload_n hF dX2_behindRemoval_6 rfl ?_
    refine z_iload_n hF dX2_behindRemoval_7 rfl ?_
    refine z_isub hF dX2_behindRemoval_8 ?_
    refine z_max hF k_0 k_1 k_2 k_3 rfl dX2_behindRemoval_9 ?_
    refine z_goto (tgt := 16) hF dX2_behindRemoval_12 (by decide) ?_
    exact hR.i dX2_behindRemoval_16 (Nat.le_of_ble_eq_true rfl) (Nat.le_of_ble_eq_true rfl) (rfl) (by unfold behF; grind)
set_option maxHeartbeats 4000000 in
set_option maxRecDepth 100000 in
theorem c_X2_add (G : zG) (r0 r1 r2 r3 m : Nat) (b0 e0 s0 : Int32) (b e s : Nat → Int32) (hm : m < 12) : zM G yX2_add wsX2_add ({ frames := 0, cells := 0, slots := 0, locals := 12 }) [.ref r0, .int b0, .int e0, .int s0] [(r0, .inr (2, [.ref r1, .ref r2, .ref r3, .int (nI m)])), (r1, eI G 12 b), (r2, eI G 12 e), (r3, eI G 12 s)] [(r0, .inr (2, [.ref r1, .ref r2, .ref r3, .int (nI (m + 1))])), (r1, eI G 12 (upd b m b0)), (r2, eI G 12 (upd e m e0)), (r3, eI G 12 (upd s m s0))] (some (.int (nI m))) 0 0 := by
  refine zM.ofI (own := RX2) (cc := cX2_add) (maxL := 5) rfl (by decide) rfl rfl (by simp [Value.category]) (Nat.le_of_ble_eq_true rfl) ?_
  intro X hF hR
  have k_0 : ∀ w ∈ wsX20, w ∈ wsX2_add := by decide +kernel
  have k_1 : zH X (.fieldLink RX2 21 "MarginDesk$Ranges" "count" "I") := hF.w (by decide +kernel)
  have k_2 : zH X (.fieldLink RX2 9 "MarginDesk$Ranges" "begins" "[I") := hF.w (by decide +kernel)
  have k_3 : zH X (.fieldLink RX2 15 "MarginDesk$Ranges" "ends" "[I") := hF.w (by decide +kernel)
  have k_4 : zH X (.fieldLink RX2 18 "MarginDesk$Ranges" "stickiness" "[I") := hF.w (by decide +kernel)
  refine z_lv (lv' := [some (.ref r0), some (.int b0), some (.int e0), some (.int s0), none]) rfl ?_
  refine z_aload_n hF dX2_add_0 rfl ?_
  refine z_get (C := RX2) (T := TX2) (N := 4) (ci := 2) (v := .int (nI m)) hF k_0 3 (by decide) rfl k_1 rfl 0 rfl rfl dX2_add_1 ?_
  refine z_istore (lv' := [some (.ref r0), some (.int b0), some (.int e0), some (.int s0), some (.int (nI m))]) hF dX2_add_4 rfl rfl ?_
  refine z_aload_n hF dX2_add_6 rfl ?_
  refine z_get (C := RX2) (T := TX2) (N := 4) (ci := 2) (v := .ref r1) hF k_0 0 (by decide) rfl k_2 rfl 0 rfl rfl dX2_add_7 ?_
  refine z_iload hF dX2_add_10 rfl ?_
  refine z_iload_n hF dX2_add_12 rfl ?_
  refine z_iast (k := m) (ws' := [(r0, .inr (2, [.ref r1, .ref r2, .ref r3, .int (nI m)])), (r1, eI G 12 (upd b m b0)), (r2, eI G 12 e), (r3, eI G 12 s)]) hF 1 rfl (rfl) (by omega) rfl rfl dX2_add_13 ?_
  refine z_aload_n hF dX2_add_14 rfl ?_
  refine z_get (C := RX2) (T := TX2) (N := 4) (ci := 2) (v := .ref r2) hF k_0 1 (by decide) rfl k_3 rfl 0 rfl rfl dX2_add_15 ?_
  refine z_iload hF dX2_add_18 rfl ?_
  refine z_iload_n hF dX2_add_20 rfl ?_
  refine z_iast (k := m) (ws' := [(r0, .inr (2, [.ref r1, .ref r2, .ref r3, .int (nI m)])), (r1, eI G 12 (upd b m b0)), (r2, eI G 12 (upd e m e0)), (r3, eI G 12 s)]) hF 2 rfl (rfl) (by omega) rfl rfl dX2_add_21 ?_
  refine z_aload_n hF dX2_add_22 rfl ?_
  refine z_get (C := RX2) (T := TX2) (N := 4) (ci := 2) (v := .ref r3) hF k_0 2 (by decide) rfl k_4 rfl 0 rfl rfl dX2_add_23 ?_
  refine z_iload hF dX2_add_26 rfl ?_
  refine z_iload_n hF dX2_add_28 rfl ?_
  refine z_iast (k := m) (ws' := [(r0, .inr (2, [.ref r1, .ref r2, .ref r3, .int (nI m)])), (r1, eI G 12 (upd b m b0)), (r2, eI G 12 (upd e m e0)), (r3, eI G 12 (upd s m s0))]) hF 3 rfl (rfl) (by omega) rfl rfl dX2_add_29 ?_
  refine z_aload_n hF dX2_add_30 rfl ?_
  refine z_dup hF dX2_add_31 rfl ?_
  refine z_get (C := RX2) (T := TX2) (N := 4) (ci := 2) (v := .int (nI m)) hF k_0 3 (by decide) rfl k_1 rfl 0 rfl rfl dX2_add_32 ?_
  refine z_iconst (v := nI 1) hF dX2_add_35 (by decide) ?_
  refine z_iadd hF dX2_add_36 ?_
  refine z_top (nI_add m 1) ?_
  refine z_put (C := RX2) (T := TX2) (N := 4) (ci := 2) (ws' := [(r0, .inr (2, [.ref r1, .ref r2, .ref r3, .int (nI (m + 1))])), (r1, eI G 12 (upd b m b0)), (r2, eI G 12 (upd e m e0)), (r3, eI G 12 (upd s m s0))]) hF k_0 tyX2 tyX2_ok nmX2 3 (by decide) rfl k_1 rfl rfl rfl rfl 0 rfl rfl rfl dX2_add_37 ?_
  refine z_iload hF dX2_add_40 rfl ?_
  exact hR.i dX2_add_42 (Nat.le_of_ble_eq_true rfl) (Nat.le_of_ble_eq_true rfl) (rfl) (rfl)
set_option maxHeartbeats 4000000 in
set_option maxRecDepth 100000 in
theorem c_X2_bringBack (G : zG) (r0 r1 r2 r3 m : Nat) (i : Nat) (x y : Int32) (b e : Nat → Int32) (hi : i < 12) : zM G yX2_bringBack wsX2_bringBack ({ frames := 0, cells := 0, slots := 0, locals := 12 }) [.ref r0, .int (nI i), .int x, .int y] [(r0, .inr (2, [.ref r1, .ref r2, .ref r3, .int (nI m)])), (r1, eI G 12 b), (r2, eI G 12 e)] [(r0, .inr (2, [.ref r1, .ref r2, .ref r3, .int (nI m)])), (r1, eI G 12 (upd b i x)), (r2, eI G 12 (upd e i y))] none 0 0 := by
  refine zM.ofV (own := RX2) (cc := cX2_bringBack) (maxL := 4) rfl (by decide) rfl (by simp [Value.category]) (Nat.le_of_ble_eq_true rfl) ?_
  intro X hF hR
  have k_0 : ∀ w ∈ wsX20, w ∈ wsX2_bringBack := by decide +kernel
  have k_1 : zH X (.fieldLink RX2 9 "MarginDesk$Ranges" "begins" "[I") := hF.w (by decide +kernel)
  have k_2 : zH X (.fieldLink RX2 15 "MarginDesk$Ranges" "ends" "[I") := hF.w (by decide +kernel)
  refine z_lv (lv' := [some (.ref r0), some (.int (nI i)), some (.int x), some (.int y)]) rfl ?_
  refine z_aload_n hF dX2_bringBack_0 rfl ?_
  refine z_get (C := RX2) (T := TX2) (N := 4) (ci := 2) (v := .ref r1) hF k_0 0 (by decide) rfl k_1 rfl 0 rfl rfl dX2_bringBack_1 ?_
  refine z_iload_n hF dX2_bringBack_4 rfl ?_
  refine z_iload_n hF dX2_bringBack_5 rfl ?_
  refine z_iast (k := i) (ws' := [(r0, .inr (2, [.ref r1, .ref r2, .ref r3, .int (nI m)])), (r1, eI G 12 (upd b i x)), (r2, eI G 12 e)]) hF 1 rfl (rfl) (by omega) rfl rfl dX2_bringBack_6 ?_
  refine z_aload_n hF dX2_bringBack_7 rfl ?_
  refine z_get (C := RX2) (T := TX2) (N := 4) (ci := 2) (v := .ref r2) hF k_0 1 (by decide) rfl k_2 rfl 0 rfl rfl dX2_bringBack_8 ?_
  refine z_iload_n hF dX2_bringBack_11 rfl ?_
  refine z_iload_n hF dX2_bringBack_12 rfl ?_
  refine z_iast (k := i) (ws' := [(r0, .inr (2, [.ref r1, .ref r2, .ref r3, .int (nI m)])), (r1, eI G 12 (upd b i x)), (r2, eI G 12 (upd e i y))]) hF 2 rfl (rfl) (by omega) rfl rfl dX2_bringBack_13 ?_
  exact hR.v dX2_bringBack_14 (Nat.le_of_ble_eq_true rfl) (Nat.le_of_ble_eq_true rfl) (rfl)
set_option maxHeartbeats 4000000 in
set_option maxRecDepth 100000 in
theorem c_X2_moveByInsertion (G : zG) (r0 r1 r2 r3 m : Nat) (p n : Int32) (b e s : Nat → Int32) (hm : m ≤ 12) : zM G yX2_moveByInsertion wsX2_moveByInsertion ({ frames := 1, cells := 0, slots := 0, locals := 36 }) [.ref r0, .int p, .int n] [(r0, .inr (2, [.ref r1, .ref r2, .ref r3, .int (nI m)])), (r1, eI G 12 b), (r2, eI G 12 e), (r3, eI G 12 s)] [(r0, .inr (2, [.ref r1, .ref r2, .ref r3, .int (nI m)])), (r1, eI G 12 (mpF m (insB p n b s) b)), (r2, eI G 12 (mpF m (insE p n b e s) e)), (r3, eI G 12 s)] none 0 0 := by
  refine zM.ofV (own := RX2) (cc := cX2_moveByInsertion) (maxL := 6) rfl (by decide) rfl (by simp [Value.category]) (Nat.le_of_ble_eq_true rfl) ?_
  intro X hF hR
  have k_0 : ∀ w ∈ wsX20, w ∈ wsX2_moveByInsertion := by decide +kernel
  have k_1 : zH X (.fieldLink RX2 21 "MarginDesk$Ranges" "count" "I") := hF.w (by decide +kernel)
  have k_2 : zH X (.fieldLink RX2 9 "MarginDesk$Ranges" "begins" "[I") := hF.w (by decide +kernel)
  have k_3 : zH X (.fieldLink RX2 15 "MarginDesk$Ranges" "ends" "[I") := hF.w (by decide +kernel)
  have k_4 : zH X (.fieldLink RX2 18 "MarginDesk$Ranges" "stickiness" "[I") := hF.w (by decide +kernel)
  refine z_lv (lv' := [some (.ref r0), some (.int p), some (.int n), none, none, none]) rfl ?_
  refine z_iconst (v := nI 0) hF dX2_moveByInsertion_0 (by decide) ?_
  refine z_istore_n (lv' := [some (.ref r0), some (.int p), some (.int n), some (.int (nI 0)), none, none]) hF dX2_moveByInsertion_1 rfl rfl ?_
  refine z_ws (ws' := [(r0, .inr (2, [.ref r1, .ref r2, .ref r3, .int (nI m)])), (r1, eI G 12 (mpF 0 (insB p n b s) b)), (r2, eI G 12 e), (r3, eI G 12 s)]) (by simp only [mpF_0]) ?_
  refine z_ws (ws' := [(r0, .inr (2, [.ref r1, .ref r2, .ref r3, .int (nI m)])), (r1, eI G 12 (mpF 0 (insB p n b s) b)), (r2, eI G 12 (mpF 0 (insE p n b e s) e)), (r3, eI G 12 s)]) (by simp only [mpF_0]) ?_
  have J_2 : ∀ (n9 : Nat) (i : Nat), m - i < n9 → (i ≤ m) → zJ G X 2 [(r0, .inr (2, [.ref r1, .ref r2, .ref r3, .int (nI m)])), (r1, eI G 12 (mpF i (insB p n b s) b)), (r2, eI G 12 (mpF i (insE p n b e s) e)), (r3, eI G 12 s)] [some (.ref r0), some (.int p), some (.int n), some (.int (nI i)), none, none] [] 0 0 := by
    intro n9
    induction n9 with
    | zero => intro i hmu; exact absurd hmu (Nat.not_lt_zero _)
    | succ n9 ih =>
      intro i hmu h2
      refine z_iload_n hF dX2_moveByInsertion_2 rfl ?_
      refine z_aload_n hF dX2_moveByInsertion_3 rfl ?_
      refine z_get (C := RX2) (T := TX2) (N := 4) (ci := 2) (v := .int (nI m)) hF k_0 3 (by decide) rfl k_1 rfl 0 rfl rfl dX2_moveByInsertion_4 ?_
      refine z_icn_ge (tgt := 98) hF (by omega) (by omega) dX2_moveByInsertion_7 (by decide) (fun c_1 => ?_) (fun c_1 => ?_)
      · exact hR.v dX2_moveByInsertion_98 (Nat.le_of_ble_eq_true rfl) (Nat.le_of_ble_eq_true rfl) (by rw [show i = m by omega])
      · refine z_aload_n hF dX2_moveByInsertion_10 rfl ?_
        refine z_iload_n hF dX2_moveByInsertion_11 rfl ?_
        refine z_V (As := [.int (nI i)]) (rest := []) (ws' := [(r0, .inr (2, [.ref r1, .ref r2, .ref r3, .int (nI m)])), (r1, eI G 12 (mpF i (insB p n b s) b)), (r2, eI G 12 (mpF i (insE p n b e s) e)), (r3, eI G 12 s)]) (st2 := [.int (zb ((mpF i (insB p n b s) b) i = -1))]) (c2 := 0) (s2 := 0) hF (c_X2_isGone G r0 r1 r2 r3 m i (mpF i (insB p n b s) b) (by first | assumption | omega)) gX2_moveByInsertion_X2_isGone rfl rfl rfl hd_X2_isGone ⟨⟨Nat.le_of_ble_eq_true rfl, Nat.le_of_ble_eq_true rfl⟩, ⟨Nat.le_of_ble_eq_true rfl, Nat.le_of_ble_eq_true rfl⟩, Nat.le_of_ble_eq_true rfl⟩ [0, 1] rfl rfl 0 rfl rfl rfl rfl rfl rfl rfl rfl rfl rfl dX2_moveByInsertion_12 ?_
        refine z_top (y := zb (b i = -1)) (by rw [mpF_at _ _ (Nat.le_refl i)]) ?_
        refine z_if_ne_b (tgt := 92) hF dX2_moveByInsertion_15 (by decide) (fun hc => ?_) (fun hc => ?_)
        · refine z_iinc (v := nI (i + 1)) (lv' := [some (.ref r0), some (.int p), some (.int n), some (.int (nI (i + 1))), none, none]) hF dX2_moveByInsertion_92 rfl (nI_1 i) rfl rfl ?_
          refine z_goto (tgt := 2) hF dX2_moveByInsertion_95 (by decide) ?_
          refine z_ws (ws' := [(r0, .inr (2, [.ref r1, .ref r2, .ref r3, .int (nI m)])), (r1, eI G 12 (mpF (i + 1) (insB p n b s) b)), (r2, eI G 12 (mpF i (insE p n b e s) e)), (r3, eI G 12 s)]) (by rw [mpF_skip (insB p n b s) b (by simp [insB, hc])]) ?_
          refine z_ws (ws' := [(r0, .inr (2, [.ref r1, .ref r2, .ref r3, .int (nI m)])), (r1, eI G 12 (mpF (i + 1) (insB p n b s) b)), (r2, eI G 12 (mpF (i + 1) (insE p n b e s) e)), (r3, eI G 12 s)]) (by rw [mpF_skip (insE p n b e s) e (by simp [insE, hc])]) ?_
          exact ih (i + 1) (by omega) (by omega)
        · have J_34 : zJ G X 34 [(r0, .inr (2, [.ref r1, .ref r2, .ref r3, .int (nI m)])), (r1, eI G 12 (mpF i (insB p n b s) b)), (r2, eI G 12 (mpF i (insE p n b e s) e)), (r3, eI G 12 s)] [some (.ref r0), some (.int p), some (.int n), some (.int (nI i)), none, none] [.int (zb (¬ s i &&& nI 1 = 0))] 0 0 := by
            refine z_istore (lv' := [some (.ref r0), some (.int p), some (.int n), some (.int (nI i)), some (.int (zb (¬ s i &&& nI 1 = 0))), none]) hF dX2_moveByInsertion_34 rfl rfl ?_
            have J_52 : zJ G X 52 [(r0, .inr (2, [.ref r1, .ref r2, .ref r3, .int (nI m)])), (r1, eI G 12 (mpF i (insB p n b s) b)), (r2, eI G 12 (mpF i (insE p n b e s) e)), (r3, eI G 12 s)] [some (.ref r0), some (.int p), some (.int n), some (.int (nI i)), some (.int (zb (¬ s i &&& nI 1 = 0))), none] [.int (zb (s i &&& nI 2 = 0))] 0 0 := by
              refine z_istore (lv' := [some (.ref r0), some (.int p), some (.int n), some (.int (nI i)), some (.int (zb (¬ s i &&& nI 1 = 0))), some (.int (zb (s i &&& nI 2 = 0)))]) hF dX2_moveByInsertion_52 rfl rfl ?_
              refine z_aload_n hF dX2_moveByInsertion_54 rfl ?_
              refine z_get (C := RX2) (T := TX2) (N := 4) (ci := 2) (v := .ref r1) hF k_0 0 (by decide) rfl k_2 rfl 0 rfl rfl dX2_moveByInsertion_55 ?_
              refine z_iload_n hF dX2_moveByInsertion_58 rfl ?_
              refine z_aload_n hF dX2_moveByInsertion_59 rfl ?_
              refine z_get (C := RX2) (T := TX2) (N := 4) (ci := 2) (v := .ref r1) hF k_0 0 (by decide) rfl k_2 rfl 0 rfl rfl dX2_moveByInsertion_60 ?_
              refine z_iload_n hF dX2_moveByInsertion_63 rfl ?_
              refine z_iald (k := i) hF 1 rfl (rfl) (by omega) rfl dX2_moveByInsertion_64 ?_
              refine z_top (y := b i) (mpF_at _ _ (Nat.le_refl i)) ?_
              refine z_iload_n hF dX2_moveByInsertion_65 rfl ?_
              refine z_iload_n hF dX2_moveByInsertion_66 rfl ?_
              refine z_iload hF dX2_moveByInsertion_67 rfl ?_
              refine z_S (As := [.int (b i), .int p, .int n, .int (zb (¬ s i &&& nI 1 = 0))]) (rest := [.int (nI i), .ref r1]) (ws' := [(r0, .inr (2, [.ref r1, .ref r2, .ref r3, .int (nI m)])), (r1, eI G 12 (mpF i (insB p n b s) b)), (r2, eI G 12 (mpF i (insE p n b e s) e)), (r3, eI G 12 s)]) (st2 := [.int (bInsF (b i) p n (zb (¬ s i &&& nI 1 = 0))), .int (nI i), .ref r1]) (c2 := 0) (s2 := 0) hF (c_X2_behindInsertion G (b i) p n (zb (¬ s i &&& nI 1 = 0))) gX2_moveByInsertion_X2_behindInsertion rfl rfl rfl hs_X2_behindInsertion ⟨⟨Nat.le_of_ble_eq_true rfl, Nat.le_of_ble_eq_true rfl⟩, ⟨Nat.le_of_ble_eq_true rfl, Nat.le_of_ble_eq_true rfl⟩, Nat.le_of_ble_eq_true rfl⟩ [] rfl rfl rfl rfl rfl rfl rfl rfl rfl rfl dX2_moveByInsertion_69 ?_
              refine z_iast (k := i) (ws' := [(r0, .inr (2, [.ref r1, .ref r2, .ref r3, .int (nI m)])), (r1, eI G 12 (upd (mpF i (insB p n b s) b) i (bInsF (b i) p n (zb (¬ s i &&& nI 1 = 0))))), (r2, eI G 12 (mpF i (insE p n b e s) e)), (r3, eI G 12 s)]) hF 1 rfl (rfl) (by omega) rfl rfl dX2_moveByInsertion_72 ?_
              refine z_ws (ws' := [(r0, .inr (2, [.ref r1, .ref r2, .ref r3, .int (nI m)])), (r1, eI G 12 (mpF (i + 1) (insB p n b s) b)), (r2, eI G 12 (mpF i (insE p n b e s) e)), (r3, eI G 12 s)]) (by rw [← mpF_up]; simp [insB, hc]) ?_
              refine z_aload_n hF dX2_moveByInsertion_73 rfl ?_
              refine z_get (C := RX2) (T := TX2) (N := 4) (ci := 2) (v := .ref r2) hF k_0 1 (by decide) rfl k_3 rfl 0 rfl rfl dX2_moveByInsertion_74 ?_
              refine z_iload_n hF dX2_moveByInsertion_77 rfl ?_
              refine z_aload_n hF dX2_moveByInsertion_78 rfl ?_
              refine z_get (C := RX2) (T := TX2) (N := 4) (ci := 2) (v := .ref r2) hF k_0 1 (by decide) rfl k_3 rfl 0 rfl rfl dX2_moveByInsertion_79 ?_
              refine z_iload_n hF dX2_moveByInsertion_82 rfl ?_
              refine z_iald (k := i) hF 2 rfl (rfl) (by omega) rfl dX2_moveByInsertion_83 ?_
              refine z_top (y := e i) (mpF_at _ _ (Nat.le_refl i)) ?_
              refine z_iload_n hF dX2_moveByInsertion_84 rfl ?_
              refine z_iload_n hF dX2_moveByInsertion_85 rfl ?_
              refine z_iload hF dX2_moveByInsertion_86 rfl ?_
              refine z_S (As := [.int (e i), .int p, .int n, .int (zb (s i &&& nI 2 = 0))]) (rest := [.int (nI i), .ref r2]) (ws' := [(r0, .inr (2, [.ref r1, .ref r2, .ref r3, .int (nI m)])), (r1, eI G 12 (mpF (i + 1) (insB p n b s) b)), (r2, eI G 12 (mpF i (insE p n b e s) e)), (r3, eI G 12 s)]) (st2 := [.int (bInsF (e i) p n (zb (s i &&& nI 2 = 0))), .int (nI i), .ref r2]) (c2 := 0) (s2 := 0) hF (c_X2_behindInsertion G (e i) p n (zb (s i &&& nI 2 = 0))) gX2_moveByInsertion_X2_behindInsertion rfl rfl rfl hs_X2_behindInsertion ⟨⟨Nat.le_of_ble_eq_true rfl, Nat.le_of_ble_eq_true rfl⟩, ⟨Nat.le_of_ble_eq_true rfl, Nat.le_of_ble_eq_true rfl⟩, Nat.le_of_ble_eq_true rfl⟩ [] rfl rfl rfl rfl rfl rfl rfl rfl rfl rfl dX2_moveByInsertion_88 ?_
              refine z_iast (k := i) (ws' := [(r0, .inr (2, [.ref r1, .ref r2, .ref r3, .int (nI m)])), (r1, eI G 12 (mpF (i + 1) (insB p n b s) b)), (r2, eI G 12 (upd (mpF i (insE p n b e s) e) i (bInsF (e i) p n (zb (s i &&& nI 2 = 0))))), (r3, eI G 12 s)]) hF 2 rfl (rfl) (by omega) rfl rfl dX2_moveByInsertion_91 ?_
              refine z_ws (ws' := [(r0, .inr (2, [.ref r1, .ref r2, .ref r3, .int (nI m)])), (r1, eI G 12 (mpF (i + 1) (insB p n b s) b)), (r2, eI G 12 (mpF (i + 1) (insE p n b e s) e)), (r3, eI G 12 s)]) (by rw [← mpF_up (insE p n b e s)]; simp [insE, hc]) ?_
              refine z_iinc (v := nI (i + 1)) (lv' := [some (.ref r0), some (.int p), some (.int n), some (.int (nI (i + 1))), some (.int (zb (¬ s i &&& nI 1 = 0))), some (.int (zb (s i &&& nI 2 = 0)))]) hF dX2_moveByInsertion_92 rfl (nI_1 i) rfl rfl ?_
              refine z_goto (tgt := 2) hF dX2_moveByInsertion_95 (by decide) ?_
              refine z_forget (lv' := [some (.ref r0), some (.int p), some (.int n), some (.int (nI (i + 1))), none, none]) ⟨rfl, ⟨rfl, ⟨rfl, ⟨rfl, trivial⟩⟩⟩⟩ ?_
              exact ih (i + 1) (by omega) (by omega)
            refine z_aload_n hF dX2_moveByInsertion_36 rfl ?_
            refine z_get (C := RX2) (T := TX2) (N := 4) (ci := 2) (v := .ref r3) hF k_0 2 (by decide) rfl k_4 rfl 0 rfl rfl dX2_moveByInsertion_37 ?_
            refine z_iload_n hF dX2_moveByInsertion_40 rfl ?_
            refine z_iald (k := i) hF 3 rfl (rfl) (by omega) rfl dX2_moveByInsertion_41 ?_
            refine z_iconst (v := nI 2) hF dX2_moveByInsertion_42 (by decide) ?_
            refine z_iand hF dX2_moveByInsertion_43 ?_
            refine z_if_ne (tgt := 51) hF dX2_moveByInsertion_44 (by decide) (fun c_2 => ?_) (fun c_2 => ?_)
            · refine z_iconst (v := nI 0) hF dX2_moveByInsertion_51 (by decide) ?_
              refine z_top (y := zb (s i &&& nI 2 = 0)) (zb0 (by first | assumption | grind)) ?_
              exact J_52  
            · refine z_iconst (v := nI 1) hF dX2_moveByInsertion_47 (by decide) ?_
              refine z_goto (tgt := 52) hF dX2_moveByInsertion_48 (by decide) ?_
              refine z_top (y := zb (s i &&& nI 2 = 0)) (zb1 (by first | assumption | grind)) ?_
              exact J_52  
          refine z_aload_n hF dX2_moveByInsertion_18 rfl ?_
          refine z_get (C := RX2) (T := TX2) (N := 4) (ci := 2) (v := .ref r3) hF k_0 2 (by decide) rfl k_4 rfl 0 rfl rfl dX2_moveByInsertion_19 ?_
          refine z_iload_n hF dX2_moveByInsertion_22 rfl ?_
          refine z_iald (k := i) hF 3 rfl (rfl) (by omega) rfl dX2_moveByInsertion_23 ?_
          refine z_iconst (v := nI 1) hF dX2_moveByInsertion_24 (by decide) ?_
          refine z_iand hF dX2_moveByInsertion_25 ?_
          refine z_if_eq (tgt := 33) hF dX2_moveByInsertion_26 (by decide) (fun c_3 => ?_) (fun c_3 => ?_)
          · refine z_iconst (v := nI 0) hF dX2_moveByInsertion_33 (by decide) ?_
            refine z_top (y := zb (¬ s i &&& nI 1 = 0)) (zb0 (by first | assumption | grind)) ?_
            exact J_34  
          · refine z_iconst (v := nI 1) hF dX2_moveByInsertion_29 (by decide) ?_
            refine z_goto (tgt := 34) hF dX2_moveByInsertion_30 (by decide) ?_
            refine z_top (y := zb (¬ s i &&& nI 1 = 0)) (zb1 (by first | assumption | grind)) ?_
            exact J_34  
  exact J_2 ((m - 0) + 1) 0 (Nat.lt_succ_self _) (by omega)
set_option maxHeartbeats 4000000 in
set_option maxRecDepth 100000 in
theorem c_X2_moveByRemoval (G : zG) (r0 r1 r2 r3 m : Nat) (p n : Int32) (b e : Nat → Int32) (hm : m ≤ 12) : zM G yX2_moveByRemoval wsX2_moveByRemoval ({ frames := 2, cells := 0, slots := 0, locals := 42 }) [.ref r0, .int p, .int n] [(r0, .inr (2, [.ref r1, .ref r2, .ref r3, .int (nI m)])), (r1, eI G 12 b), (r2, eI G 12 e)] [(r0, .inr (2, [.ref r1, .ref r2, .ref r3, .int (nI m)])), (r1, eI G 12 (mpF m (remB p n b e) b)), (r2, eI G 12 (mpF m (remE p n b e) e))] (some (.int (gonF p n b e m))) 0 0 := by
  refine zM.ofI (own := RX2) (cc := cX2_moveByRemoval) (maxL := 5) rfl (by decide) rfl rfl (by simp [Value.category]) (Nat.le_of_ble_eq_true rfl) ?_
  intro X hF hR
  have k_0 : ∀ w ∈ wsX20, w ∈ wsX2_moveByRemoval := by decide +kernel
  have k_1 : zH X (.fieldLink RX2 21 "MarginDesk$Ranges" "count" "I") := hF.w (by decide +kernel)
  have k_2 : zH X (.fieldLink RX2 9 "MarginDesk$Ranges" "begins" "[I") := hF.w (by decide +kernel)
  have k_3 : zH X (.fieldLink RX2 15 "MarginDesk$Ranges" "ends" "[I") := hF.w (by decide +kernel)
  have k_4 : zH X (.initialized RX4) := hF.w (by decide +kernel)
  have k_5 : zH X (.static yX4_bit) := hF.w (by decide +kernel)
  refine z_lv (lv' := [some (.ref r0), some (.int p), some (.int n), none, none]) rfl ?_
  refine z_iconst (v := nI 0) hF dX2_moveByRemoval_0 (by decide) ?_
  refine z_istore_n (lv' := [some (.ref r0), some (.int p), some (.int n), some (.int (nI 0)), none]) hF dX2_moveByRemoval_1 rfl rfl ?_
  refine z_iconst (v := nI 0) hF dX2_moveByRemoval_2 (by decide) ?_
  refine z_istore (lv' := [some (.ref r0), some (.int p), some (.int n), some (.int (nI 0)), some (.int (nI 0))]) hF dX2_moveByRemoval_3 rfl rfl ?_
  refine z_ws (ws' := [(r0, .inr (2, [.ref r1, .ref r2, .ref r3, .int (nI m)])), (r1, eI G 12 (mpF 0 (remB p n b e) b)), (r2, eI G 12 e)]) (by simp only [mpF_0]) ?_
  refine z_ws (ws' := [(r0, .inr (2, [.ref r1, .ref r2, .ref r3, .int (nI m)])), (r1, eI G 12 (mpF 0 (remB p n b e) b)), (r2, eI G 12 (mpF 0 (remE p n b e) e))]) (by simp only [mpF_0]) ?_
  refine z_lv (lv' := [some (.ref r0), some (.int p), some (.int n), some (.int (cov (fun kk => ¬ b kk = -1 ∧ behF (b kk) p n = behF (e kk) p n) 0)), some (.int (nI 0))]) (by rfl) ?_
  have J_5 : ∀ (n9 : Nat) (i : Nat), m - i < n9 → (i ≤ m) → zJ G X 5 [(r0, .inr (2, [.ref r1, .ref r2, .ref r3, .int (nI m)])), (r1, eI G 12 (mpF i (remB p n b e) b)), (r2, eI G 12 (mpF i (remE p n b e) e))] [some (.ref r0), some (.int p), some (.int n), some (.int (cov (fun kk => ¬ b kk = -1 ∧ behF (b kk) p n = behF (e kk) p n) i)), some (.int (nI i))] [] 0 0 := by
    intro n9
    induction n9 with
    | zero => intro i hmu; exact absurd hmu (Nat.not_lt_zero _)
    | succ n9 ih =>
      intro i hmu h2
      refine z_iload hF dX2_moveByRemoval_5 rfl ?_
      refine z_aload_n hF dX2_moveByRemoval_7 rfl ?_
      refine z_get (C := RX2) (T := TX2) (N := 4) (ci := 2) (v := .int (nI m)) hF k_0 3 (by decide) rfl k_1 rfl 0 rfl rfl dX2_moveByRemoval_8 ?_
      refine z_icn_ge (tgt := 108) hF (by omega) (by omega) dX2_moveByRemoval_11 (by decide) (fun c_1 => ?_) (fun c_1 => ?_)
      · refine z_iload_n hF dX2_moveByRemoval_108 rfl ?_
        exact hR.i dX2_moveByRemoval_109 (Nat.le_of_ble_eq_true rfl) (Nat.le_of_ble_eq_true rfl) (by rw [show i = m by omega]) (by rw [show i = m by omega]; rfl)
      · refine z_aload_n hF dX2_moveByRemoval_14 rfl ?_
        refine z_iload hF dX2_moveByRemoval_15 rfl ?_
        refine z_V (As := [.int (nI i)]) (rest := []) (ws' := [(r0, .inr (2, [.ref r1, .ref r2, .ref r3, .int (nI m)])), (r1, eI G 12 (mpF i (remB p n b e) b)), (r2, eI G 12 (mpF i (remE p n b e) e))]) (st2 := [.int (zb ((mpF i (remB p n b e) b) i = -1))]) (c2 := 0) (s2 := 0) hF (c_X2_isGone G r0 r1 r2 r3 m i (mpF i (remB p n b e) b) (by first | assumption | omega)) gX2_moveByRemoval_X2_isGone rfl rfl rfl hd_X2_isGone ⟨⟨Nat.le_of_ble_eq_true rfl, Nat.le_of_ble_eq_true rfl⟩, ⟨Nat.le_of_ble_eq_true rfl, Nat.le_of_ble_eq_true rfl⟩, Nat.le_of_ble_eq_true rfl⟩ [0, 1] rfl rfl 0 rfl rfl rfl rfl rfl rfl rfl rfl rfl rfl dX2_moveByRemoval_17 ?_
        refine z_top (y := zb (b i = -1)) (by rw [mpF_at _ _ (Nat.le_refl i)]) ?_
        refine z_if_ne_b (tgt := 102) hF dX2_moveByRemoval_20 (by decide) (fun hc => ?_) (fun hc => ?_)
        · refine z_iinc (v := nI (i + 1)) (lv' := [some (.ref r0), some (.int p), some (.int n), some (.int (cov (fun kk => ¬ b kk = -1 ∧ behF (b kk) p n = behF (e kk) p n) i)), some (.int (nI (i + 1)))]) hF dX2_moveByRemoval_102 rfl (nI_1 i) rfl rfl ?_
          refine z_goto (tgt := 5) hF dX2_moveByRemoval_105 (by decide) ?_
          refine z_ws (ws' := [(r0, .inr (2, [.ref r1, .ref r2, .ref r3, .int (nI m)])), (r1, eI G 12 (mpF (i + 1) (remB p n b e) b)), (r2, eI G 12 (mpF i (remE p n b e) e))]) (by rw [mpF_skip (remB p n b e) b (by simp [remB, hc])]) ?_
          refine z_ws (ws' := [(r0, .inr (2, [.ref r1, .ref r2, .ref r3, .int (nI m)])), (r1, eI G 12 (mpF (i + 1) (remB p n b e) b)), (r2, eI G 12 (mpF (i + 1) (remE p n b e) e))]) (by rw [mpF_skip (remE p n b e) e (by simp [remE, hc])]) ?_
          refine z_lv (lv' := [some (.ref r0), some (.int p), some (.int n), some (.int (cov (fun kk => ¬ b kk = -1 ∧ behF (b kk) p n = behF (e kk) p n) (i + 1))), some (.int (nI (i + 1)))]) (by rw [cov_f (k := i) (by grind)]) ?_
          exact ih (i + 1) (by omega) (by omega)
        · refine z_aload_n hF dX2_moveByRemoval_23 rfl ?_
          refine z_get (C := RX2) (T := TX2) (N := 4) (ci := 2) (v := .ref r1) hF k_0 0 (by decide) rfl k_2 rfl 0 rfl rfl dX2_moveByRemoval_24 ?_
          refine z_iload hF dX2_moveByRemoval_27 rfl ?_
          refine z_aload_n hF dX2_moveByRemoval_29 rfl ?_
          refine z_get (C := RX2) (T := TX2) (N := 4) (ci := 2) (v := .ref r1) hF k_0 0 (by decide) rfl k_2 rfl 0 rfl rfl dX2_moveByRemoval_30 ?_
          refine z_iload hF dX2_moveByRemoval_33 rfl ?_
          refine z_iald (k := i) hF 1 rfl (rfl) (by omega) rfl dX2_moveByRemoval_35 ?_
          refine z_top (y := b i) (mpF_at _ _ (Nat.le_refl i)) ?_
          refine z_iload_n hF dX2_moveByRemoval_36 rfl ?_
          refine z_iload_n hF dX2_moveByRemoval_37 rfl ?_
          refine z_S (As := [.int (b i), .int p, .int n]) (rest := [.int (nI i), .ref r1]) (ws' := [(r0, .inr (2, [.ref r1, .ref r2, .ref r3, .int (nI m)])), (r1, eI G 12 (mpF i (remB p n b e) b)), (r2, eI G 12 (mpF i (remE p n b e) e))]) (st2 := [.int (behF (b i) p n), .int (nI i), .ref r1]) (c2 := 0) (s2 := 0) hF (c_X2_behindRemoval G (b i) p n) gX2_moveByRemoval_X2_behindRemoval rfl rfl rfl hs_X2_behindRemoval ⟨⟨Nat.le_of_ble_eq_true rfl, Nat.le_of_ble_eq_true rfl⟩, ⟨Nat.le_of_ble_eq_true rfl, Nat.le_of_ble_eq_true rfl⟩, Nat.le_of_ble_eq_true rfl⟩ [] rfl rfl rfl rfl rfl rfl rfl rfl rfl rfl dX2_moveByRemoval_38 ?_
          refine z_iast (k := i) (ws' := [(r0, .inr (2, [.ref r1, .ref r2, .ref r3, .int (nI m)])), (r1, eI G 12 (upd (mpF i (remB p n b e) b) i (behF (b i) p n))), (r2, eI G 12 (mpF i (remE p n b e) e))]) hF 1 rfl (rfl) (by omega) rfl rfl dX2_moveByRemoval_41 ?_
          refine z_aload_n hF dX2_moveByRemoval_42 rfl ?_
          refine z_get (C := RX2) (T := TX2) (N := 4) (ci := 2) (v := .ref r2) hF k_0 1 (by decide) rfl k_3 rfl 0 rfl rfl dX2_moveByRemoval_43 ?_
          refine z_iload hF dX2_moveByRemoval_46 rfl ?_
          refine z_aload_n hF dX2_moveByRemoval_48 rfl ?_
          refine z_get (C := RX2) (T := TX2) (N := 4) (ci := 2) (v := .ref r2) hF k_0 1 (by decide) rfl k_3 rfl 0 rfl rfl dX2_moveByRemoval_49 ?_
          refine z_iload hF dX2_moveByRemoval_52 rfl ?_
          refine z_iald (k := i) hF 2 rfl (rfl) (by omega) rfl dX2_moveByRemoval_54 ?_
          refine z_top (y := e i) (mpF_at _ _ (Nat.le_refl i)) ?_
          refine z_iload_n hF dX2_moveByRemoval_55 rfl ?_
          refine z_iload_n hF dX2_moveByRemoval_56 rfl ?_
          refine z_S (As := [.int (e i), .int p, .int n]) (rest := [.int (nI i), .ref r2]) (ws' := [(r0, .inr (2, [.ref r1, .ref r2, .ref r3, .int (nI m)])), (r1, eI G 12 (upd (mpF i (remB p n b e) b) i (behF (b i) p n))), (r2, eI G 12 (mpF i (remE p n b e) e))]) (st2 := [.int (behF (e i) p n), .int (nI i), .ref r2]) (c2 := 0) (s2 := 0) hF (c_X2_behindRemoval G (e i) p n) gX2_moveByRemoval_X2_behindRemoval rfl rfl rfl hs_X2_behindRemoval ⟨⟨Nat.le_of_ble_eq_true rfl, Nat.le_of_ble_eq_true rfl⟩, ⟨Nat.le_of_ble_eq_true rfl, Nat.le_of_ble_eq_true rfl⟩, Nat.le_of_ble_eq_true rfl⟩ [] rfl rfl rfl rfl rfl rfl rfl rfl rfl rfl dX2_moveByRemoval_57 ?_
          refine z_iast (k := i) (ws' := [(r0, .inr (2, [.ref r1, .ref r2, .ref r3, .int (nI m)])), (r1, eI G 12 (upd (mpF i (remB p n b e) b) i (behF (b i) p n))), (r2, eI G 12 (upd (mpF i (remE p n b e) e) i (behF (e i) p n)))]) hF 2 rfl (rfl) (by omega) rfl rfl dX2_moveByRemoval_60 ?_
          refine z_aload_n hF dX2_moveByRemoval_61 rfl ?_
          refine z_get (C := RX2) (T := TX2) (N := 4) (ci := 2) (v := .ref r1) hF k_0 0 (by decide) rfl k_2 rfl 0 rfl rfl dX2_moveByRemoval_62 ?_
          refine z_iload hF dX2_moveByRemoval_65 rfl ?_
          refine z_iald (k := i) hF 1 rfl (rfl) (by omega) rfl dX2_moveByRemoval_67 ?_
          refine z_top (y := behF (b i) p n) (pk_us) ?_
          refine z_aload_n hF dX2_moveByRemoval_68 rfl ?_
          refine z_get (C := RX2) (T := TX2) (N := 4) (ci := 2) (v := .ref r2) hF k_0 1 (by decide) rfl k_3 rfl 0 rfl rfl dX2_moveByRemoval_69 ?_
          refine z_iload hF dX2_moveByRemoval_72 rfl ?_
          refine z_iald (k := i) hF 2 rfl (rfl) (by omega) rfl dX2_moveByRemoval_74 ?_
          refine z_top (y := behF (e i) p n) (pk_us) ?_
          refine z_ic_ne (tgt := 102) hF dX2_moveByRemoval_75 (by decide) (fun hq => ?_) (fun hq => ?_)
          · refine z_iinc (v := nI (i + 1)) (lv' := [some (.ref r0), some (.int p), some (.int n), some (.int (cov (fun kk => ¬ b kk = -1 ∧ behF (b kk) p n = behF (e kk) p n) i)), some (.int (nI (i + 1)))]) hF dX2_moveByRemoval_102 rfl (nI_1 i) rfl rfl ?_
            refine z_goto (tgt := 5) hF dX2_moveByRemoval_105 (by decide) ?_
            refine z_ws (ws' := [(r0, .inr (2, [.ref r1, .ref r2, .ref r3, .int (nI m)])), (r1, eI G 12 (mpF (i + 1) (remB p n b e) b)), (r2, eI G 12 (upd (mpF i (remE p n b e) e) i (behF (e i) p n)))]) (by rw [← mpF_up (remB p n b e)]; simp [remB, hc, hq]) ?_
            refine z_ws (ws' := [(r0, .inr (2, [.ref r1, .ref r2, .ref r3, .int (nI m)])), (r1, eI G 12 (mpF (i + 1) (remB p n b e) b)), (r2, eI G 12 (mpF (i + 1) (remE p n b e) e))]) (by rw [← mpF_up (remE p n b e)]; simp [remE, hc, hq]) ?_
            refine z_lv (lv' := [some (.ref r0), some (.int p), some (.int n), some (.int (cov (fun kk => ¬ b kk = -1 ∧ behF (b kk) p n = behF (e kk) p n) (i + 1))), some (.int (nI (i + 1)))]) (by rw [cov_f (k := i) (by grind)]) ?_
            exact ih (i + 1) (by omega) (by omega)
          · refine z_aload_n hF dX2_moveByRemoval_78 rfl ?_
            refine z_get (C := RX2) (T := TX2) (N := 4) (ci := 2) (v := .ref r1) hF k_0 0 (by decide) rfl k_2 rfl 0 rfl rfl dX2_moveByRemoval_79 ?_
            refine z_iload hF dX2_moveByRemoval_82 rfl ?_
            refine z_iconst (v := -1) hF dX2_moveByRemoval_84 (by decide) ?_
            refine z_iast (k := i) (ws' := [(r0, .inr (2, [.ref r1, .ref r2, .ref r3, .int (nI m)])), (r1, eI G 12 (upd (upd (mpF i (remB p n b e) b) i (behF (b i) p n)) i (-1))), (r2, eI G 12 (upd (mpF i (remE p n b e) e) i (behF (e i) p n)))]) hF 1 rfl (rfl) (by omega) rfl rfl dX2_moveByRemoval_85 ?_
            refine z_ws (ws' := [(r0, .inr (2, [.ref r1, .ref r2, .ref r3, .int (nI m)])), (r1, eI G 12 (mpF (i + 1) (remB p n b e) b)), (r2, eI G 12 (upd (mpF i (remE p n b e) e) i (behF (e i) p n)))]) (by rw [upd_upd, ← mpF_up (remB p n b e)]; simp [remB, hc, hq]) ?_
            refine z_aload_n hF dX2_moveByRemoval_86 rfl ?_
            refine z_get (C := RX2) (T := TX2) (N := 4) (ci := 2) (v := .ref r2) hF k_0 1 (by decide) rfl k_3 rfl 0 rfl rfl dX2_moveByRemoval_87 ?_
            refine z_iload hF dX2_moveByRemoval_90 rfl ?_
            refine z_iconst (v := -1) hF dX2_moveByRemoval_92 (by decide) ?_
            refine z_iast (k := i) (ws' := [(r0, .inr (2, [.ref r1, .ref r2, .ref r3, .int (nI m)])), (r1, eI G 12 (mpF (i + 1) (remB p n b e) b)), (r2, eI G 12 (upd (upd (mpF i (remE p n b e) e) i (behF (e i) p n)) i (-1)))]) hF 2 rfl (rfl) (by omega) rfl rfl dX2_moveByRemoval_93 ?_
            refine z_ws (ws' := [(r0, .inr (2, [.ref r1, .ref r2, .ref r3, .int (nI m)])), (r1, eI G 12 (mpF (i + 1) (remB p n b e) b)), (r2, eI G 12 (mpF (i + 1) (remE p n b e) e))]) (by rw [upd_upd, ← mpF_up (remE p n b e)]; simp [remE, hc, hq]) ?_
            refine z_iload_n hF dX2_moveByRemoval_94 rfl ?_
            refine z_iload hF dX2_moveByRemoval_95 rfl ?_
            refine z_SN (As := [.int (nI i)]) (rest := [.int (cov (fun kk => ¬ b kk = -1 ∧ behF (b kk) p n = behF (e kk) p n) i)]) (ws' := [(r0, .inr (2, [.ref r1, .ref r2, .ref r3, .int (nI m)])), (r1, eI G 12 (mpF (i + 1) (remB p n b e) b)), (r2, eI G 12 (mpF (i + 1) (remE p n b e) e))]) (st2 := [.int (bitF (nI i)), .int (cov (fun kk => ¬ b kk = -1 ∧ behF (b kk) p n = behF (e kk) p n) i)]) (c2 := 0) (s2 := 0) hF (c_X4_bit G (nI i)) ggX2_moveByRemoval_X4_bit (List.mem_of_getElem? (i := 6) rfl) k_4 k_5 rfl rfl rfl hs_X4_bit ⟨⟨Nat.le_of_ble_eq_true rfl, Nat.le_of_ble_eq_true rfl⟩, ⟨Nat.le_of_ble_eq_true rfl, Nat.le_of_ble_eq_true rfl⟩, Nat.le_of_ble_eq_true rfl⟩ [] rfl rfl rfl rfl rfl rfl rfl rfl rfl rfl dX2_moveByRemoval_97 ?_
            refine z_ior hF dX2_moveByRemoval_100 ?_
            refine z_top (y := cov (fun kk => ¬ b kk = -1 ∧ behF (b kk) p n = behF (e kk) p n) (i + 1)) (cov_t (P := fun kk => ¬ b kk = -1 ∧ behF (b kk) p n = behF (e kk) p n) ⟨hc, hq⟩) ?_
            refine z_istore_n (lv' := [some (.ref r0), some (.int p), some (.int n), some (.int (cov (fun kk => ¬ b kk = -1 ∧ behF (b kk) p n = behF (e kk) p n) (i + 1))), some (.int (nI i))]) hF dX2_moveByRemoval_101 rfl rfl ?_
            refine z_iinc (v := nI (i + 1)) (lv' := [some (.ref r0), some (.int p), some (.int n), some (.int (cov (fun kk => ¬ b kk = -1 ∧ behF (b kk) p n = behF (e kk) p n) (i + 1))), some (.int (nI (i + 1)))]) hF dX2_moveByRemoval_102 rfl (nI_1 i) rfl rfl ?_
            refine z_goto (tgt := 5) hF dX2_moveByRemoval_105 (by decide) ?_
            exact ih (i + 1) (by omega) (by omega)
  exact J_5 ((m - 0) + 1) 0 (Nat.lt_succ_self _) (by omega)
