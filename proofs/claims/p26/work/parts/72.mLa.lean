set_option maxHeartbeats 4000000 in
set_option maxRecDepth 100000 in
theorem c_L_low (G : zG) (x : Int32) (n : Nat) (h0 : 0 < n) (hn : n < 2 ^ 31) : zM G yL_low wsL_low ({ frames := 0, cells := 0, slots := 0, locals := 12 }) [.int x, .int (nI n)] [] [] (some (.int (nI (lowN x n)))) 0 0 := by
  refine zM.ofI (own := RL) (cc := cL_low) (maxL := 2) rfl (by decide) rfl rfl (by simp [Value.category]) (Nat.le_of_ble_eq_true rfl) ?_
  intro X hF hR
  have k_0 : zH X (.constant RL 9 (2147483647)) := hF.w (by decide +kernel)
  refine z_lv (lv' := [some (.int x), some (.int (nI n))]) rfl ?_
  refine z_iload_n hF dL_low_0 rfl ?_
  refine z_ldc (v := 2147483647) hF dL_low_1 k_0 ?_
  refine z_iand hF dL_low_3 ?_
  refine z_iload_n hF dL_low_4 rfl ?_
  refine z_irem hF dL_low_5 (nI_nz (by omega) (by omega)) ?_
  refine z_top (y := nI (lowN x n)) (low_eq x h0 hn) ?_
  exact hR.i dL_low_6 (Nat.le_of_ble_eq_true rfl) (Nat.le_of_ble_eq_true rfl) (rfl) (rfl)
set_option maxHeartbeats 4000000 in
set_option maxRecDepth 100000 in
theorem c_L_first (G : zG) (ze zq n v m j i : Nat) (le B E : Nat → Int32) (hn : n ≤ 60) (hi : i < 14) (hRG : RGa n B E) (hE : LEa n le B E) : zM G yL_first wsL_first ({ frames := 0, cells := 0, slots := 0, locals := 12 }) [.int (nI i), .ref ze, .ref zq] [(ze, eI G 60 le), (zq, eI G 4 (qF n v m j))] [(ze, eI G 60 le), (zq, eI G 4 (qF n v m j))] (some (.int (if B i = -1 then nI n else B i))) 0 0 := by
  refine zM.ofI (own := RL) (cc := cL_first) (maxL := 4) rfl (by decide) rfl rfl (by simp [Value.category]) (Nat.le_of_ble_eq_true rfl) ?_
  intro X hF hR
  refine z_lv (lv' := [some (.int (nI i)), some (.ref ze), some (.ref zq), none]) rfl ?_
  refine z_iconst (v := nI 0) hF dL_first_0 (by decide) ?_
  refine z_istore_n (lv' := [some (.int (nI i)), some (.ref ze), some (.ref zq), some (.int (nI 0))]) hF dL_first_1 rfl rfl ?_
  have J_2 : ∀ (n9 : Nat) (p : Nat), n - p < n9 → (p ≤ n) → (∀ x, x < p → ¬ (B i ≤ nI x ∧ nI x < E i)) → zJ G X 2 [(ze, eI G 60 le), (zq, eI G 4 (qF n v m j))] [some (.int (nI i)), some (.ref ze), some (.ref zq), some (.int (nI p))] [] 0 0 := by
    intro n9
    induction n9 with
    | zero => intro p hmu; exact absurd hmu (Nat.not_lt_zero _)
    | succ n9 ih =>
      intro p hmu h2 h3
      refine z_iload_n hF dL_first_2 rfl ?_
      refine z_aload_n hF dL_first_3 rfl ?_
      refine z_iconst (v := nI 0) hF dL_first_4 (by decide) ?_
      refine z_iald (k := 0) hF 1 rfl (rfl) (by omega) rfl dL_first_5 ?_
      refine z_top (y := nI n) (rfl) ?_
      refine z_icn_ge (tgt := 25) hF (by omega) (by omega) dL_first_6 (by decide) (fun hge => ?_) (fun hge => ?_)
      · refine z_iload_n hF dL_first_25 rfl ?_
        exact hR.i dL_first_26 (Nat.le_of_ble_eq_true rfl) (Nat.le_of_ble_eq_true rfl) (rfl) (fst_n hn hge h2 (hRG i hi) h3)
      · refine z_aload_n hF dL_first_9 rfl ?_
        refine z_iload_n hF dL_first_10 rfl ?_
        refine z_iald (k := p) hF 0 rfl (rfl) (by omega) rfl dL_first_11 ?_
        refine z_top (y := covF B E 14 (nI p)) (hE p (by omega)) ?_
        refine z_iload_n hF dL_first_12 rfl ?_
        refine z_ishr hF dL_first_13 ?_
        refine z_iconst (v := nI 1) hF dL_first_14 (by decide) ?_
        refine z_iand hF dL_first_15 ?_
        refine z_top (y := zb (B i ≤ nI p ∧ nI p < E i)) (covF_tb hi) ?_
        refine z_if_ne_b (tgt := 25) hF dL_first_16 (by decide) (fun hin => ?_) (fun hin => ?_)
        · refine z_iload_n hF dL_first_25 rfl ?_
          exact hR.i dL_first_26 (Nat.le_of_ble_eq_true rfl) (Nat.le_of_ble_eq_true rfl) (rfl) (fst_p hn (by omega) (hRG i hi) h3 hin)
        · refine z_iinc (v := nI (p + 1)) (lv' := [some (.int (nI i)), some (.ref ze), some (.ref zq), some (.int (nI (p + 1)))]) hF dL_first_19 rfl (nI_1 p) rfl rfl ?_
          refine z_goto (tgt := 2) hF dL_first_22 (by decide) ?_
          exact ih (p + 1) (by omega) (by omega) (fun x hx => (Nat.lt_or_ge x p).elim (h3 x) (fun q => by rw [show x = p by omega]; exact hin))
  exact J_2 ((n - 0) + 1) 0 (Nat.lt_succ_self _) (by omega) (fun x hx => absurd hx (Nat.not_lt_zero _))
set_option maxHeartbeats 4000000 in
set_option maxRecDepth 100000 in
theorem c_L_behind (G : zG) (ze zq n v m j i : Nat) (le B E : Nat → Int32) (hn : n ≤ 60) (hi : i < 14) (hRG : RGa n B E) (hE : LEa n le B E) : zM G yL_behind wsL_behind ({ frames := 0, cells := 0, slots := 0, locals := 12 }) [.int (nI i), .ref ze, .ref zq] [(ze, eI G 60 le), (zq, eI G 4 (qF n v m j))] [(ze, eI G 60 le), (zq, eI G 4 (qF n v m j))] (some (.int (if B i = -1 then nI 0 else E i))) 0 0 := by
  refine zM.ofI (own := RL) (cc := cL_behind) (maxL := 4) rfl (by decide) rfl rfl (by simp [Value.category]) (Nat.le_of_ble_eq_true rfl) ?_
  intro X hF hR
  refine z_lv (lv' := [some (.int (nI i)), some (.ref ze), some (.ref zq), none]) rfl ?_
  refine z_aload_n hF dL_behind_0 rfl ?_
  refine z_iconst (v := nI 0) hF dL_behind_1 (by decide) ?_
  refine z_iald (k := 0) hF 1 rfl (rfl) (by omega) rfl dL_behind_2 ?_
  refine z_top (y := nI n) (rfl) ?_
  refine z_istore_n (lv' := [some (.int (nI i)), some (.ref ze), some (.ref zq), some (.int (nI n))]) hF dL_behind_3 rfl rfl ?_
  have J_4 : ∀ (n9 : Nat) (p : Nat), p < n9 → (p ≤ n) → (∀ x, p ≤ x → x < n → ¬ (B i ≤ nI x ∧ nI x < E i)) → zJ G X 4 [(ze, eI G 60 le), (zq, eI G 4 (qF n v m j))] [some (.int (nI i)), some (.ref ze), some (.ref zq), some (.int (nI p))] [] 0 0 := by
    intro n9
    induction n9 with
    | zero => intro p hmu; exact absurd hmu (Nat.not_lt_zero _)
    | succ n9 ih =>
      intro p hmu h2 h3
      refine z_iload_n hF dL_behind_4 rfl ?_
      refine z_ifn_le (tgt := 26) hF (by omega) dL_behind_5 (by decide) (fun hge => ?_) (fun hge => ?_)
      · refine z_iload_n hF dL_behind_26 rfl ?_
        exact hR.i dL_behind_27 (Nat.le_of_ble_eq_true rfl) (Nat.le_of_ble_eq_true rfl) (rfl) (bhd_0 hn hge (hRG i hi) h3)
      · refine z_aload_n hF dL_behind_8 rfl ?_
        refine z_iload_n hF dL_behind_9 rfl ?_
        refine z_iconst (v := nI 1) hF dL_behind_10 (by decide) ?_
        refine z_isub hF dL_behind_11 ?_
        refine z_top (pk_sub (by omega)) ?_
        refine z_iald (k := p - 1) hF 0 rfl (rfl) (by omega) rfl dL_behind_12 ?_
        refine z_top (y := covF B E 14 (nI (p - 1))) (hE (p - 1) (by omega)) ?_
        refine z_iload_n hF dL_behind_13 rfl ?_
        refine z_ishr hF dL_behind_14 ?_
        refine z_iconst (v := nI 1) hF dL_behind_15 (by decide) ?_
        refine z_iand hF dL_behind_16 ?_
        refine z_top (y := zb (B i ≤ nI (p - 1) ∧ nI (p - 1) < E i)) (covF_tb hi) ?_
        refine z_if_ne_b (tgt := 26) hF dL_behind_17 (by decide) (fun hin => ?_) (fun hin => ?_)
        · refine z_iload_n hF dL_behind_26 rfl ?_
          exact hR.i dL_behind_27 (Nat.le_of_ble_eq_true rfl) (Nat.le_of_ble_eq_true rfl) (rfl) (bhd_p hn hge h2 (hRG i hi) h3 hin)
        · refine z_iinc (v := nI (p - 1)) (lv' := [some (.int (nI i)), some (.ref ze), some (.ref zq), some (.int (nI (p - 1)))]) hF dL_behind_20 rfl (by rw [nI_dec, pk_sub (by omega)]) rfl rfl ?_
          refine z_goto (tgt := 4) hF dL_behind_23 (by decide) ?_
          exact ih (p - 1) (by omega) (by omega) (fun x hx hx2 => (Nat.lt_or_ge x p).elim (fun q => by rw [show x = p - 1 by omega]; exact hin) (fun q => h3 x q hx2))
  exact J_4 (n + 1) n (Nat.lt_succ_self _) (by omega) (fun x hx hx2 => absurd hx2 (Nat.not_lt.mpr hx))
set_option maxHeartbeats 4000000 in
set_option maxRecDepth 100000 in
theorem c_L_range (G : zG) (ze zq n v m j i : Nat) (le B E : Nat → Int32) (hn : n ≤ 60) (hi : i < 14) (hRG : RGa n B E) (hE : LEa n le B E) : zM G yL_range wsL_range ({ frames := 1, cells := 0, slots := 0, locals := 35 }) [.int (nI i), .ref ze, .ref zq] [(ze, eI G 60 le), (zq, eI G 4 (qF n v m j))] [(ze, eI G 60 le), (zq, eI G 4 (qF n v m j))] (some (.int (numF (B i) (E i)))) 0 0 := by
  refine zM.ofI (own := RL) (cc := cL_range) (maxL := 4) rfl (by decide) rfl rfl (by simp [Value.category]) (Nat.le_of_ble_eq_true rfl) ?_
  intro X hF hR
  refine z_lv (lv' := [some (.int (nI i)), some (.ref ze), some (.ref zq), none]) rfl ?_
  refine z_iload_n hF dL_range_0 rfl ?_
  refine z_aload_n hF dL_range_1 rfl ?_
  refine z_aload_n hF dL_range_2 rfl ?_
  refine z_S (As := [.int (nI i), .ref ze, .ref zq]) (rest := []) (ws' := [(ze, eI G 60 le), (zq, eI G 4 (qF n v m j))]) (st2 := [.int (if B i = -1 then nI 0 else E i)]) (c2 := 0) (s2 := 0) hF (c_L_behind G ze zq n v m j i le B E (by first | assumption | omega) (by first | assumption | omega) (by first | assumption | omega) (by first | assumption | omega)) gL_range_L_behind rfl rfl rfl hs_L_behind ⟨⟨Nat.le_of_ble_eq_true rfl, Nat.le_of_ble_eq_true rfl⟩, ⟨Nat.le_of_ble_eq_true rfl, Nat.le_of_ble_eq_true rfl⟩, Nat.le_of_ble_eq_true rfl⟩ [0, 1] rfl rfl rfl rfl rfl rfl rfl rfl rfl rfl dL_range_3 ?_
  refine z_istore_n (lv' := [some (.int (nI i)), some (.ref ze), some (.ref zq), some (.int (if B i = -1 then nI 0 else E i))]) hF dL_range_6 rfl rfl ?_
  refine z_iload_n hF dL_range_7 rfl ?_
  refine z_if_ne (tgt := 15) hF dL_range_8 (by decide) (fun hz => ?_) (fun hz => ?_)
  · refine z_bipush (v := nI 100) hF dL_range_15 (by decide) ?_
    refine z_iload_n hF dL_range_17 rfl ?_
    refine z_aload_n hF dL_range_18 rfl ?_
    refine z_aload_n hF dL_range_19 rfl ?_
    refine z_S (As := [.int (nI i), .ref ze, .ref zq]) (rest := [.int (nI 100)]) (ws' := [(ze, eI G 60 le), (zq, eI G 4 (qF n v m j))]) (st2 := [.int (if B i = -1 then nI n else B i), .int (nI 100)]) (c2 := 0) (s2 := 0) hF (c_L_first G ze zq n v m j i le B E (by first | assumption | omega) (by first | assumption | omega) (by first | assumption | omega) (by first | assumption | omega)) gL_range_L_first rfl rfl rfl hs_L_first ⟨⟨Nat.le_of_ble_eq_true rfl, Nat.le_of_ble_eq_true rfl⟩, ⟨Nat.le_of_ble_eq_true rfl, Nat.le_of_ble_eq_true rfl⟩, Nat.le_of_ble_eq_true rfl⟩ [0, 1] rfl rfl rfl rfl rfl rfl rfl rfl rfl rfl dL_range_20 ?_
    refine z_imul hF dL_range_23 ?_
    refine z_iload_n hF dL_range_24 rfl ?_
    refine z_iadd hF dL_range_25 ?_
    exact hR.i dL_range_26 (Nat.le_of_ble_eq_true rfl) (Nat.le_of_ble_eq_true rfl) (rfl) (rng_1 hz)
  · refine z_iconst (v := -1) hF dL_range_11 (by decide) ?_
    refine z_goto (tgt := 26) hF dL_range_12 (by decide) ?_
    exact hR.i dL_range_26 (Nat.le_of_ble_eq_true rfl) (Nat.le_of_ble_eq_true rfl) (rfl) (rng_0 hn (hRG i hi) (hz))
set_option maxHeartbeats 4000000 in
set_option maxRecDepth 100000 in
theorem c_L_keeps (G : zG) (ze zt zq n v m j : Nat) (le lt B E : Nat → Int32) (hn : n ≤ 60) (hm : m ≤ 6) (hv : v ≤ 300) (hRG : RGa n B E) (hE : LEa n le B E) (hB0 : ∀ i, m ≤ i → i < 8 → B i = -1) : zM G yL_keeps wsL_keeps ({ frames := 2, cells := 0, slots := 0, locals := 58 }) [.ref ze, .ref zt, .ref zq] [(ze, eI G 60 le), (zt, eI G 64 lt), (zq, eI G 4 (qF n v m j))] [(ze, eI G 60 le), (zt, eI G 64 (wrF lt (8 * (v % 8)) 8 (fun kk => numF (B kk) (E kk)))), (zq, eI G 4 (qF n v m j))] none 0 0 := by
  refine zM.ofV (own := RL) (cc := cL_keeps) (maxL := 4) rfl (by decide) rfl (by simp [Value.category]) (Nat.le_of_ble_eq_true rfl) ?_
  intro X hF hR
  refine z_lv (lv' := [some (.ref ze), some (.ref zt), some (.ref zq), none]) rfl ?_
  refine z_iconst (v := nI 0) hF dL_keeps_0 (by decide) ?_
  refine z_istore_n (lv' := [some (.ref ze), some (.ref zt), some (.ref zq), some (.int (nI 0))]) hF dL_keeps_1 rfl rfl ?_
  refine z_ws (ws' := [(ze, eI G 60 le), (zt, eI G 64 (wrF lt (8 * (v % 8)) 0 (fun kk => numF (B kk) (E kk)))), (zq, eI G 4 (qF n v m j))]) (by rw [wrF_0]) ?_
  have J_2 : ∀ (n9 : Nat) (i : Nat), 8 - i < n9 → (i ≤ 8) → zJ G X 2 [(ze, eI G 60 le), (zt, eI G 64 (wrF lt (8 * (v % 8)) i (fun kk => numF (B kk) (E kk)))), (zq, eI G 4 (qF n v m j))] [some (.ref ze), some (.ref zt), some (.ref zq), some (.int (nI i))] [] 0 0 := by
    intro n9
    induction n9 with
    | zero => intro i hmu; exact absurd hmu (Nat.not_lt_zero _)
    | succ n9 ih =>
      intro i hmu h2
      refine z_iload_n hF dL_keeps_2 rfl ?_
      refine z_bipush (v := nI 8) hF dL_keeps_3 (by decide) ?_
      refine z_icn_ge (tgt := 44) hF (by omega) (by omega) dL_keeps_5 (by decide) (fun c_1 => ?_) (fun c_1 => ?_)
      · exact hR.v dL_keeps_44 (Nat.le_of_ble_eq_true rfl) (Nat.le_of_ble_eq_true rfl) (by rw [show i = 8 by omega])
      · refine z_aload_n hF dL_keeps_8 rfl ?_
        refine z_bipush (v := nI 8) hF dL_keeps_9 (by decide) ?_
        refine z_aload_n hF dL_keeps_11 rfl ?_
        refine z_iconst (v := nI 1) hF dL_keeps_12 (by decide) ?_
        refine z_iald (k := 1) hF 2 rfl (rfl) (by omega) rfl dL_keeps_13 ?_
        refine z_top (y := nI v) (rfl) ?_
        refine z_bipush (v := nI 8) hF dL_keeps_14 (by decide) ?_
        refine z_irem hF dL_keeps_16 (by decide) ?_
        refine z_top (pk_rem (by omega) (by omega) (by omega)) ?_
        refine z_imul hF dL_keeps_17 ?_
        refine z_top (pk_mul 8 (v % 8)) ?_
        refine z_iload_n hF dL_keeps_18 rfl ?_
        refine z_iadd hF dL_keeps_19 ?_
        refine z_top (nI_add (8 * (v % 8)) i) ?_
        have J_37 : zJ G X 37 [(ze, eI G 60 le), (zt, eI G 64 (wrF lt (8 * (v % 8)) i (fun kk => numF (B kk) (E kk)))), (zq, eI G 4 (qF n v m j))] [some (.ref ze), some (.ref zt), some (.ref zq), some (.int (nI i))] [.int (numF (B i) (E i)), .int (nI (8 * (v % 8) + i)), .ref zt] 0 0 := by
          refine z_iast (k := 8 * (v % 8) + i) (ws' := [(ze, eI G 60 le), (zt, eI G 64 (upd (wrF lt (8 * (v % 8)) i (fun kk => numF (B kk) (E kk))) (8 * (v % 8) + i) (numF (B i) (E i)))), (zq, eI G 4 (qF n v m j))]) hF 1 rfl (rfl) (by omega) rfl rfl dL_keeps_37 ?_
          refine z_ws (ws' := [(ze, eI G 60 le), (zt, eI G 64 (wrF lt (8 * (v % 8)) (i + 1) (fun kk => numF (B kk) (E kk)))), (zq, eI G 4 (qF n v m j))]) (by rw [← wrF_up]) ?_
          refine z_iinc (v := nI (i + 1)) (lv' := [some (.ref ze), some (.ref zt), some (.ref zq), some (.int (nI (i + 1)))]) hF dL_keeps_38 rfl (nI_1 i) rfl rfl ?_
          refine z_goto (tgt := 2) hF dL_keeps_41 (by decide) ?_
          exact ih (i + 1) (by omega) (by omega)
        refine z_iload_n hF dL_keeps_20 rfl ?_
        refine z_aload_n hF dL_keeps_21 rfl ?_
        refine z_iconst (v := nI 2) hF dL_keeps_22 (by decide) ?_
        refine z_iald (k := 2) hF 2 rfl (rfl) (by omega) rfl dL_keeps_23 ?_
        refine z_top (y := nI m) (rfl) ?_
        refine z_icn_ge (tgt := 36) hF (by omega) (by omega) dL_keeps_24 (by decide) (fun c_2 => ?_) (fun c_2 => ?_)
        · refine z_iconst (v := -1) hF dL_keeps_36 (by decide) ?_
          refine z_top (y := numF (B i) (E i)) (num_m (hB0 i (by omega) (by omega))) ?_
          exact J_37  
        · refine z_iload_n hF dL_keeps_27 rfl ?_
          refine z_aload_n hF dL_keeps_28 rfl ?_
          refine z_aload_n hF dL_keeps_29 rfl ?_
          refine z_S (As := [.int (nI i), .ref ze, .ref zq]) (rest := [.int (nI (8 * (v % 8) + i)), .ref zt]) (ws' := [(ze, eI G 60 le), (zt, eI G 64 (wrF lt (8 * (v % 8)) i (fun kk => numF (B kk) (E kk)))), (zq, eI G 4 (qF n v m j))]) (st2 := [.int (numF (B i) (E i)), .int (nI (8 * (v % 8) + i)), .ref zt]) (c2 := 0) (s2 := 0) hF (c_L_range G ze zq n v m j i le B E (by first | assumption | omega) (by first | assumption | omega) (by first | assumption | omega) (by first | assumption | omega)) gL_keeps_L_range rfl rfl rfl hs_L_range ⟨⟨Nat.le_of_ble_eq_true rfl, Nat.le_of_ble_eq_true rfl⟩, ⟨Nat.le_of_ble_eq_true rfl, Nat.le_of_ble_eq_true rfl⟩, Nat.le_of_ble_eq_true rfl⟩ [0, 2] rfl rfl rfl rfl rfl rfl rfl rfl rfl rfl dL_keeps_30 ?_
          refine z_goto (tgt := 37) hF dL_keeps_33 (by decide) ?_
          exact J_37  
  exact J_2 ((8 - 0) + 1) 0 (Nat.lt_succ_self _) (by omega)
