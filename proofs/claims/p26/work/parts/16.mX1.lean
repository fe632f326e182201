set_option maxHeartbeats 4000000 in
set_option maxRecDepth 100000 in
theorem c_X1_sizeOf (G : zG) (q0 q1 q2 q3 q4 : Nat) (c : Nat) (qs : Nat → Int32) (hc : c < 12) : zM G yX1_sizeOf wsX1_sizeOf ({ frames := 0, cells := 0, slots := 0, locals := 12 }) [.ref q0, .int (nI c)] [(q0, .inr (1, [.ref q1, .ref q2, .ref q3, .ref q4])), (q2, eI G 12 qs)] [(q0, .inr (1, [.ref q1, .ref q2, .ref q3, .ref q4])), (q2, eI G 12 qs)] (some (.int (qs c))) 0 0 := by
  refine zM.ofI (own := RX1) (cc := cX1_sizeOf) (maxL := 2) rfl (by decide) rfl rfl (by simp [Value.category]) (Nat.le_of_ble_eq_true rfl) ?_
  intro X hF hR
  have k_0 : ∀ w ∈ wsX10, w ∈ wsX1_sizeOf := by decide +kernel
  have k_1 : zH X (.fieldLink RX1 15 "MarginDesk$Quotes" "sizes" "[I") := hF.w (by decide +kernel)
  refine z_lv (lv' := [some (.ref q0), some (.int (nI c))]) rfl ?_
  refine z_aload_n hF dX1_sizeOf_0 rfl ?_
  refine z_get (C := RX1) (T := TX1) (N := 4) (ci := 1) (v := .ref q2) hF k_0 1 (by decide) rfl k_1 rfl 0 rfl rfl dX1_sizeOf_1 ?_
  refine z_iload_n hF dX1_sizeOf_4 rfl ?_
  refine z_iald (k := c) hF 1 rfl (rfl) (by omega) rfl dX1_sizeOf_5 ?_
  exact hR.i dX1_sizeOf_6 (Nat.le_of_ble_eq_true rfl) (Nat.le_of_ble_eq_true rfl) (rfl) (rfl)
set_option maxHeartbeats 4000000 in
set_option maxRecDepth 100000 in
theorem c_X1_keep (G : zG) (q0 q1 q2 q3 q4 : Nat) (t0 t1 t2 n : Nat) (c a b : Nat) (ql qs qa qb f : Nat → Int32) (hc : c < 12) (hab : a < b) (hb : b ≤ n) (hn : n ≤ 60) : zM G yX1_keep wsX1_keep ({ frames := 2, cells := 0, slots := 0, locals := 54 }) [.ref q0, .int (nI c), .ref t0, .int (nI a), .int (nI b)] [(q0, .inr (1, [.ref q1, .ref q2, .ref q3, .ref q4])), (q1, eI G 720 ql), (q2, eI G 12 qs), (q3, eI G 12 qa), (q4, eI G 12 qb), (t0, .inr (3, [.ref t1, .ref t2, .int (nI n)])), (t1, eI G 60 f)] [(q0, .inr (1, [.ref q1, .ref q2, .ref q3, .ref q4])), (q1, eI G 720 (va_cpy f ql a (c * 60) (b - a))), (q2, eI G 12 (upd qs c (nI (b - a)))), (q3, eI G 12 (upd qa c (letF n f (nI a - nI 1)))), (q4, eI G 12 (upd qb c (letF n f (nI b)))), (t0, .inr (3, [.ref t1, .ref t2, .int (nI n)])), (t1, eI G 60 f)] none 0 0 := by
  refine zM.ofV (own := RX1) (cc := cX1_keep) (maxL := 5) rfl (by decide) rfl (by simp [Value.category]) (Nat.le_of_ble_eq_true rfl) ?_
  intro X hF hR
  have k_0 : ∀ w ∈ wsX10, w ∈ wsX1_keep := by decide +kernel
  have k_1 : zH X (.fieldLink RX1 15 "MarginDesk$Quotes" "sizes" "[I") := hF.w (by decide +kernel)
  have k_2 : ∀ w ∈ wsX30, w ∈ wsX1_keep := by decide +kernel
  have k_3 : zH X (.fieldLinkNest RX1 24 "MarginDesk$Text" "letters" "[I" RX4) := hF.nf (List.mem_of_getElem? (i := 5) rfl)
  have k_4 : zH X (.fieldLink RX1 9 "MarginDesk$Quotes" "letters" "[I") := hF.w (by decide +kernel)
  have k_5 : zH X (.methodLink RX1 27 arraycopyName) := hF.w (by decide +kernel)
  have k_6 : zH X (.native arraycopyName) := hF.w (by decide +kernel)
  have k_7 : zH X (.static arraycopyName) := hF.w (by decide +kernel)
  have k_8 : zH X (.initialized "java/lang/System") := hF.w (by decide +kernel)
  have k_9 : zH X (.fieldLink RX1 18 "MarginDesk$Quotes" "aheads" "[I") := hF.w (by decide +kernel)
  have k_10 : zH X (.initialized RX3) := hF.w (by decide +kernel)
  have k_11 : zH X (.instanceMethod yX3_letterBehind) := hF.w (by decide +kernel)
  have k_12 : zH X (.selects RX3 yX3_letterBehind yX3_letterBehind) := hF.w (by decide +kernel)
  have k_13 : zH X (.fieldLink RX1 21 "MarginDesk$Quotes" "behinds" "[I") := hF.w (by decide +kernel)
  refine z_lv (lv' := [some (.ref q0), some (.int (nI c)), some (.ref t0), some (.int (nI a)), some (.int (nI b))]) rfl ?_
  refine z_aload_n hF dX1_keep_0 rfl ?_
  refine z_get (C := RX1) (T := TX1) (N := 4) (ci := 1) (v := .ref q2) hF k_0 1 (by decide) rfl k_1 rfl 0 rfl rfl dX1_keep_1 ?_
  refine z_iload_n hF dX1_keep_4 rfl ?_
  refine z_iload hF dX1_keep_5 rfl ?_
  refine z_iload_n hF dX1_keep_7 rfl ?_
  refine z_isub hF dX1_keep_8 ?_
  refine z_top (pk_sub (by omega)) ?_
  refine z_iast (k := c) (ws' := [(q0, .inr (1, [.ref q1, .ref q2, .ref q3, .ref q4])), (q1, eI G 720 ql), (q2, eI G 12 (upd qs c (nI (b - a)))), (q3, eI G 12 qa), (q4, eI G 12 qb), (t0, .inr (3, [.ref t1, .ref t2, .int (nI n)])), (t1, eI G 60 f)]) hF 2 rfl (rfl) (by omega) rfl rfl dX1_keep_9 ?_
  refine z_aload_n hF dX1_keep_10 rfl ?_
  refine z_getN (C := RX3) (T := TX3) (N := 3) (ci := 3) (v := .ref t1) hF k_2 0 (by decide) rfl k_3 rfl 5 rfl rfl dX1_keep_11 ?_
  refine z_iload_n hF dX1_keep_14 rfl ?_
  refine z_aload_n hF dX1_keep_15 rfl ?_
  refine z_get (C := RX1) (T := TX1) (N := 4) (ci := 1) (v := .ref q1) hF k_0 0 (by decide) rfl k_4 rfl 0 rfl rfl dX1_keep_16 ?_
  refine z_iload_n hF dX1_keep_19 rfl ?_
  refine z_bipush (v := nI 60) hF dX1_keep_20 (by decide) ?_
  refine z_imul hF dX1_keep_22 ?_
  refine z_top (pk_mul c 60) ?_
  refine z_iload hF dX1_keep_23 rfl ?_
  refine z_iload_n hF dX1_keep_25 rfl ?_
  refine z_isub hF dX1_keep_26 ?_
  refine z_top (pk_sub (by omega)) ?_
  refine z_copy (sp := a) (dp := c * 60) (n := b - a) (ws' := [(q0, .inr (1, [.ref q1, .ref q2, .ref q3, .ref q4])), (q1, eI G 720 (va_cpy f ql a (c * 60) (b - a))), (q2, eI G 12 (upd qs c (nI (b - a)))), (q3, eI G 12 qa), (q4, eI G 12 qb), (t0, .inr (3, [.ref t1, .ref t2, .int (nI n)])), (t1, eI G 60 f)]) hF 6 1 k_5 k_6 k_7 k_8 rfl rfl (rfl) (rfl) (rfl) (by omega) (by omega) rfl rfl rfl rfl dX1_keep_27 ?_
  refine z_aload_n hF dX1_keep_30 rfl ?_
  refine z_get (C := RX1) (T := TX1) (N := 4) (ci := 1) (v := .ref q3) hF k_0 2 (by decide) rfl k_9 rfl 0 rfl rfl dX1_keep_31 ?_
  refine z_iload_n hF dX1_keep_34 rfl ?_
  refine z_aload_n hF dX1_keep_35 rfl ?_
  refine z_iload_n hF dX1_keep_36 rfl ?_
  refine z_iconst (v := nI 1) hF dX1_keep_37 (by decide) ?_
  refine z_isub hF dX1_keep_38 ?_
  refine z_VN (As := [.int ((nI a) - (nI 1))]) (rest := [.int (nI c), .ref q3]) (ws' := [(q0, .inr (1, [.ref q1, .ref q2, .ref q3, .ref q4])), (q1, eI G 720 (va_cpy f ql a (c * 60) (b - a))), (q2, eI G 12 (upd qs c (nI (b - a)))), (q3, eI G 12 qa), (q4, eI G 12 qb), (t0, .inr (3, [.ref t1, .ref t2, .int (nI n)])), (t1, eI G 60 f)]) (st2 := [.int (letF n f ((nI a) - (nI 1))), .int (nI c), .ref q3]) (c2 := 0) (s2 := 0) hF (c_X3_letterBehind G t0 t1 t2 n f ((nI a) - (nI 1)) (by first | assumption | omega)) ggX1_keep_X3_letterBehind (List.mem_of_getElem? (i := 17) rfl) k_10 k_11 k_12 rfl rfl rfl hs_X3_letterBehind ⟨⟨Nat.le_of_ble_eq_true rfl, Nat.le_of_ble_eq_true rfl⟩, ⟨Nat.le_of_ble_eq_true rfl, Nat.le_of_ble_eq_true rfl⟩, Nat.le_of_ble_eq_true rfl⟩ [5, 6] rfl rfl 0 rfl rfl rfl rfl rfl rfl rfl rfl rfl rfl dX1_keep_39 ?_
  refine z_iast (k := c) (ws' := [(q0, .inr (1, [.ref q1, .ref q2, .ref q3, .ref q4])), (q1, eI G 720 (va_cpy f ql a (c * 60) (b - a))), (q2, eI G 12 (upd qs c (nI (b - a)))), (q3, eI G 12 (upd qa c (letF n f ((nI a) - (nI 1))))), (q4, eI G 12 qb), (t0, .inr (3, [.ref t1, .ref t2, .int (nI n)])), (t1, eI G 60 f)]) hF 3 rfl (rfl) (by omega) rfl rfl dX1_keep_42 ?_
  refine z_aload_n hF dX1_keep_43 rfl ?_
  refine z_get (C := RX1) (T := TX1) (N := 4) (ci := 1) (v := .ref q4) hF k_0 3 (by decide) rfl k_13 rfl 0 rfl rfl dX1_keep_44 ?_
  refine z_iload_n hF dX1_keep_47 rfl ?_
  refine z_aload_n hF dX1_keep_48 rfl ?_
  refine z_iload hF dX1_keep_49 rfl ?_
  refine z_VN (As := [.int (nI b)]) (rest := [.int (nI c), .ref q4]) (ws' := [(q0, .inr (1, [.ref q1, .ref q2, .ref q3, .ref q4])), (q1, eI G 720 (va_cpy f ql a (c * 60) (b - a))), (q2, eI G 12 (upd qs c (nI (b - a)))), (q3, eI G 12 (upd qa c (letF n f ((nI a) - (nI 1))))), (q4, eI G 12 qb), (t0, .inr (3, [.ref t1, .ref t2, .int (nI n)])), (t1, eI G 60 f)]) (st2 := [.int (letF n f (nI b)), .int (nI c), .ref q4]) (c2 := 0) (s2 := 0) hF (c_X3_letterBehind G t0 t1 t2 n f (nI b) (by first | assumption | omega)) ggX1_keep_X3_letterBehind (List.mem_of_getElem? (i := 17) rfl) k_10 k_11 k_12 rfl rfl rfl hs_X3_letterBehind ⟨⟨Nat.le_of_ble_eq_true rfl, Nat.le_of_ble_eq_true rfl⟩, ⟨Nat.le_of_ble_eq_true rfl, Nat.le_of_ble_eq_true rfl⟩, Nat.le_of_ble_eq_true rfl⟩ [5, 6] rfl rfl 0 rfl rfl rfl rfl rfl rfl rfl rfl rfl rfl dX1_keep_51 ?_
  refine z_iast (k := c) (ws' := [(q0, .inr (1, [.ref q1, .ref q2, .ref q3, .ref q4])), (q1, eI G 720 (va_cpy f ql a (c * 60) (b - a))), (q2, eI G 12 (upd qs c (nI (b - a)))), (q3, eI G 12 (upd qa c (letF n f ((nI a) - (nI 1))))), (q4, eI G 12 (upd qb c (letF n f (nI b)))), (t0, .inr (3, [.ref t1, .ref t2, .int (nI n)])), (t1, eI G 60 f)]) hF 4 rfl (rfl) (by omega) rfl rfl dX1_keep_54 ?_
  exact hR.v dX1_keep_55 (Nat.le_of_ble_eq_true rfl) (Nat.le_of_ble_eq_true rfl) (rfl)
set_option maxHeartbeats 4000000 in
set_option maxRecDepth 100000 in
theorem c_X1_standsAt (G : zG) (q0 q1 q2 q3 q4 : Nat) (t0 t1 t2 n : Nat) (c k z : Nat) (ql qs f : Nat → Int32) (hc : c < 12) (hz : qs c = nI z) (hk : k + z ≤ 60) : zM G yX1_standsAt wsX1_standsAt ({ frames := 0, cells := 0, slots := 0, locals := 12 }) [.ref q0, .int (nI c), .ref t0, .int (nI k)] [(q0, .inr (1, [.ref q1, .ref q2, .ref q3, .ref q4])), (q1, eI G 720 ql), (q2, eI G 12 qs), (t0, .inr (3, [.ref t1, .ref t2, .int (nI n)])), (t1, eI G 60 f)] [(q0, .inr (1, [.ref q1, .ref q2, .ref q3, .ref q4])), (q1, eI G 720 ql), (q2, eI G 12 qs), (t0, .inr (3, [.ref t1, .ref t2, .int (nI n)])), (t1, eI G 60 f)] (some (.int (zb (∀ jj, jj < z → ql (c * 60 + jj) = f (k + jj))))) 0 0 := by
  refine zM.ofI (own := RX1) (cc := cX1_standsAt) (maxL := 5) rfl (by decide) rfl zb_nar (by simp [Value.category]) (Nat.le_of_ble_eq_true rfl) ?_
  intro X hF hR
  have k_0 : ∀ w ∈ wsX10, w ∈ wsX1_standsAt := by decide +kernel
  have k_1 : zH X (.fieldLink RX1 15 "MarginDesk$Quotes" "sizes" "[I") := hF.w (by decide +kernel)
  have k_2 : zH X (.fieldLink RX1 9 "MarginDesk$Quotes" "letters" "[I") := hF.w (by decide +kernel)
  have k_3 : ∀ w ∈ wsX30, w ∈ wsX1_standsAt := by decide +kernel
  have k_4 : zH X (.fieldLinkNest RX1 24 "MarginDesk$Text" "letters" "[I" RX4) := hF.nf (List.mem_of_getElem? (i := 5) rfl)
  refine z_lv (lv' := [some (.ref q0), some (.int (nI c)), some (.ref t0), some (.int (nI k)), none]) rfl ?_
  refine z_iconst (v := nI 0) hF dX1_standsAt_0 (by decide) ?_
  refine z_istore (lv' := [some (.ref q0), some (.int (nI c)), some (.ref t0), some (.int (nI k)), some (.int (nI 0))]) hF dX1_standsAt_1 rfl rfl ?_
  have J_3 : ∀ (n9 : Nat) (i : Nat), z - i < n9 → (i ≤ z) → (∀ j, j < i → ql (c * 60 + j) = f (k + j)) → zJ G X 3 [(q0, .inr (1, [.ref q1, .ref q2, .ref q3, .ref q4])), (q1, eI G 720 ql), (q2, eI G 12 qs), (t0, .inr (3, [.ref t1, .ref t2, .int (nI n)])), (t1, eI G 60 f)] [some (.ref q0), some (.int (nI c)), some (.ref t0), some (.int (nI k)), some (.int (nI i))] [] 0 0 := by
    intro n9
    induction n9 with
    | zero => intro i hmu; exact absurd hmu (Nat.not_lt_zero _)
    | succ n9 ih =>
      intro i hmu h2 hi
      refine z_iload hF dX1_standsAt_3 rfl ?_
      refine z_aload_n hF dX1_standsAt_5 rfl ?_
      refine z_get (C := RX1) (T := TX1) (N := 4) (ci := 1) (v := .ref q2) hF k_0 1 (by decide) rfl k_1 rfl 0 rfl rfl dX1_standsAt_6 ?_
      refine z_iload_n hF dX1_standsAt_9 rfl ?_
      refine z_iald (k := c) hF 2 rfl (rfl) (by omega) rfl dX1_standsAt_10 ?_
      refine z_top (y := nI z) (hz) ?_
      refine z_icn_ge (tgt := 46) hF (by omega) (by omega) dX1_standsAt_11 (by decide) (fun c_1 => ?_) (fun c_1 => ?_)
      · refine z_iconst (v := nI 1) hF dX1_standsAt_46 (by decide) ?_
        exact hR.i dX1_standsAt_47 (Nat.le_of_ble_eq_true rfl) (Nat.le_of_ble_eq_true rfl) (rfl) (zb1 (fun j hj => hi j (by omega)))
      · refine z_aload_n hF dX1_standsAt_14 rfl ?_
        refine z_get (C := RX1) (T := TX1) (N := 4) (ci := 1) (v := .ref q1) hF k_0 0 (by decide) rfl k_2 rfl 0 rfl rfl dX1_standsAt_15 ?_
        refine z_iload_n hF dX1_standsAt_18 rfl ?_
        refine z_bipush (v := nI 60) hF dX1_standsAt_19 (by decide) ?_
        refine z_imul hF dX1_standsAt_21 ?_
        refine z_top (pk_mul c 60) ?_
        refine z_iload hF dX1_standsAt_22 rfl ?_
        refine z_iadd hF dX1_standsAt_24 ?_
        refine z_top (nI_add (c * 60) i) ?_
        refine z_iald (k := c * 60 + i) hF 1 rfl (rfl) (by omega) rfl dX1_standsAt_25 ?_
        refine z_aload_n hF dX1_standsAt_26 rfl ?_
        refine z_getN (C := RX3) (T := TX3) (N := 3) (ci := 3) (v := .ref t1) hF k_3 0 (by decide) rfl k_4 rfl 3 rfl rfl dX1_standsAt_27 ?_
        refine z_iload_n hF dX1_standsAt_30 rfl ?_
        refine z_iload hF dX1_standsAt_31 rfl ?_
        refine z_iadd hF dX1_standsAt_33 ?_
        refine z_top (nI_add k i) ?_
        refine z_iald (k := k + i) hF 4 rfl (rfl) (by omega) rfl dX1_standsAt_34 ?_
        refine z_ic_eq (tgt := 40) hF dX1_standsAt_35 (by decide) (fun hq => ?_) (fun hq => ?_)
        · refine z_iinc (v := nI (i + 1)) (lv' := [some (.ref q0), some (.int (nI c)), some (.ref t0), some (.int (nI k)), some (.int (nI (i + 1)))]) hF dX1_standsAt_40 rfl (nI_1 i) rfl rfl ?_
          refine z_goto (tgt := 3) hF dX1_standsAt_43 (by decide) ?_
          exact ih (i + 1) (by omega) (by omega) (fun j hj => (Nat.lt_or_ge j i).elim (hi j) (fun q => by rw [show j = i by omega]; exact hq))
        · refine z_iconst (v := nI 0) hF dX1_standsAt_38 (by decide) ?_
          exact hR.i dX1_standsAt_39 (Nat.le_of_ble_eq_true rfl) (Nat.le_of_ble_eq_true rfl) (rfl) (zb0 (fun h => hq (h i (by omega))))
  exact J_3 ((z - 0) + 1) 0 (Nat.lt_succ_self _) (by omega) (fun j hj => absurd hj (Nat.not_lt_zero _))
set_option maxHeartbeats 4000000 in
set_option maxRecDepth 100000 in
theorem c_X1_fitAt (G : zG) (q0 q1 q2 q3 q4 : Nat) (t0 t1 t2 n : Nat) (c k z : Nat) (qs qa qb f : Nat → Int32) (hc : c < 12) (hz : qs c = nI z) (hk : k + z ≤ 60) (hn : n ≤ 60) : zM G yX1_fitAt wsX1_fitAt ({ frames := 2, cells := 0, slots := 0, locals := 54 }) [.ref q0, .int (nI c), .ref t0, .int (nI k)] [(q0, .inr (1, [.ref q1, .ref q2, .ref q3, .ref q4])), (q2, eI G 12 qs), (q3, eI G 12 qa), (q4, eI G 12 qb), (t0, .inr (3, [.ref t1, .ref t2, .int (nI n)])), (t1, eI G 60 f)] [(q0, .inr (1, [.ref q1, .ref q2, .ref q3, .ref q4])), (q2, eI G 12 qs), (q3, eI G 12 qa), (q4, eI G 12 qb), (t0, .inr (3, [.ref t1, .ref t2, .int (nI n)])), (t1, eI G 60 f)] (some (.int (zb (letF n f (nI k - nI 1) = qa c) + zb (letF n f (nI (k + z)) = qb c)))) 0 0 := by
  refine zM.ofI (own := RX1) (cc := cX1_fitAt) (maxL := 6) rfl (by decide) rfl rfl (by simp [Value.category]) (Nat.le_of_ble_eq_true rfl) ?_
  intro X hF hR
  have k_0 : zH X (.initialized RX3) := hF.w (by decide +kernel)
  have k_1 : zH X (.instanceMethod yX3_letterBehind) := hF.w (by decide +kernel)
  have k_2 : zH X (.selects RX3 yX3_letterBehind yX3_letterBehind) := hF.w (by decide +kernel)
  have k_3 : ∀ w ∈ wsX10, w ∈ wsX1_fitAt := by decide +kernel
  have k_4 : zH X (.fieldLink RX1 15 "MarginDesk$Quotes" "sizes" "[I") := hF.w (by decide +kernel)
  have k_5 : zH X (.fieldLink RX1 21 "MarginDesk$Quotes" "behinds" "[I") := hF.w (by decide +kernel)
  have k_6 : zH X (.fieldLink RX1 18 "MarginDesk$Quotes" "aheads" "[I") := hF.w (by decide +kernel)
  refine z_lv (lv' := [some (.ref q0), some (.int (nI c)), some (.ref t0), some (.int (nI k)), none, none]) rfl ?_
  refine z_aload_n hF dX1_fitAt_0 rfl ?_
  refine z_iload_n hF dX1_fitAt_1 rfl ?_
  refine z_iconst (v := nI 1) hF dX1_fitAt_2 (by decide) ?_
  refine z_isub hF dX1_fitAt_3 ?_
  refine z_VN (As := [.int ((nI k) - (nI 1))]) (rest := []) (ws' := [(q0, .inr (1, [.ref q1, .ref q2, .ref q3, .ref q4])), (q2, eI G 12 qs), (q3, eI G 12 qa), (q4, eI G 12 qb), (t0, .inr (3, [.ref t1, .ref t2, .int (nI n)])), (t1, eI G 60 f)]) (st2 := [.int (letF n f ((nI k) - (nI 1)))]) (c2 := 0) (s2 := 0) hF (c_X3_letterBehind G t0 t1 t2 n f ((nI k) - (nI 1)) (by first | assumption | omega)) ggX1_fitAt_X3_letterBehind (List.mem_of_getElem? (i := 17) rfl) k_0 k_1 k_2 rfl rfl rfl hs_X3_letterBehind ⟨⟨Nat.le_of_ble_eq_true rfl, Nat.le_of_ble_eq_true rfl⟩, ⟨Nat.le_of_ble_eq_true rfl, Nat.le_of_ble_eq_true rfl⟩, Nat.le_of_ble_eq_true rfl⟩ [4, 5] rfl rfl 0 rfl rfl rfl rfl rfl rfl rfl rfl rfl rfl dX1_fitAt_4 ?_
  refine z_istore (lv' := [some (.ref q0), some (.int (nI c)), some (.ref t0), some (.int (nI k)), some (.int (letF n f ((nI k) - (nI 1)))), none]) hF dX1_fitAt_7 rfl rfl ?_
  refine z_aload_n hF dX1_fitAt_9 rfl ?_
  refine z_iload_n hF dX1_fitAt_10 rfl ?_
  refine z_aload_n hF dX1_fitAt_11 rfl ?_
  refine z_get (C := RX1) (T := TX1) (N := 4) (ci := 1) (v := .ref q2) hF k_3 1 (by decide) rfl k_4 rfl 0 rfl rfl dX1_fitAt_12 ?_
  refine z_iload_n hF dX1_fitAt_15 rfl ?_
  refine z_iald (k := c) hF 1 rfl (rfl) (by omega) rfl dX1_fitAt_16 ?_
  refine z_top (y := nI z) (hz) ?_
  refine z_iadd hF dX1_fitAt_17 ?_
  refine z_top (nI_add k z) ?_
  refine z_VN (As := [.int (nI (k + z))]) (rest := []) (ws' := [(q0, .inr (1, [.ref q1, .ref q2, .ref q3, .ref q4])), (q2, eI G 12 qs), (q3, eI G 12 qa), (q4, eI G 12 qb), (t0, .inr (3, [.ref t1, .ref t2, .int (nI n)])), (t1, eI G 60 f)]) (st2 := [.int (letF n f (nI (k + z)))]) (c2 := 0) (s2 := 0) hF (c_X3_letterBehind G t0 t1 t2 n f (nI (k + z)) (by first | assumption | omega)) ggX1_fitAt_X3_letterBehind (List.mem_of_getElem? (i := 17) rfl) k_0 k_1 k_2 rfl rfl rfl hs_X3_letterBehind ⟨⟨Nat.le_of_ble_eq_true rfl, Nat.le_of_ble_eq_true rfl⟩, ⟨Nat.le_of_ble_eq_true rfl, Nat.le_of_ble_eq_true rfl⟩, Nat.le_of_ble_eq_true rfl⟩ [4, 5] rfl rfl 0 rfl rfl rfl rfl rfl rfl rfl rfl rfl rfl dX1_fitAt_18 ?_
  refine z_istore (lv' := [some (.ref q0), some (.int (nI c)), some (.ref t0), some (.int (nI k)), some (.int (letF n f ((nI k) - (nI 1)))), some (.int (letF n f (nI (k + z))))]) hF dX1_fitAt_21 rfl rfl ?_
  have J_39 : zJ G X 39 [(q0, .inr (1, [.ref q1, .ref q2, .ref q3, .ref q4])), (q2, eI G 12 qs), (q3, eI G 12 qa), (q4, eI G 12 qb), (t0, .inr (3, [.ref t1, .ref t2, .int (nI n)])), (t1, eI G 60 f)] [some (.ref q0), some (.int (nI c)), some (.ref t0), some (.int (nI k)), some (.int (letF n f ((nI k) - (nI 1)))), some (.int (letF n f (nI (k + z))))] [.int (zb (letF n f (nI k - nI 1) = qa c))] 0 0 := by
    have J_55 : zJ G X 55 [(q0, .inr (1, [.ref q1, .ref q2, .ref q3, .ref q4])), (q2, eI G 12 qs), (q3, eI G 12 qa), (q4, eI G 12 qb), (t0, .inr (3, [.ref t1, .ref t2, .int (nI n)])), (t1, eI G 60 f)] [some (.ref q0), some (.int (nI c)), some (.ref t0), some (.int (nI k)), some (.int (letF n f ((nI k) - (nI 1)))), some (.int (letF n f (nI (k + z))))] [.int (zb (letF n f (nI (k + z)) = qb c)), .int (zb (letF n f (nI k - nI 1) = qa c))] 0 0 := by
      refine z_iadd hF dX1_fitAt_55 ?_
      exact hR.i dX1_fitAt_56 (Nat.le_of_ble_eq_true rfl) (Nat.le_of_ble_eq_true rfl) (rfl) (rfl)
    refine z_iload hF dX1_fitAt_39 rfl ?_
    refine z_aload_n hF dX1_fitAt_41 rfl ?_
    refine z_get (C := RX1) (T := TX1) (N := 4) (ci := 1) (v := .ref q4) hF k_3 3 (by decide) rfl k_5 rfl 0 rfl rfl dX1_fitAt_42 ?_
    refine z_iload_n hF dX1_fitAt_45 rfl ?_
    refine z_iald (k := c) hF 3 rfl (rfl) (by omega) rfl dX1_fitAt_46 ?_
    refine z_ic_ne (tgt := 54) hF dX1_fitAt_47 (by decide) (fun c_1 => ?_) (fun c_1 => ?_)
    · refine z_iconst (v := nI 0) hF dX1_fitAt_54 (by decide) ?_
      refine z_top (y := zb (letF n f (nI (k + z)) = qb c)) (zb0 (by first | assumption | grind)) ?_
      exact J_55  
    · refine z_iconst (v := nI 1) hF dX1_fitAt_50 (by decide) ?_
      refine z_goto (tgt := 55) hF dX1_fitAt_51 (by decide) ?_
      refine z_top (y := zb (letF n f (nI (k + z)) = qb c)) (zb1 (by first | assumption | grind)) ?_
      exact J_55  
  refine z_iload hF dX1_fitAt_23 rfl ?_
  refine z_aload_n hF dX1_fitAt_25 rfl ?_
  refine z_get (C := RX1) (T := TX1) (N := 4) (ci := 1) (v := .ref q3) hF k_3 2 (by decide) rfl k_6 rfl 0 rfl rfl dX1_fitAt_26 ?_
  refine z_iload_n hF dX1_fitAt_29 rfl ?_
  refine z_iald (k := c) hF 2 rfl (rfl) (by omega) rfl dX1_fitAt_30 ?_
  refine z_ic_ne (tgt := 38) hF dX1_fitAt_31 (by decide) (fun c_2 => ?_) (fun c_2 => ?_)
  · refine z_iconst (v := nI 0) hF dX1_fitAt_38 (by decide) ?_
    refine z_top (y := zb (letF n f (nI k - nI 1) = qa c)) (zb0 (by first | assumption | grind)) ?_
    exact J_39  
  · refine z_iconst (v := nI 1) hF dX1_fitAt_34 (by decide) ?_
    refine z_goto (tgt := 39) hF dX1_fitAt_35 (by decide) ?_
    refine z_top (y := zb (letF n f (nI k - nI 1) = qa c)) (zb1 (by first | assumption | grind)) ?_
    exact J_39  
set_option maxHeartbeats 4000000 in
set_option maxRecDepth 100000 in
theorem c_X1_bestPlace (G : zG) (q0 q1 q2 q3 q4 : Nat) (t0 t1 t2 n : Nat) (c z : Nat) (ql qs qa qb f : Nat → Int32) (hc : c < 12) (hz : qs c = nI z) (hz2 : z ≤ 60) (hn : n ≤ 60) : zM G yX1_bestPlace wsX1_bestPlace ({ frames := 3, cells := 0, slots := 0, locals := 79 }) [.ref q0, .int (nI c), .ref t0] [(q0, .inr (1, [.ref q1, .ref q2, .ref q3, .ref q4])), (q1, eI G 720 ql), (q2, eI G 12 qs), (q3, eI G 12 qa), (q4, eI G 12 qb), (t0, .inr (3, [.ref t1, .ref t2, .int (nI n)])), (t1, eI G 60 f)] [(q0, .inr (1, [.ref q1, .ref q2, .ref q3, .ref q4])), (q1, eI G 720 ql), (q2, eI G 12 qs), (q3, eI G 12 qa), (q4, eI G 12 qb), (t0, .inr (3, [.ref t1, .ref t2, .int (nI n)])), (t1, eI G 60 f)] (some (.int (bfF n z c ql qa qb f))) 0 0 := by
  refine zM.ofI (own := RX1) (cc := cX1_bestPlace) (maxL := 7) rfl (by decide) rfl rfl (by simp [Value.category]) (Nat.le_of_ble_eq_true rfl) ?_
  intro X hF hR
  have k_0 : ∀ w ∈ wsX30, w ∈ wsX1_bestPlace := by decide +kernel
  have k_1 : zH X (.fieldLinkNest RX1 37 "MarginDesk$Text" "size" "I" RX4) := hF.nf (List.mem_of_getElem? (i := 6) rfl)
  have k_2 : ∀ w ∈ wsX10, w ∈ wsX1_bestPlace := by decide +kernel
  have k_3 : zH X (.fieldLink RX1 15 "MarginDesk$Quotes" "sizes" "[I") := hF.w (by decide +kernel)
  refine z_lv (lv' := [some (.ref q0), some (.int (nI c)), some (.ref t0), none, none, none, none]) rfl ?_
  refine z_iconst (v := -1) hF dX1_bestPlace_0 (by decide) ?_
  refine z_istore_n (lv' := [some (.ref q0), some (.int (nI c)), some (.ref t0), some (.int (-1)), none, none, none]) hF dX1_bestPlace_1 rfl rfl ?_
  refine z_iconst (v := nI 0) hF dX1_bestPlace_2 (by decide) ?_
  refine z_istore (lv' := [some (.ref q0), some (.int (nI c)), some (.ref t0), some (.int (-1)), some (.int (nI 0)), none, none]) hF dX1_bestPlace_3 rfl rfl ?_
  refine z_iconst (v := nI 0) hF dX1_bestPlace_5 (by decide) ?_
  refine z_istore (lv' := [some (.ref q0), some (.int (nI c)), some (.ref t0), some (.int (-1)), some (.int (nI 0)), some (.int (nI 0)), none]) hF dX1_bestPlace_6 rfl rfl ?_
  refine z_lv (lv' := [some (.ref q0), some (.int (nI c)), some (.ref t0), some (.int ((bst (fun kk => ∀ jj, jj < z → ql (c * 60 + jj) = f (kk + jj)) (fun kk => zb (letF n f (nI kk - nI 1) = qa c) + zb (letF n f (nI (kk + z)) = qb c)) 0).1)), some (.int (nI 0)), some (.int (nI 0)), none]) (by rfl) ?_
  refine z_lv (lv' := [some (.ref q0), some (.int (nI c)), some (.ref t0), some (.int ((bst (fun kk => ∀ jj, jj < z → ql (c * 60 + jj) = f (kk + jj)) (fun kk => zb (letF n f (nI kk - nI 1) = qa c) + zb (letF n f (nI (kk + z)) = qb c)) 0).1)), some (.int ((bst (fun kk => ∀ jj, jj < z → ql (c * 60 + jj) = f (kk + jj)) (fun kk => zb (letF n f (nI kk - nI 1) = qa c) + zb (letF n f (nI (kk + z)) = qb c)) 0).2)), some (.int (nI 0)), none]) (by rfl) ?_
  have J_8 : ∀ (n9 : Nat) (i : Nat), n + 1 - z - i < n9 → (i ≤ n + 1 - z) → zJ G X 8 [(q0, .inr (1, [.ref q1, .ref q2, .ref q3, .ref q4])), (q1, eI G 720 ql), (q2, eI G 12 qs), (q3, eI G 12 qa), (q4, eI G 12 qb), (t0, .inr (3, [.ref t1, .ref t2, .int (nI n)])), (t1, eI G 60 f)] [some (.ref q0), some (.int (nI c)), some (.ref t0), some (.int ((bst (fun kk => ∀ jj, jj < z → ql (c * 60 + jj) = f (kk + jj)) (fun kk => zb (letF n f (nI kk - nI 1) = qa c) + zb (letF n f (nI (kk + z)) = qb c)) i).1)), some (.int ((bst (fun kk => ∀ jj, jj < z → ql (c * 60 + jj) = f (kk + jj)) (fun kk => zb (letF n f (nI kk - nI 1) = qa c) + zb (letF n f (nI (kk + z)) = qb c)) i).2)), some (.int (nI i)), none] [] 0 0 := by
    intro n9
    induction n9 with
    | zero => intro i hmu; exact absurd hmu (Nat.not_lt_zero _)
    | succ n9 ih =>
      intro i hmu h2
      refine z_iload hF dX1_bestPlace_8 rfl ?_
      refine z_aload_n hF dX1_bestPlace_10 rfl ?_
      refine z_getN (C := RX3) (T := TX3) (N := 3) (ci := 3) (v := .int (nI n)) hF k_0 2 (by decide) rfl k_1 rfl 5 rfl rfl dX1_bestPlace_11 ?_
      refine z_aload_n hF dX1_bestPlace_14 rfl ?_
      refine z_get (C := RX1) (T := TX1) (N := 4) (ci := 1) (v := .ref q2) hF k_2 1 (by decide) rfl k_3 rfl 0 rfl rfl dX1_bestPlace_15 ?_
      refine z_iload_n hF dX1_bestPlace_18 rfl ?_
      refine z_iald (k := c) hF 2 rfl (rfl) (by omega) rfl dX1_bestPlace_19 ?_
      refine z_top (y := nI z) (hz) ?_
      refine z_isub hF dX1_bestPlace_20 ?_
      refine z_ic_gt (tgt := 70) hF dX1_bestPlace_21 (by decide) (fun hb => ?_) (fun hb => ?_)
      · have hi9 : i = n + 1 - z := by
              have := zsubgt2 (by omega) (by omega) (by omega) hb
              omega
        refine z_iload_n hF dX1_bestPlace_70 rfl ?_
        exact hR.i dX1_bestPlace_71 (Nat.le_of_ble_eq_true rfl) (Nat.le_of_ble_eq_true rfl) (rfl) (by rw [hi9]; rfl)
      · have hb : i + z ≤ n := Nat.le_of_not_lt fun q => hb (zsubgt (by omega) (by omega) (by omega) q)
        refine z_aload_n hF dX1_bestPlace_24 rfl ?_
        refine z_iload_n hF dX1_bestPlace_25 rfl ?_
        refine z_aload_n hF dX1_bestPlace_26 rfl ?_
        refine z_iload hF dX1_bestPlace_27 rfl ?_
        refine z_V (As := [.int (nI c), .ref t0, .int (nI i)]) (rest := []) (ws' := [(q0, .inr (1, [.ref q1, .ref q2, .ref q3, .ref q4])), (q1, eI G 720 ql), (q2, eI G 12 qs), (q3, eI G 12 qa), (q4, eI G 12 qb), (t0, .inr (3, [.ref t1, .ref t2, .int (nI n)])), (t1, eI G 60 f)]) (st2 := [.int (zb (∀ jj, jj < z → ql (c * 60 + jj) = f (i + jj)))]) (c2 := 0) (s2 := 0) hF (c_X1_standsAt G q0 q1 q2 q3 q4 t0 t1 t2 n c i z ql qs f (by first | assumption | omega) (by first | assumption | omega) (by first | assumption | omega)) gX1_bestPlace_X1_standsAt rfl rfl rfl hd_X1_standsAt ⟨⟨Nat.le_of_ble_eq_true rfl, Nat.le_of_ble_eq_true rfl⟩, ⟨Nat.le_of_ble_eq_true rfl, Nat.le_of_ble_eq_true rfl⟩, Nat.le_of_ble_eq_true rfl⟩ [0, 1, 2, 5, 6] rfl rfl 0 rfl rfl rfl rfl rfl rfl rfl rfl rfl rfl dX1_bestPlace_29 ?_
        refine z_if_eq_b (tgt := 64) hF dX1_bestPlace_32 (by decide) (fun hs => ?_) (fun hs => ?_)
        · refine z_iinc (v := nI (i + 1)) (lv' := [some (.ref q0), some (.int (nI c)), some (.ref t0), some (.int ((bst (fun kk => ∀ jj, jj < z → ql (c * 60 + jj) = f (kk + jj)) (fun kk => zb (letF n f (nI kk - nI 1) = qa c) + zb (letF n f (nI (kk + z)) = qb c)) i).1)), some (.int ((bst (fun kk => ∀ jj, jj < z → ql (c * 60 + jj) = f (kk + jj)) (fun kk => zb (letF n f (nI kk - nI 1) = qa c) + zb (letF n f (nI (kk + z)) = qb c)) i).2)), some (.int (nI (i + 1))), none]) hF dX1_bestPlace_64 rfl (nI_1 i) rfl rfl ?_
          refine z_goto (tgt := 8) hF dX1_bestPlace_67 (by decide) ?_
          refine z_lv (lv' := [some (.ref q0), some (.int (nI c)), some (.ref t0), some (.int ((bst (fun kk => ∀ jj, jj < z → ql (c * 60 + jj) = f (kk + jj)) (fun kk => zb (letF n f (nI kk - nI 1) = qa c) + zb (letF n f (nI (kk + z)) = qb c)) (i + 1)).1)), some (.int ((bst (fun kk => ∀ jj, jj < z → ql (c * 60 + jj) = f (kk + jj)) (fun kk => zb (letF n f (nI kk - nI 1) = qa c) + zb (letF n f (nI (kk + z)) = qb c)) i).2)), some (.int (nI (i + 1))), none]) (by rw [bst_f (k := i) (by grind)]) ?_
          refine z_lv (lv' := [some (.ref q0), some (.int (nI c)), some (.ref t0), some (.int ((bst (fun kk => ∀ jj, jj < z → ql (c * 60 + jj) = f (kk + jj)) (fun kk => zb (letF n f (nI kk - nI 1) = qa c) + zb (letF n f (nI (kk + z)) = qb c)) (i + 1)).1)), some (.int ((bst (fun kk => ∀ jj, jj < z → ql (c * 60 + jj) = f (kk + jj)) (fun kk => zb (letF n f (nI kk - nI 1) = qa c) + zb (letF n f (nI (kk + z)) = qb c)) (i + 1)).2)), some (.int (nI (i + 1))), none]) (by rw [bst_f (k := i) (by grind)]) ?_
          exact ih (i + 1) (by omega) (by omega)
        · refine z_aload_n hF dX1_bestPlace_35 rfl ?_
          refine z_iload_n hF dX1_bestPlace_36 rfl ?_
          refine z_aload_n hF dX1_bestPlace_37 rfl ?_
          refine z_iload hF dX1_bestPlace_38 rfl ?_
          refine z_V (As := [.int (nI c), .ref t0, .int (nI i)]) (rest := []) (ws' := [(q0, .inr (1, [.ref q1, .ref q2, .ref q3, .ref q4])), (q1, eI G 720 ql), (q2, eI G 12 qs), (q3, eI G 12 qa), (q4, eI G 12 qb), (t0, .inr (3, [.ref t1, .ref t2, .int (nI n)])), (t1, eI G 60 f)]) (st2 := [.int (zb (letF n f (nI i - nI 1) = qa c) + zb (letF n f (nI (i + z)) = qb c))]) (c2 := 0) (s2 := 0) hF (c_X1_fitAt G q0 q1 q2 q3 q4 t0 t1 t2 n c i z qs qa qb f (by first | assumption | omega) (by first | assumption | omega) (by first | assumption | omega) (by first | assumption | omega)) gX1_bestPlace_X1_fitAt rfl rfl rfl hd_X1_fitAt ⟨⟨Nat.le_of_ble_eq_true rfl, Nat.le_of_ble_eq_true rfl⟩, ⟨Nat.le_of_ble_eq_true rfl, Nat.le_of_ble_eq_true rfl⟩, Nat.le_of_ble_eq_true rfl⟩ [0, 2, 3, 4, 5, 6] rfl rfl 0 rfl rfl rfl rfl rfl rfl rfl rfl rfl rfl dX1_bestPlace_40 ?_
          refine z_istore (lv' := [some (.ref q0), some (.int (nI c)), some (.ref t0), some (.int ((bst (fun kk => ∀ jj, jj < z → ql (c * 60 + jj) = f (kk + jj)) (fun kk => zb (letF n f (nI kk - nI 1) = qa c) + zb (letF n f (nI (kk + z)) = qb c)) i).1)), some (.int ((bst (fun kk => ∀ jj, jj < z → ql (c * 60 + jj) = f (kk + jj)) (fun kk => zb (letF n f (nI kk - nI 1) = qa c) + zb (letF n f (nI (kk + z)) = qb c)) i).2)), some (.int (nI i)), some (.int (zb (letF n f (nI i - nI 1) = qa c) + zb (letF n f (nI (i + z)) = qb c)))]) hF dX1_bestPlace_43 rfl rfl ?_
          refine z_iload_n hF dX1_bestPlace_45 rfl ?_
          refine z_iconst (v := -1) hF dX1_bestPlace_46 (by decide) ?_
          refine z_ic_eq (tgt := 57) hF dX1_bestPlace_47 (by decide) (fun c_1 => ?_) (fun c_1 => ?_)
          · refine z_iload hF dX1_bestPlace_57 rfl ?_
            refine z_istore_n (lv' := [some (.ref q0), some (.int (nI c)), some (.ref t0), some (.int (nI i)), some (.int ((bst (fun kk => ∀ jj, jj < z → ql (c * 60 + jj) = f (kk + jj)) (fun kk => zb (letF n f (nI kk - nI 1) = qa c) + zb (letF n f (nI (kk + z)) = qb c)) i).2)), some (.int (nI i)), some (.int (zb (letF n f (nI i - nI 1) = qa c) + zb (letF n f (nI (i + z)) = qb c)))]) hF dX1_bestPlace_59 rfl rfl ?_
            refine z_iload hF dX1_bestPlace_60 rfl ?_
            refine z_istore (lv' := [some (.ref q0), some (.int (nI c)), some (.ref t0), some (.int (nI i)), some (.int (zb (letF n f (nI i - nI 1) = qa c) + zb (letF n f (nI (i + z)) = qb c))), some (.int (nI i)), some (.int (zb (letF n f (nI i - nI 1) = qa c) + zb (letF n f (nI (i + z)) = qb c)))]) hF dX1_bestPlace_62 rfl rfl ?_
            refine z_iinc (v := nI (i + 1)) (lv' := [some (.ref q0), some (.int (nI c)), some (.ref t0), some (.int (nI i)), some (.int (zb (letF n f (nI i - nI 1) = qa c) + zb (letF n f (nI (i + z)) = qb c))), some (.int (nI (i + 1))), some (.int (zb (letF n f (nI i - nI 1) = qa c) + zb (letF n f (nI (i + z)) = qb c)))]) hF dX1_bestPlace_64 rfl (nI_1 i) rfl rfl ?_
            refine z_goto (tgt := 8) hF dX1_bestPlace_67 (by decide) ?_
            refine z_lv (lv' := [some (.ref q0), some (.int (nI c)), some (.ref t0), some (.int ((bst (fun kk => ∀ jj, jj < z → ql (c * 60 + jj) = f (kk + jj)) (fun kk => zb (letF n f (nI kk - nI 1) = qa c) + zb (letF n f (nI (kk + z)) = qb c)) (i + 1)).1)), some (.int (zb (letF n f (nI i - nI 1) = qa c) + zb (letF n f (nI (i + z)) = qb c))), some (.int (nI (i + 1))), some (.int (zb (letF n f (nI i - nI 1) = qa c) + zb (letF n f (nI (i + z)) = qb c)))]) (by rw [bst_t (k := i) hs (by grind)]) ?_
            refine z_lv (lv' := [some (.ref q0), some (.int (nI c)), some (.ref t0), some (.int ((bst (fun kk => ∀ jj, jj < z → ql (c * 60 + jj) = f (kk + jj)) (fun kk => zb (letF n f (nI kk - nI 1) = qa c) + zb (letF n f (nI (kk + z)) = qb c)) (i + 1)).1)), some (.int ((bst (fun kk => ∀ jj, jj < z → ql (c * 60 + jj) = f (kk + jj)) (fun kk => zb (letF n f (nI kk - nI 1) = qa c) + zb (letF n f (nI (kk + z)) = qb c)) (i + 1)).2)), some (.int (nI (i + 1))), some (.int (zb (letF n f (nI i - nI 1) = qa c) + zb (letF n f (nI (i + z)) = qb c)))]) (by rw [bst_t (k := i) hs (by grind)]) ?_
            refine z_forget (lv' := [some (.ref q0), some (.int (nI c)), some (.ref t0), some (.int ((bst (fun kk => ∀ jj, jj < z → ql (c * 60 + jj) = f (kk + jj)) (fun kk => zb (letF n f (nI kk - nI 1) = qa c) + zb (letF n f (nI (kk + z)) = qb c)) (i + 1)).1)), some (.int ((bst (fun kk => ∀ jj, jj < z → ql (c * 60 + jj) = f (kk + jj)) (fun kk => zb (letF n f (nI kk - nI 1) = qa c) + zb (letF n f (nI (kk + z)) = qb c)) (i + 1)).2)), some (.int (nI (i + 1))), none]) ⟨rfl, ⟨rfl, ⟨rfl, ⟨rfl, ⟨rfl, ⟨rfl, trivial⟩⟩⟩⟩⟩⟩ ?_
            exact ih (i + 1) (by omega) (by omega)
          · refine z_iload hF dX1_bestPlace_50 rfl ?_
            refine z_iload hF dX1_bestPlace_52 rfl ?_
            refine z_ic_le (tgt := 64) hF dX1_bestPlace_54 (by decide) (fun c_2 => ?_) (fun c_2 => ?_)
            · refine z_iinc (v := nI (i + 1)) (lv' := [some (.ref q0), some (.int (nI c)), some (.ref t0), some (.int ((bst (fun kk => ∀ jj, jj < z → ql (c * 60 + jj) = f (kk + jj)) (fun kk => zb (letF n f (nI kk - nI 1) = qa c) + zb (letF n f (nI (kk + z)) = qb c)) i).1)), some (.int ((bst (fun kk => ∀ jj, jj < z → ql (c * 60 + jj) = f (kk + jj)) (fun kk => zb (letF n f (nI kk - nI 1) = qa c) + zb (letF n f (nI (kk + z)) = qb c)) i).2)), some (.int (nI (i + 1))), some (.int (zb (letF n f (nI i - nI 1) = qa c) + zb (letF n f (nI (i + z)) = qb c)))]) hF dX1_bestPlace_64 rfl (nI_1 i) rfl rfl ?_
              refine z_goto (tgt := 8) hF dX1_bestPlace_67 (by decide) ?_
              refine z_lv (lv' := [some (.ref q0), some (.int (nI c)), some (.ref t0), some (.int ((bst (fun kk => ∀ jj, jj < z → ql (c * 60 + jj) = f (kk + jj)) (fun kk => zb (letF n f (nI kk - nI 1) = qa c) + zb (letF n f (nI (kk + z)) = qb c)) (i + 1)).1)), some (.int ((bst (fun kk => ∀ jj, jj < z → ql (c * 60 + jj) = f (kk + jj)) (fun kk => zb (letF n f (nI kk - nI 1) = qa c) + zb (letF n f (nI (kk + z)) = qb c)) i).2)), some (.int (nI (i + 1))), some (.int (zb (letF n f (nI i - nI 1) = qa c) + zb (letF n f (nI (i + z)) = qb c)))]) (by rw [bst_f (k := i) (by grind)]) ?_
              refine z_lv (lv' := [some (.ref q0), some (.int (nI c)), some (.ref t0), some (.int ((bst (fun kk => ∀ jj, jj < z → ql (c * 60 + jj) = f (kk + jj)) (fun kk => zb (letF n f (nI kk - nI 1) = qa c) + zb (letF n f (nI (kk + z)) = qb c)) (i + 1)).1)), some (.int ((bst (fun kk => ∀ jj, jj < z → ql (c * 60 + jj) = f (kk + jj)) (fun kk => zb (letF n f (nI kk - nI 1) = qa c) + zb (letF n f (nI (kk + z)) = qb c)) (i + 1)).2)), some (.int (nI (i + 1))), some (.int (zb (letF n f (nI i - nI 1) = qa c) + zb (letF n f (nI (i + z)) = qb c)))]) (by rw [bst_f (k := i) (by grind)]) ?_
              refine z_forget (lv' := [some (.ref q0), some (.int (nI c)), some (.ref t0), some (.int ((bst (fun kk => ∀ jj, jj < z → ql (c * 60 + jj) = f (kk + jj)) (fun kk => zb (letF n f (nI kk - nI 1) = qa c) + zb (letF n f (nI (kk + z)) = qb c)) (i + 1)).1)), some (.int ((bst (fun kk => ∀ jj, jj < z → ql (c * 60 + jj) = f (kk + jj)) (fun kk => zb (letF n f (nI kk - nI 1) = qa c) + zb (letF n f (nI (kk + z)) = qb c)) (i + 1)).2)), some (.int (nI (i + 1))), none]) ⟨rfl, ⟨rfl, ⟨rfl, ⟨rfl, ⟨rfl, ⟨rfl, trivial⟩⟩⟩⟩⟩⟩ ?_
              exact ih (i + 1) (by omega) (by omega)
            · refine z_iload hF dX1_bestPlace_57 rfl ?_
              refine z_istore_n (lv' := [some (.ref q0), some (.int (nI c)), some (.ref t0), some (.int (nI i)), some (.int ((bst (fun kk => ∀ jj, jj < z → ql (c * 60 + jj) = f (kk + jj)) (fun kk => zb (letF n f (nI kk - nI 1) = qa c) + zb (letF n f (nI (kk + z)) = qb c)) i).2)), some (.int (nI i)), some (.int (zb (letF n f (nI i - nI 1) = qa c) + zb (letF n f (nI (i + z)) = qb c)))]) hF dX1_bestPlace_59 rfl rfl ?_
              refine z_iload hF dX1_bestPlace_60 rfl ?_
              refine z_istore (lv' := [some (.ref q0), some (.int (nI c)), some (.ref t0), some (.int (nI i)), some (.int (zb (letF n f (nI i - nI 1) = qa c) + zb (letF n f (nI (i + z)) = qb c))), some (.int (nI i)), some (.int (zb (letF n f (nI i - nI 1) = qa c) + zb (letF n f (nI (i + z)) = qb c)))]) hF dX1_bestPlace_62 rfl rfl ?_
              refine z_iinc (v := nI (i + 1)) (lv' := [some (.ref q0), some (.int (nI c)), some (.ref t0), some (.int (nI i)), some (.int (zb (letF n f (nI i - nI 1) = qa c) + zb (letF n f (nI (i + z)) = qb c))), some (.int (nI (i + 1))), some (.int (zb (letF n f (nI i - nI 1) = qa c) + zb (letF n f (nI (i + z)) = qb c)))]) hF dX1_bestPlace_64 rfl (nI_1 i) rfl rfl ?_
              refine z_goto (tgt := 8) hF dX1_bestPlace_67 (by decide) ?_
              refine z_lv (lv' := [some (.ref q0), some (.int (nI c)), some (.ref t0), some (.int ((bst (fun kk => ∀ jj, jj < z → ql (c * 60 + jj) = f (kk + jj)) (fun kk => zb (letF n f (nI kk - nI 1) = qa c) + zb (letF n f (nI (kk + z)) = qb c)) (i + 1)).1)), some (.int (zb (letF n f (nI i - nI 1) = qa c) + zb (letF n f (nI (i + z)) = qb c))), some (.int (nI (i + 1))), some (.int (zb (letF n f (nI i - nI 1) = qa c) + zb (letF n f (nI (i + z)) = qb c)))]) (by rw [bst_t (k := i) hs (by grind)]) ?_
              refine z_lv (lv' := [some (.ref q0), some (.int (nI c)), some (.ref t0), some (.int ((bst (fun kk => ∀ jj, jj < z → ql (c * 60 + jj) = f (kk + jj)) (fun kk => zb (letF n f (nI kk - nI 1) = qa c) + zb (letF n f (nI (kk + z)) = qb c)) (i + 1)).1)), some (.int ((bst (fun kk => ∀ jj, jj < z → ql (c * 60 + jj) = f (kk + jj)) (fun kk => zb (letF n f (nI kk - nI 1) = qa c) + zb (letF n f (nI (kk + z)) = qb c)) (i + 1)).2)), some (.int (nI (i + 1))), some (.int (zb (letF n f (nI i - nI 1) = qa c) + zb (letF n f (nI (i + z)) = qb c)))]) (by rw [bst_t (k := i) hs (by grind)]) ?_
              refine z_forget (lv' := [some (.ref q0), some (.int (nI c)), some (.ref t0), some (.int ((bst (fun kk => ∀ jj, jj < z → ql (c * 60 + jj) = f (kk + jj)) (fun kk => zb (letF n f (nI kk - nI 1) = qa c) + zb (letF n f (nI (kk + z)) = qb c)) (i + 1)).1)), some (.int ((bst (fun kk => ∀ jj, jj < z → ql (c * 60 + jj) = f (kk + jj)) (fun kk => zb (letF n f (nI kk - nI 1) = qa c) + zb (letF n f (nI (kk + z)) = qb c)) (i + 1)).2)), some (.int (nI (i + 1))), none]) ⟨rfl, ⟨rfl, ⟨rfl, ⟨rfl, ⟨rfl, ⟨rfl, trivial⟩⟩⟩⟩⟩⟩ ?_
              exact ih (i + 1) (by omega) (by omega)
  exact J_8 ((n + 1 - z - 0) + 1) 0 (Nat.lt_succ_self _) (by omega)
