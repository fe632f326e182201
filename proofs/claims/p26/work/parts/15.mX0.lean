set_option maxHeartbeats 4000000 in
set_option maxRecDepth 100000 in
theorem c_X0_rangeAt (G : zG) (y0 y1 : Nat) (v c : Nat) (h : Nat → Int32) (hv : v < 300) (hc : c < 12) : zM G yX0_rangeAt wsX0_rangeAt ({ frames := 0, cells := 0, slots := 0, locals := 12 }) [.ref y0, .int (nI v), .int (nI c)] [(y0, .inr (0, [.ref y1])), (y1, eI G 3600 h)] [(y0, .inr (0, [.ref y1])), (y1, eI G 3600 h)] (some (.int (h (v * 12 + c)))) 0 0 := by
  refine zM.ofI (own := RX0) (cc := cX0_rangeAt) (maxL := 3) rfl (by decide) rfl rfl (by simp [Value.category]) (Nat.le_of_ble_eq_true rfl) ?_
  intro X hF hR
  have k_0 : ∀ w ∈ wsX00, w ∈ wsX0_rangeAt := by decide +kernel
  have k_1 : zH X (.fieldLink RX0 9 "MarginDesk$History" "ranges" "[I") := hF.w (by decide +kernel)
  refine z_lv (lv' := [some (.ref y0), some (.int (nI v)), some (.int (nI c))]) rfl ?_
  refine z_aload_n hF dX0_rangeAt_0 rfl ?_
  refine z_get (C := RX0) (T := TX0) (N := 1) (ci := 0) (v := .ref y1) hF k_0 0 (by decide) rfl k_1 rfl 0 rfl rfl dX0_rangeAt_1 ?_
  refine z_iload_n hF dX0_rangeAt_4 rfl ?_
  refine z_bipush (v := nI 12) hF dX0_rangeAt_5 (by decide) ?_
  refine z_imul hF dX0_rangeAt_7 ?_
  refine z_top (pk_mul v 12) ?_
  refine z_iload_n hF dX0_rangeAt_8 rfl ?_
  refine z_iadd hF dX0_rangeAt_9 ?_
  refine z_top (nI_add (v * 12) c) ?_
  refine z_iald (k := v * 12 + c) hF 1 rfl (rfl) (by omega) rfl dX0_rangeAt_10 ?_
  exact hR.i dX0_rangeAt_11 (Nat.le_of_ble_eq_true rfl) (Nat.le_of_ble_eq_true rfl) (rfl) (rfl)
set_option maxHeartbeats 4000000 in
set_option maxRecDepth 100000 in
theorem c_X0_write (G : zG) (y0 y1 : Nat) (r0 r1 r2 r3 m : Nat) (v : Nat) (h b e : Nat → Int32) (hv : v < 300) (hm : m ≤ 12) : zM G yX0_write wsX0_write ({ frames := 2, cells := 0, slots := 0, locals := 54 }) [.ref y0, .int (nI v), .ref r0] [(y0, .inr (0, [.ref y1])), (y1, eI G 3600 h), (r0, .inr (2, [.ref r1, .ref r2, .ref r3, .int (nI m)])), (r1, eI G 12 b), (r2, eI G 12 e)] [(y0, .inr (0, [.ref y1])), (y1, eI G 3600 (wrF h (v * 12) 12 (fun kk => if kk < m then numF (b kk) (e kk) else -1))), (r0, .inr (2, [.ref r1, .ref r2, .ref r3, .int (nI m)])), (r1, eI G 12 b), (r2, eI G 12 e)] none 0 0 := by
  refine zM.ofV (own := RX0) (cc := cX0_write) (maxL := 5) rfl (by decide) rfl (by simp [Value.category]) (Nat.le_of_ble_eq_true rfl) ?_
  intro X hF hR
  have k_0 : ∀ w ∈ wsX00, w ∈ wsX0_write := by decide +kernel
  have k_1 : zH X (.fieldLink RX0 9 "MarginDesk$History" "ranges" "[I") := hF.w (by decide +kernel)
  have k_2 : zH X (.initialized RX2) := hF.w (by decide +kernel)
  have k_3 : zH X (.instanceMethod yX2_asNumber) := hF.w (by decide +kernel)
  have k_4 : zH X (.selects RX2 yX2_asNumber yX2_asNumber) := hF.w (by decide +kernel)
  have k_5 : ∀ w ∈ wsX20, w ∈ wsX0_write := by decide +kernel
  have k_6 : zH X (.fieldLinkNest RX0 15 "MarginDesk$Ranges" "count" "I" RX4) := hF.nf (List.mem_of_getElem? (i := 4) rfl)
  refine z_lv (lv' := [some (.ref y0), some (.int (nI v)), some (.ref r0), none, none]) rfl ?_
  refine z_iconst (v := nI 0) hF dX0_write_0 (by decide) ?_
  refine z_istore_n (lv' := [some (.ref y0), some (.int (nI v)), some (.ref r0), some (.int (nI 0)), none]) hF dX0_write_1 rfl rfl ?_
  refine z_ws (ws' := [(y0, .inr (0, [.ref y1])), (y1, eI G 3600 (wrF h (v * 12) 0 (fun kk => if kk < m then numF (b kk) (e kk) else -1))), (r0, .inr (2, [.ref r1, .ref r2, .ref r3, .int (nI m)])), (r1, eI G 12 b), (r2, eI G 12 e)]) (by rw [wrF_0]) ?_
  have J_2 : ∀ (n9 : Nat) (i : Nat), 12 - i < n9 → (i ≤ 12) → zJ G X 2 [(y0, .inr (0, [.ref y1])), (y1, eI G 3600 (wrF h (v * 12) i (fun kk => if kk < m then numF (b kk) (e kk) else -1))), (r0, .inr (2, [.ref r1, .ref r2, .ref r3, .int (nI m)])), (r1, eI G 12 b), (r2, eI G 12 e)] [some (.ref y0), some (.int (nI v)), some (.ref r0), some (.int (nI i)), none] [] 0 0 := by
    intro n9
    induction n9 with
    | zero => intro i hmu; exact absurd hmu (Nat.not_lt_zero _)
    | succ n9 ih =>
      intro i hmu h2
      refine z_iload_n hF dX0_write_2 rfl ?_
      refine z_bipush (v := nI 12) hF dX0_write_3 (by decide) ?_
      refine z_icn_ge (tgt := 54) hF (by omega) (by omega) dX0_write_5 (by decide) (fun c_1 => ?_) (fun c_1 => ?_)
      · exact hR.v dX0_write_54 (Nat.le_of_ble_eq_true rfl) (Nat.le_of_ble_eq_true rfl) (by rw [show i = 12 by omega])
      · have J_21 : zJ G X 21 [(y0, .inr (0, [.ref y1])), (y1, eI G 3600 (wrF h (v * 12) i (fun kk => if kk < m then numF (b kk) (e kk) else -1))), (r0, .inr (2, [.ref r1, .ref r2, .ref r3, .int (nI m)])), (r1, eI G 12 b), (r2, eI G 12 e)] [some (.ref y0), some (.int (nI v)), some (.ref r0), some (.int (nI i)), none] [.int (zb (i < m))] 0 0 := by
          refine z_istore (lv' := [some (.ref y0), some (.int (nI v)), some (.ref r0), some (.int (nI i)), some (.int (zb (i < m)))]) hF dX0_write_21 rfl rfl ?_
          refine z_aload_n hF dX0_write_23 rfl ?_
          refine z_get (C := RX0) (T := TX0) (N := 1) (ci := 0) (v := .ref y1) hF k_0 0 (by decide) rfl k_1 rfl 0 rfl rfl dX0_write_24 ?_
          refine z_iload_n hF dX0_write_27 rfl ?_
          refine z_bipush (v := nI 12) hF dX0_write_28 (by decide) ?_
          refine z_imul hF dX0_write_30 ?_
          refine z_top (pk_mul v 12) ?_
          refine z_iload_n hF dX0_write_31 rfl ?_
          refine z_iadd hF dX0_write_32 ?_
          refine z_top (nI_add (v * 12) i) ?_
          refine z_iload hF dX0_write_33 rfl ?_
          refine z_if_eq_b (tgt := 46) hF dX0_write_35 (by decide) (fun hc => ?_) (fun hc => ?_)
          · refine z_iconst (v := -1) hF dX0_write_46 (by decide) ?_
            refine z_iast (k := v * 12 + i) (ws' := [(y0, .inr (0, [.ref y1])), (y1, eI G 3600 (upd (wrF h (v * 12) i (fun kk => if kk < m then numF (b kk) (e kk) else -1)) (v * 12 + i) (-1))), (r0, .inr (2, [.ref r1, .ref r2, .ref r3, .int (nI m)])), (r1, eI G 12 b), (r2, eI G 12 e)]) hF 1 rfl (rfl) (by omega) rfl rfl dX0_write_47 ?_
            refine z_ws (ws' := [(y0, .inr (0, [.ref y1])), (y1, eI G 3600 (wrF h (v * 12) (i + 1) (fun kk => if kk < m then numF (b kk) (e kk) else -1))), (r0, .inr (2, [.ref r1, .ref r2, .ref r3, .int (nI m)])), (r1, eI G 12 b), (r2, eI G 12 e)]) (by rw [← wrF_up]; simp [hc]) ?_
            refine z_iinc (v := nI (i + 1)) (lv' := [some (.ref y0), some (.int (nI v)), some (.ref r0), some (.int (nI (i + 1))), some (.int (zb (i < m)))]) hF dX0_write_48 rfl (nI_1 i) rfl rfl ?_
            refine z_goto (tgt := 2) hF dX0_write_51 (by decide) ?_
            refine z_forget (lv' := [some (.ref y0), some (.int (nI v)), some (.ref r0), some (.int (nI (i + 1))), none]) ⟨rfl, ⟨rfl, ⟨rfl, ⟨rfl, trivial⟩⟩⟩⟩ ?_
            exact ih (i + 1) (by omega) (by omega)
          · refine z_aload_n hF dX0_write_38 rfl ?_
            refine z_iload_n hF dX0_write_39 rfl ?_
            refine z_VN (As := [.int (nI i)]) (rest := [.int (nI (v * 12 + i)), .ref y1]) (ws' := [(y0, .inr (0, [.ref y1])), (y1, eI G 3600 (wrF h (v * 12) i (fun kk => if kk < m then numF (b kk) (e kk) else -1))), (r0, .inr (2, [.ref r1, .ref r2, .ref r3, .int (nI m)])), (r1, eI G 12 b), (r2, eI G 12 e)]) (st2 := [.int (numF (b i) (e i)), .int (nI (v * 12 + i)), .ref y1]) (c2 := 0) (s2 := 0) hF (c_X2_asNumber G r0 r1 r2 r3 m i b e (by first | assumption | omega)) ggX0_write_X2_asNumber (List.mem_of_getElem? (i := 8) rfl) k_2 k_3 k_4 rfl rfl rfl hs_X2_asNumber ⟨⟨Nat.le_of_ble_eq_true rfl, Nat.le_of_ble_eq_true rfl⟩, ⟨Nat.le_of_ble_eq_true rfl, Nat.le_of_ble_eq_true rfl⟩, Nat.le_of_ble_eq_true rfl⟩ [2, 3, 4] rfl rfl 0 rfl rfl rfl rfl rfl rfl rfl rfl rfl rfl dX0_write_40 ?_
            refine z_goto (tgt := 47) hF dX0_write_43 (by decide) ?_
            refine z_iast (k := v * 12 + i) (ws' := [(y0, .inr (0, [.ref y1])), (y1, eI G 3600 (upd (wrF h (v * 12) i (fun kk => if kk < m then numF (b kk) (e kk) else -1)) (v * 12 + i) (numF (b i) (e i)))), (r0, .inr (2, [.ref r1, .ref r2, .ref r3, .int (nI m)])), (r1, eI G 12 b), (r2, eI G 12 e)]) hF 1 rfl (rfl) (by omega) rfl rfl dX0_write_47 ?_
            refine z_ws (ws' := [(y0, .inr (0, [.ref y1])), (y1, eI G 3600 (wrF h (v * 12) (i + 1) (fun kk => if kk < m then numF (b kk) (e kk) else -1))), (r0, .inr (2, [.ref r1, .ref r2, .ref r3, .int (nI m)])), (r1, eI G 12 b), (r2, eI G 12 e)]) (by rw [← wrF_up]; simp [hc]) ?_
            refine z_iinc (v := nI (i + 1)) (lv' := [some (.ref y0), some (.int (nI v)), some (.ref r0), some (.int (nI (i + 1))), some (.int (zb (i < m)))]) hF dX0_write_48 rfl (nI_1 i) rfl rfl ?_
            refine z_goto (tgt := 2) hF dX0_write_51 (by decide) ?_
            refine z_forget (lv' := [some (.ref y0), some (.int (nI v)), some (.ref r0), some (.int (nI (i + 1))), none]) ⟨rfl, ⟨rfl, ⟨rfl, ⟨rfl, trivial⟩⟩⟩⟩ ?_
            exact ih (i + 1) (by omega) (by omega)
        refine z_iload_n hF dX0_write_8 rfl ?_
        refine z_aload_n hF dX0_write_9 rfl ?_
        refine z_getN (C := RX2) (T := TX2) (N := 4) (ci := 2) (v := .int (nI m)) hF k_5 3 (by decide) rfl k_6 rfl 2 rfl rfl dX0_write_10 ?_
        refine z_icn_ge (tgt := 20) hF (by omega) (by omega) dX0_write_13 (by decide) (fun c_2 => ?_) (fun c_2 => ?_)
        · refine z_iconst (v := nI 0) hF dX0_write_20 (by decide) ?_
          refine z_top (y := zb (i < m)) (zb0 (by first | assumption | grind)) ?_
          exact J_21  
        · refine z_iconst (v := nI 1) hF dX0_write_16 (by decide) ?_
          refine z_goto (tgt := 21) hF dX0_write_17 (by decide) ?_
          refine z_top (y := zb (i < m)) (zb1 (by first | assumption | grind)) ?_
          exact J_21  
  exact J_2 ((12 - 0) + 1) 0 (Nat.lt_succ_self _) (by omega)
