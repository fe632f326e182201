set_option maxHeartbeats 4000000 in
set_option maxRecDepth 100000 in
theorem c_X4_checkPlace (G : zG) (d0 t0 r0 q0 y0 d1 u0 d2 d3 d4 v : Nat) (o : Int32) (t1 t2 n : Nat) (p : Nat) (hn : n ≤ 60) (hp : p ≤ n) : zM G yX4_checkPlace wsX4_checkPlace ({ frames := 0, cells := 0, slots := 0, locals := 12 }) [.ref d0, .int (nI p)] [(d0, .inr (4, [.ref t0, .ref r0, .ref q0, .ref y0, .ref d1, .int o, .int (nI v), .ref u0, .ref d2, .ref d3, .ref d4])), (t0, .inr (3, [.ref t1, .ref t2, .int (nI n)]))] [(d0, .inr (4, [.ref t0, .ref r0, .ref q0, .ref y0, .ref d1, .int o, .int (nI v), .ref u0, .ref d2, .ref d3, .ref d4])), (t0, .inr (3, [.ref t1, .ref t2, .int (nI n)]))] none 0 0 := by
  refine zM.ofV (own := RX4) (cc := cX4_checkPlace) (maxL := 2) rfl (by decide) rfl (by simp [Value.category]) (Nat.le_of_ble_eq_true rfl) ?_
  intro X hF hR
  have k_0 : ∀ w ∈ wsX40, w ∈ wsX4_checkPlace := by decide +kernel
  have k_1 : zH X (.fieldLink RX4 10 "MarginDesk" "text" "LMarginDesk$Text;") := hF.w (by decide +kernel)
  have k_2 : ∀ w ∈ wsX30, w ∈ wsX4_checkPlace := by decide +kernel
  have k_3 : zH X (.fieldLinkNest RX4 78 "MarginDesk$Text" "size" "I" RX4) := hF.nf (List.mem_of_getElem? (i := 2) rfl)
  refine z_lv (lv' := [some (.ref d0), some (.int (nI p))]) rfl ?_
  refine z_iload_n hF dX4_checkPlace_0 rfl ?_
  refine z_if_lt (tgt := 15) hF dX4_checkPlace_1 (by decide) (fun c_1 => absurd c_1 (Int32.not_lt.mpr (nI_pos' (by omega)))) (fun c_1 => ?_)
  refine z_iload_n hF dX4_checkPlace_4 rfl ?_
  refine z_aload_n hF dX4_checkPlace_5 rfl ?_
  refine z_get (C := RX4) (T := TX4) (N := 11) (ci := 4) (v := .ref t0) hF k_0 0 (by decide) rfl k_1 rfl 0 rfl rfl dX4_checkPlace_6 ?_
  refine z_getN (C := RX3) (T := TX3) (N := 3) (ci := 3) (v := .int (nI n)) hF k_2 2 (by decide) rfl k_3 rfl 1 rfl rfl dX4_checkPlace_9 ?_
  refine z_icn_le (tgt := 25) hF (by omega) (by omega) dX4_checkPlace_12 (by decide) (fun c_2 => ?_) (fun c_2 => absurd c_2 (by omega))
  exact hR.v dX4_checkPlace_25 (Nat.le_of_ble_eq_true rfl) (Nat.le_of_ble_eq_true rfl) (rfl)
set_option maxHeartbeats 4000000 in
set_option maxRecDepth 100000 in
theorem c_X4_checkAmong (G : zG) (d0 t0 r0 q0 y0 d1 u0 d2 d3 d4 v : Nat) (o : Int32) (k a b : Nat) (h1 : a ≤ k) (h2 : k ≤ b) (h3 : b < 2 ^ 31) : zM G yX4_checkAmong wsX4_checkAmong ({ frames := 0, cells := 0, slots := 0, locals := 12 }) [.ref d0, .int (nI k), .int (nI a), .int (nI b)] [(d0, .inr (4, [.ref t0, .ref r0, .ref q0, .ref y0, .ref d1, .int o, .int (nI v), .ref u0, .ref d2, .ref d3, .ref d4]))] [(d0, .inr (4, [.ref t0, .ref r0, .ref q0, .ref y0, .ref d1, .int o, .int (nI v), .ref u0, .ref d2, .ref d3, .ref d4]))] none 0 0 := by
  refine zM.ofV (own := RX4) (cc := cX4_checkAmong) (maxL := 4) rfl (by decide) rfl (by simp [Value.category]) (Nat.le_of_ble_eq_true rfl) ?_
  intro X hF hR
  refine z_lv (lv' := [some (.ref d0), some (.int (nI k)), some (.int (nI a)), some (.int (nI b))]) rfl ?_
  refine z_iload_n hF dX4_checkAmong_0 rfl ?_
  refine z_iload_n hF dX4_checkAmong_1 rfl ?_
  refine z_icn_lt (tgt := 10) hF (by omega) (by omega) dX4_checkAmong_2 (by decide) (fun c_1 => absurd c_1 (by omega)) (fun c_1 => ?_)
  refine z_iload_n hF dX4_checkAmong_5 rfl ?_
  refine z_iload_n hF dX4_checkAmong_6 rfl ?_
  refine z_icn_le (tgt := 20) hF (by omega) (by omega) dX4_checkAmong_7 (by decide) (fun c_2 => ?_) (fun c_2 => absurd c_2 (by omega))
  exact hR.v dX4_checkAmong_20 (Nat.le_of_ble_eq_true rfl) (Nat.le_of_ble_eq_true rfl) (rfl)
set_option maxHeartbeats 4000000 in
set_option maxRecDepth 100000 in
theorem c_X4_checkLetter (G : zG) (d0 t0 r0 q0 y0 d1 u0 d2 d3 d4 v : Nat) (o : Int32) (k : Nat) (h1 : k ≤ 25) : zM G yX4_checkLetter wsX4_checkLetter ({ frames := 1, cells := 0, slots := 0, locals := 35 }) [.ref d0, .int (nI k)] [(d0, .inr (4, [.ref t0, .ref r0, .ref q0, .ref y0, .ref d1, .int o, .int (nI v), .ref u0, .ref d2, .ref d3, .ref d4]))] [(d0, .inr (4, [.ref t0, .ref r0, .ref q0, .ref y0, .ref d1, .int o, .int (nI v), .ref u0, .ref d2, .ref d3, .ref d4]))] none 0 0 := by
  refine zM.ofV (own := RX4) (cc := cX4_checkLetter) (maxL := 2) rfl (by decide) rfl (by simp [Value.category]) (Nat.le_of_ble_eq_true rfl) ?_
  intro X hF hR
  refine z_lv (lv' := [some (.ref d0), some (.int (nI k))]) rfl ?_
  refine z_aload_n hF dX4_checkLetter_0 rfl ?_
  refine z_iload_n hF dX4_checkLetter_1 rfl ?_
  refine z_iconst (v := nI 0) hF dX4_checkLetter_2 (by decide) ?_
  refine z_bipush (v := nI 25) hF dX4_checkLetter_3 (by decide) ?_
  refine z_V (As := [.int (nI k), .int (nI 0), .int (nI 25)]) (rest := []) (ws' := [(d0, .inr (4, [.ref t0, .ref r0, .ref q0, .ref y0, .ref d1, .int o, .int (nI v), .ref u0, .ref d2, .ref d3, .ref d4]))]) (st2 := []) (c2 := 0) (s2 := 0) hF (c_X4_checkAmong G d0 t0 r0 q0 y0 d1 u0 d2 d3 d4 v o k 0 25 (by first | assumption | omega) (by first | assumption | omega) (by first | assumption | omega)) gX4_checkLetter_X4_checkAmong rfl rfl rfl hd_X4_checkAmong ⟨⟨Nat.le_of_ble_eq_true rfl, Nat.le_of_ble_eq_true rfl⟩, ⟨Nat.le_of_ble_eq_true rfl, Nat.le_of_ble_eq_true rfl⟩, Nat.le_of_ble_eq_true rfl⟩ [0] rfl rfl 0 rfl rfl rfl rfl rfl rfl rfl rfl rfl rfl dX4_checkLetter_5 ?_
  exact hR.v dX4_checkLetter_8 (Nat.le_of_ble_eq_true rfl) (Nat.le_of_ble_eq_true rfl) (rfl)
set_option maxHeartbeats 4000000 in
set_option maxRecDepth 100000 in
theorem c_X4_checkRange (G : zG) (d0 t0 r0 q0 y0 d1 u0 d2 d3 d4 v : Nat) (o : Int32) (t1 t2 n : Nat) (a b : Nat) (hn : n ≤ 60) (h1 : a < b) (h2 : b ≤ n) : zM G yX4_checkRange wsX4_checkRange ({ frames := 1, cells := 0, slots := 0, locals := 33 }) [.ref d0, .int (nI a), .int (nI b)] [(d0, .inr (4, [.ref t0, .ref r0, .ref q0, .ref y0, .ref d1, .int o, .int (nI v), .ref u0, .ref d2, .ref d3, .ref d4])), (t0, .inr (3, [.ref t1, .ref t2, .int (nI n)]))] [(d0, .inr (4, [.ref t0, .ref r0, .ref q0, .ref y0, .ref d1, .int o, .int (nI v), .ref u0, .ref d2, .ref d3, .ref d4])), (t0, .inr (3, [.ref t1, .ref t2, .int (nI n)]))] none 0 0 := by
  refine zM.ofV (own := RX4) (cc := cX4_checkRange) (maxL := 3) rfl (by decide) rfl (by simp [Value.category]) (Nat.le_of_ble_eq_true rfl) ?_
  intro X hF hR
  refine z_lv (lv' := [some (.ref d0), some (.int (nI a)), some (.int (nI b))]) rfl ?_
  refine z_aload_n hF dX4_checkRange_0 rfl ?_
  refine z_iload_n hF dX4_checkRange_1 rfl ?_
  refine z_V (As := [.int (nI a)]) (rest := []) (ws' := [(d0, .inr (4, [.ref t0, .ref r0, .ref q0, .ref y0, .ref d1, .int o, .int (nI v), .ref u0, .ref d2, .ref d3, .ref d4])), (t0, .inr (3, [.ref t1, .ref t2, .int (nI n)]))]) (st2 := []) (c2 := 0) (s2 := 0) hF (c_X4_checkPlace G d0 t0 r0 q0 y0 d1 u0 d2 d3 d4 v o t1 t2 n a (by first | assumption | omega) (by first | assumption | omega)) gX4_checkRange_X4_checkPlace rfl rfl rfl hd_X4_checkPlace ⟨⟨Nat.le_of_ble_eq_true rfl, Nat.le_of_ble_eq_true rfl⟩, ⟨Nat.le_of_ble_eq_true rfl, Nat.le_of_ble_eq_true rfl⟩, Nat.le_of_ble_eq_true rfl⟩ [0, 1] rfl rfl 0 rfl rfl rfl rfl rfl rfl rfl rfl rfl rfl dX4_checkRange_2 ?_
  refine z_aload_n hF dX4_checkRange_5 rfl ?_
  refine z_iload_n hF dX4_checkRange_6 rfl ?_
  refine z_V (As := [.int (nI b)]) (rest := []) (ws' := [(d0, .inr (4, [.ref t0, .ref r0, .ref q0, .ref y0, .ref d1, .int o, .int (nI v), .ref u0, .ref d2, .ref d3, .ref d4])), (t0, .inr (3, [.ref t1, .ref t2, .int (nI n)]))]) (st2 := []) (c2 := 0) (s2 := 0) hF (c_X4_checkPlace G d0 t0 r0 q0 y0 d1 u0 d2 d3 d4 v o t1 t2 n b (by first | assumption | omega) (by first | assumption | omega)) gX4_checkRange_X4_checkPlace rfl rfl rfl hd_X4_checkPlace ⟨⟨Nat.le_of_ble_eq_true rfl, Nat.le_of_ble_eq_true rfl⟩, ⟨Nat.le_of_ble_eq_true rfl, Nat.le_of_ble_eq_true rfl⟩, Nat.le_of_ble_eq_true rfl⟩ [0, 1] rfl rfl 0 rfl rfl rfl rfl rfl rfl rfl rfl rfl rfl dX4_checkRange_7 ?_
  refine z_iload_n hF dX4_checkRange_10 rfl ?_
  refine z_iload_n hF dX4_checkRange_11 rfl ?_
  refine z_icn_gt (tgt := 25) hF (by omega) (by omega) dX4_checkRange_12 (by decide) (fun c_1 => ?_) (fun c_1 => absurd c_1 (by omega))
  exact hR.v dX4_checkRange_25 (Nat.le_of_ble_eq_true rfl) (Nat.le_of_ble_eq_true rfl) (rfl)
set_option maxHeartbeats 4000000 in
set_option maxRecDepth 100000 in
theorem c_X4_checkComment (G : zG) (d0 t0 r0 q0 y0 d1 u0 d2 d3 d4 v : Nat) (o : Int32) (r1 r2 r3 m : Nat) (i : Nat) (hm : m ≤ 12) (hi : i < m) : zM G yX4_checkComment wsX4_checkComment ({ frames := 0, cells := 0, slots := 0, locals := 12 }) [.ref d0, .int (nI i)] [(d0, .inr (4, [.ref t0, .ref r0, .ref q0, .ref y0, .ref d1, .int o, .int (nI v), .ref u0, .ref d2, .ref d3, .ref d4])), (r0, .inr (2, [.ref r1, .ref r2, .ref r3, .int (nI m)]))] [(d0, .inr (4, [.ref t0, .ref r0, .ref q0, .ref y0, .ref d1, .int o, .int (nI v), .ref u0, .ref d2, .ref d3, .ref d4])), (r0, .inr (2, [.ref r1, .ref r2, .ref r3, .int (nI m)]))] none 0 0 := by
  refine zM.ofV (own := RX4) (cc := cX4_checkComment) (maxL := 2) rfl (by decide) rfl (by simp [Value.category]) (Nat.le_of_ble_eq_true rfl) ?_
  intro X hF hR
  have k_0 : ∀ w ∈ wsX40, w ∈ wsX4_checkComment := by decide +kernel
  have k_1 : zH X (.fieldLink RX4 19 "MarginDesk" "commentRanges" "LMarginDesk$Ranges;") := hF.w (by decide +kernel)
  have k_2 : ∀ w ∈ wsX20, w ∈ wsX4_checkComment := by decide +kernel
  have k_3 : zH X (.fieldLinkNest RX4 92 "MarginDesk$Ranges" "count" "I" RX4) := hF.nf (List.mem_of_getElem? (i := 3) rfl)
  refine z_lv (lv' := [some (.ref d0), some (.int (nI i))]) rfl ?_
  refine z_iload_n hF dX4_checkComment_0 rfl ?_
  refine z_if_lt (tgt := 15) hF dX4_checkComment_1 (by decide) (fun c_1 => absurd c_1 (Int32.not_lt.mpr (nI_pos' (by omega)))) (fun c_1 => ?_)
  refine z_iload_n hF dX4_checkComment_4 rfl ?_
  refine z_aload_n hF dX4_checkComment_5 rfl ?_
  refine z_get (C := RX4) (T := TX4) (N := 11) (ci := 4) (v := .ref r0) hF k_0 1 (by decide) rfl k_1 rfl 0 rfl rfl dX4_checkComment_6 ?_
  refine z_getN (C := RX2) (T := TX2) (N := 4) (ci := 2) (v := .int (nI m)) hF k_2 3 (by decide) rfl k_3 rfl 1 rfl rfl dX4_checkComment_9 ?_
  refine z_icn_lt (tgt := 25) hF (by omega) (by omega) dX4_checkComment_12 (by decide) (fun c_2 => ?_) (fun c_2 => absurd c_2 (by omega))
  exact hR.v dX4_checkComment_25 (Nat.le_of_ble_eq_true rfl) (Nat.le_of_ble_eq_true rfl) (rfl)
set_option maxHeartbeats 4000000 in
set_option maxRecDepth 100000 in
theorem c_X4_checkSuggestion (G : zG) (d0 t0 r0 q0 y0 d1 u0 d2 d3 d4 v : Nat) (o : Int32) (u1 u2 u3 j : Nat) (i : Nat) (hj : j ≤ 10) (hi : i < j) : zM G yX4_checkSuggestion wsX4_checkSuggestion ({ frames := 0, cells := 0, slots := 0, locals := 12 }) [.ref d0, .int (nI i)] [(d0, .inr (4, [.ref t0, .ref r0, .ref q0, .ref y0, .ref d1, .int o, .int (nI v), .ref u0, .ref d2, .ref d3, .ref d4])), (u0, .inr (2, [.ref u1, .ref u2, .ref u3, .int (nI j)]))] [(d0, .inr (4, [.ref t0, .ref r0, .ref q0, .ref y0, .ref d1, .int o, .int (nI v), .ref u0, .ref d2, .ref d3, .ref d4])), (u0, .inr (2, [.ref u1, .ref u2, .ref u3, .int (nI j)]))] none 0 0 := by
  refine zM.ofV (own := RX4) (cc := cX4_checkSuggestion) (maxL := 2) rfl (by decide) rfl (by simp [Value.category]) (Nat.le_of_ble_eq_true rfl) ?_
  intro X hF hR
  have k_0 : ∀ w ∈ wsX40, w ∈ wsX4_checkSuggestion := by decide +kernel
  have k_1 : zH X (.fieldLink RX4 48 "MarginDesk" "suggestionRanges" "LMarginDesk$Ranges;") := hF.w (by decide +kernel)
  have k_2 : ∀ w ∈ wsX20, w ∈ wsX4_checkSuggestion := by decide +kernel
  have k_3 : zH X (.fieldLinkNest RX4 92 "MarginDesk$Ranges" "count" "I" RX4) := hF.nf (List.mem_of_getElem? (i := 3) rfl)
  refine z_lv (lv' := [some (.ref d0), some (.int (nI i))]) rfl ?_
  refine z_iload_n hF dX4_checkSuggestion_0 rfl ?_
  refine z_if_lt (tgt := 15) hF dX4_checkSuggestion_1 (by decide) (fun c_1 => absurd c_1 (Int32.not_lt.mpr (nI_pos' (by omega)))) (fun c_1 => ?_)
  refine z_iload_n hF dX4_checkSuggestion_4 rfl ?_
  refine z_aload_n hF dX4_checkSuggestion_5 rfl ?_
  refine z_get (C := RX4) (T := TX4) (N := 11) (ci := 4) (v := .ref u0) hF k_0 7 (by decide) rfl k_1 rfl 0 rfl rfl dX4_checkSuggestion_6 ?_
  refine z_getN (C := RX2) (T := TX2) (N := 4) (ci := 2) (v := .int (nI j)) hF k_2 3 (by decide) rfl k_3 rfl 1 rfl rfl dX4_checkSuggestion_9 ?_
  refine z_icn_lt (tgt := 25) hF (by omega) (by omega) dX4_checkSuggestion_12 (by decide) (fun c_2 => ?_) (fun c_2 => absurd c_2 (by omega))
  exact hR.v dX4_checkSuggestion_25 (Nat.le_of_ble_eq_true rfl) (Nat.le_of_ble_eq_true rfl) (rfl)
set_option maxHeartbeats 4000000 in
set_option maxRecDepth 100000 in
theorem c_X4_checkWaiting (G : zG) (d0 t0 r0 q0 y0 d1 u0 d2 d3 d4 v : Nat) (o : Int32) (xs : Nat → Int32) (i : Nat) (hi : i < 10) (h0 : xs i = 0) : zM G yX4_checkWaiting wsX4_checkWaiting ({ frames := 0, cells := 0, slots := 0, locals := 12 }) [.ref d0, .int (nI i)] [(d0, .inr (4, [.ref t0, .ref r0, .ref q0, .ref y0, .ref d1, .int o, .int (nI v), .ref u0, .ref d2, .ref d3, .ref d4])), (d4, eI G 10 xs)] [(d0, .inr (4, [.ref t0, .ref r0, .ref q0, .ref y0, .ref d1, .int o, .int (nI v), .ref u0, .ref d2, .ref d3, .ref d4])), (d4, eI G 10 xs)] none 0 0 := by
  refine zM.ofV (own := RX4) (cc := cX4_checkWaiting) (maxL := 2) rfl (by decide) rfl (by simp [Value.category]) (Nat.le_of_ble_eq_true rfl) ?_
  intro X hF hR
  have k_0 : ∀ w ∈ wsX40, w ∈ wsX4_checkWaiting := by decide +kernel
  have k_1 : zH X (.fieldLink RX4 57 "MarginDesk" "states" "[I") := hF.w (by decide +kernel)
  refine z_lv (lv' := [some (.ref d0), some (.int (nI i))]) rfl ?_
  refine z_aload_n hF dX4_checkWaiting_0 rfl ?_
  refine z_get (C := RX4) (T := TX4) (N := 11) (ci := 4) (v := .ref d4) hF k_0 10 (by decide) rfl k_1 rfl 0 rfl rfl dX4_checkWaiting_1 ?_
  refine z_iload_n hF dX4_checkWaiting_4 rfl ?_
  refine z_iald (k := i) hF 1 rfl (rfl) (by omega) rfl dX4_checkWaiting_5 ?_
  refine z_if_eq (tgt := 19) hF dX4_checkWaiting_6 (by decide) (fun c_1 => ?_) (fun c_1 => absurd c_1 (not_not_intro h0))
  exact hR.v dX4_checkWaiting_19 (Nat.le_of_ble_eq_true rfl) (Nat.le_of_ble_eq_true rfl) (rfl)
set_option maxHeartbeats 4000000 in
set_option maxRecDepth 100000 in
theorem c_X4_checkWaiting_3 (G : zG) (d0 t0 r0 q0 y0 d1 u0 d2 d3 d4 v : Nat) (o : Int32) (xs : Nat → Int32) (i : Nat) (hi : i < 10) (h0 : ¬ xs i = 0) : zX G yX4_checkWaiting wsX4_checkWaiting ({ frames := 6, cells := 1, slots := 6, locals := 90 }) [.ref d0, .int (nI i)] [(d0, .inr (4, [.ref t0, .ref r0, .ref q0, .ref y0, .ref d1, .int o, .int (nI v), .ref u0, .ref d2, .ref d3, .ref d4])), (d4, eI G 10 xs)] [(d0, .inr (4, [.ref t0, .ref r0, .ref q0, .ref y0, .ref d1, .int o, .int (nI v), .ref u0, .ref d2, .ref d3, .ref d4])), (d4, eI G 10 xs)] 3 none 1 6 := by
  refine zX.ofV (own := RX4) (cc := cX4_checkWaiting) (maxL := 2) rfl (by decide) rfl (by simp [Value.category]) (Nat.le_of_ble_eq_true rfl) ?_
  intro X hF hZ hR
  have k_0 : ∀ w ∈ wsX40, w ∈ wsX4_checkWaiting := by decide +kernel
  have k_1 : zH X (.fieldLink RX4 57 "MarginDesk" "states" "[I") := hF.w (by decide +kernel)
  have k_2 : zH X (.classLink RX4 95 "java/lang/IllegalStateException") := hF.w (by decide +kernel)
  have k_3 : zH X (.initialized "java/lang/IllegalStateException") := hF.w (by decide +kernel)
  have k_4 : ∀ w ∈ (vx_atS RX4 99 (zEx 3) [zRun, zExc]).filter goodWord, w ∈ wsX4_checkWaiting := by first | exact fun _ h => List.mem_cons_of_mem _ (List.mem_append_right _ h) | exact fun _ h => List.mem_cons_of_mem _ (List.mem_append_left _ (List.mem_append_right _ h)) | exact fun _ h => List.mem_cons_of_mem _ (List.mem_append_left _ (List.mem_append_left _ (List.mem_append_right _ h))) | exact fun _ h => List.mem_cons_of_mem _ (List.mem_append_left _ (List.mem_append_left _ (List.mem_append_left _ (List.mem_append_right _ h)))) | exact fun _ h => List.mem_cons_of_mem _ (List.mem_append_left _ (List.mem_append_left _ (List.mem_append_left _ (List.mem_append_left _ (List.mem_append_right _ h))))) | decide +kernel
  refine z_lv (lv' := [some (.ref d0), some (.int (nI i))]) rfl ?_
  refine z_aload_n hF dX4_checkWaiting_0 rfl ?_
  refine z_get (C := RX4) (T := TX4) (N := 11) (ci := 4) (v := .ref d4) hF k_0 10 (by decide) rfl k_1 rfl 0 rfl rfl dX4_checkWaiting_1 ?_
  refine z_iload_n hF dX4_checkWaiting_4 rfl ?_
  refine z_iald (k := i) hF 1 rfl (rfl) (by omega) rfl dX4_checkWaiting_5 ?_
  refine z_if_eq (tgt := 19) hF dX4_checkWaiting_6 (by decide) (fun c_1 => absurd c_1 (h0)) (fun c_1 => ?_)
  exact z_throw (k := 3) hF hZ k_2 k_3 (List.mem_of_getElem? (i := 10) rfl) k_4 zfit3 zbad3 znc3 zgood3 dX4_checkWaiting_9 dX4_checkWaiting_12 dX4_checkWaiting_13 dX4_checkWaiting_15 dX4_checkWaiting_18 ⟨Nat.le_of_ble_eq_true rfl, Nat.le_of_ble_eq_true rfl, Nat.le_of_ble_eq_true rfl, Nat.le_of_ble_eq_true rfl⟩ (Nat.le_of_ble_eq_true rfl) (Nat.le_of_ble_eq_true rfl) (by decide) (rfl) rfl
set_option maxHeartbeats 4000000 in
set_option maxRecDepth 100000 in
theorem c_X4_checkRoom (G : zG) (d0 t0 r0 q0 y0 d1 u0 d2 d3 d4 v : Nat) (o : Int32) (t1 t2 n : Nat) (k l : Int32) (h1 : nI n + k ≤ nI 60) (h2 : nI v + l ≤ nI 300) : zM G yX4_checkRoom wsX4_checkRoom ({ frames := 0, cells := 0, slots := 0, locals := 12 }) [.ref d0, .int k, .int l] [(d0, .inr (4, [.ref t0, .ref r0, .ref q0, .ref y0, .ref d1, .int o, .int (nI v), .ref u0, .ref d2, .ref d3, .ref d4])), (t0, .inr (3, [.ref t1, .ref t2, .int (nI n)]))] [(d0, .inr (4, [.ref t0, .ref r0, .ref q0, .ref y0, .ref d1, .int o, .int (nI v), .ref u0, .ref d2, .ref d3, .ref d4])), (t0, .inr (3, [.ref t1, .ref t2, .int (nI n)]))] none 0 0 := by
  refine zM.ofV (own := RX4) (cc := cX4_checkRoom) (maxL := 3) rfl (by decide) rfl (by simp [Value.category]) (Nat.le_of_ble_eq_true rfl) ?_
  intro X hF hR
  have k_0 : ∀ w ∈ wsX40, w ∈ wsX4_checkRoom := by decide +kernel
  have k_1 : zH X (.fieldLink RX4 10 "MarginDesk" "text" "LMarginDesk$Text;") := hF.w (by decide +kernel)
  have k_2 : ∀ w ∈ wsX30, w ∈ wsX4_checkRoom := by decide +kernel
  have k_3 : zH X (.fieldLinkNest RX4 78 "MarginDesk$Text" "size" "I" RX4) := hF.nf (List.mem_of_getElem? (i := 2) rfl)
  have k_4 : zH X (.fieldLink RX4 45 "MarginDesk" "edits" "I") := hF.w (by decide +kernel)
  refine z_lv (lv' := [some (.ref d0), some (.int k), some (.int l)]) rfl ?_
  refine z_aload_n hF dX4_checkRoom_0 rfl ?_
  refine z_get (C := RX4) (T := TX4) (N := 11) (ci := 4) (v := .ref t0) hF k_0 0 (by decide) rfl k_1 rfl 0 rfl rfl dX4_checkRoom_1 ?_
  refine z_getN (C := RX3) (T := TX3) (N := 3) (ci := 3) (v := .int (nI n)) hF k_2 2 (by decide) rfl k_3 rfl 1 rfl rfl dX4_checkRoom_4 ?_
  refine z_iload_n hF dX4_checkRoom_7 rfl ?_
  refine z_iadd hF dX4_checkRoom_8 ?_
  refine z_bipush (v := nI 60) hF dX4_checkRoom_9 (by decide) ?_
  refine z_ic_le (tgt := 24) hF dX4_checkRoom_11 (by decide) (fun c_1 => ?_) (fun c_1 => absurd c_1 (not_not_intro h1))
  refine z_aload_n hF dX4_checkRoom_24 rfl ?_
  refine z_get (C := RX4) (T := TX4) (N := 11) (ci := 4) (v := .int (nI v)) hF k_0 6 (by decide) rfl k_4 rfl 0 rfl rfl dX4_checkRoom_25 ?_
  refine z_iload_n hF dX4_checkRoom_28 rfl ?_
  refine z_iadd hF dX4_checkRoom_29 ?_
  refine z_sipush (v := nI 300) hF dX4_checkRoom_30 (by decide) ?_
  refine z_ic_le (tgt := 46) hF dX4_checkRoom_33 (by decide) (fun c_2 => ?_) (fun c_2 => absurd c_2 (not_not_intro h2))
  exact hR.v dX4_checkRoom_46 (Nat.le_of_ble_eq_true rfl) (Nat.le_of_ble_eq_true rfl) (rfl)
set_option maxHeartbeats 4000000 in
set_option maxRecDepth 100000 in
theorem c_X4_checkRoom_3 (G : zG) (d0 t0 r0 q0 y0 d1 u0 d2 d3 d4 v : Nat) (o : Int32) (t1 t2 n : Nat) (k l : Int32) (h1 : ¬ nI n + k ≤ nI 60) : zX G yX4_checkRoom wsX4_checkRoom ({ frames := 6, cells := 1, slots := 6, locals := 90 }) [.ref d0, .int k, .int l] [(d0, .inr (4, [.ref t0, .ref r0, .ref q0, .ref y0, .ref d1, .int o, .int (nI v), .ref u0, .ref d2, .ref d3, .ref d4])), (t0, .inr (3, [.ref t1, .ref t2, .int (nI n)]))] [(d0, .inr (4, [.ref t0, .ref r0, .ref q0, .ref y0, .ref d1, .int o, .int (nI v), .ref u0, .ref d2, .ref d3, .ref d4])), (t0, .inr (3, [.ref t1, .ref t2, .int (nI n)]))] 3 none 1 6 := by
  refine zX.ofV (own := RX4) (cc := cX4_checkRoom) (maxL := 3) rfl (by decide) rfl (by simp [Value.category]) (Nat.le_of_ble_eq_true rfl) ?_
  intro X hF hZ hR
  have k_0 : ∀ w ∈ wsX40, w ∈ wsX4_checkRoom := by decide +kernel
  have k_1 : zH X (.fieldLink RX4 10 "MarginDesk" "text" "LMarginDesk$Text;") := hF.w (by decide +kernel)
  have k_2 : ∀ w ∈ wsX30, w ∈ wsX4_checkRoom := by decide +kernel
  have k_3 : zH X (.fieldLinkNest RX4 78 "MarginDesk$Text" "size" "I" RX4) := hF.nf (List.mem_of_getElem? (i := 2) rfl)
  have k_4 : zH X (.classLink RX4 95 "java/lang/IllegalStateException") := hF.w (by decide +kernel)
  have k_5 : zH X (.initialized "java/lang/IllegalStateException") := hF.w (by decide +kernel)
  have k_6 : ∀ w ∈ (vx_atS RX4 99 (zEx 3) [zRun, zExc]).filter goodWord, w ∈ wsX4_checkRoom := by first | exact fun _ h => List.mem_cons_of_mem _ (List.mem_append_right _ h) | exact fun _ h => List.mem_cons_of_mem _ (List.mem_append_left _ (List.mem_append_right _ h)) | exact fun _ h => List.mem_cons_of_mem _ (List.mem_append_left _ (List.mem_append_left _ (List.mem_append_right _ h))) | exact fun _ h => List.mem_cons_of_mem _ (List.mem_append_left _ (List.mem_append_left _ (List.mem_append_left _ (List.mem_append_right _ h)))) | exact fun _ h => List.mem_cons_of_mem _ (List.mem_append_left _ (List.mem_append_left _ (List.mem_append_left _ (List.mem_append_left _ (List.mem_append_right _ h))))) | decide +kernel
  refine z_lv (lv' := [some (.ref d0), some (.int k), some (.int l)]) rfl ?_
  refine z_aload_n hF dX4_checkRoom_0 rfl ?_
  refine z_get (C := RX4) (T := TX4) (N := 11) (ci := 4) (v := .ref t0) hF k_0 0 (by decide) rfl k_1 rfl 0 rfl rfl dX4_checkRoom_1 ?_
  refine z_getN (C := RX3) (T := TX3) (N := 3) (ci := 3) (v := .int (nI n)) hF k_2 2 (by decide) rfl k_3 rfl 1 rfl rfl dX4_checkRoom_4 ?_
  refine z_iload_n hF dX4_checkRoom_7 rfl ?_
  refine z_iadd hF dX4_checkRoom_8 ?_
  refine z_bipush (v := nI 60) hF dX4_checkRoom_9 (by decide) ?_
  refine z_ic_le (tgt := 24) hF dX4_checkRoom_11 (by decide) (fun c_1 => absurd c_1 (h1)) (fun c_1 => ?_)
  exact z_throw (k := 3) hF hZ k_4 k_5 (List.mem_of_getElem? (i := 11) rfl) k_6 zfit3 zbad3 znc3 zgood3 dX4_checkRoom_14 dX4_checkRoom_17 dX4_checkRoom_18 dX4_checkRoom_20 dX4_checkRoom_23 ⟨Nat.le_of_ble_eq_true rfl, Nat.le_of_ble_eq_true rfl, Nat.le_of_ble_eq_true rfl, Nat.le_of_ble_eq_true rfl⟩ (Nat.le_of_ble_eq_true rfl) (Nat.le_of_ble_eq_true rfl) (by decide) (rfl) rfl
set_option maxHeartbeats 4000000 in
set_option maxRecDepth 100000 in
theorem c_X4_insert (G : zG) (d0 t0 r0 q0 y0 d1 u0 d2 d3 d4 v : Nat) (o : Int32) (t1 t2 n : Nat) (f : Nat → Int32) (g : Nat → Int32) (r1 r2 r3 m : Nat) (b : Nat → Int32) (e : Nat → Int32) (s : Nat → Int32) (y1 : Nat) (h : Nat → Int32) (u1 u2 u3 j : Nat) (b2 : Nat → Int32) (e2 : Nat → Int32) (s2 : Nat → Int32) (p x k : Nat) (hn : n ≤ 60) (hm : m ≤ 12) (hj : j ≤ 10) (hv : v < 300) (hp : p ≤ n) (hx : x ≤ 25) (hk1 : 1 ≤ k) (hk2 : k ≤ 10) (hk : n + k ≤ 60) : zM G yX4_insert wsX4_insert ({ frames := 5, cells := 0, slots := 0, locals := 121 }) [.ref d0, .int (nI p), .int (nI x), .int (nI k)] [(d0, .inr (4, [.ref t0, .ref r0, .ref q0, .ref y0, .ref d1, .int o, .int (nI v), .ref u0, .ref d2, .ref d3, .ref d4])), (y0, .inr (0, [.ref y1])), (y1, eI G 3600 h), (r0, .inr (2, [.ref r1, .ref r2, .ref r3, .int (nI m)])), (r1, eI G 12 b), (r2, eI G 12 e), (r3, eI G 12 s), (u0, .inr (2, [.ref u1, .ref u2, .ref u3, .int (nI j)])), (u1, eI G 12 b2), (u2, eI G 12 e2), (u3, eI G 12 s2), (t0, .inr (3, [.ref t1, .ref t2, .int (nI n)])), (t1, eI G 60 f), (t2, eI G 60 g)] [(d0, .inr (4, [.ref t0, .ref r0, .ref q0, .ref y0, .ref d1, .int o, .int (nI (v + 1)), .ref u0, .ref d2, .ref d3, .ref d4])), (y0, .inr (0, [.ref y1])), (y1, eI G 3600 (wrF h (v * 12) 12 (fun kk => if kk < m then numF (b kk) (e kk) else -1))), (r0, .inr (2, [.ref r1, .ref r2, .ref r3, .int (nI m)])), (r1, eI G 12 (mpF m (insB (nI p) (nI k) b s) b)), (r2, eI G 12 (mpF m (insE (nI p) (nI k) b e s) e)), (r3, eI G 12 s), (u0, .inr (2, [.ref u1, .ref u2, .ref u3, .int (nI j)])), (u1, eI G 12 (mpF j (insB (nI p) (nI k) b2 s2) b2)), (u2, eI G 12 (mpF j (insE (nI p) (nI k) b2 e2 s2) e2)), (u3, eI G 12 s2), (t0, .inr (3, [.ref t1, .ref t2, .int (nI (n + k))])), (t1, eI G 60 (filF (va_cpy f f p (p + k) (n - p)) p (p + k) (nI x))), (t2, eI G 60 (mrkF (filF (va_cpy g g p (p + k) (n - p)) p (p + k) (nI 0)) p (p + k) (covF (mpF m (insB (nI p) (nI k) b s) b) (mpF m (insE (nI p) (nI k) b e s) e) m (nI p))))] (some (.int (nI (n + k)))) 0 0 := by
  refine zM.ofI (own := RX4) (cc := cX4_insert) (maxL := 4) rfl (by decide) rfl rfl (by simp [Value.category]) (Nat.le_of_ble_eq_true rfl) ?_
  intro X hF hR
  have k_0 : ∀ w ∈ wsX40, w ∈ wsX4_insert := by decide +kernel
  have k_1 : zH X (.fieldLink RX4 10 "MarginDesk" "text" "LMarginDesk$Text;") := hF.w (by decide +kernel)
  have k_2 : ∀ w ∈ wsX30, w ∈ wsX4_insert := by decide +kernel
  have k_3 : zH X (.fieldLinkNest RX4 78 "MarginDesk$Text" "size" "I" RX4) := hF.nf (List.mem_of_getElem? (i := 2) rfl)
  refine z_lv (lv' := [some (.ref d0), some (.int (nI p)), some (.int (nI x)), some (.int (nI k))]) rfl ?_
  refine z_aload_n hF dX4_insert_0 rfl ?_
  refine z_iload_n hF dX4_insert_1 rfl ?_
  refine z_V (As := [.int (nI p)]) (rest := []) (ws' := [(d0, .inr (4, [.ref t0, .ref r0, .ref q0, .ref y0, .ref d1, .int o, .int (nI v), .ref u0, .ref d2, .ref d3, .ref d4])), (y0, .inr (0, [.ref y1])), (y1, eI G 3600 h), (r0, .inr (2, [.ref r1, .ref r2, .ref r3, .int (nI m)])), (r1, eI G 12 b), (r2, eI G 12 e), (r3, eI G 12 s), (u0, .inr (2, [.ref u1, .ref u2, .ref u3, .int (nI j)])), (u1, eI G 12 b2), (u2, eI G 12 e2), (u3, eI G 12 s2), (t0, .inr (3, [.ref t1, .ref t2, .int (nI n)])), (t1, eI G 60 f), (t2, eI G 60 g)]) (st2 := []) (c2 := 0) (s2 := 0) hF (c_X4_checkPlace G d0 t0 r0 q0 y0 d1 u0 d2 d3 d4 v o t1 t2 n p (by first | assumption | omega) (by first | assumption | omega)) gX4_insert_X4_checkPlace rfl rfl rfl hd_X4_checkPlace ⟨⟨Nat.le_of_ble_eq_true rfl, Nat.le_of_ble_eq_true rfl⟩, ⟨Nat.le_of_ble_eq_true rfl, Nat.le_of_ble_eq_true rfl⟩, Nat.le_of_ble_eq_true rfl⟩ [0, 11] rfl rfl 0 rfl rfl rfl rfl rfl rfl rfl rfl rfl rfl dX4_insert_2 ?_
  refine z_aload_n hF dX4_insert_5 rfl ?_
  refine z_iload_n hF dX4_insert_6 rfl ?_
  refine z_V (As := [.int (nI x)]) (rest := []) (ws' := [(d0, .inr (4, [.ref t0, .ref r0, .ref q0, .ref y0, .ref d1, .int o, .int (nI v), .ref u0, .ref d2, .ref d3, .ref d4])), (y0, .inr (0, [.ref y1])), (y1, eI G 3600 h), (r0, .inr (2, [.ref r1, .ref r2, .ref r3, .int (nI m)])), (r1, eI G 12 b), (r2, eI G 12 e), (r3, eI G 12 s), (u0, .inr (2, [.ref u1, .ref u2, .ref u3, .int (nI j)])), (u1, eI G 12 b2), (u2, eI G 12 e2), (u3, eI G 12 s2), (t0, .inr (3, [.ref t1, .ref t2, .int (nI n)])), (t1, eI G 60 f), (t2, eI G 60 g)]) (st2 := []) (c2 := 0) (s2 := 0) hF (c_X4_checkLetter G d0 t0 r0 q0 y0 d1 u0 d2 d3 d4 v o x (by first | assumption | omega)) gX4_insert_X4_checkLetter rfl rfl rfl hd_X4_checkLetter ⟨⟨Nat.le_of_ble_eq_true rfl, Nat.le_of_ble_eq_true rfl⟩, ⟨Nat.le_of_ble_eq_true rfl, Nat.le_of_ble_eq_true rfl⟩, Nat.le_of_ble_eq_true rfl⟩ [0] rfl rfl 0 rfl rfl rfl rfl rfl rfl rfl rfl rfl rfl dX4_insert_7 ?_
  refine z_aload_n hF dX4_insert_10 rfl ?_
  refine z_iload_n hF dX4_insert_11 rfl ?_
  refine z_iconst (v := nI 1) hF dX4_insert_12 (by decide) ?_
  refine z_bipush (v := nI 10) hF dX4_insert_13 (by decide) ?_
  refine z_V (As := [.int (nI k), .int (nI 1), .int (nI 10)]) (rest := []) (ws' := [(d0, .inr (4, [.ref t0, .ref r0, .ref q0, .ref y0, .ref d1, .int o, .int (nI v), .ref u0, .ref d2, .ref d3, .ref d4])), (y0, .inr (0, [.ref y1])), (y1, eI G 3600 h), (r0, .inr (2, [.ref r1, .ref r2, .ref r3, .int (nI m)])), (r1, eI G 12 b), (r2, eI G 12 e), (r3, eI G 12 s), (u0, .inr (2, [.ref u1, .ref u2, .ref u3, .int (nI j)])), (u1, eI G 12 b2), (u2, eI G 12 e2), (u3, eI G 12 s2), (t0, .inr (3, [.ref t1, .ref t2, .int (nI n)])), (t1, eI G 60 f), (t2, eI G 60 g)]) (st2 := []) (c2 := 0) (s2 := 0) hF (c_X4_checkAmong G d0 t0 r0 q0 y0 d1 u0 d2 d3 d4 v o k 1 10 (by first | assumption | omega) (by first | assumption | omega) (by first | assumption | omega)) gX4_insert_X4_checkAmong rfl rfl rfl hd_X4_checkAmong ⟨⟨Nat.le_of_ble_eq_true rfl, Nat.le_of_ble_eq_true rfl⟩, ⟨Nat.le_of_ble_eq_true rfl, Nat.le_of_ble_eq_true rfl⟩, Nat.le_of_ble_eq_true rfl⟩ [0] rfl rfl 0 rfl rfl rfl rfl rfl rfl rfl rfl rfl rfl dX4_insert_15 ?_
  refine z_aload_n hF dX4_insert_18 rfl ?_
  refine z_iload_n hF dX4_insert_19 rfl ?_
  refine z_iconst (v := nI 1) hF dX4_insert_20 (by decide) ?_
  refine z_V (As := [.int (nI k), .int (nI 1)]) (rest := []) (ws' := [(d0, .inr (4, [.ref t0, .ref r0, .ref q0, .ref y0, .ref d1, .int o, .int (nI v), .ref u0, .ref d2, .ref d3, .ref d4])), (y0, .inr (0, [.ref y1])), (y1, eI G 3600 h), (r0, .inr (2, [.ref r1, .ref r2, .ref r3, .int (nI m)])), (r1, eI G 12 b), (r2, eI G 12 e), (r3, eI G 12 s), (u0, .inr (2, [.ref u1, .ref u2, .ref u3, .int (nI j)])), (u1, eI G 12 b2), (u2, eI G 12 e2), (u3, eI G 12 s2), (t0, .inr (3, [.ref t1, .ref t2, .int (nI n)])), (t1, eI G 60 f), (t2, eI G 60 g)]) (st2 := []) (c2 := 0) (s2 := 0) hF (c_X4_checkRoom G d0 t0 r0 q0 y0 d1 u0 d2 d3 d4 v o t1 t2 n (nI k) (nI 1) (by rw [nI_add]; exact (nI_leI (by omega) (by omega)).mpr (by omega)) (by rw [nI_add]; exact (nI_leI (by omega) (by omega)).mpr (by omega))) gX4_insert_X4_checkRoom rfl rfl rfl hd_X4_checkRoom ⟨⟨Nat.le_of_ble_eq_true rfl, Nat.le_of_ble_eq_true rfl⟩, ⟨Nat.le_of_ble_eq_true rfl, Nat.le_of_ble_eq_true rfl⟩, Nat.le_of_ble_eq_true rfl⟩ [0, 11] rfl rfl 0 rfl rfl rfl rfl rfl rfl rfl rfl rfl rfl dX4_insert_21 ?_
  refine z_aload_n hF dX4_insert_24 rfl ?_
  refine z_iload_n hF dX4_insert_25 rfl ?_
  refine z_iload_n hF dX4_insert_26 rfl ?_
  refine z_iload_n hF dX4_insert_27 rfl ?_
  refine z_V (As := [.int (nI p), .int (nI x), .int (nI k)]) (rest := []) (ws' := [(d0, .inr (4, [.ref t0, .ref r0, .ref q0, .ref y0, .ref d1, .int o, .int (nI (v + 1)), .ref u0, .ref d2, .ref d3, .ref d4])), (y0, .inr (0, [.ref y1])), (y1, eI G 3600 (wrF h (v * 12) 12 (fun kk => if kk < m then numF (b kk) (e kk) else -1))), (r0, .inr (2, [.ref r1, .ref r2, .ref r3, .int (nI m)])), (r1, eI G 12 (mpF m (insB (nI p) (nI k) b s) b)), (r2, eI G 12 (mpF m (insE (nI p) (nI k) b e s) e)), (r3, eI G 12 s), (u0, .inr (2, [.ref u1, .ref u2, .ref u3, .int (nI j)])), (u1, eI G 12 (mpF j (insB (nI p) (nI k) b2 s2) b2)), (u2, eI G 12 (mpF j (insE (nI p) (nI k) b2 e2 s2) e2)), (u3, eI G 12 s2), (t0, .inr (3, [.ref t1, .ref t2, .int (nI (n + k))])), (t1, eI G 60 (filF (va_cpy f f p (p + k) (n - p)) p (p + k) (nI x))), (t2, eI G 60 (mrkF (filF (va_cpy g g p (p + k) (n - p)) p (p + k) (nI 0)) p (p + k) (covF (mpF m (insB (nI p) (nI k) b s) b) (mpF m (insE (nI p) (nI k) b e s) e) m (nI p))))]) (st2 := []) (c2 := 0) (s2 := 0) hF (c_X4_putLettersIn G d0 t0 r0 q0 y0 d1 u0 d2 d3 d4 v o t1 t2 n f g r1 r2 r3 m b e s y1 h u1 u2 u3 j b2 e2 s2 p k (nI x) (by first | assumption | omega) (by first | assumption | omega) (by first | assumption | omega) (by first | assumption | omega) (by first | assumption | omega)) gX4_insert_X4_putLettersIn rfl rfl rfl hd_X4_putLettersIn ⟨⟨Nat.le_of_ble_eq_true rfl, Nat.le_of_ble_eq_true rfl⟩, ⟨Nat.le_of_ble_eq_true rfl, Nat.le_of_ble_eq_true rfl⟩, Nat.le_of_ble_eq_true rfl⟩ [0, 1, 2, 3, 4, 5, 6, 7, 8, 9, 10, 11, 12, 13] rfl rfl 0 rfl rfl rfl rfl rfl rfl rfl rfl rfl rfl dX4_insert_28 ?_
  refine z_aload_n hF dX4_insert_31 rfl ?_
  refine z_get (C := RX4) (T := TX4) (N := 11) (ci := 4) (v := .ref t0) hF k_0 0 (by decide) rfl k_1 rfl 0 rfl rfl dX4_insert_32 ?_
  refine z_getN (C := RX3) (T := TX3) (N := 3) (ci := 3) (v := .int (nI (n + k))) hF k_2 2 (by decide) rfl k_3 rfl 11 rfl rfl dX4_insert_35 ?_
  exact hR.i dX4_insert_38 (Nat.le_of_ble_eq_true rfl) (Nat.le_of_ble_eq_true rfl) (rfl) (rfl)
set_option maxHeartbeats 4000000 in
set_option maxRecDepth 100000 in
theorem c_X4_insert_3 (G : zG) (d0 t0 r0 q0 y0 d1 u0 d2 d3 d4 v : Nat) (o : Int32) (t1 t2 n : Nat) (f : Nat → Int32) (g : Nat → Int32) (r1 r2 r3 m : Nat) (b : Nat → Int32) (e : Nat → Int32) (s : Nat → Int32) (y1 : Nat) (h : Nat → Int32) (u1 u2 u3 j : Nat) (b2 : Nat → Int32) (e2 : Nat → Int32) (s2 : Nat → Int32) (p x k : Nat) (hn : n ≤ 60) (hm : m ≤ 12) (hj : j ≤ 10) (hv : v < 300) (hp : p ≤ n) (hx : x ≤ 25) (hk1 : 1 ≤ k) (hk2 : k ≤ 10) (hk : 60 < n + k) : zX G yX4_insert wsX4_insert ({ frames := 7, cells := 1, slots := 6, locals := 112 }) [.ref d0, .int (nI p), .int (nI x), .int (nI k)] [(d0, .inr (4, [.ref t0, .ref r0, .ref q0, .ref y0, .ref d1, .int o, .int (nI v), .ref u0, .ref d2, .ref d3, .ref d4])), (y0, .inr (0, [.ref y1])), (y1, eI G 3600 h), (r0, .inr (2, [.ref r1, .ref r2, .ref r3, .int (nI m)])), (r1, eI G 12 b), (r2, eI G 12 e), (r3, eI G 12 s), (u0, .inr (2, [.ref u1, .ref u2, .ref u3, .int (nI j)])), (u1, eI G 12 b2), (u2, eI G 12 e2), (u3, eI G 12 s2), (t0, .inr (3, [.ref t1, .ref t2, .int (nI n)])), (t1, eI G 60 f), (t2, eI G 60 g)] [(d0, .inr (4, [.ref t0, .ref r0, .ref q0, .ref y0, .ref d1, .int o, .int (nI v), .ref u0, .ref d2, .ref d3, .ref d4])), (y0, .inr (0, [.ref y1])), (y1, eI G 3600 h), (r0, .inr (2, [.ref r1, .ref r2, .ref r3, .int (nI m)])), (r1, eI G 12 b), (r2, eI G 12 e), (r3, eI G 12 s), (u0, .inr (2, [.ref u1, .ref u2, .ref u3, .int (nI j)])), (u1, eI G 12 b2), (u2, eI G 12 e2), (u3, eI G 12 s2), (t0, .inr (3, [.ref t1, .ref t2, .int (nI n)])), (t1, eI G 60 f), (t2, eI G 60 g)] 3 (some (.int (nI 0))) 1 6 := by
  refine zX.ofI (own := RX4) (cc := cX4_insert) (maxL := 4) rfl (by decide) rfl rfl (by simp [Value.category]) (Nat.le_of_ble_eq_true rfl) ?_
  intro X hF hZ hR
  refine z_lv (lv' := [some (.ref d0), some (.int (nI p)), some (.int (nI x)), some (.int (nI k))]) rfl ?_
  refine z_aload_n hF dX4_insert_0 rfl ?_
  refine z_iload_n hF dX4_insert_1 rfl ?_
  refine z_V (As := [.int (nI p)]) (rest := []) (ws' := [(d0, .inr (4, [.ref t0, .ref r0, .ref q0, .ref y0, .ref d1, .int o, .int (nI v), .ref u0, .ref d2, .ref d3, .ref d4])), (y0, .inr (0, [.ref y1])), (y1, eI G 3600 h), (r0, .inr (2, [.ref r1, .ref r2, .ref r3, .int (nI m)])), (r1, eI G 12 b), (r2, eI G 12 e), (r3, eI G 12 s), (u0, .inr (2, [.ref u1, .ref u2, .ref u3, .int (nI j)])), (u1, eI G 12 b2), (u2, eI G 12 e2), (u3, eI G 12 s2), (t0, .inr (3, [.ref t1, .ref t2, .int (nI n)])), (t1, eI G 60 f), (t2, eI G 60 g)]) (st2 := []) (c2 := 0) (s2 := 0) hF (c_X4_checkPlace G d0 t0 r0 q0 y0 d1 u0 d2 d3 d4 v o t1 t2 n p (by first | assumption | omega) (by first | assumption | omega)) gX4_insert_X4_checkPlace rfl rfl rfl hd_X4_checkPlace ⟨⟨Nat.le_of_ble_eq_true rfl, Nat.le_of_ble_eq_true rfl⟩, ⟨Nat.le_of_ble_eq_true rfl, Nat.le_of_ble_eq_true rfl⟩, Nat.le_of_ble_eq_true rfl⟩ [0, 11] rfl rfl 0 rfl rfl rfl rfl rfl rfl rfl rfl rfl rfl dX4_insert_2 ?_
  refine z_aload_n hF dX4_insert_5 rfl ?_
  refine z_iload_n hF dX4_insert_6 rfl ?_
  refine z_V (As := [.int (nI x)]) (rest := []) (ws' := [(d0, .inr (4, [.ref t0, .ref r0, .ref q0, .ref y0, .ref d1, .int o, .int (nI v), .ref u0, .ref d2, .ref d3, .ref d4])), (y0, .inr (0, [.ref y1])), (y1, eI G 3600 h), (r0, .inr (2, [.ref r1, .ref r2, .ref r3, .int (nI m)])), (r1, eI G 12 b), (r2, eI G 12 e), (r3, eI G 12 s), (u0, .inr (2, [.ref u1, .ref u2, .ref u3, .int (nI j)])), (u1, eI G 12 b2), (u2, eI G 12 e2), (u3, eI G 12 s2), (t0, .inr (3, [.ref t1, .ref t2, .int (nI n)])), (t1, eI G 60 f), (t2, eI G 60 g)]) (st2 := []) (c2 := 0) (s2 := 0) hF (c_X4_checkLetter G d0 t0 r0 q0 y0 d1 u0 d2 d3 d4 v o x (by first | assumption | omega)) gX4_insert_X4_checkLetter rfl rfl rfl hd_X4_checkLetter ⟨⟨Nat.le_of_ble_eq_true rfl, Nat.le_of_ble_eq_true rfl⟩, ⟨Nat.le_of_ble_eq_true rfl, Nat.le_of_ble_eq_true rfl⟩, Nat.le_of_ble_eq_true rfl⟩ [0] rfl rfl 0 rfl rfl rfl rfl rfl rfl rfl rfl rfl rfl dX4_insert_7 ?_
  refine z_aload_n hF dX4_insert_10 rfl ?_
  refine z_iload_n hF dX4_insert_11 rfl ?_
  refine z_iconst (v := nI 1) hF dX4_insert_12 (by decide) ?_
  refine z_bipush (v := nI 10) hF dX4_insert_13 (by decide) ?_
  refine z_V (As := [.int (nI k), .int (nI 1), .int (nI 10)]) (rest := []) (ws' := [(d0, .inr (4, [.ref t0, .ref r0, .ref q0, .ref y0, .ref d1, .int o, .int (nI v), .ref u0, .ref d2, .ref d3, .ref d4])), (y0, .inr (0, [.ref y1])), (y1, eI G 3600 h), (r0, .inr (2, [.ref r1, .ref r2, .ref r3, .int (nI m)])), (r1, eI G 12 b), (r2, eI G 12 e), (r3, eI G 12 s), (u0, .inr (2, [.ref u1, .ref u2, .ref u3, .int (nI j)])), (u1, eI G 12 b2), (u2, eI G 12 e2), (u3, eI G 12 s2), (t0, .inr (3, [.ref t1, .ref t2, .int (nI n)])), (t1, eI G 60 f), (t2, eI G 60 g)]) (st2 := []) (c2 := 0) (s2 := 0) hF (c_X4_checkAmong G d0 t0 r0 q0 y0 d1 u0 d2 d3 d4 v o k 1 10 (by first | assumption | omega) (by first | assumption | omega) (by first | assumption | omega)) gX4_insert_X4_checkAmong rfl rfl rfl hd_X4_checkAmong ⟨⟨Nat.le_of_ble_eq_true rfl, Nat.le_of_ble_eq_true rfl⟩, ⟨Nat.le_of_ble_eq_true rfl, Nat.le_of_ble_eq_true rfl⟩, Nat.le_of_ble_eq_true rfl⟩ [0] rfl rfl 0 rfl rfl rfl rfl rfl rfl rfl rfl rfl rfl dX4_insert_15 ?_
  refine z_aload_n hF dX4_insert_18 rfl ?_
  refine z_iload_n hF dX4_insert_19 rfl ?_
  refine z_iconst (v := nI 1) hF dX4_insert_20 (by decide) ?_
  refine z_Vx (As := [.int (nI k), .int (nI 1)]) (rest := []) (ws' := [(d0, .inr (4, [.ref t0, .ref r0, .ref q0, .ref y0, .ref d1, .int o, .int (nI v), .ref u0, .ref d2, .ref d3, .ref d4])), (y0, .inr (0, [.ref y1])), (y1, eI G 3600 h), (r0, .inr (2, [.ref r1, .ref r2, .ref r3, .int (nI m)])), (r1, eI G 12 b), (r2, eI G 12 e), (r3, eI G 12 s), (u0, .inr (2, [.ref u1, .ref u2, .ref u3, .int (nI j)])), (u1, eI G 12 b2), (u2, eI G 12 e2), (u3, eI G 12 s2), (t0, .inr (3, [.ref t1, .ref t2, .int (nI n)])), (t1, eI G 60 f), (t2, eI G 60 g)]) (st2 := []) (c2 := 1) (s2 := 6) hF (c_X4_checkRoom_3 G d0 t0 r0 q0 y0 d1 u0 d2 d3 d4 v o t1 t2 n (nI k) (nI 1) (by rw [nI_add]; exact fun z => absurd ((nI_leI (by omega) (by omega)).mp z) (by omega))) gX4_insert_X4_checkRoom rfl rfl rfl hd_X4_checkRoom ⟨⟨Nat.le_of_ble_eq_true rfl, Nat.le_of_ble_eq_true rfl⟩, ⟨Nat.le_of_ble_eq_true rfl, Nat.le_of_ble_eq_true rfl⟩, Nat.le_of_ble_eq_true rfl⟩ [0, 11] rfl rfl 0 rfl rfl rfl rfl rfl rfl rfl rfl rfl rfl rfl rfl dX4_insert_21 (fun h3 => hZ.x (Nat.le_of_ble_eq_true rfl) (Nat.le_of_ble_eq_true rfl) (fun _ => rfl) h3 rfl) (fun h3 => ?_)
  exact absurd h3 (by decide)
