set_option maxHeartbeats 4000000 in
set_option maxRecDepth 100000 in
theorem c_X3_hasLetterBehind (G : zG) (t0 t1 t2 n : Nat) (p : Int32) (hn : n ≤ 60) : zM G yX3_hasLetterBehind wsX3_hasLetterBehind ({ frames := 0, cells := 0, slots := 0, locals := 12 }) [.ref t0, .int p] [(t0, .inr (3, [.ref t1, .ref t2, .int (nI n)]))] [(t0, .inr (3, [.ref t1, .ref t2, .int (nI n)]))] (some (.int (zb (0 ≤ p ∧ p < nI n)))) 0 0 := by
  refine zM.ofI (own := RX3) (cc := cX3_hasLetterBehind) (maxL := 2) rfl (by decide) rfl zb_nar (by simp [Value.category]) (Nat.le_of_ble_eq_true rfl) ?_
  intro X hF hR
  have k_0 : ∀ w ∈ wsX30, w ∈ wsX3_hasLetterBehind := by decide +kernel
  have k_1 : zH X (.fieldLink RX3 18 "MarginDesk$Text" "size" "I") := hF.w (by decide +kernel)
  refine z_lv (lv' := [some (.ref t0), some (.int p)]) rfl ?_
  refine z_iload_n hF dX3_hasLetterBehind_0 rfl ?_
  refine z_if_lt (tgt := 16) hF dX3_hasLetterBehind_1 (by decide) (fun c_1 => ?_) (fun c_1 => ?_)
  · refine z_iconst (v := nI 0) hF dX3_hasLetterBehind_16 (by decide) ?_
    exact hR.i dX3_hasLetterBehind_17 (Nat.le_of_ble_eq_true rfl) (Nat.le_of_ble_eq_true rfl) (rfl) (by first | exact zb1 (by grind) | exact zb0 (by grind))
  · refine z_iload_n hF dX3_hasLetterBehind_4 rfl ?_
    refine z_aload_n hF dX3_hasLetterBehind_5 rfl ?_
    refine z_get (C := RX3) (T := TX3) (N := 3) (ci := 3) (v := .int (nI n)) hF k_0 2 (by decide) rfl k_1 rfl 0 rfl rfl dX3_hasLetterBehind_6 ?_
    refine z_ic_ge (tgt := 16) hF dX3_hasLetterBehind_9 (by decide) (fun c_2 => ?_) (fun c_2 => ?_)
    · refine z_iconst (v := nI 0) hF dX3_hasLetterBehind_16 (by decide) ?_
      exact hR.i dX3_hasLetterBehind_17 (Nat.le_of_ble_eq_true rfl) (Nat.le_of_ble_eq_true rfl) (rfl) (by first | exact zb1 (by grind) | exact zb0 (by grind))
    · refine z_iconst (v := nI 1) hF dX3_hasLetterBehind_12 (by decide) ?_
      refine z_goto (tgt := 17) hF dX3_hasLetterBehind_13 (by decide) ?_
      exact hR.i dX3_hasLetterBehind_17 (Nat.le_of_ble_eq_true rfl) (Nat.le_of_ble_eq_true rfl) (rfl) (by first | exact zb1 (by grind) | exact zb0 (by grind))
set_option maxHeartbeats 4000000 in
set_option maxRecDepth 100000 in
theorem c_X3_letterBehind (G : zG) (t0 t1 t2 n : Nat) (f : Nat → Int32) (p : Int32) (hn : n ≤ 60) : zM G yX3_letterBehind wsX3_letterBehind ({ frames := 1, cells := 0, slots := 0, locals := 33 }) [.ref t0, .int p] [(t0, .inr (3, [.ref t1, .ref t2, .int (nI n)])), (t1, eI G 60 f)] [(t0, .inr (3, [.ref t1, .ref t2, .int (nI n)])), (t1, eI G 60 f)] (some (.int (letF n f p))) 0 0 := by
  refine zM.ofI (own := RX3) (cc := cX3_letterBehind) (maxL := 2) rfl (by decide) rfl rfl (by simp [Value.category]) (Nat.le_of_ble_eq_true rfl) ?_
  intro X hF hR
  have k_0 : ∀ w ∈ wsX30, w ∈ wsX3_letterBehind := by decide +kernel
  have k_1 : zH X (.fieldLink RX3 9 "MarginDesk$Text" "letters" "[I") := hF.w (by decide +kernel)
  refine z_lv (lv' := [some (.ref t0), some (.int p)]) rfl ?_
  refine z_aload_n hF dX3_letterBehind_0 rfl ?_
  refine z_iload_n hF dX3_letterBehind_1 rfl ?_
  refine z_V (As := [.int p]) (rest := []) (ws' := [(t0, .inr (3, [.ref t1, .ref t2, .int (nI n)])), (t1, eI G 60 f)]) (st2 := [.int (zb (0 ≤ p ∧ p < nI n))]) (c2 := 0) (s2 := 0) hF (c_X3_hasLetterBehind G t0 t1 t2 n p (by first | assumption | omega)) gX3_letterBehind_X3_hasLetterBehind rfl rfl rfl hd_X3_hasLetterBehind ⟨⟨Nat.le_of_ble_eq_true rfl, Nat.le_of_ble_eq_true rfl⟩, ⟨Nat.le_of_ble_eq_true rfl, Nat.le_of_ble_eq_true rfl⟩, Nat.le_of_ble_eq_true rfl⟩ [0] rfl rfl 0 rfl rfl rfl rfl rfl rfl rfl rfl rfl rfl dX3_letterBehind_2 ?_
  refine z_if_eq_b (tgt := 17) hF dX3_letterBehind_5 (by decide) (fun hc => ?_) (fun hc => ?_)
  · refine z_iconst (v := -1) hF dX3_letterBehind_17 (by decide) ?_
    exact hR.i dX3_letterBehind_18 (Nat.le_of_ble_eq_true rfl) (Nat.le_of_ble_eq_true rfl) (rfl) (by simp [letF, hc])
  · refine z_aload_n hF dX3_letterBehind_8 rfl ?_
    refine z_get (C := RX3) (T := TX3) (N := 3) (ci := 3) (v := .ref t1) hF k_0 0 (by decide) rfl k_1 rfl 0 rfl rfl dX3_letterBehind_9 ?_
    refine z_iload_n hF dX3_letterBehind_12 rfl ?_
    refine z_iald (k := p.toNatClampNeg) hF 1 rfl ((zix (by grind) hc.2 (by omega)).1) (Nat.lt_of_lt_of_le (zix (by grind) hc.2 (by omega)).2 hn) rfl dX3_letterBehind_13 ?_
    refine z_goto (tgt := 18) hF dX3_letterBehind_14 (by decide) ?_
    exact hR.i dX3_letterBehind_18 (Nat.le_of_ble_eq_true rfl) (Nat.le_of_ble_eq_true rfl) (rfl) (by simp [letF, hc])
set_option maxHeartbeats 4000000 in
set_option maxRecDepth 100000 in
theorem c_X3_marksBehind (G : zG) (t0 t1 t2 n : Nat) (g : Nat → Int32) (p : Int32) (hn : n ≤ 60) : zM G yX3_marksBehind wsX3_marksBehind ({ frames := 1, cells := 0, slots := 0, locals := 33 }) [.ref t0, .int p] [(t0, .inr (3, [.ref t1, .ref t2, .int (nI n)])), (t2, eI G 60 g)] [(t0, .inr (3, [.ref t1, .ref t2, .int (nI n)])), (t2, eI G 60 g)] (some (.int (marF n g p))) 0 0 := by
  refine zM.ofI (own := RX3) (cc := cX3_marksBehind) (maxL := 2) rfl (by decide) rfl rfl (by simp [Value.category]) (Nat.le_of_ble_eq_true rfl) ?_
  intro X hF hR
  have k_0 : ∀ w ∈ wsX30, w ∈ wsX3_marksBehind := by decide +kernel
  have k_1 : zH X (.fieldLink RX3 15 "MarginDesk$Text" "marks" "[I") := hF.w (by decide +kernel)
  refine z_lv (lv' := [some (.ref t0), some (.int p)]) rfl ?_
  refine z_aload_n hF dX3_marksBehind_0 rfl ?_
  refine z_iload_n hF dX3_marksBehind_1 rfl ?_
  refine z_V (As := [.int p]) (rest := []) (ws' := [(t0, .inr (3, [.ref t1, .ref t2, .int (nI n)])), (t2, eI G 60 g)]) (st2 := [.int (zb (0 ≤ p ∧ p < nI n))]) (c2 := 0) (s2 := 0) hF (c_X3_hasLetterBehind G t0 t1 t2 n p (by first | assumption | omega)) gX3_marksBehind_X3_hasLetterBehind rfl rfl rfl hd_X3_hasLetterBehind ⟨⟨Nat.le_of_ble_eq_true rfl, Nat.le_of_ble_eq_true rfl⟩, ⟨Nat.le_of_ble_eq_true rfl, Nat.le_of_ble_eq_true rfl⟩, Nat.le_of_ble_eq_true rfl⟩ [0] rfl rfl 0 rfl rfl rfl rfl rfl rfl rfl rfl rfl rfl dX3_marksBehind_2 ?_
  refine z_if_eq_b (tgt := 17) hF dX3_marksBehind_5 (by decide) (fun hc => ?_) (fun hc => ?_)
  · refine z_iconst (v := nI 0) hF dX3_marksBehind_17 (by decide) ?_
    exact hR.i dX3_marksBehind_18 (Nat.le_of_ble_eq_true rfl) (Nat.le_of_ble_eq_true rfl) (rfl) (by simp [marF, hc, nI_0])
  · refine z_aload_n hF dX3_marksBehind_8 rfl ?_
    refine z_get (C := RX3) (T := TX3) (N := 3) (ci := 3) (v := .ref t2) hF k_0 1 (by decide) rfl k_1 rfl 0 rfl rfl dX3_marksBehind_9 ?_
    refine z_iload_n hF dX3_marksBehind_12 rfl ?_
    refine z_iald (k := p.toNatClampNeg) hF 1 rfl ((zix (by grind) hc.2 (by omega)).1) (Nat.lt_of_lt_of_le (zix (by grind) hc.2 (by omega)).2 hn) rfl dX3_marksBehind_13 ?_
    refine z_goto (tgt := 18) hF dX3_marksBehind_14 (by decide) ?_
    exact hR.i dX3_marksBehind_18 (Nat.le_of_ble_eq_true rfl) (Nat.le_of_ble_eq_true rfl) (rfl) (by simp [marF, hc, nI_0])
set_option maxHeartbeats 4000000 in
set_option maxRecDepth 100000 in
theorem c_X3_moveTail (G : zG) (t0 t1 t2 n : Nat) (a b : Nat) (f g : Nat → Int32) (hn : n ≤ 60) (ha : a ≤ n) (hb : b + (n - a) ≤ 60) : zM G yX3_moveTail wsX3_moveTail ({ frames := 1, cells := 0, slots := 0, locals := 40 }) [.ref t0, .int (nI a), .int (nI b)] [(t0, .inr (3, [.ref t1, .ref t2, .int (nI n)])), (t1, eI G 60 f), (t2, eI G 60 g)] [(t0, .inr (3, [.ref t1, .ref t2, .int (nI (b + (n - a)))])), (t1, eI G 60 (va_cpy f f a b (n - a))), (t2, eI G 60 (va_cpy g g a b (n - a)))] none 0 0 := by
  refine zM.ofV (own := RX3) (cc := cX3_moveTail) (maxL := 4) rfl (by decide) rfl (by simp [Value.category]) (Nat.le_of_ble_eq_true rfl) ?_
  intro X hF hR
  have k_0 : ∀ w ∈ wsX30, w ∈ wsX3_moveTail := by decide +kernel
  have k_1 : zH X (.fieldLink RX3 18 "MarginDesk$Text" "size" "I") := hF.w (by decide +kernel)
  have k_2 : zH X (.fieldLink RX3 9 "MarginDesk$Text" "letters" "[I") := hF.w (by decide +kernel)
  have k_3 : zH X (.methodLink RX3 36 arraycopyName) := hF.w (by decide +kernel)
  have k_4 : zH X (.native arraycopyName) := hF.w (by decide +kernel)
  have k_5 : zH X (.static arraycopyName) := hF.w (by decide +kernel)
  have k_6 : zH X (.initialized "java/lang/System") := hF.w (by decide +kernel)
  have k_7 : zH X (.fieldLink RX3 15 "MarginDesk$Text" "marks" "[I") := hF.w (by decide +kernel)
  refine z_lv (lv' := [some (.ref t0), some (.int (nI a)), some (.int (nI b)), none]) rfl ?_
  refine z_aload_n hF dX3_moveTail_0 rfl ?_
  refine z_get (C := RX3) (T := TX3) (N := 3) (ci := 3) (v := .int (nI n)) hF k_0 2 (by decide) rfl k_1 rfl 0 rfl rfl dX3_moveTail_1 ?_
  refine z_iload_n hF dX3_moveTail_4 rfl ?_
  refine z_isub hF dX3_moveTail_5 ?_
  refine z_top (pk_sub (by omega)) ?_
  refine z_istore_n (lv' := [some (.ref t0), some (.int (nI a)), some (.int (nI b)), some (.int (nI (n - a)))]) hF dX3_moveTail_6 rfl rfl ?_
  refine z_aload_n hF dX3_moveTail_7 rfl ?_
  refine z_get (C := RX3) (T := TX3) (N := 3) (ci := 3) (v := .ref t1) hF k_0 0 (by decide) rfl k_2 rfl 0 rfl rfl dX3_moveTail_8 ?_
  refine z_iload_n hF dX3_moveTail_11 rfl ?_
  refine z_aload_n hF dX3_moveTail_12 rfl ?_
  refine z_get (C := RX3) (T := TX3) (N := 3) (ci := 3) (v := .ref t1) hF k_0 0 (by decide) rfl k_2 rfl 0 rfl rfl dX3_moveTail_13 ?_
  refine z_iload_n hF dX3_moveTail_16 rfl ?_
  refine z_iload_n hF dX3_moveTail_17 rfl ?_
  refine z_copy (sp := a) (dp := b) (n := n - a) (ws' := [(t0, .inr (3, [.ref t1, .ref t2, .int (nI n)])), (t1, eI G 60 (va_cpy f f a b (n - a))), (t2, eI G 60 g)]) hF 1 1 k_3 k_4 k_5 k_6 rfl rfl (rfl) (rfl) (rfl) (by omega) (by omega) rfl rfl rfl rfl dX3_moveTail_18 ?_
  refine z_aload_n hF dX3_moveTail_21 rfl ?_
  refine z_get (C := RX3) (T := TX3) (N := 3) (ci := 3) (v := .ref t2) hF k_0 1 (by decide) rfl k_7 rfl 0 rfl rfl dX3_moveTail_22 ?_
  refine z_iload_n hF dX3_moveTail_25 rfl ?_
  refine z_aload_n hF dX3_moveTail_26 rfl ?_
  refine z_get (C := RX3) (T := TX3) (N := 3) (ci := 3) (v := .ref t2) hF k_0 1 (by decide) rfl k_7 rfl 0 rfl rfl dX3_moveTail_27 ?_
  refine z_iload_n hF dX3_moveTail_30 rfl ?_
  refine z_iload_n hF dX3_moveTail_31 rfl ?_
  refine z_copy (sp := a) (dp := b) (n := n - a) (ws' := [(t0, .inr (3, [.ref t1, .ref t2, .int (nI n)])), (t1, eI G 60 (va_cpy f f a b (n - a))), (t2, eI G 60 (va_cpy g g a b (n - a)))]) hF 2 2 k_3 k_4 k_5 k_6 rfl rfl (rfl) (rfl) (rfl) (by omega) (by omega) rfl rfl rfl rfl dX3_moveTail_32 ?_
  refine z_aload_n hF dX3_moveTail_35 rfl ?_
  refine z_iload_n hF dX3_moveTail_36 rfl ?_
  refine z_iload_n hF dX3_moveTail_37 rfl ?_
  refine z_iadd hF dX3_moveTail_38 ?_
  refine z_top (nI_add b (n - a)) ?_
  refine z_put (C := RX3) (T := TX3) (N := 3) (ci := 3) (ws' := [(t0, .inr (3, [.ref t1, .ref t2, .int (nI (b + (n - a)))])), (t1, eI G 60 (va_cpy f f a b (n - a))), (t2, eI G 60 (va_cpy g g a b (n - a)))]) hF k_0 tyX3 tyX3_ok nmX3 2 (by decide) rfl k_1 rfl rfl rfl rfl 0 rfl rfl rfl dX3_moveTail_39 ?_
  exact hR.v dX3_moveTail_42 (Nat.le_of_ble_eq_true rfl) (Nat.le_of_ble_eq_true rfl) (rfl)
set_option maxHeartbeats 4000000 in
set_option maxRecDepth 100000 in
theorem c_X3_putIn (G : zG) (t0 t1 t2 n : Nat) (p k : Nat) (f g : Nat → Int32) (x : Int32) (hp : p ≤ n) (hk : n + k ≤ 60) : zM G yX3_putIn wsX3_putIn ({ frames := 2, cells := 0, slots := 0, locals := 63 }) [.ref t0, .int (nI p), .int x, .int (nI k)] [(t0, .inr (3, [.ref t1, .ref t2, .int (nI n)])), (t1, eI G 60 f), (t2, eI G 60 g)] [(t0, .inr (3, [.ref t1, .ref t2, .int (nI (n + k))])), (t1, eI G 60 (filF (va_cpy f f p (p + k) (n - p)) p (p + k) x)), (t2, eI G 60 (filF (va_cpy g g p (p + k) (n - p)) p (p + k) (nI 0)))] none 0 0 := by
  refine zM.ofV (own := RX3) (cc := cX3_putIn) (maxL := 4) rfl (by decide) rfl (by simp [Value.category]) (Nat.le_of_ble_eq_true rfl) ?_
  intro X hF hR
  have k_0 : ∀ w ∈ wsX30, w ∈ wsX3_putIn := by decide +kernel
  have k_1 : zH X (.fieldLink RX3 9 "MarginDesk$Text" "letters" "[I") := hF.w (by decide +kernel)
  have k_2 : zH X (.fieldLink RX3 15 "MarginDesk$Text" "marks" "[I") := hF.w (by decide +kernel)
  refine z_lv (lv' := [some (.ref t0), some (.int (nI p)), some (.int x), some (.int (nI k))]) rfl ?_
  refine z_aload_n hF dX3_putIn_0 rfl ?_
  refine z_iload_n hF dX3_putIn_1 rfl ?_
  refine z_iload_n hF dX3_putIn_2 rfl ?_
  refine z_iload_n hF dX3_putIn_3 rfl ?_
  refine z_iadd hF dX3_putIn_4 ?_
  refine z_top (nI_add p k) ?_
  refine z_V (As := [.int (nI p), .int (nI (p + k))]) (rest := []) (ws' := [(t0, .inr (3, [.ref t1, .ref t2, .int (nI ((p + k) + (n - p)))])), (t1, eI G 60 (va_cpy f f p (p + k) (n - p))), (t2, eI G 60 (va_cpy g g p (p + k) (n - p)))]) (st2 := []) (c2 := 0) (s2 := 0) hF (c_X3_moveTail G t0 t1 t2 n p (p + k) f g (by first | assumption | omega) (by first | assumption | omega) (by first | assumption | omega)) gX3_putIn_X3_moveTail rfl rfl rfl hd_X3_moveTail ⟨⟨Nat.le_of_ble_eq_true rfl, Nat.le_of_ble_eq_true rfl⟩, ⟨Nat.le_of_ble_eq_true rfl, Nat.le_of_ble_eq_true rfl⟩, Nat.le_of_ble_eq_true rfl⟩ [0, 1, 2] rfl rfl 0 rfl rfl rfl rfl rfl rfl rfl rfl rfl rfl dX3_putIn_5 ?_
  refine z_ws (ws' := [(t0, .inr (3, [.ref t1, .ref t2, .int (nI (n + k))])), (t1, eI G 60 (va_cpy f f p (p + k) (n - p))), (t2, eI G 60 (va_cpy g g p (p + k) (n - p)))]) (by rw [show p + k + (n - p) = n + k by omega]) ?_
  refine z_aload_n hF dX3_putIn_8 rfl ?_
  refine z_get (C := RX3) (T := TX3) (N := 3) (ci := 3) (v := .ref t1) hF k_0 0 (by decide) rfl k_1 rfl 0 rfl rfl dX3_putIn_9 ?_
  refine z_iload_n hF dX3_putIn_12 rfl ?_
  refine z_iload_n hF dX3_putIn_13 rfl ?_
  refine z_iload_n hF dX3_putIn_14 rfl ?_
  refine z_iadd hF dX3_putIn_15 ?_
  refine z_top (nI_add p k) ?_
  refine z_iload_n hF dX3_putIn_16 rfl ?_
  refine z_S (As := [.ref t1, .int (nI p), .int (nI (p + k)), .int x]) (rest := []) (ws' := [(t0, .inr (3, [.ref t1, .ref t2, .int (nI (n + k))])), (t1, eI G 60 (filF (va_cpy f f p (p + k) (n - p)) p (p + k) x)), (t2, eI G 60 (va_cpy g g p (p + k) (n - p)))]) (st2 := []) (c2 := 0) (s2 := 0) hF (c_J7_fill_fda19 G t1 p (p + k) (va_cpy f f p (p + k) (n - p)) x (by first | assumption | omega) (by first | assumption | omega)) gX3_putIn_J7_fill_fda19 rfl rfl rfl hs_J7_fill_fda19 ⟨⟨Nat.le_of_ble_eq_true rfl, Nat.le_of_ble_eq_true rfl⟩, ⟨Nat.le_of_ble_eq_true rfl, Nat.le_of_ble_eq_true rfl⟩, Nat.le_of_ble_eq_true rfl⟩ [1] rfl rfl rfl rfl rfl rfl rfl rfl rfl rfl dX3_putIn_17 ?_
  refine z_aload_n hF dX3_putIn_20 rfl ?_
  refine z_get (C := RX3) (T := TX3) (N := 3) (ci := 3) (v := .ref t2) hF k_0 1 (by decide) rfl k_2 rfl 0 rfl rfl dX3_putIn_21 ?_
  refine z_iload_n hF dX3_putIn_24 rfl ?_
  refine z_iload_n hF dX3_putIn_25 rfl ?_
  refine z_iload_n hF dX3_putIn_26 rfl ?_
  refine z_iadd hF dX3_putIn_27 ?_
  refine z_top (nI_add p k) ?_
  refine z_iconst (v := nI 0) hF dX3_putIn_28 (by decide) ?_
  refine z_S (As := [.ref t2, .int (nI p), .int (nI (p + k)), .int (nI 0)]) (rest := []) (ws' := [(t0, .inr (3, [.ref t1, .ref t2, .int (nI (n + k))])), (t1, eI G 60 (filF (va_cpy f f p (p + k) (n - p)) p (p + k) x)), (t2, eI G 60 (filF (va_cpy g g p (p + k) (n - p)) p (p + k) (nI 0)))]) (st2 := []) (c2 := 0) (s2 := 0) hF (c_J7_fill_fda19 G t2 p (p + k) (va_cpy g g p (p + k) (n - p)) (nI 0) (by first | assumption | omega) (by first | assumption | omega)) gX3_putIn_J7_fill_fda19 rfl rfl rfl hs_J7_fill_fda19 ⟨⟨Nat.le_of_ble_eq_true rfl, Nat.le_of_ble_eq_true rfl⟩, ⟨Nat.le_of_ble_eq_true rfl, Nat.le_of_ble_eq_true rfl⟩, Nat.le_of_ble_eq_true rfl⟩ [2] rfl rfl rfl rfl rfl rfl rfl rfl rfl rfl dX3_putIn_29 ?_
  exact hR.v dX3_putIn_32 (Nat.le_of_ble_eq_true rfl) (Nat.le_of_ble_eq_true rfl) (rfl)
set_option maxHeartbeats 4000000 in
set_option maxRecDepth 100000 in
theorem c_X3_takeOut (G : zG) (t0 t1 t2 n : Nat) (p k : Nat) (f g : Nat → Int32) (hn : n ≤ 60) (hp : p + k ≤ n) : zM G yX3_takeOut wsX3_takeOut ({ frames := 2, cells := 0, slots := 0, locals := 63 }) [.ref t0, .int (nI p), .int (nI k)] [(t0, .inr (3, [.ref t1, .ref t2, .int (nI n)])), (t1, eI G 60 f), (t2, eI G 60 g)] [(t0, .inr (3, [.ref t1, .ref t2, .int (nI (n - k))])), (t1, eI G 60 (va_cpy f f (p + k) p (n - (p + k)))), (t2, eI G 60 (va_cpy g g (p + k) p (n - (p + k))))] none 0 0 := by
  refine zM.ofV (own := RX3) (cc := cX3_takeOut) (maxL := 3) rfl (by decide) rfl (by simp [Value.category]) (Nat.le_of_ble_eq_true rfl) ?_
  intro X hF hR
  refine z_lv (lv' := [some (.ref t0), some (.int (nI p)), some (.int (nI k))]) rfl ?_
  refine z_aload_n hF dX3_takeOut_0 rfl ?_
  refine z_iload_n hF dX3_takeOut_1 rfl ?_
  refine z_iload_n hF dX3_takeOut_2 rfl ?_
  refine z_iadd hF dX3_takeOut_3 ?_
  refine z_top (nI_add p k) ?_
  refine z_iload_n hF dX3_takeOut_4 rfl ?_
  refine z_V (As := [.int (nI (p + k)), .int (nI p)]) (rest := []) (ws' := [(t0, .inr (3, [.ref t1, .ref t2, .int (nI (p + (n - (p + k))))])), (t1, eI G 60 (va_cpy f f (p + k) p (n - (p + k)))), (t2, eI G 60 (va_cpy g g (p + k) p (n - (p + k))))]) (st2 := []) (c2 := 0) (s2 := 0) hF (c_X3_moveTail G t0 t1 t2 n (p + k) p f g (by first | assumption | omega) (by first | assumption | omega) (by first | assumption | omega)) gX3_takeOut_X3_moveTail rfl rfl rfl hd_X3_moveTail ⟨⟨Nat.le_of_ble_eq_true rfl, Nat.le_of_ble_eq_true rfl⟩, ⟨Nat.le_of_ble_eq_true rfl, Nat.le_of_ble_eq_true rfl⟩, Nat.le_of_ble_eq_true rfl⟩ [0, 1, 2] rfl rfl 0 rfl rfl rfl rfl rfl rfl rfl rfl rfl rfl dX3_takeOut_5 ?_
  refine z_ws (ws' := [(t0, .inr (3, [.ref t1, .ref t2, .int (nI (n - k))])), (t1, eI G 60 (va_cpy f f (p + k) p (n - (p + k)))), (t2, eI G 60 (va_cpy g g (p + k) p (n - (p + k))))]) (by rw [show p + (n - (p + k)) = n - k by omega]) ?_
  exact hR.v dX3_takeOut_8 (Nat.le_of_ble_eq_true rfl) (Nat.le_of_ble_eq_true rfl) (rfl)
set_option maxHeartbeats 4000000 in
set_option maxRecDepth 100000 in
theorem c_X3_mark (G : zG) (t0 t1 t2 n : Nat) (a b : Nat) (g : Nat → Int32) (x : Int32) (hab : a ≤ b) (hb : b ≤ 60) : zM G yX3_mark wsX3_mark ({ frames := 0, cells := 0, slots := 0, locals := 12 }) [.ref t0, .int (nI a), .int (nI b), .int x] [(t0, .inr (3, [.ref t1, .ref t2, .int (nI n)])), (t2, eI G 60 g)] [(t0, .inr (3, [.ref t1, .ref t2, .int (nI n)])), (t2, eI G 60 (mrkF g a b x))] none 0 0 := by
  refine zM.ofV (own := RX3) (cc := cX3_mark) (maxL := 5) rfl (by decide) rfl (by simp [Value.category]) (Nat.le_of_ble_eq_true rfl) ?_
  intro X hF hR
  have k_0 : ∀ w ∈ wsX30, w ∈ wsX3_mark := by decide +kernel
  have k_1 : zH X (.fieldLink RX3 15 "MarginDesk$Text" "marks" "[I") := hF.w (by decide +kernel)
  refine z_lv (lv' := [some (.ref t0), some (.int (nI a)), some (.int (nI b)), some (.int x), none]) rfl ?_
  refine z_iload_n hF dX3_mark_0 rfl ?_
  refine z_istore (lv' := [some (.ref t0), some (.int (nI a)), some (.int (nI b)), some (.int x), some (.int (nI a))]) hF dX3_mark_1 rfl rfl ?_
  refine z_ws (ws' := [(t0, .inr (3, [.ref t1, .ref t2, .int (nI n)])), (t2, eI G 60 (mrkF g a a x))]) (by rw [mrkF_0 g x (Nat.le_refl a)]) ?_
  have J_3 : ∀ (n9 : Nat) (i : Nat), b - i < n9 → (a ≤ i) → (i ≤ b) → zJ G X 3 [(t0, .inr (3, [.ref t1, .ref t2, .int (nI n)])), (t2, eI G 60 (mrkF g a i x))] [some (.ref t0), some (.int (nI a)), some (.int (nI b)), some (.int x), some (.int (nI i))] [] 0 0 := by
    intro n9
    induction n9 with
    | zero => intro i hmu; exact absurd hmu (Nat.not_lt_zero _)
    | succ n9 ih =>
      intro i hmu h1 h2
      refine z_iload hF dX3_mark_3 rfl ?_
      refine z_iload_n hF dX3_mark_5 rfl ?_
      refine z_icn_ge (tgt := 26) hF (by omega) (by omega) dX3_mark_6 (by decide) (fun c_1 => ?_) (fun c_1 => ?_)
      · exact hR.v dX3_mark_26 (Nat.le_of_ble_eq_true rfl) (Nat.le_of_ble_eq_true rfl) (by rw [show i = b by omega])
      · refine z_aload_n hF dX3_mark_9 rfl ?_
        refine z_get (C := RX3) (T := TX3) (N := 3) (ci := 3) (v := .ref t2) hF k_0 1 (by decide) rfl k_1 rfl 0 rfl rfl dX3_mark_10 ?_
        refine z_iload hF dX3_mark_13 rfl ?_
        refine z_dup2 hF dX3_mark_15 rfl rfl ?_
        refine z_iald (k := i) hF 1 rfl (rfl) (by omega) rfl dX3_mark_16 ?_
        refine z_top (y := g i) (mrkF_at g a i x) ?_
        refine z_iload_n hF dX3_mark_17 rfl ?_
        refine z_ior hF dX3_mark_18 ?_
        refine z_iast (k := i) (ws' := [(t0, .inr (3, [.ref t1, .ref t2, .int (nI n)])), (t2, eI G 60 (upd (mrkF g a i x) i ((g i) ||| x)))]) hF 1 rfl (rfl) (by omega) rfl rfl dX3_mark_19 ?_
        refine z_ws (ws' := [(t0, .inr (3, [.ref t1, .ref t2, .int (nI n)])), (t2, eI G 60 (mrkF g a (i + 1) x))]) (by rw [mrkF_up g x (by omega)]) ?_
        refine z_iinc (v := nI (i + 1)) (lv' := [some (.ref t0), some (.int (nI a)), some (.int (nI b)), some (.int x), some (.int (nI (i + 1)))]) hF dX3_mark_20 rfl (nI_1 i) rfl rfl ?_
        refine z_goto (tgt := 3) hF dX3_mark_23 (by decide) ?_
        exact ih (i + 1) (by omega) (by omega) (by omega)
  exact J_3 ((b - a) + 1) a (Nat.lt_succ_self _) (by omega) (by omega)
