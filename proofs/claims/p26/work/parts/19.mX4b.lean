set_option maxHeartbeats 4000000 in
set_option maxRecDepth 100000 in
theorem c_X4_leaveVersion (G : zG) (d0 t0 r0 q0 y0 d1 u0 d2 d3 d4 v : Nat) (o : Int32) (r1 r2 r3 m : Nat) (b : Nat → Int32) (e : Nat → Int32) (y1 : Nat) (h : Nat → Int32) (hv : v < 300) (hm : m ≤ 12) : zM G yX4_leaveVersion wsX4_leaveVersion ({ frames := 3, cells := 0, slots := 0, locals := 78 }) [.ref d0] [(d0, .inr (4, [.ref t0, .ref r0, .ref q0, .ref y0, .ref d1, .int o, .int (nI v), .ref u0, .ref d2, .ref d3, .ref d4])), (y0, .inr (0, [.ref y1])), (y1, eI G 3600 h), (r0, .inr (2, [.ref r1, .ref r2, .ref r3, .int (nI m)])), (r1, eI G 12 b), (r2, eI G 12 e)] [(d0, .inr (4, [.ref t0, .ref r0, .ref q0, .ref y0, .ref d1, .int o, .int (nI (v + 1)), .ref u0, .ref d2, .ref d3, .ref d4])), (y0, .inr (0, [.ref y1])), (y1, eI G 3600 (wrF h (v * 12) 12 (fun kk => if kk < m then numF (b kk) (e kk) else -1))), (r0, .inr (2, [.ref r1, .ref r2, .ref r3, .int (nI m)])), (r1, eI G 12 b), (r2, eI G 12 e)] none 0 0 := by
  refine zM.ofV (own := RX4) (cc := cX4_leaveVersion) (maxL := 1) rfl (by decide) rfl (by simp [Value.category]) (Nat.le_of_ble_eq_true rfl) ?_
  intro X hF hR
  have k_0 : ∀ w ∈ wsX40, w ∈ wsX4_leaveVersion := by decide +kernel
  have k_1 : zH X (.fieldLink RX4 33 "MarginDesk" "history" "LMarginDesk$History;") := hF.w (by decide +kernel)
  have k_2 : zH X (.fieldLink RX4 45 "MarginDesk" "edits" "I") := hF.w (by decide +kernel)
  have k_3 : zH X (.fieldLink RX4 19 "MarginDesk" "commentRanges" "LMarginDesk$Ranges;") := hF.w (by decide +kernel)
  have k_4 : zH X (.initialized RX0) := hF.w (by decide +kernel)
  have k_5 : zH X (.instanceMethod yX0_write) := hF.w (by decide +kernel)
  have k_6 : zH X (.selects RX0 yX0_write yX0_write) := hF.w (by decide +kernel)
  refine z_lv (lv' := [some (.ref d0)]) rfl ?_
  refine z_aload_n hF dX4_leaveVersion_0 rfl ?_
  refine z_get (C := RX4) (T := TX4) (N := 11) (ci := 4) (v := .ref y0) hF k_0 3 (by decide) rfl k_1 rfl 0 rfl rfl dX4_leaveVersion_1 ?_
  refine z_aload_n hF dX4_leaveVersion_4 rfl ?_
  refine z_get (C := RX4) (T := TX4) (N := 11) (ci := 4) (v := .int (nI v)) hF k_0 6 (by decide) rfl k_2 rfl 0 rfl rfl dX4_leaveVersion_5 ?_
  refine z_aload_n hF dX4_leaveVersion_8 rfl ?_
  refine z_get (C := RX4) (T := TX4) (N := 11) (ci := 4) (v := .ref r0) hF k_0 1 (by decide) rfl k_3 rfl 0 rfl rfl dX4_leaveVersion_9 ?_
  refine z_VN (As := [.int (nI v), .ref r0]) (rest := []) (ws' := [(d0, .inr (4, [.ref t0, .ref r0, .ref q0, .ref y0, .ref d1, .int o, .int (nI v), .ref u0, .ref d2, .ref d3, .ref d4])), (y0, .inr (0, [.ref y1])), (y1, eI G 3600 (wrF h (v * 12) 12 (fun kk => if kk < m then numF (b kk) (e kk) else -1))), (r0, .inr (2, [.ref r1, .ref r2, .ref r3, .int (nI m)])), (r1, eI G 12 b), (r2, eI G 12 e)]) (st2 := []) (c2 := 0) (s2 := 0) hF (c_X0_write G y0 y1 r0 r1 r2 r3 m v h b e (by first | assumption | omega) (by first | assumption | omega)) ggX4_leaveVersion_X0_write (List.mem_of_getElem? (i := 7) rfl) k_4 k_5 k_6 rfl rfl rfl hs_X0_write ⟨⟨Nat.le_of_ble_eq_true rfl, Nat.le_of_ble_eq_true rfl⟩, ⟨Nat.le_of_ble_eq_true rfl, Nat.le_of_ble_eq_true rfl⟩, Nat.le_of_ble_eq_true rfl⟩ [1, 2, 3, 4, 5] rfl rfl 0 rfl rfl rfl rfl rfl rfl rfl rfl rfl rfl dX4_leaveVersion_12 ?_
  refine z_aload_n hF dX4_leaveVersion_15 rfl ?_
  refine z_dup hF dX4_leaveVersion_16 rfl ?_
  refine z_get (C := RX4) (T := TX4) (N := 11) (ci := 4) (v := .int (nI v)) hF k_0 6 (by decide) rfl k_2 rfl 0 rfl rfl dX4_leaveVersion_17 ?_
  refine z_iconst (v := nI 1) hF dX4_leaveVersion_20 (by decide) ?_
  refine z_iadd hF dX4_leaveVersion_21 ?_
  refine z_top (nI_add v 1) ?_
  refine z_put (C := RX4) (T := TX4) (N := 11) (ci := 4) (ws' := [(d0, .inr (4, [.ref t0, .ref r0, .ref q0, .ref y0, .ref d1, .int o, .int (nI (v + 1)), .ref u0, .ref d2, .ref d3, .ref d4])), (y0, .inr (0, [.ref y1])), (y1, eI G 3600 (wrF h (v * 12) 12 (fun kk => if kk < m then numF (b kk) (e kk) else -1))), (r0, .inr (2, [.ref r1, .ref r2, .ref r3, .int (nI m)])), (r1, eI G 12 b), (r2, eI G 12 e)]) hF k_0 tyX4 tyX4_ok nmX4 6 (by decide) rfl k_2 rfl rfl rfl rfl 0 rfl rfl rfl dX4_leaveVersion_22 ?_
  exact hR.v dX4_leaveVersion_25 (Nat.le_of_ble_eq_true rfl) (Nat.le_of_ble_eq_true rfl) (rfl)
set_option maxHeartbeats 4000000 in
set_option maxRecDepth 100000 in
theorem c_X4_letGo (G : zG) (d0 t0 r0 q0 y0 d1 u0 d2 d3 d4 v : Nat) (o : Int32) (u1 u2 u3 j : Nat) (xs : Nat → Int32) (x : Int32) (hj : j ≤ 10) : zM G yX4_letGo wsX4_letGo ({ frames := 1, cells := 0, slots := 0, locals := 32 }) [.ref d0, .int x] [(d0, .inr (4, [.ref t0, .ref r0, .ref q0, .ref y0, .ref d1, .int o, .int (nI v), .ref u0, .ref d2, .ref d3, .ref d4])), (u0, .inr (2, [.ref u1, .ref u2, .ref u3, .int (nI j)])), (d4, eI G 10 xs)] [(d0, .inr (4, [.ref t0, .ref r0, .ref q0, .ref y0, .ref d1, .int o, .int (nI v), .ref u0, .ref d2, .ref d3, .ref d4])), (u0, .inr (2, [.ref u1, .ref u2, .ref u3, .int (nI j)])), (d4, eI G 10 (mpF j (lgF x xs) xs))] none 0 0 := by
  refine zM.ofV (own := RX4) (cc := cX4_letGo) (maxL := 3) rfl (by decide) rfl (by simp [Value.category]) (Nat.le_of_ble_eq_true rfl) ?_
  intro X hF hR
  have k_0 : ∀ w ∈ wsX40, w ∈ wsX4_letGo := by decide +kernel
  have k_1 : zH X (.fieldLink RX4 48 "MarginDesk" "suggestionRanges" "LMarginDesk$Ranges;") := hF.w (by decide +kernel)
  have k_2 : ∀ w ∈ wsX20, w ∈ wsX4_letGo := by decide +kernel
  have k_3 : zH X (.fieldLinkNest RX4 92 "MarginDesk$Ranges" "count" "I" RX4) := hF.nf (List.mem_of_getElem? (i := 3) rfl)
  have k_4 : zH X (.fieldLink RX4 57 "MarginDesk" "states" "[I") := hF.w (by decide +kernel)
  refine z_lv (lv' := [some (.ref d0), some (.int x), none]) rfl ?_
  refine z_iconst (v := nI 0) hF dX4_letGo_0 (by decide) ?_
  refine z_istore_n (lv' := [some (.ref d0), some (.int x), some (.int (nI 0))]) hF dX4_letGo_1 rfl rfl ?_
  refine z_ws (ws' := [(d0, .inr (4, [.ref t0, .ref r0, .ref q0, .ref y0, .ref d1, .int o, .int (nI v), .ref u0, .ref d2, .ref d3, .ref d4])), (u0, .inr (2, [.ref u1, .ref u2, .ref u3, .int (nI j)])), (d4, eI G 10 (mpF 0 (lgF x xs) xs))]) (by simp only [mpF_0]) ?_
  have J_2 : ∀ (n9 : Nat) (i : Nat), j - i < n9 → (i ≤ j) → zJ G X 2 [(d0, .inr (4, [.ref t0, .ref r0, .ref q0, .ref y0, .ref d1, .int o, .int (nI v), .ref u0, .ref d2, .ref d3, .ref d4])), (u0, .inr (2, [.ref u1, .ref u2, .ref u3, .int (nI j)])), (d4, eI G 10 (mpF i (lgF x xs) xs))] [some (.ref d0), some (.int x), some (.int (nI i))] [] 0 0 := by
    intro n9
    induction n9 with
    | zero => intro i hmu; exact absurd hmu (Nat.not_lt_zero _)
    | succ n9 ih =>
      intro i hmu h2
      refine z_iload_n hF dX4_letGo_2 rfl ?_
      refine z_aload_n hF dX4_letGo_3 rfl ?_
      refine z_get (C := RX4) (T := TX4) (N := 11) (ci := 4) (v := .ref u0) hF k_0 7 (by decide) rfl k_1 rfl 0 rfl rfl dX4_letGo_4 ?_
      refine z_getN (C := RX2) (T := TX2) (N := 4) (ci := 2) (v := .int (nI j)) hF k_2 3 (by decide) rfl k_3 rfl 1 rfl rfl dX4_letGo_7 ?_
      refine z_icn_ge (tgt := 44) hF (by omega) (by omega) dX4_letGo_10 (by decide) (fun c_1 => ?_) (fun c_1 => ?_)
      · exact hR.v dX4_letGo_44 (Nat.le_of_ble_eq_true rfl) (Nat.le_of_ble_eq_true rfl) (by rw [show i = j by omega])
      · refine z_iload_n hF dX4_letGo_13 rfl ?_
        refine z_iload_n hF dX4_letGo_14 rfl ?_
        refine z_S (As := [.int (nI i)]) (rest := [.int x]) (ws' := [(d0, .inr (4, [.ref t0, .ref r0, .ref q0, .ref y0, .ref d1, .int o, .int (nI v), .ref u0, .ref d2, .ref d3, .ref d4])), (u0, .inr (2, [.ref u1, .ref u2, .ref u3, .int (nI j)])), (d4, eI G 10 (mpF i (lgF x xs) xs))]) (st2 := [.int (bitF (nI i)), .int x]) (c2 := 0) (s2 := 0) hF (c_X4_bit G (nI i)) gX4_letGo_X4_bit rfl rfl rfl hs_X4_bit ⟨⟨Nat.le_of_ble_eq_true rfl, Nat.le_of_ble_eq_true rfl⟩, ⟨Nat.le_of_ble_eq_true rfl, Nat.le_of_ble_eq_true rfl⟩, Nat.le_of_ble_eq_true rfl⟩ [] rfl rfl rfl rfl rfl rfl rfl rfl rfl rfl dX4_letGo_15 ?_
        refine z_iand hF dX4_letGo_18 ?_
        refine z_if_eq (tgt := 38) hF dX4_letGo_19 (by decide) (fun hb => ?_) (fun hb => ?_)
        · refine z_iinc (v := nI (i + 1)) (lv' := [some (.ref d0), some (.int x), some (.int (nI (i + 1)))]) hF dX4_letGo_38 rfl (nI_1 i) rfl rfl ?_
          refine z_goto (tgt := 2) hF dX4_letGo_41 (by decide) ?_
          refine z_ws (ws' := [(d0, .inr (4, [.ref t0, .ref r0, .ref q0, .ref y0, .ref d1, .int o, .int (nI v), .ref u0, .ref d2, .ref d3, .ref d4])), (u0, .inr (2, [.ref u1, .ref u2, .ref u3, .int (nI j)])), (d4, eI G 10 (mpF (i + 1) (lgF x xs) xs))]) (by rw [mpF_skip (lgF x xs) xs (by simp [lgF]; grind)]) ?_
          exact ih (i + 1) (by omega) (by omega)
        · refine z_aload_n hF dX4_letGo_22 rfl ?_
          refine z_get (C := RX4) (T := TX4) (N := 11) (ci := 4) (v := .ref d4) hF k_0 10 (by decide) rfl k_4 rfl 0 rfl rfl dX4_letGo_23 ?_
          refine z_iload_n hF dX4_letGo_26 rfl ?_
          refine z_iald (k := i) hF 2 rfl (rfl) (by omega) rfl dX4_letGo_27 ?_
          refine z_top (y := xs i) (mpF_at _ _ (Nat.le_refl i)) ?_
          refine z_if_ne (tgt := 38) hF dX4_letGo_28 (by decide) (fun hx => ?_) (fun hx => ?_)
          · refine z_iinc (v := nI (i + 1)) (lv' := [some (.ref d0), some (.int x), some (.int (nI (i + 1)))]) hF dX4_letGo_38 rfl (nI_1 i) rfl rfl ?_
            refine z_goto (tgt := 2) hF dX4_letGo_41 (by decide) ?_
            refine z_ws (ws' := [(d0, .inr (4, [.ref t0, .ref r0, .ref q0, .ref y0, .ref d1, .int o, .int (nI v), .ref u0, .ref d2, .ref d3, .ref d4])), (u0, .inr (2, [.ref u1, .ref u2, .ref u3, .int (nI j)])), (d4, eI G 10 (mpF (i + 1) (lgF x xs) xs))]) (by rw [mpF_skip (lgF x xs) xs (by simp [lgF]; grind)]) ?_
            exact ih (i + 1) (by omega) (by omega)
          · refine z_aload_n hF dX4_letGo_31 rfl ?_
            refine z_get (C := RX4) (T := TX4) (N := 11) (ci := 4) (v := .ref d4) hF k_0 10 (by decide) rfl k_4 rfl 0 rfl rfl dX4_letGo_32 ?_
            refine z_iload_n hF dX4_letGo_35 rfl ?_
            refine z_iconst (v := nI 3) hF dX4_letGo_36 (by decide) ?_
            refine z_iast (k := i) (ws' := [(d0, .inr (4, [.ref t0, .ref r0, .ref q0, .ref y0, .ref d1, .int o, .int (nI v), .ref u0, .ref d2, .ref d3, .ref d4])), (u0, .inr (2, [.ref u1, .ref u2, .ref u3, .int (nI j)])), (d4, eI G 10 (upd (mpF i (lgF x xs) xs) i (nI 3)))]) hF 2 rfl (rfl) (by omega) rfl rfl dX4_letGo_37 ?_
            refine z_ws (ws' := [(d0, .inr (4, [.ref t0, .ref r0, .ref q0, .ref y0, .ref d1, .int o, .int (nI v), .ref u0, .ref d2, .ref d3, .ref d4])), (u0, .inr (2, [.ref u1, .ref u2, .ref u3, .int (nI j)])), (d4, eI G 10 (mpF (i + 1) (lgF x xs) xs))]) (by rw [← mpF_up]; simp [lgF, hb, hx]) ?_
            refine z_iinc (v := nI (i + 1)) (lv' := [some (.ref d0), some (.int x), some (.int (nI (i + 1)))]) hF dX4_letGo_38 rfl (nI_1 i) rfl rfl ?_
            refine z_goto (tgt := 2) hF dX4_letGo_41 (by decide) ?_
            exact ih (i + 1) (by omega) (by omega)
  exact J_2 ((j - 0) + 1) 0 (Nat.lt_succ_self _) (by omega)
set_option maxHeartbeats 4000000 in
set_option maxRecDepth 100000 in
theorem c_X4_putLettersIn (G : zG) (d0 t0 r0 q0 y0 d1 u0 d2 d3 d4 v : Nat) (o : Int32) (t1 t2 n : Nat) (f : Nat → Int32) (g : Nat → Int32) (r1 r2 r3 m : Nat) (b : Nat → Int32) (e : Nat → Int32) (s : Nat → Int32) (y1 : Nat) (h : Nat → Int32) (u1 u2 u3 j : Nat) (b2 : Nat → Int32) (e2 : Nat → Int32) (s2 : Nat → Int32) (p k : Nat) (x : Int32) (hv : v < 300) (hm : m ≤ 12) (hj : j ≤ 10) (hp : p ≤ n) (hk : n + k ≤ 60) : zM G yX4_putLettersIn wsX4_putLettersIn ({ frames := 4, cells := 0, slots := 0, locals := 98 }) [.ref d0, .int (nI p), .int x, .int (nI k)] [(d0, .inr (4, [.ref t0, .ref r0, .ref q0, .ref y0, .ref d1, .int o, .int (nI v), .ref u0, .ref d2, .ref d3, .ref d4])), (y0, .inr (0, [.ref y1])), (y1, eI G 3600 h), (r0, .inr (2, [.ref r1, .ref r2, .ref r3, .int (nI m)])), (r1, eI G 12 b), (r2, eI G 12 e), (r3, eI G 12 s), (u0, .inr (2, [.ref u1, .ref u2, .ref u3, .int (nI j)])), (u1, eI G 12 b2), (u2, eI G 12 e2), (u3, eI G 12 s2), (t0, .inr (3, [.ref t1, .ref t2, .int (nI n)])), (t1, eI G 60 f), (t2, eI G 60 g)] [(d0, .inr (4, [.ref t0, .ref r0, .ref q0, .ref y0, .ref d1, .int o, .int (nI (v + 1)), .ref u0, .ref d2, .ref d3, .ref d4])), (y0, .inr (0, [.ref y1])), (y1, eI G 3600 (wrF h (v * 12) 12 (fun kk => if kk < m then numF (b kk) (e kk) else -1))), (r0, .inr (2, [.ref r1, .ref r2, .ref r3, .int (nI m)])), (r1, eI G 12 (mpF m (insB (nI p) (nI k) b s) b)), (r2, eI G 12 (mpF m (insE (nI p) (nI k) b e s) e)), (r3, eI G 12 s), (u0, .inr (2, [.ref u1, .ref u2, .ref u3, .int (nI j)])), (u1, eI G 12 (mpF j (insB (nI p) (nI k) b2 s2) b2)), (u2, eI G 12 (mpF j (insE (nI p) (nI k) b2 e2 s2) e2)), (u3, eI G 12 s2), (t0, .inr (3, [.ref t1, .ref t2, .int (nI (n + k))])), (t1, eI G 60 (filF (va_cpy f f p (p + k) (n - p)) p (p + k) x)), (t2, eI G 60 (mrkF (filF (va_cpy g g p (p + k) (n - p)) p (p + k) (nI 0)) p (p + k) (covF (mpF m (insB (nI p) (nI k) b s) b) (mpF m (insE (nI p) (nI k) b e s) e) m (nI p))))] none 0 0 := by
  refine zM.ofV (own := RX4) (cc := cX4_putLettersIn) (maxL := 4) rfl (by decide) rfl (by simp [Value.category]) (Nat.le_of_ble_eq_true rfl) ?_
  intro X hF hR
  have k_0 : ∀ w ∈ wsX40, w ∈ wsX4_putLettersIn := by decide +kernel
  have k_1 : zH X (.fieldLink RX4 19 "MarginDesk" "commentRanges" "LMarginDesk$Ranges;") := hF.w (by decide +kernel)
  have k_2 : zH X (.initialized RX2) := hF.w (by decide +kernel)
  have k_3 : zH X (.instanceMethod yX2_moveByInsertion) := hF.w (by decide +kernel)
  have k_4 : zH X (.selects RX2 yX2_moveByInsertion yX2_moveByInsertion) := hF.w (by decide +kernel)
  have k_5 : zH X (.fieldLink RX4 48 "MarginDesk" "suggestionRanges" "LMarginDesk$Ranges;") := hF.w (by decide +kernel)
  have k_6 : zH X (.fieldLink RX4 10 "MarginDesk" "text" "LMarginDesk$Text;") := hF.w (by decide +kernel)
  have k_7 : zH X (.initialized RX3) := hF.w (by decide +kernel)
  have k_8 : zH X (.instanceMethod yX3_putIn) := hF.w (by decide +kernel)
  have k_9 : zH X (.selects RX3 yX3_putIn yX3_putIn) := hF.w (by decide +kernel)
  have k_10 : zH X (.instanceMethod yX2_covering) := hF.w (by decide +kernel)
  have k_11 : zH X (.selects RX2 yX2_covering yX2_covering) := hF.w (by decide +kernel)
  have k_12 : zH X (.instanceMethod yX3_mark) := hF.w (by decide +kernel)
  have k_13 : zH X (.selects RX3 yX3_mark yX3_mark) := hF.w (by decide +kernel)
  refine z_lv (lv' := [some (.ref d0), some (.int (nI p)), some (.int x), some (.int (nI k))]) rfl ?_
  refine z_aload_n hF dX4_putLettersIn_0 rfl ?_
  refine z_V (As := []) (rest := []) (ws' := [(d0, .inr (4, [.ref t0, .ref r0, .ref q0, .ref y0, .ref d1, .int o, .int (nI (v + 1)), .ref u0, .ref d2, .ref d3, .ref d4])), (y0, .inr (0, [.ref y1])), (y1, eI G 3600 (wrF h (v * 12) 12 (fun kk => if kk < m then numF (b kk) (e kk) else -1))), (r0, .inr (2, [.ref r1, .ref r2, .ref r3, .int (nI m)])), (r1, eI G 12 b), (r2, eI G 12 e), (r3, eI G 12 s), (u0, .inr (2, [.ref u1, .ref u2, .ref u3, .int (nI j)])), (u1, eI G 12 b2), (u2, eI G 12 e2), (u3, eI G 12 s2), (t0, .inr (3, [.ref t1, .ref t2, .int (nI n)])), (t1, eI G 60 f), (t2, eI G 60 g)]) (st2 := []) (c2 := 0) (s2 := 0) hF (c_X4_leaveVersion G d0 t0 r0 q0 y0 d1 u0 d2 d3 d4 v o r1 r2 r3 m b e y1 h (by first | assumption | omega) (by first | assumption | omega)) gX4_putLettersIn_X4_leaveVersion rfl rfl rfl hd_X4_leaveVersion ⟨⟨Nat.le_of_ble_eq_true rfl, Nat.le_of_ble_eq_true rfl⟩, ⟨Nat.le_of_ble_eq_true rfl, Nat.le_of_ble_eq_true rfl⟩, Nat.le_of_ble_eq_true rfl⟩ [0, 1, 2, 3, 4, 5] rfl rfl 0 rfl rfl rfl rfl rfl rfl rfl rfl rfl rfl dX4_putLettersIn_1 ?_
  refine z_aload_n hF dX4_putLettersIn_4 rfl ?_
  refine z_get (C := RX4) (T := TX4) (N := 11) (ci := 4) (v := .ref r0) hF k_0 1 (by decide) rfl k_1 rfl 0 rfl rfl dX4_putLettersIn_5 ?_
  refine z_iload_n hF dX4_putLettersIn_8 rfl ?_
  refine z_iload_n hF dX4_putLettersIn_9 rfl ?_
  refine z_VN (As := [.int (nI p), .int (nI k)]) (rest := []) (ws' := [(d0, .inr (4, [.ref t0, .ref r0, .ref q0, .ref y0, .ref d1, .int o, .int (nI (v + 1)), .ref u0, .ref d2, .ref d3, .ref d4])), (y0, .inr (0, [.ref y1])), (y1, eI G 3600 (wrF h (v * 12) 12 (fun kk => if kk < m then numF (b kk) (e kk) else -1))), (r0, .inr (2, [.ref r1, .ref r2, .ref r3, .int (nI m)])), (r1, eI G 12 (mpF m (insB (nI p) (nI k) b s) b)), (r2, eI G 12 (mpF m (insE (nI p) (nI k) b e s) e)), (r3, eI G 12 s), (u0, .inr (2, [.ref u1, .ref u2, .ref u3, .int (nI j)])), (u1, eI G 12 b2), (u2, eI G 12 e2), (u3, eI G 12 s2), (t0, .inr (3, [.ref t1, .ref t2, .int (nI n)])), (t1, eI G 60 f), (t2, eI G 60 g)]) (st2 := []) (c2 := 0) (s2 := 0) hF (c_X2_moveByInsertion G r0 r1 r2 r3 m (nI p) (nI k) b e s (by first | assumption | omega)) ggX4_putLettersIn_X2_moveByInsertion (List.mem_of_getElem? (i := 9) rfl) k_2 k_3 k_4 rfl rfl rfl hs_X2_moveByInsertion ⟨⟨Nat.le_of_ble_eq_true rfl, Nat.le_of_ble_eq_true rfl⟩, ⟨Nat.le_of_ble_eq_true rfl, Nat.le_of_ble_eq_true rfl⟩, Nat.le_of_ble_eq_true rfl⟩ [3, 4, 5, 6] rfl rfl 0 rfl rfl rfl rfl rfl rfl rfl rfl rfl rfl dX4_putLettersIn_10 ?_
  refine z_aload_n hF dX4_putLettersIn_13 rfl ?_
  refine z_get (C := RX4) (T := TX4) (N := 11) (ci := 4) (v := .ref u0) hF k_0 7 (by decide) rfl k_5 rfl 0 rfl rfl dX4_putLettersIn_14 ?_
  refine z_iload_n hF dX4_putLettersIn_17 rfl ?_
  refine z_iload_n hF dX4_putLettersIn_18 rfl ?_
  refine z_VN (As := [.int (nI p), .int (nI k)]) (rest := []) (ws' := [(d0, .inr (4, [.ref t0, .ref r0, .ref q0, .ref y0, .ref d1, .int o, .int (nI (v + 1)), .ref u0, .ref d2, .ref d3, .ref d4])), (y0, .inr (0, [.ref y1])), (y1, eI G 3600 (wrF h (v * 12) 12 (fun kk => if kk < m then numF (b kk) (e kk) else -1))), (r0, .inr (2, [.ref r1, .ref r2, .ref r3, .int (nI m)])), (r1, eI G 12 (mpF m (insB (nI p) (nI k) b s) b)), (r2, eI G 12 (mpF m (insE (nI p) (nI k) b e s) e)), (r3, eI G 12 s), (u0, .inr (2, [.ref u1, .ref u2, .ref u3, .int (nI j)])), (u1, eI G 12 (mpF j (insB (nI p) (nI k) b2 s2) b2)), (u2, eI G 12 (mpF j (insE (nI p) (nI k) b2 e2 s2) e2)), (u3, eI G 12 s2), (t0, .inr (3, [.ref t1, .ref t2, .int (nI n)])), (t1, eI G 60 f), (t2, eI G 60 g)]) (st2 := []) (c2 := 0) (s2 := 0) hF (c_X2_moveByInsertion G u0 u1 u2 u3 j (nI p) (nI k) b2 e2 s2 (by first | assumption | omega)) ggX4_putLettersIn_X2_moveByInsertion (List.mem_of_getElem? (i := 9) rfl) k_2 k_3 k_4 rfl rfl rfl hs_X2_moveByInsertion ⟨⟨Nat.le_of_ble_eq_true rfl, Nat.le_of_ble_eq_true rfl⟩, ⟨Nat.le_of_ble_eq_true rfl, Nat.le_of_ble_eq_true rfl⟩, Nat.le_of_ble_eq_true rfl⟩ [7, 8, 9, 10] rfl rfl 0 rfl rfl rfl rfl rfl rfl rfl rfl rfl rfl dX4_putLettersIn_19 ?_
  refine z_aload_n hF dX4_putLettersIn_22 rfl ?_
  refine z_get (C := RX4) (T := TX4) (N := 11) (ci := 4) (v := .ref t0) hF k_0 0 (by decide) rfl k_6 rfl 0 rfl rfl dX4_putLettersIn_23 ?_
  refine z_iload_n hF dX4_putLettersIn_26 rfl ?_
  refine z_iload_n hF dX4_putLettersIn_27 rfl ?_
  refine z_iload_n hF dX4_putLettersIn_28 rfl ?_
  refine z_VN (As := [.int (nI p), .int x, .int (nI k)]) (rest := []) (ws' := [(d0, .inr (4, [.ref t0, .ref r0, .ref q0, .ref y0, .ref d1, .int o, .int (nI (v + 1)), .ref u0, .ref d2, .ref d3, .ref d4])), (y0, .inr (0, [.ref y1])), (y1, eI G 3600 (wrF h (v * 12) 12 (fun kk => if kk < m then numF (b kk) (e kk) else -1))), (r0, .inr (2, [.ref r1, .ref r2, .ref r3, .int (nI m)])), (r1, eI G 12 (mpF m (insB (nI p) (nI k) b s) b)), (r2, eI G 12 (mpF m (insE (nI p) (nI k) b e s) e)), (r3, eI G 12 s), (u0, .inr (2, [.ref u1, .ref u2, .ref u3, .int (nI j)])), (u1, eI G 12 (mpF j (insB (nI p) (nI k) b2 s2) b2)), (u2, eI G 12 (mpF j (insE (nI p) (nI k) b2 e2 s2) e2)), (u3, eI G 12 s2), (t0, .inr (3, [.ref t1, .ref t2, .int (nI (n + k))])), (t1, eI G 60 (filF (va_cpy f f p (p + k) (n - p)) p (p + k) x)), (t2, eI G 60 (filF (va_cpy g g p (p + k) (n - p)) p (p + k) (nI 0)))]) (st2 := []) (c2 := 0) (s2 := 0) hF (c_X3_putIn G t0 t1 t2 n p k f g x (by first | assumption | omega) (by first | assumption | omega)) ggX4_putLettersIn_X3_putIn (List.mem_of_getElem? (i := 10) rfl) k_7 k_8 k_9 rfl rfl rfl hs_X3_putIn ⟨⟨Nat.le_of_ble_eq_true rfl, Nat.le_of_ble_eq_true rfl⟩, ⟨Nat.le_of_ble_eq_true rfl, Nat.le_of_ble_eq_true rfl⟩, Nat.le_of_ble_eq_true rfl⟩ [11, 12, 13] rfl rfl 0 rfl rfl rfl rfl rfl rfl rfl rfl rfl rfl dX4_putLettersIn_29 ?_
  refine z_aload_n hF dX4_putLettersIn_32 rfl ?_
  refine z_get (C := RX4) (T := TX4) (N := 11) (ci := 4) (v := .ref t0) hF k_0 0 (by decide) rfl k_6 rfl 0 rfl rfl dX4_putLettersIn_33 ?_
  refine z_iload_n hF dX4_putLettersIn_36 rfl ?_
  refine z_iload_n hF dX4_putLettersIn_37 rfl ?_
  refine z_iload_n hF dX4_putLettersIn_38 rfl ?_
  refine z_iadd hF dX4_putLettersIn_39 ?_
  refine z_top (nI_add p k) ?_
  refine z_aload_n hF dX4_putLettersIn_40 rfl ?_
  refine z_get (C := RX4) (T := TX4) (N := 11) (ci := 4) (v := .ref r0) hF k_0 1 (by decide) rfl k_1 rfl 0 rfl rfl dX4_putLettersIn_41 ?_
  refine z_iload_n hF dX4_putLettersIn_44 rfl ?_
  refine z_VN (As := [.int (nI p)]) (rest := [.int (nI (p + k)), .int (nI p), .ref t0]) (ws' := [(d0, .inr (4, [.ref t0, .ref r0, .ref q0, .ref y0, .ref d1, .int o, .int (nI (v + 1)), .ref u0, .ref d2, .ref d3, .ref d4])), (y0, .inr (0, [.ref y1])), (y1, eI G 3600 (wrF h (v * 12) 12 (fun kk => if kk < m then numF (b kk) (e kk) else -1))), (r0, .inr (2, [.ref r1, .ref r2, .ref r3, .int (nI m)])), (r1, eI G 12 (mpF m (insB (nI p) (nI k) b s) b)), (r2, eI G 12 (mpF m (insE (nI p) (nI k) b e s) e)), (r3, eI G 12 s), (u0, .inr (2, [.ref u1, .ref u2, .ref u3, .int (nI j)])), (u1, eI G 12 (mpF j (insB (nI p) (nI k) b2 s2) b2)), (u2, eI G 12 (mpF j (insE (nI p) (nI k) b2 e2 s2) e2)), (u3, eI G 12 s2), (t0, .inr (3, [.ref t1, .ref t2, .int (nI (n + k))])), (t1, eI G 60 (filF (va_cpy f f p (p + k) (n - p)) p (p + k) x)), (t2, eI G 60 (filF (va_cpy g g p (p + k) (n - p)) p (p + k) (nI 0)))]) (st2 := [.int (covF (mpF m (insB (nI p) (nI k) b s) b) (mpF m (insE (nI p) (nI k) b e s) e) m (nI p)), .int (nI (p + k)), .int (nI p), .ref t0]) (c2 := 0) (s2 := 0) hF (c_X2_covering G r0 r1 r2 r3 m (nI p) (mpF m (insB (nI p) (nI k) b s) b) (mpF m (insE (nI p) (nI k) b e s) e) (by first | assumption | omega)) ggX4_putLettersIn_X2_covering (List.mem_of_getElem? (i := 5) rfl) k_2 k_10 k_11 rfl rfl rfl hs_X2_covering ⟨⟨Nat.le_of_ble_eq_true rfl, Nat.le_of_ble_eq_true rfl⟩, ⟨Nat.le_of_ble_eq_true rfl, Nat.le_of_ble_eq_true rfl⟩, Nat.le_of_ble_eq_true rfl⟩ [3, 4, 5] rfl rfl 0 rfl rfl rfl rfl rfl rfl rfl rfl rfl rfl dX4_putLettersIn_45 ?_
  refine z_VN (As := [.int (nI p), .int (nI (p + k)), .int (covF (mpF m (insB (nI p) (nI k) b s) b) (mpF m (insE (nI p) (nI k) b e s) e) m (nI p))]) (rest := []) (ws' := [(d0, .inr (4, [.ref t0, .ref r0, .ref q0, .ref y0, .ref d1, .int o, .int (nI (v + 1)), .ref u0, .ref d2, .ref d3, .ref d4])), (y0, .inr (0, [.ref y1])), (y1, eI G 3600 (wrF h (v * 12) 12 (fun kk => if kk < m then numF (b kk) (e kk) else -1))), (r0, .inr (2, [.ref r1, .ref r2, .ref r3, .int (nI m)])), (r1, eI G 12 (mpF m (insB (nI p) (nI k) b s) b)), (r2, eI G 12 (mpF m (insE (nI p) (nI k) b e s) e)), (r3, eI G 12 s), (u0, .inr (2, [.ref u1, .ref u2, .ref u3, .int (nI j)])), (u1, eI G 12 (mpF j (insB (nI p) (nI k) b2 s2) b2)), (u2, eI G 12 (mpF j (insE (nI p) (nI k) b2 e2 s2) e2)), (u3, eI G 12 s2), (t0, .inr (3, [.ref t1, .ref t2, .int (nI (n + k))])), (t1, eI G 60 (filF (va_cpy f f p (p + k) (n - p)) p (p + k) x)), (t2, eI G 60 (mrkF (filF (va_cpy g g p (p + k) (n - p)) p (p + k) (nI 0)) p (p + k) (covF (mpF m (insB (nI p) (nI k) b s) b) (mpF m (insE (nI p) (nI k) b e s) e) m (nI p))))]) (st2 := []) (c2 := 0) (s2 := 0) hF (c_X3_mark G t0 t1 t2 (n + k) p (p + k) (filF (va_cpy g g p (p + k) (n - p)) p (p + k) (nI 0)) (covF (mpF m (insB (nI p) (nI k) b s) b) (mpF m (insE (nI p) (nI k) b e s) e) m (nI p)) (by first | assumption | omega) (by first | assumption | omega)) ggX4_putLettersIn_X3_mark (List.mem_of_getElem? (i := 11) rfl) k_7 k_12 k_13 rfl rfl rfl hs_X3_mark ⟨⟨Nat.le_of_ble_eq_true rfl, Nat.le_of_ble_eq_true rfl⟩, ⟨Nat.le_of_ble_eq_true rfl, Nat.le_of_ble_eq_true rfl⟩, Nat.le_of_ble_eq_true rfl⟩ [11, 13] rfl rfl 0 rfl rfl rfl rfl rfl rfl rfl rfl rfl rfl dX4_putLettersIn_48 ?_
  exact hR.v dX4_putLettersIn_51 (Nat.le_of_ble_eq_true rfl) (Nat.le_of_ble_eq_true rfl) (rfl)
set_option maxHeartbeats 4000000 in
set_option maxRecDepth 100000 in
theorem c_X4_takeLettersOut (G : zG) (d0 t0 r0 q0 y0 d1 u0 d2 d3 d4 v : Nat) (o : Int32) (t1 t2 n : Nat) (f : Nat → Int32) (g : Nat → Int32) (r1 r2 r3 m : Nat) (b : Nat → Int32) (e : Nat → Int32) (y1 : Nat) (h : Nat → Int32) (u1 u2 u3 j : Nat) (b2 : Nat → Int32) (e2 : Nat → Int32) (xs : Nat → Int32) (p k : Nat) (hv : v < 300) (hm : m ≤ 12) (hj : j ≤ 10) (hn : n ≤ 60) (hp : p + k ≤ n) : zM G yX4_takeLettersOut wsX4_takeLettersOut ({ frames := 4, cells := 0, slots := 0, locals := 98 }) [.ref d0, .int (nI p), .int (nI k)] [(d0, .inr (4, [.ref t0, .ref r0, .ref q0, .ref y0, .ref d1, .int o, .int (nI v), .ref u0, .ref d2, .ref d3, .ref d4])), (y0, .inr (0, [.ref y1])), (y1, eI G 3600 h), (r0, .inr (2, [.ref r1, .ref r2, .ref r3, .int (nI m)])), (r1, eI G 12 b), (r2, eI G 12 e), (u0, .inr (2, [.ref u1, .ref u2, .ref u3, .int (nI j)])), (u1, eI G 12 b2), (u2, eI G 12 e2), (t0, .inr (3, [.ref t1, .ref t2, .int (nI n)])), (t1, eI G 60 f), (t2, eI G 60 g), (d4, eI G 10 xs)] [(d0, .inr (4, [.ref t0, .ref r0, .ref q0, .ref y0, .ref d1, .int o, .int (nI (v + 1)), .ref u0, .ref d2, .ref d3, .ref d4])), (y0, .inr (0, [.ref y1])), (y1, eI G 3600 (wrF h (v * 12) 12 (fun kk => if kk < m then numF (b kk) (e kk) else -1))), (r0, .inr (2, [.ref r1, .ref r2, .ref r3, .int (nI m)])), (r1, eI G 12 (mpF m (remB (nI p) (nI k) b e) b)), (r2, eI G 12 (mpF m (remE (nI p) (nI k) b e) e)), (u0, .inr (2, [.ref u1, .ref u2, .ref u3, .int (nI j)])), (u1, eI G 12 (mpF j (remB (nI p) (nI k) b2 e2) b2)), (u2, eI G 12 (mpF j (remE (nI p) (nI k) b2 e2) e2)), (t0, .inr (3, [.ref t1, .ref t2, .int (nI (n - k))])), (t1, eI G 60 (va_cpy f f (p + k) p (n - (p + k)))), (t2, eI G 60 (va_cpy g g (p + k) p (n - (p + k)))), (d4, eI G 10 (mpF j (lgF (gonF (nI p) (nI k) b2 e2 j) xs) xs))] (some (.int (bcF (gonF (nI p) (nI k) b e m)))) 0 0 := by
  refine zM.ofI (own := RX4) (cc := cX4_takeLettersOut) (maxL := 4) rfl (by decide) rfl rfl (by simp [Value.category]) (Nat.le_of_ble_eq_true rfl) ?_
  intro X hF hR
  have k_0 : ∀ w ∈ wsX40, w ∈ wsX4_takeLettersOut := by decide +kernel
  have k_1 : zH X (.fieldLink RX4 19 "MarginDesk" "commentRanges" "LMarginDesk$Ranges;") := hF.w (by decide +kernel)
  have k_2 : zH X (.initialized RX2) := hF.w (by decide +kernel)
  have k_3 : zH X (.instanceMethod yX2_moveByRemoval) := hF.w (by decide +kernel)
  have k_4 : zH X (.selects RX2 yX2_moveByRemoval yX2_moveByRemoval) := hF.w (by decide +kernel)
  have k_5 : zH X (.fieldLink RX4 48 "MarginDesk" "suggestionRanges" "LMarginDesk$Ranges;") := hF.w (by decide +kernel)
  have k_6 : zH X (.fieldLink RX4 10 "MarginDesk" "text" "LMarginDesk$Text;") := hF.w (by decide +kernel)
  have k_7 : zH X (.initialized RX3) := hF.w (by decide +kernel)
  have k_8 : zH X (.instanceMethod yX3_takeOut) := hF.w (by decide +kernel)
  have k_9 : zH X (.selects RX3 yX3_takeOut yX3_takeOut) := hF.w (by decide +kernel)
  refine z_lv (lv' := [some (.ref d0), some (.int (nI p)), some (.int (nI k)), none]) rfl ?_
  refine z_aload_n hF dX4_takeLettersOut_0 rfl ?_
  refine z_V (As := []) (rest := []) (ws' := [(d0, .inr (4, [.ref t0, .ref r0, .ref q0, .ref y0, .ref d1, .int o, .int (nI (v + 1)), .ref u0, .ref d2, .ref d3, .ref d4])), (y0, .inr (0, [.ref y1])), (y1, eI G 3600 (wrF h (v * 12) 12 (fun kk => if kk < m then numF (b kk) (e kk) else -1))), (r0, .inr (2, [.ref r1, .ref r2, .ref r3, .int (nI m)])), (r1, eI G 12 b), (r2, eI G 12 e), (u0, .inr (2, [.ref u1, .ref u2, .ref u3, .int (nI j)])), (u1, eI G 12 b2), (u2, eI G 12 e2), (t0, .inr (3, [.ref t1, .ref t2, .int (nI n)])), (t1, eI G 60 f), (t2, eI G 60 g), (d4, eI G 10 xs)]) (st2 := []) (c2 := 0) (s2 := 0) hF (c_X4_leaveVersion G d0 t0 r0 q0 y0 d1 u0 d2 d3 d4 v o r1 r2 r3 m b e y1 h (by first | assumption | omega) (by first | assumption | omega)) gX4_takeLettersOut_X4_leaveVersion rfl rfl rfl hd_X4_leaveVersion ⟨⟨Nat.le_of_ble_eq_true rfl, Nat.le_of_ble_eq_true rfl⟩, ⟨Nat.le_of_ble_eq_true rfl, Nat.le_of_ble_eq_true rfl⟩, Nat.le_of_ble_eq_true rfl⟩ [0, 1, 2, 3, 4, 5] rfl rfl 0 rfl rfl rfl rfl rfl rfl rfl rfl rfl rfl dX4_takeLettersOut_1 ?_
  refine z_aload_n hF dX4_takeLettersOut_4 rfl ?_
  refine z_get (C := RX4) (T := TX4) (N := 11) (ci := 4) (v := .ref r0) hF k_0 1 (by decide) rfl k_1 rfl 0 rfl rfl dX4_takeLettersOut_5 ?_
  refine z_iload_n hF dX4_takeLettersOut_8 rfl ?_
  refine z_iload_n hF dX4_takeLettersOut_9 rfl ?_
  refine z_VN (As := [.int (nI p), .int (nI k)]) (rest := []) (ws' := [(d0, .inr (4, [.ref t0, .ref r0, .ref q0, .ref y0, .ref d1, .int o, .int (nI (v + 1)), .ref u0, .ref d2, .ref d3, .ref d4])), (y0, .inr (0, [.ref y1])), (y1, eI G 3600 (wrF h (v * 12) 12 (fun kk => if kk < m then numF (b kk) (e kk) else -1))), (r0, .inr (2, [.ref r1, .ref r2, .ref r3, .int (nI m)])), (r1, eI G 12 (mpF m (remB (nI p) (nI k) b e) b)), (r2, eI G 12 (mpF m (remE (nI p) (nI k) b e) e)), (u0, .inr (2, [.ref u1, .ref u2, .ref u3, .int (nI j)])), (u1, eI G 12 b2), (u2, eI G 12 e2), (t0, .inr (3, [.ref t1, .ref t2, .int (nI n)])), (t1, eI G 60 f), (t2, eI G 60 g), (d4, eI G 10 xs)]) (st2 := [.int (gonF (nI p) (nI k) b e m)]) (c2 := 0) (s2 := 0) hF (c_X2_moveByRemoval G r0 r1 r2 r3 m (nI p) (nI k) b e (by first | assumption | omega)) ggX4_takeLettersOut_X2_moveByRemoval (List.mem_of_getElem? (i := 12) rfl) k_2 k_3 k_4 rfl rfl rfl hs_X2_moveByRemoval ⟨⟨Nat.le_of_ble_eq_true rfl, Nat.le_of_ble_eq_true rfl⟩, ⟨Nat.le_of_ble_eq_true rfl, Nat.le_of_ble_eq_true rfl⟩, Nat.le_of_ble_eq_true rfl⟩ [3, 4, 5] rfl rfl 0 rfl rfl rfl rfl rfl rfl rfl rfl rfl rfl dX4_takeLettersOut_10 ?_
  refine z_istore_n (lv' := [some (.ref d0), some (.int (nI p)), some (.int (nI k)), some (.int (gonF (nI p) (nI k) b e m))]) hF dX4_takeLettersOut_13 rfl rfl ?_
  refine z_aload_n hF dX4_takeLettersOut_14 rfl ?_
  refine z_aload_n hF dX4_takeLettersOut_15 rfl ?_
  refine z_get (C := RX4) (T := TX4) (N := 11) (ci := 4) (v := .ref u0) hF k_0 7 (by decide) rfl k_5 rfl 0 rfl rfl dX4_takeLettersOut_16 ?_
  refine z_iload_n hF dX4_takeLettersOut_19 rfl ?_
  refine z_iload_n hF dX4_takeLettersOut_20 rfl ?_
  refine z_VN (As := [.int (nI p), .int (nI k)]) (rest := [.ref d0]) (ws' := [(d0, .inr (4, [.ref t0, .ref r0, .ref q0, .ref y0, .ref d1, .int o, .int (nI (v + 1)), .ref u0, .ref d2, .ref d3, .ref d4])), (y0, .inr (0, [.ref y1])), (y1, eI G 3600 (wrF h (v * 12) 12 (fun kk => if kk < m then numF (b kk) (e kk) else -1))), (r0, .inr (2, [.ref r1, .ref r2, .ref r3, .int (nI m)])), (r1, eI G 12 (mpF m (remB (nI p) (nI k) b e) b)), (r2, eI G 12 (mpF m (remE (nI p) (nI k) b e) e)), (u0, .inr (2, [.ref u1, .ref u2, .ref u3, .int (nI j)])), (u1, eI G 12 (mpF j (remB (nI p) (nI k) b2 e2) b2)), (u2, eI G 12 (mpF j (remE (nI p) (nI k) b2 e2) e2)), (t0, .inr (3, [.ref t1, .ref t2, .int (nI n)])), (t1, eI G 60 f), (t2, eI G 60 g), (d4, eI G 10 xs)]) (st2 := [.int (gonF (nI p) (nI k) b2 e2 j), .ref d0]) (c2 := 0) (s2 := 0) hF (c_X2_moveByRemoval G u0 u1 u2 u3 j (nI p) (nI k) b2 e2 (by first | assumption | omega)) ggX4_takeLettersOut_X2_moveByRemoval (List.mem_of_getElem? (i := 12) rfl) k_2 k_3 k_4 rfl rfl rfl hs_X2_moveByRemoval ⟨⟨Nat.le_of_ble_eq_true rfl, Nat.le_of_ble_eq_true rfl⟩, ⟨Nat.le_of_ble_eq_true rfl, Nat.le_of_ble_eq_true rfl⟩, Nat.le_of_ble_eq_true rfl⟩ [6, 7, 8] rfl rfl 0 rfl rfl rfl rfl rfl rfl rfl rfl rfl rfl dX4_takeLettersOut_21 ?_
  refine z_V (As := [.int (gonF (nI p) (nI k) b2 e2 j)]) (rest := []) (ws' := [(d0, .inr (4, [.ref t0, .ref r0, .ref q0, .ref y0, .ref d1, .int o, .int (nI (v + 1)), .ref u0, .ref d2, .ref d3, .ref d4])), (y0, .inr (0, [.ref y1])), (y1, eI G 3600 (wrF h (v * 12) 12 (fun kk => if kk < m then numF (b kk) (e kk) else -1))), (r0, .inr (2, [.ref r1, .ref r2, .ref r3, .int (nI m)])), (r1, eI G 12 (mpF m (remB (nI p) (nI k) b e) b)), (r2, eI G 12 (mpF m (remE (nI p) (nI k) b e) e)), (u0, .inr (2, [.ref u1, .ref u2, .ref u3, .int (nI j)])), (u1, eI G 12 (mpF j (remB (nI p) (nI k) b2 e2) b2)), (u2, eI G 12 (mpF j (remE (nI p) (nI k) b2 e2) e2)), (t0, .inr (3, [.ref t1, .ref t2, .int (nI n)])), (t1, eI G 60 f), (t2, eI G 60 g), (d4, eI G 10 (mpF j (lgF (gonF (nI p) (nI k) b2 e2 j) xs) xs))]) (st2 := []) (c2 := 0) (s2 := 0) hF (c_X4_letGo G d0 t0 r0 q0 y0 d1 u0 d2 d3 d4 (v + 1) o u1 u2 u3 j xs (gonF (nI p) (nI k) b2 e2 j) (by first | assumption | omega)) gX4_takeLettersOut_X4_letGo rfl rfl rfl hd_X4_letGo ⟨⟨Nat.le_of_ble_eq_true rfl, Nat.le_of_ble_eq_true rfl⟩, ⟨Nat.le_of_ble_eq_true rfl, Nat.le_of_ble_eq_true rfl⟩, Nat.le_of_ble_eq_true rfl⟩ [0, 6, 12] rfl rfl 0 rfl rfl rfl rfl rfl rfl rfl rfl rfl rfl dX4_takeLettersOut_24 ?_
  refine z_aload_n hF dX4_takeLettersOut_27 rfl ?_
  refine z_get (C := RX4) (T := TX4) (N := 11) (ci := 4) (v := .ref t0) hF k_0 0 (by decide) rfl k_6 rfl 0 rfl rfl dX4_takeLettersOut_28 ?_
  refine z_iload_n hF dX4_takeLettersOut_31 rfl ?_
  refine z_iload_n hF dX4_takeLettersOut_32 rfl ?_
  refine z_VN (As := [.int (nI p), .int (nI k)]) (rest := []) (ws' := [(d0, .inr (4, [.ref t0, .ref r0, .ref q0, .ref y0, .ref d1, .int o, .int (nI (v + 1)), .ref u0, .ref d2, .ref d3, .ref d4])), (y0, .inr (0, [.ref y1])), (y1, eI G 3600 (wrF h (v * 12) 12 (fun kk => if kk < m then numF (b kk) (e kk) else -1))), (r0, .inr (2, [.ref r1, .ref r2, .ref r3, .int (nI m)])), (r1, eI G 12 (mpF m (remB (nI p) (nI k) b e) b)), (r2, eI G 12 (mpF m (remE (nI p) (nI k) b e) e)), (u0, .inr (2, [.ref u1, .ref u2, .ref u3, .int (nI j)])), (u1, eI G 12 (mpF j (remB (nI p) (nI k) b2 e2) b2)), (u2, eI G 12 (mpF j (remE (nI p) (nI k) b2 e2) e2)), (t0, .inr (3, [.ref t1, .ref t2, .int (nI (n - k))])), (t1, eI G 60 (va_cpy f f (p + k) p (n - (p + k)))), (t2, eI G 60 (va_cpy g g (p + k) p (n - (p + k)))), (d4, eI G 10 (mpF j (lgF (gonF (nI p) (nI k) b2 e2 j) xs) xs))]) (st2 := []) (c2 := 0) (s2 := 0) hF (c_X3_takeOut G t0 t1 t2 n p k f g (by first | assumption | omega) (by first | assumption | omega)) ggX4_takeLettersOut_X3_takeOut (List.mem_of_getElem? (i := 13) rfl) k_7 k_8 k_9 rfl rfl rfl hs_X3_takeOut ⟨⟨Nat.le_of_ble_eq_true rfl, Nat.le_of_ble_eq_true rfl⟩, ⟨Nat.le_of_ble_eq_true rfl, Nat.le_of_ble_eq_true rfl⟩, Nat.le_of_ble_eq_true rfl⟩ [9, 10, 11] rfl rfl 0 rfl rfl rfl rfl rfl rfl rfl rfl rfl rfl dX4_takeLettersOut_33 ?_
  refine z_iload_n hF dX4_takeLettersOut_36 rfl ?_
  refine z_S (As := [.int (gonF (nI p) (nI k) b e m)]) (rest := []) (ws' := [(d0, .inr (4, [.ref t0, .ref r0, .ref q0, .ref y0, .ref d1, .int o, .int (nI (v + 1)), .ref u0, .ref d2, .ref d3, .ref d4])), (y0, .inr (0, [.ref y1])), (y1, eI G 3600 (wrF h (v * 12) 12 (fun kk => if kk < m then numF (b kk) (e kk) else -1))), (r0, .inr (2, [.ref r1, .ref r2, .ref r3, .int (nI m)])), (r1, eI G 12 (mpF m (remB (nI p) (nI k) b e) b)), (r2, eI G 12 (mpF m (remE (nI p) (nI k) b e) e)), (u0, .inr (2, [.ref u1, .ref u2, .ref u3, .int (nI j)])), (u1, eI G 12 (mpF j (remB (nI p) (nI k) b2 e2) b2)), (u2, eI G 12 (mpF j (remE (nI p) (nI k) b2 e2) e2)), (t0, .inr (3, [.ref t1, .ref t2, .int (nI (n - k))])), (t1, eI G 60 (va_cpy f f (p + k) p (n - (p + k)))), (t2, eI G 60 (va_cpy g g (p + k) p (n - (p + k)))), (d4, eI G 10 (mpF j (lgF (gonF (nI p) (nI k) b2 e2 j) xs) xs))]) (st2 := [.int (bcF (gonF (nI p) (nI k) b e m))]) (c2 := 0) (s2 := 0) hF (c_J6_bitCount_0f7a4 G (gonF (nI p) (nI k) b e m)) gX4_takeLettersOut_J6_bitCount_0f7a4 rfl rfl rfl hs_J6_bitCount_0f7a4 ⟨⟨Nat.le_of_ble_eq_true rfl, Nat.le_of_ble_eq_true rfl⟩, ⟨Nat.le_of_ble_eq_true rfl, Nat.le_of_ble_eq_true rfl⟩, Nat.le_of_ble_eq_true rfl⟩ [] rfl rfl rfl rfl rfl rfl rfl rfl rfl rfl dX4_takeLettersOut_37 ?_
  exact hR.i dX4_takeLettersOut_40 (Nat.le_of_ble_eq_true rfl) (Nat.le_of_ble_eq_true rfl) (rfl) (rfl)
set_option maxHeartbeats 4000000 in
set_option maxRecDepth 100000 in
theorem c_X4_beginsPiece (G : zG) (d0 t0 r0 q0 y0 d1 u0 d2 d3 d4 v : Nat) (o : Int32) (r1 r2 r3 m : Nat) (b : Nat → Int32) (e : Nat → Int32) (p : Nat) (hm : m ≤ 12) (hp : p < 2 ^ 31) : zM G yX4_beginsPiece wsX4_beginsPiece ({ frames := 2, cells := 0, slots := 0, locals := 55 }) [.ref d0, .int (nI p)] [(d0, .inr (4, [.ref t0, .ref r0, .ref q0, .ref y0, .ref d1, .int o, .int (nI v), .ref u0, .ref d2, .ref d3, .ref d4])), (r0, .inr (2, [.ref r1, .ref r2, .ref r3, .int (nI m)])), (r1, eI G 12 b), (r2, eI G 12 e)] [(d0, .inr (4, [.ref t0, .ref r0, .ref q0, .ref y0, .ref d1, .int o, .int (nI v), .ref u0, .ref d2, .ref d3, .ref d4])), (r0, .inr (2, [.ref r1, .ref r2, .ref r3, .int (nI m)])), (r1, eI G 12 b), (r2, eI G 12 e)] (some (.int (zb (pcP b e m p)))) 0 0 := by
  refine zM.ofI (own := RX4) (cc := cX4_beginsPiece) (maxL := 2) rfl (by decide) rfl zb_nar (by simp [Value.category]) (Nat.le_of_ble_eq_true rfl) ?_
  intro X hF hR
  have k_0 : ∀ w ∈ wsX40, w ∈ wsX4_beginsPiece := by decide +kernel
  have k_1 : zH X (.fieldLink RX4 19 "MarginDesk" "commentRanges" "LMarginDesk$Ranges;") := hF.w (by decide +kernel)
  have k_2 : zH X (.initialized RX2) := hF.w (by decide +kernel)
  have k_3 : zH X (.instanceMethod yX2_covering) := hF.w (by decide +kernel)
  have k_4 : zH X (.selects RX2 yX2_covering yX2_covering) := hF.w (by decide +kernel)
  refine z_lv (lv' := [some (.ref d0), some (.int (nI p))]) rfl ?_
  refine z_iload_n hF dX4_beginsPiece_0 rfl ?_
  refine z_ifn_eq (tgt := 25) hF (by omega) dX4_beginsPiece_1 (by decide) (fun c_1 => ?_) (fun c_1 => ?_)
  · refine z_iconst (v := nI 1) hF dX4_beginsPiece_25 (by decide) ?_
    refine z_goto (tgt := 30) hF dX4_beginsPiece_26 (by decide) ?_
    exact hR.i dX4_beginsPiece_30 (Nat.le_of_ble_eq_true rfl) (Nat.le_of_ble_eq_true rfl) (rfl) (by first | exact zb1 (by simp [pcP, *]) | exact zb0 (by simp [pcP, *]))
  · refine z_aload_n hF dX4_beginsPiece_4 rfl ?_
    refine z_get (C := RX4) (T := TX4) (N := 11) (ci := 4) (v := .ref r0) hF k_0 1 (by decide) rfl k_1 rfl 0 rfl rfl dX4_beginsPiece_5 ?_
    refine z_iload_n hF dX4_beginsPiece_8 rfl ?_
    refine z_VN (As := [.int (nI p)]) (rest := []) (ws' := [(d0, .inr (4, [.ref t0, .ref r0, .ref q0, .ref y0, .ref d1, .int o, .int (nI v), .ref u0, .ref d2, .ref d3, .ref d4])), (r0, .inr (2, [.ref r1, .ref r2, .ref r3, .int (nI m)])), (r1, eI G 12 b), (r2, eI G 12 e)]) (st2 := [.int (covF b e m (nI p))]) (c2 := 0) (s2 := 0) hF (c_X2_covering G r0 r1 r2 r3 m (nI p) b e (by first | assumption | omega)) ggX4_beginsPiece_X2_covering (List.mem_of_getElem? (i := 5) rfl) k_2 k_3 k_4 rfl rfl rfl hs_X2_covering ⟨⟨Nat.le_of_ble_eq_true rfl, Nat.le_of_ble_eq_true rfl⟩, ⟨Nat.le_of_ble_eq_true rfl, Nat.le_of_ble_eq_true rfl⟩, Nat.le_of_ble_eq_true rfl⟩ [1, 2, 3] rfl rfl 0 rfl rfl rfl rfl rfl rfl rfl rfl rfl rfl dX4_beginsPiece_9 ?_
    refine z_aload_n hF dX4_beginsPiece_12 rfl ?_
    refine z_get (C := RX4) (T := TX4) (N := 11) (ci := 4) (v := .ref r0) hF k_0 1 (by decide) rfl k_1 rfl 0 rfl rfl dX4_beginsPiece_13 ?_
    refine z_iload_n hF dX4_beginsPiece_16 rfl ?_
    refine z_iconst (v := nI 1) hF dX4_beginsPiece_17 (by decide) ?_
    refine z_isub hF dX4_beginsPiece_18 ?_
    refine z_top (pk_sub (by omega)) ?_
    refine z_VN (As := [.int (nI (p - 1))]) (rest := [.int (covF b e m (nI p))]) (ws' := [(d0, .inr (4, [.ref t0, .ref r0, .ref q0, .ref y0, .ref d1, .int o, .int (nI v), .ref u0, .ref d2, .ref d3, .ref d4])), (r0, .inr (2, [.ref r1, .ref r2, .ref r3, .int (nI m)])), (r1, eI G 12 b), (r2, eI G 12 e)]) (st2 := [.int (covF b e m (nI (p - 1))), .int (covF b e m (nI p))]) (c2 := 0) (s2 := 0) hF (c_X2_covering G r0 r1 r2 r3 m (nI (p - 1)) b e (by first | assumption | omega)) ggX4_beginsPiece_X2_covering (List.mem_of_getElem? (i := 5) rfl) k_2 k_3 k_4 rfl rfl rfl hs_X2_covering ⟨⟨Nat.le_of_ble_eq_true rfl, Nat.le_of_ble_eq_true rfl⟩, ⟨Nat.le_of_ble_eq_true rfl, Nat.le_of_ble_eq_true rfl⟩, Nat.le_of_ble_eq_true rfl⟩ [1, 2, 3] rfl rfl 0 rfl rfl rfl rfl rfl rfl rfl rfl rfl rfl dX4_beginsPiece_19 ?_
    refine z_ic_eq (tgt := 29) hF dX4_beginsPiece_22 (by decide) (fun c_2 => ?_) (fun c_2 => ?_)
    · refine z_iconst (v := nI 0) hF dX4_beginsPiece_29 (by decide) ?_
      exact hR.i dX4_beginsPiece_30 (Nat.le_of_ble_eq_true rfl) (Nat.le_of_ble_eq_true rfl) (rfl) (by first | exact zb1 (by simp [pcP, *]) | exact zb0 (by simp [pcP, *]))
    · refine z_iconst (v := nI 1) hF dX4_beginsPiece_25 (by decide) ?_
      refine z_goto (tgt := 30) hF dX4_beginsPiece_26 (by decide) ?_
      exact hR.i dX4_beginsPiece_30 (Nat.le_of_ble_eq_true rfl) (Nat.le_of_ble_eq_true rfl) (rfl) (by first | exact zb1 (by simp [pcP, *]) | exact zb0 (by simp [pcP, *]))
set_option maxHeartbeats 4000000 in
set_option maxRecDepth 100000 in
theorem c_X4_overlapping (G : zG) (d0 t0 r0 q0 y0 d1 u0 d2 d3 d4 v : Nat) (o : Int32) (u1 u2 u3 j : Nat) (b2 : Nat → Int32) (e2 : Nat → Int32) (xs : Nat → Int32) (i : Nat) (hj : j ≤ 10) (hi : i < 10) : zM G yX4_overlapping wsX4_overlapping ({ frames := 2, cells := 0, slots := 0, locals := 42 }) [.ref d0, .int (nI i)] [(d0, .inr (4, [.ref t0, .ref r0, .ref q0, .ref y0, .ref d1, .int o, .int (nI v), .ref u0, .ref d2, .ref d3, .ref d4])), (u0, .inr (2, [.ref u1, .ref u2, .ref u3, .int (nI j)])), (u1, eI G 12 b2), (u2, eI G 12 e2), (d4, eI G 10 xs)] [(d0, .inr (4, [.ref t0, .ref r0, .ref q0, .ref y0, .ref d1, .int o, .int (nI v), .ref u0, .ref d2, .ref d3, .ref d4])), (u0, .inr (2, [.ref u1, .ref u2, .ref u3, .int (nI j)])), (u1, eI G 12 b2), (u2, eI G 12 e2), (d4, eI G 10 xs)] (some (.int (ovF b2 e2 xs i j))) 0 0 := by
  refine zM.ofI (own := RX4) (cc := cX4_overlapping) (maxL := 4) rfl (by decide) rfl rfl (by simp [Value.category]) (Nat.le_of_ble_eq_true rfl) ?_
  intro X hF hR
  have k_0 : ∀ w ∈ wsX40, w ∈ wsX4_overlapping := by decide +kernel
  have k_1 : zH X (.fieldLink RX4 57 "MarginDesk" "states" "[I") := hF.w (by decide +kernel)
  have k_2 : zH X (.fieldLink RX4 48 "MarginDesk" "suggestionRanges" "LMarginDesk$Ranges;") := hF.w (by decide +kernel)
  have k_3 : ∀ w ∈ wsX20, w ∈ wsX4_overlapping := by decide +kernel
  have k_4 : zH X (.fieldLinkNest RX4 92 "MarginDesk$Ranges" "count" "I" RX4) := hF.nf (List.mem_of_getElem? (i := 3) rfl)
  have k_5 : zH X (.initialized RX2) := hF.w (by decide +kernel)
  have k_6 : zH X (.instanceMethod yX2_share) := hF.w (by decide +kernel)
  have k_7 : zH X (.selects RX2 yX2_share yX2_share) := hF.w (by decide +kernel)
  refine z_lv (lv' := [some (.ref d0), some (.int (nI i)), none, none]) rfl ?_
  refine z_aload_n hF dX4_overlapping_0 rfl ?_
  refine z_get (C := RX4) (T := TX4) (N := 11) (ci := 4) (v := .ref d4) hF k_0 10 (by decide) rfl k_1 rfl 0 rfl rfl dX4_overlapping_1 ?_
  refine z_iload_n hF dX4_overlapping_4 rfl ?_
  refine z_iald (k := i) hF 4 rfl (rfl) (by omega) rfl dX4_overlapping_5 ?_
  refine z_if_eq (tgt := 11) hF dX4_overlapping_6 (by decide) (fun hw => ?_) (fun hw => ?_)
  · refine z_iconst (v := nI 0) hF dX4_overlapping_11 (by decide) ?_
    refine z_istore_n (lv' := [some (.ref d0), some (.int (nI i)), some (.int (nI 0)), none]) hF dX4_overlapping_12 rfl rfl ?_
    refine z_iconst (v := nI 0) hF dX4_overlapping_13 (by decide) ?_
    refine z_istore_n (lv' := [some (.ref d0), some (.int (nI i)), some (.int (nI 0)), some (.int (nI 0))]) hF dX4_overlapping_14 rfl rfl ?_
    refine z_lv (lv' := [some (.ref d0), some (.int (nI i)), some (.int (cov (ovP b2 e2 xs i) 0)), some (.int (nI 0))]) (by rfl) ?_
    have J_15 : ∀ (n9 : Nat) (k : Nat), j - k < n9 → (k ≤ j) → zJ G X 15 [(d0, .inr (4, [.ref t0, .ref r0, .ref q0, .ref y0, .ref d1, .int o, .int (nI v), .ref u0, .ref d2, .ref d3, .ref d4])), (u0, .inr (2, [.ref u1, .ref u2, .ref u3, .int (nI j)])), (u1, eI G 12 b2), (u2, eI G 12 e2), (d4, eI G 10 xs)] [some (.ref d0), some (.int (nI i)), some (.int (cov (ovP b2 e2 xs i) k)), some (.int (nI k))] [] 0 0 := by
      intro n9
      induction n9 with
      | zero => intro k hmu; exact absurd hmu (Nat.not_lt_zero _)
      | succ n9 ih =>
        intro k hmu h2
        refine z_iload_n hF dX4_overlapping_15 rfl ?_
        refine z_aload_n hF dX4_overlapping_16 rfl ?_
        refine z_get (C := RX4) (T := TX4) (N := 11) (ci := 4) (v := .ref u0) hF k_0 7 (by decide) rfl k_2 rfl 0 rfl rfl dX4_overlapping_17 ?_
        refine z_getN (C := RX2) (T := TX2) (N := 4) (ci := 2) (v := .int (nI j)) hF k_3 3 (by decide) rfl k_4 rfl 1 rfl rfl dX4_overlapping_20 ?_
        refine z_icn_ge (tgt := 65) hF (by omega) (by omega) dX4_overlapping_23 (by decide) (fun c_1 => ?_) (fun c_1 => ?_)
        · refine z_iload_n hF dX4_overlapping_65 rfl ?_
          exact hR.i dX4_overlapping_66 (Nat.le_of_ble_eq_true rfl) (Nat.le_of_ble_eq_true rfl) (rfl) (by rw [show k = j by omega]; simp [ovF, hw])
        · refine z_iload_n hF dX4_overlapping_26 rfl ?_
          refine z_iload_n hF dX4_overlapping_27 rfl ?_
          refine z_icn_eq (tgt := 59) hF (by omega) (by omega) dX4_overlapping_28 (by decide) (fun c_2 => ?_) (fun c_2 => ?_)
          · refine z_iinc (v := nI (k + 1)) (lv' := [some (.ref d0), some (.int (nI i)), some (.int (cov (ovP b2 e2 xs i) k)), some (.int (nI (k + 1)))]) hF dX4_overlapping_59 rfl (nI_1 k) rfl rfl ?_
            refine z_goto (tgt := 15) hF dX4_overlapping_62 (by decide) ?_
            refine z_lv (lv' := [some (.ref d0), some (.int (nI i)), some (.int (cov (ovP b2 e2 xs i) (k + 1))), some (.int (nI (k + 1)))]) (by rw [cov_f (k := k) (by unfold ovP; grind)]) ?_
            exact ih (k + 1) (by omega) (by omega)
          · refine z_aload_n hF dX4_overlapping_31 rfl ?_
            refine z_get (C := RX4) (T := TX4) (N := 11) (ci := 4) (v := .ref d4) hF k_0 10 (by decide) rfl k_1 rfl 0 rfl rfl dX4_overlapping_32 ?_
            refine z_iload_n hF dX4_overlapping_35 rfl ?_
            refine z_iald (k := k) hF 4 rfl (rfl) (by omega) rfl dX4_overlapping_36 ?_
            refine z_if_ne (tgt := 59) hF dX4_overlapping_37 (by decide) (fun c_3 => ?_) (fun c_3 => ?_)
            · refine z_iinc (v := nI (k + 1)) (lv' := [some (.ref d0), some (.int (nI i)), some (.int (cov (ovP b2 e2 xs i) k)), some (.int (nI (k + 1)))]) hF dX4_overlapping_59 rfl (nI_1 k) rfl rfl ?_
              refine z_goto (tgt := 15) hF dX4_overlapping_62 (by decide) ?_
              refine z_lv (lv' := [some (.ref d0), some (.int (nI i)), some (.int (cov (ovP b2 e2 xs i) (k + 1))), some (.int (nI (k + 1)))]) (by rw [cov_f (k := k) (by unfold ovP; grind)]) ?_
              exact ih (k + 1) (by omega) (by omega)
            · refine z_aload_n hF dX4_overlapping_40 rfl ?_
              refine z_get (C := RX4) (T := TX4) (N := 11) (ci := 4) (v := .ref u0) hF k_0 7 (by decide) rfl k_2 rfl 0 rfl rfl dX4_overlapping_41 ?_
              refine z_iload_n hF dX4_overlapping_44 rfl ?_
              refine z_iload_n hF dX4_overlapping_45 rfl ?_
              refine z_VN (As := [.int (nI i), .int (nI k)]) (rest := []) (ws' := [(d0, .inr (4, [.ref t0, .ref r0, .ref q0, .ref y0, .ref d1, .int o, .int (nI v), .ref u0, .ref d2, .ref d3, .ref d4])), (u0, .inr (2, [.ref u1, .ref u2, .ref u3, .int (nI j)])), (u1, eI G 12 b2), (u2, eI G 12 e2), (d4, eI G 10 xs)]) (st2 := [.int (zb ((if b2 i < b2 k then b2 k else b2 i) < (if e2 k < e2 i then e2 k else e2 i)))]) (c2 := 0) (s2 := 0) hF (c_X2_share G u0 u1 u2 u3 j i k b2 e2 (by first | assumption | omega) (by first | assumption | omega)) ggX4_overlapping_X2_share (List.mem_of_getElem? (i := 24) rfl) k_5 k_6 k_7 rfl rfl rfl hs_X2_share ⟨⟨Nat.le_of_ble_eq_true rfl, Nat.le_of_ble_eq_true rfl⟩, ⟨Nat.le_of_ble_eq_true rfl, Nat.le_of_ble_eq_true rfl⟩, Nat.le_of_ble_eq_true rfl⟩ [1, 2, 3] rfl rfl 0 rfl rfl rfl rfl rfl rfl rfl rfl rfl rfl dX4_overlapping_46 ?_
              refine z_if_eq_b (tgt := 59) hF dX4_overlapping_49 (by decide) (fun c_4 => ?_) (fun c_4 => ?_)
              · refine z_iinc (v := nI (k + 1)) (lv' := [some (.ref d0), some (.int (nI i)), some (.int (cov (ovP b2 e2 xs i) k)), some (.int (nI (k + 1)))]) hF dX4_overlapping_59 rfl (nI_1 k) rfl rfl ?_
                refine z_goto (tgt := 15) hF dX4_overlapping_62 (by decide) ?_
                refine z_lv (lv' := [some (.ref d0), some (.int (nI i)), some (.int (cov (ovP b2 e2 xs i) (k + 1))), some (.int (nI (k + 1)))]) (by rw [cov_f (k := k) (by unfold ovP; grind)]) ?_
                exact ih (k + 1) (by omega) (by omega)
              · refine z_iload_n hF dX4_overlapping_52 rfl ?_
                refine z_iload_n hF dX4_overlapping_53 rfl ?_
                refine z_S (As := [.int (nI k)]) (rest := [.int (cov (ovP b2 e2 xs i) k)]) (ws' := [(d0, .inr (4, [.ref t0, .ref r0, .ref q0, .ref y0, .ref d1, .int o, .int (nI v), .ref u0, .ref d2, .ref d3, .ref d4])), (u0, .inr (2, [.ref u1, .ref u2, .ref u3, .int (nI j)])), (u1, eI G 12 b2), (u2, eI G 12 e2), (d4, eI G 10 xs)]) (st2 := [.int (bitF (nI k)), .int (cov (ovP b2 e2 xs i) k)]) (c2 := 0) (s2 := 0) hF (c_X4_bit G (nI k)) gX4_overlapping_X4_bit rfl rfl rfl hs_X4_bit ⟨⟨Nat.le_of_ble_eq_true rfl, Nat.le_of_ble_eq_true rfl⟩, ⟨Nat.le_of_ble_eq_true rfl, Nat.le_of_ble_eq_true rfl⟩, Nat.le_of_ble_eq_true rfl⟩ [] rfl rfl rfl rfl rfl rfl rfl rfl rfl rfl dX4_overlapping_54 ?_
                refine z_ior hF dX4_overlapping_57 ?_
                refine z_top (y := cov (ovP b2 e2 xs i) (k + 1)) (cov_t (P := ovP b2 e2 xs i) (by unfold ovP; grind)) ?_
                refine z_istore_n (lv' := [some (.ref d0), some (.int (nI i)), some (.int (cov (ovP b2 e2 xs i) (k + 1))), some (.int (nI k))]) hF dX4_overlapping_58 rfl rfl ?_
                refine z_iinc (v := nI (k + 1)) (lv' := [some (.ref d0), some (.int (nI i)), some (.int (cov (ovP b2 e2 xs i) (k + 1))), some (.int (nI (k + 1)))]) hF dX4_overlapping_59 rfl (nI_1 k) rfl rfl ?_
                refine z_goto (tgt := 15) hF dX4_overlapping_62 (by decide) ?_
                exact ih (k + 1) (by omega) (by omega)
    exact J_15 ((j - 0) + 1) 0 (Nat.lt_succ_self _) (by omega)
  · refine z_iconst (v := nI 0) hF dX4_overlapping_9 (by decide) ?_
    exact hR.i dX4_overlapping_10 (Nat.le_of_ble_eq_true rfl) (Nat.le_of_ble_eq_true rfl) (rfl) (by simp [ovF, hw, nI_0])
set_option maxHeartbeats 4000000 in
set_option maxRecDepth 100000 in
theorem c_X4_countWaiting (G : zG) (d0 t0 r0 q0 y0 d1 u0 d2 d3 d4 v : Nat) (o : Int32) (u1 u2 u3 j : Nat) (xs : Nat → Int32) (hj : j ≤ 10) : zM G yX4_countWaiting wsX4_countWaiting ({ frames := 0, cells := 0, slots := 0, locals := 12 }) [.ref d0] [(d0, .inr (4, [.ref t0, .ref r0, .ref q0, .ref y0, .ref d1, .int o, .int (nI v), .ref u0, .ref d2, .ref d3, .ref d4])), (u0, .inr (2, [.ref u1, .ref u2, .ref u3, .int (nI j)])), (d4, eI G 10 xs)] [(d0, .inr (4, [.ref t0, .ref r0, .ref q0, .ref y0, .ref d1, .int o, .int (nI v), .ref u0, .ref d2, .ref d3, .ref d4])), (u0, .inr (2, [.ref u1, .ref u2, .ref u3, .int (nI j)])), (d4, eI G 10 xs)] (some (.int (nI (cntF (fun kk => xs kk = 0) j)))) 0 0 := by
  refine zM.ofI (own := RX4) (cc := cX4_countWaiting) (maxL := 3) rfl (by decide) rfl rfl (by simp [Value.category]) (Nat.le_of_ble_eq_true rfl) ?_
  intro X hF hR
  have k_0 : ∀ w ∈ wsX40, w ∈ wsX4_countWaiting := by decide +kernel
  have k_1 : zH X (.fieldLink RX4 48 "MarginDesk" "suggestionRanges" "LMarginDesk$Ranges;") := hF.w (by decide +kernel)
  have k_2 : ∀ w ∈ wsX20, w ∈ wsX4_countWaiting := by decide +kernel
  have k_3 : zH X (.fieldLinkNest RX4 92 "MarginDesk$Ranges" "count" "I" RX4) := hF.nf (List.mem_of_getElem? (i := 3) rfl)
  have k_4 : zH X (.fieldLink RX4 57 "MarginDesk" "states" "[I") := hF.w (by decide +kernel)
  refine z_lv (lv' := [some (.ref d0), none, none]) rfl ?_
  refine z_iconst (v := nI 0) hF dX4_countWaiting_0 (by decide) ?_
  refine z_istore_n (lv' := [some (.ref d0), some (.int (nI 0)), none]) hF dX4_countWaiting_1 rfl rfl ?_
  refine z_iconst (v := nI 0) hF dX4_countWaiting_2 (by decide) ?_
  refine z_istore_n (lv' := [some (.ref d0), some (.int (nI 0)), some (.int (nI 0))]) hF dX4_countWaiting_3 rfl rfl ?_
  refine z_lv (lv' := [some (.ref d0), some (.int (nI (cntF (fun kk => xs kk = 0) 0))), some (.int (nI 0))]) (by rfl) ?_
  have J_4 : ∀ (n9 : Nat) (i : Nat), j - i < n9 → (i ≤ j) → zJ G X 4 [(d0, .inr (4, [.ref t0, .ref r0, .ref q0, .ref y0, .ref d1, .int o, .int (nI v), .ref u0, .ref d2, .ref d3, .ref d4])), (u0, .inr (2, [.ref u1, .ref u2, .ref u3, .int (nI j)])), (d4, eI G 10 xs)] [some (.ref d0), some (.int (nI (cntF (fun kk => xs kk = 0) i))), some (.int (nI i))] [] 0 0 := by
    intro n9
    induction n9 with
    | zero => intro i hmu; exact absurd hmu (Nat.not_lt_zero _)
    | succ n9 ih =>
      intro i hmu h2
      refine z_iload_n hF dX4_countWaiting_4 rfl ?_
      refine z_aload_n hF dX4_countWaiting_5 rfl ?_
      refine z_get (C := RX4) (T := TX4) (N := 11) (ci := 4) (v := .ref u0) hF k_0 7 (by decide) rfl k_1 rfl 0 rfl rfl dX4_countWaiting_6 ?_
      refine z_getN (C := RX2) (T := TX2) (N := 4) (ci := 2) (v := .int (nI j)) hF k_2 3 (by decide) rfl k_3 rfl 1 rfl rfl dX4_countWaiting_9 ?_
      refine z_icn_ge (tgt := 33) hF (by omega) (by omega) dX4_countWaiting_12 (by decide) (fun c_1 => ?_) (fun c_1 => ?_)
      · refine z_iload_n hF dX4_countWaiting_33 rfl ?_
        exact hR.i dX4_countWaiting_34 (Nat.le_of_ble_eq_true rfl) (Nat.le_of_ble_eq_true rfl) (rfl) (by rw [show i = j by omega])
      · refine z_aload_n hF dX4_countWaiting_15 rfl ?_
        refine z_get (C := RX4) (T := TX4) (N := 11) (ci := 4) (v := .ref d4) hF k_0 10 (by decide) rfl k_4 rfl 0 rfl rfl dX4_countWaiting_16 ?_
        refine z_iload_n hF dX4_countWaiting_19 rfl ?_
        refine z_iald (k := i) hF 2 rfl (rfl) (by omega) rfl dX4_countWaiting_20 ?_
        refine z_if_ne (tgt := 27) hF dX4_countWaiting_21 (by decide) (fun c_2 => ?_) (fun c_2 => ?_)
        · refine z_iinc (v := nI (i + 1)) (lv' := [some (.ref d0), some (.int (nI (cntF (fun kk => xs kk = 0) i))), some (.int (nI (i + 1)))]) hF dX4_countWaiting_27 rfl (nI_1 i) rfl rfl ?_
          refine z_goto (tgt := 4) hF dX4_countWaiting_30 (by decide) ?_
          refine z_lv (lv' := [some (.ref d0), some (.int (nI (cntF (fun kk => xs kk = 0) (i + 1)))), some (.int (nI (i + 1)))]) (by rw [cntF_f (k := i) (by assumption)]) ?_
          exact ih (i + 1) (by omega) (by omega)
        · refine z_iinc (v := nI (cntF (fun kk => xs kk = 0) i + 1)) (lv' := [some (.ref d0), some (.int (nI (cntF (fun kk => xs kk = 0) i + 1))), some (.int (nI i))]) hF dX4_countWaiting_24 rfl (nI_1 (cntF (fun kk => xs kk = 0) i)) rfl rfl ?_
          refine z_iinc (v := nI (i + 1)) (lv' := [some (.ref d0), some (.int (nI (cntF (fun kk => xs kk = 0) i + 1))), some (.int (nI (i + 1)))]) hF dX4_countWaiting_27 rfl (nI_1 i) rfl rfl ?_
          refine z_goto (tgt := 4) hF dX4_countWaiting_30 (by decide) ?_
          refine z_lv (lv' := [some (.ref d0), some (.int (nI (cntF (fun kk => xs kk = 0) (i + 1)))), some (.int (nI (i + 1)))]) (by rw [cntF_t (k := i) (by assumption)]) ?_
          exact ih (i + 1) (by omega) (by omega)
  exact J_4 ((j - 0) + 1) 0 (Nat.lt_succ_self _) (by omega)
