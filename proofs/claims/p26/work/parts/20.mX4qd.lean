set_option maxHeartbeats 4000000 in
set_option maxRecDepth 100000 in
theorem c_X4_coverByLetters (G : zG) (d0 t0 r0 q0 y0 d1 u0 d2 d3 d4 v : Nat) (o : Int32) (t1 t2 n : Nat) (g : Nat → Int32) (a : Nat) (hn : n ≤ 60) (ha : a ≤ n) : zM G yX4_coverByLetters wsX4_coverByLetters ({ frames := 2, cells := 0, slots := 0, locals := 54 }) [.ref d0, .int (nI a)] [(d0, .inr (4, [.ref t0, .ref r0, .ref q0, .ref y0, .ref d1, .int o, .int (nI v), .ref u0, .ref d2, .ref d3, .ref d4])), (t0, .inr (3, [.ref t1, .ref t2, .int (nI n)])), (t2, eI G 60 g)] [(d0, .inr (4, [.ref t0, .ref r0, .ref q0, .ref y0, .ref d1, .int o, .int (nI v), .ref u0, .ref d2, .ref d3, .ref d4])), (t0, .inr (3, [.ref t1, .ref t2, .int (nI n)])), (t2, eI G 60 g)] (some (.int (marF n g (nI a)))) 0 0 := by
  refine zM.ofI (own := RX4) (cc := cX4_coverByLetters) (maxL := 2) rfl (by decide) rfl rfl (by simp [Value.category]) (Nat.le_of_ble_eq_true rfl) ?_
  intro X hF hR
  have k_0 : ∀ w ∈ wsX40, w ∈ wsX4_coverByLetters := by decide +kernel
  have k_1 : zH X (.fieldLink RX4 10 "MarginDesk" "text" "LMarginDesk$Text;") := hF.w (by decide +kernel)
  have k_2 : zH X (.initialized RX3) := hF.w (by decide +kernel)
  have k_3 : zH X (.instanceMethod yX3_marksBehind) := hF.w (by decide +kernel)
  have k_4 : zH X (.selects RX3 yX3_marksBehind yX3_marksBehind) := hF.w (by decide +kernel)
  refine z_lv (lv' := [some (.ref d0), some (.int (nI a))]) rfl ?_
  refine z_aload_n hF dX4_coverByLetters_0 rfl ?_
  refine z_iload_n hF dX4_coverByLetters_1 rfl ?_
  refine z_V (As := [.int (nI a)]) (rest := []) (ws' := [(d0, .inr (4, [.ref t0, .ref r0, .ref q0, .ref y0, .ref d1, .int o, .int (nI v), .ref u0, .ref d2, .ref d3, .ref d4])), (t0, .inr (3, [.ref t1, .ref t2, .int (nI n)])), (t2, eI G 60 g)]) (st2 := []) (c2 := 0) (s2 := 0) hF (c_X4_checkPlace G d0 t0 r0 q0 y0 d1 u0 d2 d3 d4 v o t1 t2 n a (by first | assumption | omega) (by first | assumption | omega)) gX4_coverByLetters_X4_checkPlace rfl rfl rfl hd_X4_checkPlace ⟨⟨Nat.le_of_ble_eq_true rfl, Nat.le_of_ble_eq_true rfl⟩, ⟨Nat.le_of_ble_eq_true rfl, Nat.le_of_ble_eq_true rfl⟩, Nat.le_of_ble_eq_true rfl⟩ [0, 1] rfl rfl 0 rfl rfl rfl rfl rfl rfl rfl rfl rfl rfl dX4_coverByLetters_2 ?_
  refine z_aload_n hF dX4_coverByLetters_5 rfl ?_
  refine z_get (C := RX4) (T := TX4) (N := 11) (ci := 4) (v := .ref t0) hF k_0 0 (by decide) rfl k_1 rfl 0 rfl rfl dX4_coverByLetters_6 ?_
  refine z_iload_n hF dX4_coverByLetters_9 rfl ?_
  refine z_VN (As := [.int (nI a)]) (rest := []) (ws' := [(d0, .inr (4, [.ref t0, .ref r0, .ref q0, .ref y0, .ref d1, .int o, .int (nI v), .ref u0, .ref d2, .ref d3, .ref d4])), (t0, .inr (3, [.ref t1, .ref t2, .int (nI n)])), (t2, eI G 60 g)]) (st2 := [.int (marF n g (nI a))]) (c2 := 0) (s2 := 0) hF (c_X3_marksBehind G t0 t1 t2 n g (nI a) (by first | assumption | omega)) ggX4_coverByLetters_X3_marksBehind (List.mem_of_getElem? (i := 23) rfl) k_2 k_3 k_4 rfl rfl rfl hs_X3_marksBehind ⟨⟨Nat.le_of_ble_eq_true rfl, Nat.le_of_ble_eq_true rfl⟩, ⟨Nat.le_of_ble_eq_true rfl, Nat.le_of_ble_eq_true rfl⟩, Nat.le_of_ble_eq_true rfl⟩ [1, 2] rfl rfl 0 rfl rfl rfl rfl rfl rfl rfl rfl rfl rfl dX4_coverByLetters_10 ?_
  exact hR.i dX4_coverByLetters_13 (Nat.le_of_ble_eq_true rfl) (Nat.le_of_ble_eq_true rfl) (rfl) (rfl)
set_option maxHeartbeats 4000000 in
set_option maxRecDepth 100000 in
theorem c_X4_pieces (G : zG) (d0 t0 r0 q0 y0 d1 u0 d2 d3 d4 v : Nat) (o : Int32) (t1 t2 n : Nat) (r1 r2 r3 m : Nat) (b : Nat → Int32) (e : Nat → Int32) (hm : m ≤ 12) (hn : n ≤ 60) : zM G yX4_pieces wsX4_pieces ({ frames := 3, cells := 0, slots := 0, locals := 76 }) [.ref d0] [(d0, .inr (4, [.ref t0, .ref r0, .ref q0, .ref y0, .ref d1, .int o, .int (nI v), .ref u0, .ref d2, .ref d3, .ref d4])), (t0, .inr (3, [.ref t1, .ref t2, .int (nI n)])), (r0, .inr (2, [.ref r1, .ref r2, .ref r3, .int (nI m)])), (r1, eI G 12 b), (r2, eI G 12 e)] [(d0, .inr (4, [.ref t0, .ref r0, .ref q0, .ref y0, .ref d1, .int o, .int (nI v), .ref u0, .ref d2, .ref d3, .ref d4])), (t0, .inr (3, [.ref t1, .ref t2, .int (nI n)])), (r0, .inr (2, [.ref r1, .ref r2, .ref r3, .int (nI m)])), (r1, eI G 12 b), (r2, eI G 12 e)] (some (.int (nI (cntF (pcP b e m) n)))) 0 0 := by
  refine zM.ofI (own := RX4) (cc := cX4_pieces) (maxL := 3) rfl (by decide) rfl rfl (by simp [Value.category]) (Nat.le_of_ble_eq_true rfl) ?_
  intro X hF hR
  have k_0 : ∀ w ∈ wsX40, w ∈ wsX4_pieces := by decide +kernel
  have k_1 : zH X (.fieldLink RX4 10 "MarginDesk" "text" "LMarginDesk$Text;") := hF.w (by decide +kernel)
  have k_2 : ∀ w ∈ wsX30, w ∈ wsX4_pieces := by decide +kernel
  have k_3 : zH X (.fieldLinkNest RX4 78 "MarginDesk$Text" "size" "I" RX4) := hF.nf (List.mem_of_getElem? (i := 2) rfl)
  refine z_lv (lv' := [some (.ref d0), none, none]) rfl ?_
  refine z_iconst (v := nI 0) hF dX4_pieces_0 (by decide) ?_
  refine z_istore_n (lv' := [some (.ref d0), some (.int (nI 0)), none]) hF dX4_pieces_1 rfl rfl ?_
  refine z_iconst (v := nI 0) hF dX4_pieces_2 (by decide) ?_
  refine z_istore_n (lv' := [some (.ref d0), some (.int (nI 0)), some (.int (nI 0))]) hF dX4_pieces_3 rfl rfl ?_
  refine z_lv (lv' := [some (.ref d0), some (.int (nI (cntF (pcP b e m) 0))), some (.int (nI 0))]) (by rfl) ?_
  have J_4 : ∀ (n9 : Nat) (i : Nat), n - i < n9 → (i ≤ n) → zJ G X 4 [(d0, .inr (4, [.ref t0, .ref r0, .ref q0, .ref y0, .ref d1, .int o, .int (nI v), .ref u0, .ref d2, .ref d3, .ref d4])), (t0, .inr (3, [.ref t1, .ref t2, .int (nI n)])), (r0, .inr (2, [.ref r1, .ref r2, .ref r3, .int (nI m)])), (r1, eI G 12 b), (r2, eI G 12 e)] [some (.ref d0), some (.int (nI (cntF (pcP b e m) i))), some (.int (nI i))] [] 0 0 := by
    intro n9
    induction n9 with
    | zero => intro i hmu; exact absurd hmu (Nat.not_lt_zero _)
    | succ n9 ih =>
      intro i hmu h2
      refine z_iload_n hF dX4_pieces_4 rfl ?_
      refine z_aload_n hF dX4_pieces_5 rfl ?_
      refine z_get (C := RX4) (T := TX4) (N := 11) (ci := 4) (v := .ref t0) hF k_0 0 (by decide) rfl k_1 rfl 0 rfl rfl dX4_pieces_6 ?_
      refine z_getN (C := RX3) (T := TX3) (N := 3) (ci := 3) (v := .int (nI n)) hF k_2 2 (by decide) rfl k_3 rfl 1 rfl rfl dX4_pieces_9 ?_
      refine z_icn_ge (tgt := 32) hF (by omega) (by omega) dX4_pieces_12 (by decide) (fun c_1 => ?_) (fun c_1 => ?_)
      · refine z_iload_n hF dX4_pieces_32 rfl ?_
        exact hR.i dX4_pieces_33 (Nat.le_of_ble_eq_true rfl) (Nat.le_of_ble_eq_true rfl) (rfl) (by rw [show i = n by omega])
      · refine z_aload_n hF dX4_pieces_15 rfl ?_
        refine z_iload_n hF dX4_pieces_16 rfl ?_
        refine z_V (As := [.int (nI i)]) (rest := []) (ws' := [(d0, .inr (4, [.ref t0, .ref r0, .ref q0, .ref y0, .ref d1, .int o, .int (nI v), .ref u0, .ref d2, .ref d3, .ref d4])), (t0, .inr (3, [.ref t1, .ref t2, .int (nI n)])), (r0, .inr (2, [.ref r1, .ref r2, .ref r3, .int (nI m)])), (r1, eI G 12 b), (r2, eI G 12 e)]) (st2 := [.int (zb (pcP b e m i))]) (c2 := 0) (s2 := 0) hF (c_X4_beginsPiece G d0 t0 r0 q0 y0 d1 u0 d2 d3 d4 v o r1 r2 r3 m b e i (by first | assumption | omega) (by first | assumption | omega)) gX4_pieces_X4_beginsPiece rfl rfl rfl hd_X4_beginsPiece ⟨⟨Nat.le_of_ble_eq_true rfl, Nat.le_of_ble_eq_true rfl⟩, ⟨Nat.le_of_ble_eq_true rfl, Nat.le_of_ble_eq_true rfl⟩, Nat.le_of_ble_eq_true rfl⟩ [0, 2, 3, 4] rfl rfl 0 rfl rfl rfl rfl rfl rfl rfl rfl rfl rfl dX4_pieces_17 ?_
        refine z_if_eq_b (tgt := 26) hF dX4_pieces_20 (by decide) (fun hb => ?_) (fun hb => ?_)
        · refine z_iinc (v := nI (i + 1)) (lv' := [some (.ref d0), some (.int (nI (cntF (pcP b e m) i))), some (.int (nI (i + 1)))]) hF dX4_pieces_26 rfl (nI_1 i) rfl rfl ?_
          refine z_goto (tgt := 4) hF dX4_pieces_29 (by decide) ?_
          refine z_lv (lv' := [some (.ref d0), some (.int (nI (cntF (pcP b e m) (i + 1)))), some (.int (nI (i + 1)))]) (by rw [cntF_f (k := i) hb]) ?_
          exact ih (i + 1) (by omega) (by omega)
        · refine z_iinc (v := nI (cntF (pcP b e m) i + 1)) (lv' := [some (.ref d0), some (.int (nI (cntF (pcP b e m) i + 1))), some (.int (nI i))]) hF dX4_pieces_23 rfl (nI_1 (cntF (pcP b e m) i)) rfl rfl ?_
          refine z_iinc (v := nI (i + 1)) (lv' := [some (.ref d0), some (.int (nI (cntF (pcP b e m) i + 1))), some (.int (nI (i + 1)))]) hF dX4_pieces_26 rfl (nI_1 i) rfl rfl ?_
          refine z_goto (tgt := 4) hF dX4_pieces_29 (by decide) ?_
          refine z_lv (lv' := [some (.ref d0), some (.int (nI (cntF (pcP b e m) (i + 1)))), some (.int (nI (i + 1)))]) (by rw [cntF_t (k := i) hb]) ?_
          exact ih (i + 1) (by omega) (by omega)
  exact J_4 ((n - 0) + 1) 0 (Nat.lt_succ_self _) (by omega)
set_option maxHeartbeats 4000000 in
set_option maxRecDepth 100000 in
theorem c_X4_pieceAt (G : zG) (d0 t0 r0 q0 y0 d1 u0 d2 d3 d4 v : Nat) (o : Int32) (t1 t2 n : Nat) (r1 r2 r3 m : Nat) (b : Nat → Int32) (e : Nat → Int32) (x : Int32) (hm : m ≤ 12) (hn : n ≤ 60) (hfn : ¬ fndF (pcP b e m) x n = -1) : zM G yX4_pieceAt wsX4_pieceAt ({ frames := 3, cells := 0, slots := 0, locals := 76 }) [.ref d0, .int x] [(d0, .inr (4, [.ref t0, .ref r0, .ref q0, .ref y0, .ref d1, .int o, .int (nI v), .ref u0, .ref d2, .ref d3, .ref d4])), (t0, .inr (3, [.ref t1, .ref t2, .int (nI n)])), (r0, .inr (2, [.ref r1, .ref r2, .ref r3, .int (nI m)])), (r1, eI G 12 b), (r2, eI G 12 e)] [(d0, .inr (4, [.ref t0, .ref r0, .ref q0, .ref y0, .ref d1, .int o, .int (nI v), .ref u0, .ref d2, .ref d3, .ref d4])), (t0, .inr (3, [.ref t1, .ref t2, .int (nI n)])), (r0, .inr (2, [.ref r1, .ref r2, .ref r3, .int (nI m)])), (r1, eI G 12 b), (r2, eI G 12 e)] (some (.int (fndF (pcP b e m) x n))) 0 0 := by
  refine zM.ofI (own := RX4) (cc := cX4_pieceAt) (maxL := 4) rfl (by decide) rfl rfl (by simp [Value.category]) (Nat.le_of_ble_eq_true rfl) ?_
  intro X hF hR
  have k_0 : ∀ w ∈ wsX40, w ∈ wsX4_pieceAt := by decide +kernel
  have k_1 : zH X (.fieldLink RX4 10 "MarginDesk" "text" "LMarginDesk$Text;") := hF.w (by decide +kernel)
  have k_2 : ∀ w ∈ wsX30, w ∈ wsX4_pieceAt := by decide +kernel
  have k_3 : zH X (.fieldLinkNest RX4 78 "MarginDesk$Text" "size" "I" RX4) := hF.nf (List.mem_of_getElem? (i := 2) rfl)
  refine z_lv (lv' := [some (.ref d0), some (.int x), none, none]) rfl ?_
  refine z_iconst (v := nI 0) hF dX4_pieceAt_0 (by decide) ?_
  refine z_istore_n (lv' := [some (.ref d0), some (.int x), some (.int (nI 0)), none]) hF dX4_pieceAt_1 rfl rfl ?_
  refine z_iconst (v := nI 0) hF dX4_pieceAt_2 (by decide) ?_
  refine z_istore_n (lv' := [some (.ref d0), some (.int x), some (.int (nI 0)), some (.int (nI 0))]) hF dX4_pieceAt_3 rfl rfl ?_
  refine z_lv (lv' := [some (.ref d0), some (.int x), some (.int (nI (cntF (pcP b e m) 0))), some (.int (nI 0))]) (by rfl) ?_
  have J_4 : ∀ (n9 : Nat) (i : Nat), n - i < n9 → (i ≤ n) → (fndF (pcP b e m) x i = -1) → zJ G X 4 [(d0, .inr (4, [.ref t0, .ref r0, .ref q0, .ref y0, .ref d1, .int o, .int (nI v), .ref u0, .ref d2, .ref d3, .ref d4])), (t0, .inr (3, [.ref t1, .ref t2, .int (nI n)])), (r0, .inr (2, [.ref r1, .ref r2, .ref r3, .int (nI m)])), (r1, eI G 12 b), (r2, eI G 12 e)] [some (.ref d0), some (.int x), some (.int (nI (cntF (pcP b e m) i))), some (.int (nI i))] [] 0 0 := by
    intro n9
    induction n9 with
    | zero => intro i hmu; exact absurd hmu (Nat.not_lt_zero _)
    | succ n9 ih =>
      intro i hmu h2 hf
      refine z_iload_n hF dX4_pieceAt_4 rfl ?_
      refine z_aload_n hF dX4_pieceAt_5 rfl ?_
      refine z_get (C := RX4) (T := TX4) (N := 11) (ci := 4) (v := .ref t0) hF k_0 0 (by decide) rfl k_1 rfl 0 rfl rfl dX4_pieceAt_6 ?_
      refine z_getN (C := RX3) (T := TX3) (N := 3) (ci := 3) (v := .int (nI n)) hF k_2 2 (by decide) rfl k_3 rfl 1 rfl rfl dX4_pieceAt_9 ?_
      refine z_icn_ge (tgt := 39) hF (by omega) (by omega) dX4_pieceAt_12 (by decide) (fun c_1 => ?_) (fun c_1 => ?_)
      · have h9 : i = n := by omega
        subst h9
        exact absurd hf hfn
      · refine z_aload_n hF dX4_pieceAt_15 rfl ?_
        refine z_iload_n hF dX4_pieceAt_16 rfl ?_
        refine z_V (As := [.int (nI i)]) (rest := []) (ws' := [(d0, .inr (4, [.ref t0, .ref r0, .ref q0, .ref y0, .ref d1, .int o, .int (nI v), .ref u0, .ref d2, .ref d3, .ref d4])), (t0, .inr (3, [.ref t1, .ref t2, .int (nI n)])), (r0, .inr (2, [.ref r1, .ref r2, .ref r3, .int (nI m)])), (r1, eI G 12 b), (r2, eI G 12 e)]) (st2 := [.int (zb (pcP b e m i))]) (c2 := 0) (s2 := 0) hF (c_X4_beginsPiece G d0 t0 r0 q0 y0 d1 u0 d2 d3 d4 v o r1 r2 r3 m b e i (by first | assumption | omega) (by first | assumption | omega)) gX4_pieceAt_X4_beginsPiece rfl rfl rfl hd_X4_beginsPiece ⟨⟨Nat.le_of_ble_eq_true rfl, Nat.le_of_ble_eq_true rfl⟩, ⟨Nat.le_of_ble_eq_true rfl, Nat.le_of_ble_eq_true rfl⟩, Nat.le_of_ble_eq_true rfl⟩ [0, 2, 3, 4] rfl rfl 0 rfl rfl rfl rfl rfl rfl rfl rfl rfl rfl dX4_pieceAt_17 ?_
        refine z_if_eq_b (tgt := 33) hF dX4_pieceAt_20 (by decide) (fun hb => ?_) (fun hb => ?_)
        · refine z_iinc (v := nI (i + 1)) (lv' := [some (.ref d0), some (.int x), some (.int (nI (cntF (pcP b e m) i))), some (.int (nI (i + 1)))]) hF dX4_pieceAt_33 rfl (nI_1 i) rfl rfl ?_
          refine z_goto (tgt := 4) hF dX4_pieceAt_36 (by decide) ?_
          refine z_lv (lv' := [some (.ref d0), some (.int x), some (.int (nI (cntF (pcP b e m) (i + 1)))), some (.int (nI (i + 1)))]) (by rw [cntF_f (k := i) hb]) ?_
          exact ih (i + 1) (by omega) (by omega) (fndF_f hf (by grind))
        · refine z_iload_n hF dX4_pieceAt_23 rfl ?_
          refine z_iload_n hF dX4_pieceAt_24 rfl ?_
          refine z_ic_ne (tgt := 30) hF dX4_pieceAt_25 (by decide) (fun hx => ?_) (fun hx => ?_)
          · refine z_iinc (v := nI (cntF (pcP b e m) i + 1)) (lv' := [some (.ref d0), some (.int x), some (.int (nI (cntF (pcP b e m) i + 1))), some (.int (nI i))]) hF dX4_pieceAt_30 rfl (nI_1 (cntF (pcP b e m) i)) rfl rfl ?_
            refine z_iinc (v := nI (i + 1)) (lv' := [some (.ref d0), some (.int x), some (.int (nI (cntF (pcP b e m) i + 1))), some (.int (nI (i + 1)))]) hF dX4_pieceAt_33 rfl (nI_1 i) rfl rfl ?_
            refine z_goto (tgt := 4) hF dX4_pieceAt_36 (by decide) ?_
            refine z_lv (lv' := [some (.ref d0), some (.int x), some (.int (nI (cntF (pcP b e m) (i + 1)))), some (.int (nI (i + 1)))]) (by rw [cntF_t (k := i) hb]) ?_
            exact ih (i + 1) (by omega) (by omega) (fndF_f hf (by grind))
          · have h9 := fndF_t hf hb hx (by omega) n (by omega)
            refine z_iload_n hF dX4_pieceAt_28 rfl ?_
            exact hR.i dX4_pieceAt_29 (Nat.le_of_ble_eq_true rfl) (Nat.le_of_ble_eq_true rfl) (rfl) (h9.symm)
  exact J_4 ((n - 0) + 1) 0 (Nat.lt_succ_self _) (by omega) rfl
set_option maxHeartbeats 4000000 in
set_option maxRecDepth 100000 in
theorem c_X4_suggest (G : zG) (d0 t0 r0 q0 y0 d1 u0 d2 d3 d4 v : Nat) (o : Int32) (t1 t2 n : Nat) (u1 u2 u3 j : Nat) (b2 : Nat → Int32) (e2 : Nat → Int32) (s2 : Nat → Int32) (xl : Nat → Int32) (xc : Nat → Int32) (xs : Nat → Int32) (a k : Nat) (l w : Int32) (l0 w0 : Nat) (hn : n ≤ 60) (hj : j < 10) (ha : a < k) (hk : k ≤ n) (hl : l = nI l0) (hl3 : l0 ≤ 25) (hw : w = nI w0) (hw3 : w0 ≤ 5) : zM G yX4_suggest wsX4_suggest ({ frames := 2, cells := 0, slots := 0, locals := 56 }) [.ref d0, .int (nI a), .int (nI k), .int l, .int w] [(d0, .inr (4, [.ref t0, .ref r0, .ref q0, .ref y0, .ref d1, .int o, .int (nI v), .ref u0, .ref d2, .ref d3, .ref d4])), (t0, .inr (3, [.ref t1, .ref t2, .int (nI n)])), (u0, .inr (2, [.ref u1, .ref u2, .ref u3, .int (nI j)])), (u1, eI G 12 b2), (u2, eI G 12 e2), (u3, eI G 12 s2), (d2, eI G 10 xl), (d3, eI G 10 xc), (d4, eI G 10 xs)] [(d0, .inr (4, [.ref t0, .ref r0, .ref q0, .ref y0, .ref d1, .int o, .int (nI v), .ref u0, .ref d2, .ref d3, .ref d4])), (t0, .inr (3, [.ref t1, .ref t2, .int (nI n)])), (u0, .inr (2, [.ref u1, .ref u2, .ref u3, .int (nI (j + 1))])), (u1, eI G 12 (upd b2 j (nI a))), (u2, eI G 12 (upd e2 j (nI k))), (u3, eI G 12 (upd s2 j (nI 0))), (d2, eI G 10 (upd xl j l)), (d3, eI G 10 (upd xc j w)), (d4, eI G 10 (upd xs j (nI 0)))] (some (.int (nI j))) 0 0 := by
  refine zM.ofI (own := RX4) (cc := cX4_suggest) (maxL := 6) rfl (by decide) rfl rfl (by simp [Value.category]) (Nat.le_of_ble_eq_true rfl) ?_
  intro X hF hR
  have k_0 : ∀ w ∈ wsX40, w ∈ wsX4_suggest := by decide +kernel
  have k_1 : zH X (.fieldLink RX4 48 "MarginDesk" "suggestionRanges" "LMarginDesk$Ranges;") := hF.w (by decide +kernel)
  have k_2 : ∀ w ∈ wsX20, w ∈ wsX4_suggest := by decide +kernel
  have k_3 : zH X (.fieldLinkNest RX4 92 "MarginDesk$Ranges" "count" "I" RX4) := hF.nf (List.mem_of_getElem? (i := 3) rfl)
  have k_4 : zH X (.initialized RX2) := hF.w (by decide +kernel)
  have k_5 : zH X (.instanceMethod yX2_add) := hF.w (by decide +kernel)
  have k_6 : zH X (.selects RX2 yX2_add yX2_add) := hF.w (by decide +kernel)
  have k_7 : zH X (.fieldLink RX4 51 "MarginDesk" "suggestedLetters" "[I") := hF.w (by decide +kernel)
  have k_8 : zH X (.fieldLink RX4 54 "MarginDesk" "suggestedCounts" "[I") := hF.w (by decide +kernel)
  have k_9 : zH X (.fieldLink RX4 57 "MarginDesk" "states" "[I") := hF.w (by decide +kernel)
  refine z_lv (lv' := [some (.ref d0), some (.int (nI a)), some (.int (nI k)), some (.int l), some (.int w), none]) rfl ?_
  refine z_aload_n hF dX4_suggest_0 rfl ?_
  refine z_iload_n hF dX4_suggest_1 rfl ?_
  refine z_iload_n hF dX4_suggest_2 rfl ?_
  refine z_V (As := [.int (nI a), .int (nI k)]) (rest := []) (ws' := [(d0, .inr (4, [.ref t0, .ref r0, .ref q0, .ref y0, .ref d1, .int o, .int (nI v), .ref u0, .ref d2, .ref d3, .ref d4])), (t0, .inr (3, [.ref t1, .ref t2, .int (nI n)])), (u0, .inr (2, [.ref u1, .ref u2, .ref u3, .int (nI j)])), (u1, eI G 12 b2), (u2, eI G 12 e2), (u3, eI G 12 s2), (d2, eI G 10 xl), (d3, eI G 10 xc), (d4, eI G 10 xs)]) (st2 := []) (c2 := 0) (s2 := 0) hF (c_X4_checkRange G d0 t0 r0 q0 y0 d1 u0 d2 d3 d4 v o t1 t2 n a k (by first | assumption | omega) (by first | assumption | omega) (by first | assumption | omega)) gX4_suggest_X4_checkRange rfl rfl rfl hd_X4_checkRange ⟨⟨Nat.le_of_ble_eq_true rfl, Nat.le_of_ble_eq_true rfl⟩, ⟨Nat.le_of_ble_eq_true rfl, Nat.le_of_ble_eq_true rfl⟩, Nat.le_of_ble_eq_true rfl⟩ [0, 1] rfl rfl 0 rfl rfl rfl rfl rfl rfl rfl rfl rfl rfl dX4_suggest_3 ?_
  refine z_aload_n hF dX4_suggest_6 rfl ?_
  refine z_iload_n hF dX4_suggest_7 rfl ?_
  refine z_top (y := nI l0) hl ?_
  refine z_V (As := [.int (nI l0)]) (rest := []) (ws' := [(d0, .inr (4, [.ref t0, .ref r0, .ref q0, .ref y0, .ref d1, .int o, .int (nI v), .ref u0, .ref d2, .ref d3, .ref d4])), (t0, .inr (3, [.ref t1, .ref t2, .int (nI n)])), (u0, .inr (2, [.ref u1, .ref u2, .ref u3, .int (nI j)])), (u1, eI G 12 b2), (u2, eI G 12 e2), (u3, eI G 12 s2), (d2, eI G 10 xl), (d3, eI G 10 xc), (d4, eI G 10 xs)]) (st2 := []) (c2 := 0) (s2 := 0) hF (c_X4_checkLetter G d0 t0 r0 q0 y0 d1 u0 d2 d3 d4 v o l0 (by first | assumption | omega)) gX4_suggest_X4_checkLetter rfl rfl rfl hd_X4_checkLetter ⟨⟨Nat.le_of_ble_eq_true rfl, Nat.le_of_ble_eq_true rfl⟩, ⟨Nat.le_of_ble_eq_true rfl, Nat.le_of_ble_eq_true rfl⟩, Nat.le_of_ble_eq_true rfl⟩ [0] rfl rfl 0 rfl rfl rfl rfl rfl rfl rfl rfl rfl rfl dX4_suggest_8 ?_
  refine z_aload_n hF dX4_suggest_11 rfl ?_
  refine z_iload hF dX4_suggest_12 rfl ?_
  refine z_top (y := nI w0) hw ?_
  refine z_iconst (v := nI 0) hF dX4_suggest_14 (by decide) ?_
  refine z_iconst (v := nI 5) hF dX4_suggest_15 (by decide) ?_
  refine z_V (As := [.int (nI w0), .int (nI 0), .int (nI 5)]) (rest := []) (ws' := [(d0, .inr (4, [.ref t0, .ref r0, .ref q0, .ref y0, .ref d1, .int o, .int (nI v), .ref u0, .ref d2, .ref d3, .ref d4])), (t0, .inr (3, [.ref t1, .ref t2, .int (nI n)])), (u0, .inr (2, [.ref u1, .ref u2, .ref u3, .int (nI j)])), (u1, eI G 12 b2), (u2, eI G 12 e2), (u3, eI G 12 s2), (d2, eI G 10 xl), (d3, eI G 10 xc), (d4, eI G 10 xs)]) (st2 := []) (c2 := 0) (s2 := 0) hF (c_X4_checkAmong G d0 t0 r0 q0 y0 d1 u0 d2 d3 d4 v o w0 0 5 (by first | assumption | omega) (by first | assumption | omega) (by first | assumption | omega)) gX4_suggest_X4_checkAmong rfl rfl rfl hd_X4_checkAmong ⟨⟨Nat.le_of_ble_eq_true rfl, Nat.le_of_ble_eq_true rfl⟩, ⟨Nat.le_of_ble_eq_true rfl, Nat.le_of_ble_eq_true rfl⟩, Nat.le_of_ble_eq_true rfl⟩ [0] rfl rfl 0 rfl rfl rfl rfl rfl rfl rfl rfl rfl rfl dX4_suggest_16 ?_
  refine z_aload_n hF dX4_suggest_19 rfl ?_
  refine z_get (C := RX4) (T := TX4) (N := 11) (ci := 4) (v := .ref u0) hF k_0 7 (by decide) rfl k_1 rfl 0 rfl rfl dX4_suggest_20 ?_
  refine z_getN (C := RX2) (T := TX2) (N := 4) (ci := 2) (v := .int (nI j)) hF k_2 3 (by decide) rfl k_3 rfl 2 rfl rfl dX4_suggest_23 ?_
  refine z_bipush (v := nI 10) hF dX4_suggest_26 (by decide) ?_
  refine z_icn_lt (tgt := 41) hF (by omega) (by omega) dX4_suggest_28 (by decide) (fun c_1 => ?_) (fun c_1 => absurd c_1 (by omega))
  refine z_aload_n hF dX4_suggest_41 rfl ?_
  refine z_get (C := RX4) (T := TX4) (N := 11) (ci := 4) (v := .ref u0) hF k_0 7 (by decide) rfl k_1 rfl 0 rfl rfl dX4_suggest_42 ?_
  refine z_iload_n hF dX4_suggest_45 rfl ?_
  refine z_iload_n hF dX4_suggest_46 rfl ?_
  refine z_iconst (v := nI 0) hF dX4_suggest_47 (by decide) ?_
  refine z_VN (As := [.int (nI a), .int (nI k), .int (nI 0)]) (rest := []) (ws' := [(d0, .inr (4, [.ref t0, .ref r0, .ref q0, .ref y0, .ref d1, .int o, .int (nI v), .ref u0, .ref d2, .ref d3, .ref d4])), (t0, .inr (3, [.ref t1, .ref t2, .int (nI n)])), (u0, .inr (2, [.ref u1, .ref u2, .ref u3, .int (nI (j + 1))])), (u1, eI G 12 (upd b2 j (nI a))), (u2, eI G 12 (upd e2 j (nI k))), (u3, eI G 12 (upd s2 j (nI 0))), (d2, eI G 10 xl), (d3, eI G 10 xc), (d4, eI G 10 xs)]) (st2 := [.int (nI j)]) (c2 := 0) (s2 := 0) hF (c_X2_add G u0 u1 u2 u3 j (nI a) (nI k) (nI 0) b2 e2 s2 (by first | assumption | omega)) ggX4_suggest_X2_add (List.mem_of_getElem? (i := 15) rfl) k_4 k_5 k_6 rfl rfl rfl hs_X2_add ⟨⟨Nat.le_of_ble_eq_true rfl, Nat.le_of_ble_eq_true rfl⟩, ⟨Nat.le_of_ble_eq_true rfl, Nat.le_of_ble_eq_true rfl⟩, Nat.le_of_ble_eq_true rfl⟩ [2, 3, 4, 5] rfl rfl 0 rfl rfl rfl rfl rfl rfl rfl rfl rfl rfl dX4_suggest_48 ?_
  refine z_istore (lv' := [some (.ref d0), some (.int (nI a)), some (.int (nI k)), some (.int l), some (.int w), some (.int (nI j))]) hF dX4_suggest_51 rfl rfl ?_
  refine z_aload_n hF dX4_suggest_53 rfl ?_
  refine z_get (C := RX4) (T := TX4) (N := 11) (ci := 4) (v := .ref d2) hF k_0 8 (by decide) rfl k_7 rfl 0 rfl rfl dX4_suggest_54 ?_
  refine z_iload hF dX4_suggest_57 rfl ?_
  refine z_iload_n hF dX4_suggest_59 rfl ?_
  refine z_iast (k := j) (ws' := [(d0, .inr (4, [.ref t0, .ref r0, .ref q0, .ref y0, .ref d1, .int o, .int (nI v), .ref u0, .ref d2, .ref d3, .ref d4])), (t0, .inr (3, [.ref t1, .ref t2, .int (nI n)])), (u0, .inr (2, [.ref u1, .ref u2, .ref u3, .int (nI (j + 1))])), (u1, eI G 12 (upd b2 j (nI a))), (u2, eI G 12 (upd e2 j (nI k))), (u3, eI G 12 (upd s2 j (nI 0))), (d2, eI G 10 (upd xl j l)), (d3, eI G 10 xc), (d4, eI G 10 xs)]) hF 6 rfl (rfl) (by omega) rfl rfl dX4_suggest_60 ?_
  refine z_aload_n hF dX4_suggest_61 rfl ?_
  refine z_get (C := RX4) (T := TX4) (N := 11) (ci := 4) (v := .ref d3) hF k_0 9 (by decide) rfl k_8 rfl 0 rfl rfl dX4_suggest_62 ?_
  refine z_iload hF dX4_suggest_65 rfl ?_
  refine z_iload hF dX4_suggest_67 rfl ?_
  refine z_iast (k := j) (ws' := [(d0, .inr (4, [.ref t0, .ref r0, .ref q0, .ref y0, .ref d1, .int o, .int (nI v), .ref u0, .ref d2, .ref d3, .ref d4])), (t0, .inr (3, [.ref t1, .ref t2, .int (nI n)])), (u0, .inr (2, [.ref u1, .ref u2, .ref u3, .int (nI (j + 1))])), (u1, eI G 12 (upd b2 j (nI a))), (u2, eI G 12 (upd e2 j (nI k))), (u3, eI G 12 (upd s2 j (nI 0))), (d2, eI G 10 (upd xl j l)), (d3, eI G 10 (upd xc j w)), (d4, eI G 10 xs)]) hF 7 rfl (rfl) (by omega) rfl rfl dX4_suggest_69 ?_
  refine z_aload_n hF dX4_suggest_70 rfl ?_
  refine z_get (C := RX4) (T := TX4) (N := 11) (ci := 4) (v := .ref d4) hF k_0 10 (by decide) rfl k_9 rfl 0 rfl rfl dX4_suggest_71 ?_
  refine z_iload hF dX4_suggest_74 rfl ?_
  refine z_iconst (v := nI 0) hF dX4_suggest_76 (by decide) ?_
  refine z_iast (k := j) (ws' := [(d0, .inr (4, [.ref t0, .ref r0, .ref q0, .ref y0, .ref d1, .int o, .int (nI v), .ref u0, .ref d2, .ref d3, .ref d4])), (t0, .inr (3, [.ref t1, .ref t2, .int (nI n)])), (u0, .inr (2, [.ref u1, .ref u2, .ref u3, .int (nI (j + 1))])), (u1, eI G 12 (upd b2 j (nI a))), (u2, eI G 12 (upd e2 j (nI k))), (u3, eI G 12 (upd s2 j (nI 0))), (d2, eI G 10 (upd xl j l)), (d3, eI G 10 (upd xc j w)), (d4, eI G 10 (upd xs j (nI 0)))]) hF 8 rfl (rfl) (by omega) rfl rfl dX4_suggest_77 ?_
  refine z_iload hF dX4_suggest_78 rfl ?_
  exact hR.i dX4_suggest_80 (Nat.le_of_ble_eq_true rfl) (Nat.le_of_ble_eq_true rfl) (rfl) (rfl)
set_option maxHeartbeats 4000000 in
set_option maxRecDepth 100000 in
theorem c_X4_accept0 (G : zG) (d0 t0 r0 q0 y0 d1 u0 d2 d3 d4 v : Nat) (o : Int32) (t1 t2 n : Nat) (f : Nat → Int32) (g : Nat → Int32) (r1 r2 r3 m : Nat) (b : Nat → Int32) (e : Nat → Int32) (s : Nat → Int32) (y1 : Nat) (h : Nat → Int32) (u1 u2 u3 j : Nat) (b2 : Nat → Int32) (e2 : Nat → Int32) (s2 : Nat → Int32) (xl : Nat → Int32) (xc : Nat → Int32) (xs : Nat → Int32) (i p q : Nat) (hn : n ≤ 60) (hm : m ≤ 12) (hj : j ≤ 10) (hv : v + 1 < 300) (hi : i < j) (h0 : xs i = 0) (hb : b2 i = nI p) (he : e2 i = nI q) (hpq : p < q) (hqn : q ≤ n) (ho : ovF b2 e2 xs i j = 0) (hz : xc i = nI 0) (hr : n - (q - p) + 0 ≤ 60) : zM G yX4_accept wsX4_accept ({ frames := 5, cells := 0, slots := 0, locals := 121 }) [.ref d0, .int (nI i)] [(d0, .inr (4, [.ref t0, .ref r0, .ref q0, .ref y0, .ref d1, .int o, .int (nI v), .ref u0, .ref d2, .ref d3, .ref d4])), (y0, .inr (0, [.ref y1])), (y1, eI G 3600 h), (r0, .inr (2, [.ref r1, .ref r2, .ref r3, .int (nI m)])), (r1, eI G 12 b), (r2, eI G 12 e), (r3, eI G 12 s), (u0, .inr (2, [.ref u1, .ref u2, .ref u3, .int (nI j)])), (u1, eI G 12 b2), (u2, eI G 12 e2), (u3, eI G 12 s2), (t0, .inr (3, [.ref t1, .ref t2, .int (nI n)])), (t1, eI G 60 f), (t2, eI G 60 g), (d2, eI G 10 xl), (d3, eI G 10 xc), (d4, eI G 10 xs)] [(d0, .inr (4, [.ref t0, .ref r0, .ref q0, .ref y0, .ref d1, .int o, .int (nI (v + 1)), .ref u0, .ref d2, .ref d3, .ref d4])), (y0, .inr (0, [.ref y1])), (y1, eI G 3600 (wrF h (v * 12) 12 (fun kk => if kk < m then numF (b kk) (e kk) else -1))), (r0, .inr (2, [.ref r1, .ref r2, .ref r3, .int (nI m)])), (r1, eI G 12 (mpF m (remB (nI p) (nI (q - p)) b e) b)), (r2, eI G 12 (mpF m (remE (nI p) (nI (q - p)) b e) e)), (r3, eI G 12 s), (u0, .inr (2, [.ref u1, .ref u2, .ref u3, .int (nI j)])), (u1, eI G 12 (mpF j (remB (nI p) (nI (q - p)) b2 e2) b2)), (u2, eI G 12 (mpF j (remE (nI p) (nI (q - p)) b2 e2) e2)), (u3, eI G 12 s2), (t0, .inr (3, [.ref t1, .ref t2, .int (nI (n - (q - p)))])), (t1, eI G 60 (va_cpy f f (p + (q - p)) p (n - (p + (q - p))))), (t2, eI G 60 (va_cpy g g (p + (q - p)) p (n - (p + (q - p))))), (d2, eI G 10 xl), (d3, eI G 10 xc), (d4, eI G 10 (mpF j (lgF (gonF (nI p) (nI (q - p)) b2 e2 j) (upd xs i (nI 1))) (upd xs i (nI 1))))] (some (.int (nI (n - (q - p))))) 0 0 := by
  refine zM.ofI (own := RX4) (cc := cX4_accept) (maxL := 5) rfl (by decide) rfl rfl (by simp [Value.category]) (Nat.le_of_ble_eq_true rfl) ?_
  intro X hF hR
  have k_0 : ∀ w ∈ wsX40, w ∈ wsX4_accept := by decide +kernel
  have k_1 : zH X (.fieldLink RX4 48 "MarginDesk" "suggestionRanges" "LMarginDesk$Ranges;") := hF.w (by decide +kernel)
  have k_2 : ∀ w ∈ wsX20, w ∈ wsX4_accept := by decide +kernel
  have k_3 : zH X (.fieldLinkNest RX4 170 "MarginDesk$Ranges" "begins" "[I" RX4) := hF.nf (List.mem_of_getElem? (i := 0) rfl)
  have k_4 : zH X (.fieldLinkNest RX4 173 "MarginDesk$Ranges" "ends" "[I" RX4) := hF.nf (List.mem_of_getElem? (i := 1) rfl)
  have k_5 : zH X (.fieldLink RX4 54 "MarginDesk" "suggestedCounts" "[I") := hF.w (by decide +kernel)
  have k_6 : zH X (.fieldLink RX4 57 "MarginDesk" "states" "[I") := hF.w (by decide +kernel)
  have k_7 : zH X (.fieldLink RX4 10 "MarginDesk" "text" "LMarginDesk$Text;") := hF.w (by decide +kernel)
  have k_8 : ∀ w ∈ wsX30, w ∈ wsX4_accept := by decide +kernel
  have k_9 : zH X (.fieldLinkNest RX4 78 "MarginDesk$Text" "size" "I" RX4) := hF.nf (List.mem_of_getElem? (i := 2) rfl)
  refine z_lv (lv' := [some (.ref d0), some (.int (nI i)), none, none, none]) rfl ?_
  refine z_aload_n hF dX4_accept_0 rfl ?_
  refine z_iload_n hF dX4_accept_1 rfl ?_
  refine z_V (As := [.int (nI i)]) (rest := []) (ws' := [(d0, .inr (4, [.ref t0, .ref r0, .ref q0, .ref y0, .ref d1, .int o, .int (nI v), .ref u0, .ref d2, .ref d3, .ref d4])), (y0, .inr (0, [.ref y1])), (y1, eI G 3600 h), (r0, .inr (2, [.ref r1, .ref r2, .ref r3, .int (nI m)])), (r1, eI G 12 b), (r2, eI G 12 e), (r3, eI G 12 s), (u0, .inr (2, [.ref u1, .ref u2, .ref u3, .int (nI j)])), (u1, eI G 12 b2), (u2, eI G 12 e2), (u3, eI G 12 s2), (t0, .inr (3, [.ref t1, .ref t2, .int (nI n)])), (t1, eI G 60 f), (t2, eI G 60 g), (d2, eI G 10 xl), (d3, eI G 10 xc), (d4, eI G 10 xs)]) (st2 := []) (c2 := 0) (s2 := 0) hF (c_X4_checkSuggestion G d0 t0 r0 q0 y0 d1 u0 d2 d3 d4 v o u1 u2 u3 j i (by first | assumption | omega) (by first | assumption | omega)) gX4_accept_X4_checkSuggestion rfl rfl rfl hd_X4_checkSuggestion ⟨⟨Nat.le_of_ble_eq_true rfl, Nat.le_of_ble_eq_true rfl⟩, ⟨Nat.le_of_ble_eq_true rfl, Nat.le_of_ble_eq_true rfl⟩, Nat.le_of_ble_eq_true rfl⟩ [0, 7] rfl rfl 0 rfl rfl rfl rfl rfl rfl rfl rfl rfl rfl dX4_accept_2 ?_
  refine z_aload_n hF dX4_accept_5 rfl ?_
  refine z_iload_n hF dX4_accept_6 rfl ?_
  refine z_V (As := [.int (nI i)]) (rest := []) (ws' := [(d0, .inr (4, [.ref t0, .ref r0, .ref q0, .ref y0, .ref d1, .int o, .int (nI v), .ref u0, .ref d2, .ref d3, .ref d4])), (y0, .inr (0, [.ref y1])), (y1, eI G 3600 h), (r0, .inr (2, [.ref r1, .ref r2, .ref r3, .int (nI m)])), (r1, eI G 12 b), (r2, eI G 12 e), (r3, eI G 12 s), (u0, .inr (2, [.ref u1, .ref u2, .ref u3, .int (nI j)])), (u1, eI G 12 b2), (u2, eI G 12 e2), (u3, eI G 12 s2), (t0, .inr (3, [.ref t1, .ref t2, .int (nI n)])), (t1, eI G 60 f), (t2, eI G 60 g), (d2, eI G 10 xl), (d3, eI G 10 xc), (d4, eI G 10 xs)]) (st2 := []) (c2 := 0) (s2 := 0) hF (c_X4_checkWaiting G d0 t0 r0 q0 y0 d1 u0 d2 d3 d4 v o xs i (by first | assumption | omega) (by first | assumption | omega)) gX4_accept_X4_checkWaiting rfl rfl rfl hd_X4_checkWaiting ⟨⟨Nat.le_of_ble_eq_true rfl, Nat.le_of_ble_eq_true rfl⟩, ⟨Nat.le_of_ble_eq_true rfl, Nat.le_of_ble_eq_true rfl⟩, Nat.le_of_ble_eq_true rfl⟩ [0, 16] rfl rfl 0 rfl rfl rfl rfl rfl rfl rfl rfl rfl rfl dX4_accept_7 ?_
  refine z_aload_n hF dX4_accept_10 rfl ?_
  refine z_iload_n hF dX4_accept_11 rfl ?_
  refine z_V (As := [.int (nI i)]) (rest := []) (ws' := [(d0, .inr (4, [.ref t0, .ref r0, .ref q0, .ref y0, .ref d1, .int o, .int (nI v), .ref u0, .ref d2, .ref d3, .ref d4])), (y0, .inr (0, [.ref y1])), (y1, eI G 3600 h), (r0, .inr (2, [.ref r1, .ref r2, .ref r3, .int (nI m)])), (r1, eI G 12 b), (r2, eI G 12 e), (r3, eI G 12 s), (u0, .inr (2, [.ref u1, .ref u2, .ref u3, .int (nI j)])), (u1, eI G 12 b2), (u2, eI G 12 e2), (u3, eI G 12 s2), (t0, .inr (3, [.ref t1, .ref t2, .int (nI n)])), (t1, eI G 60 f), (t2, eI G 60 g), (d2, eI G 10 xl), (d3, eI G 10 xc), (d4, eI G 10 xs)]) (st2 := [.int (ovF b2 e2 xs i j)]) (c2 := 0) (s2 := 0) hF (c_X4_overlapping G d0 t0 r0 q0 y0 d1 u0 d2 d3 d4 v o u1 u2 u3 j b2 e2 xs i (by first | assumption | omega) (by first | assumption | omega)) gX4_accept_X4_overlapping rfl rfl rfl hd_X4_overlapping ⟨⟨Nat.le_of_ble_eq_true rfl, Nat.le_of_ble_eq_true rfl⟩, ⟨Nat.le_of_ble_eq_true rfl, Nat.le_of_ble_eq_true rfl⟩, Nat.le_of_ble_eq_true rfl⟩ [0, 7, 8, 9, 16] rfl rfl 0 rfl rfl rfl rfl rfl rfl rfl rfl rfl rfl dX4_accept_12 ?_
  refine z_if_eq (tgt := 28) hF dX4_accept_15 (by decide) (fun c_1 => ?_) (fun c_1 => absurd c_1 (not_not_intro ho))
  refine z_aload_n hF dX4_accept_28 rfl ?_
  refine z_get (C := RX4) (T := TX4) (N := 11) (ci := 4) (v := .ref u0) hF k_0 7 (by decide) rfl k_1 rfl 0 rfl rfl dX4_accept_29 ?_
  refine z_getN (C := RX2) (T := TX2) (N := 4) (ci := 2) (v := .ref u1) hF k_2 0 (by decide) rfl k_3 rfl 7 rfl rfl dX4_accept_32 ?_
  refine z_iload_n hF dX4_accept_35 rfl ?_
  refine z_iald (k := i) hF 8 rfl (rfl) (by omega) rfl dX4_accept_36 ?_
  refine z_top (y := nI p) (hb) ?_
  refine z_istore_n (lv' := [some (.ref d0), some (.int (nI i)), some (.int (nI p)), none, none]) hF dX4_accept_37 rfl rfl ?_
  refine z_aload_n hF dX4_accept_38 rfl ?_
  refine z_get (C := RX4) (T := TX4) (N := 11) (ci := 4) (v := .ref u0) hF k_0 7 (by decide) rfl k_1 rfl 0 rfl rfl dX4_accept_39 ?_
  refine z_getN (C := RX2) (T := TX2) (N := 4) (ci := 2) (v := .ref u2) hF k_2 1 (by decide) rfl k_4 rfl 7 rfl rfl dX4_accept_42 ?_
  refine z_iload_n hF dX4_accept_45 rfl ?_
  refine z_iald (k := i) hF 9 rfl (rfl) (by omega) rfl dX4_accept_46 ?_
  refine z_top (y := nI q) (he) ?_
  refine z_iload_n hF dX4_accept_47 rfl ?_
  refine z_isub hF dX4_accept_48 ?_
  refine z_top (pk_sub (by omega)) ?_
  refine z_istore_n (lv' := [some (.ref d0), some (.int (nI i)), some (.int (nI p)), some (.int (nI (q - p))), none]) hF dX4_accept_49 rfl rfl ?_
  refine z_aload_n hF dX4_accept_50 rfl ?_
  refine z_get (C := RX4) (T := TX4) (N := 11) (ci := 4) (v := .ref d3) hF k_0 9 (by decide) rfl k_5 rfl 0 rfl rfl dX4_accept_51 ?_
  refine z_iload_n hF dX4_accept_54 rfl ?_
  refine z_iald (k := i) hF 15 rfl (rfl) (by omega) rfl dX4_accept_55 ?_
  refine z_top (y := nI 0) (hz) ?_
  refine z_istore (lv' := [some (.ref d0), some (.int (nI i)), some (.int (nI p)), some (.int (nI (q - p))), some (.int (nI 0))]) hF dX4_accept_56 rfl rfl ?_
  refine z_aload_n hF dX4_accept_58 rfl ?_
  refine z_iload hF dX4_accept_59 rfl ?_
  refine z_iload_n hF dX4_accept_61 rfl ?_
  refine z_isub hF dX4_accept_62 ?_
  refine z_iload hF dX4_accept_63 rfl ?_
  refine z_if_ne (tgt := 72) hF dX4_accept_65 (by decide) (fun c_2 => absurd c_2 (by decide)) (fun c_2 => ?_)
  refine z_iconst (v := nI 1) hF dX4_accept_68 (by decide) ?_
  refine z_goto (tgt := 73) hF dX4_accept_69 (by decide) ?_
  refine z_V (As := [.int ((nI 0) - (nI (q - p))), .int (nI 1)]) (rest := []) (ws' := [(d0, .inr (4, [.ref t0, .ref r0, .ref q0, .ref y0, .ref d1, .int o, .int (nI v), .ref u0, .ref d2, .ref d3, .ref d4])), (y0, .inr (0, [.ref y1])), (y1, eI G 3600 h), (r0, .inr (2, [.ref r1, .ref r2, .ref r3, .int (nI m)])), (r1, eI G 12 b), (r2, eI G 12 e), (r3, eI G 12 s), (u0, .inr (2, [.ref u1, .ref u2, .ref u3, .int (nI j)])), (u1, eI G 12 b2), (u2, eI G 12 e2), (u3, eI G 12 s2), (t0, .inr (3, [.ref t1, .ref t2, .int (nI n)])), (t1, eI G 60 f), (t2, eI G 60 g), (d2, eI G 10 xl), (d3, eI G 10 xc), (d4, eI G 10 xs)]) (st2 := []) (c2 := 0) (s2 := 0) hF (c_X4_checkRoom G d0 t0 r0 q0 y0 d1 u0 d2 d3 d4 v o t1 t2 n ((nI 0) - (nI (q - p))) (nI 1) (room_s (n := n) (z := 0) (t := q - p) hn (by omega) (by omega) hr) (by rw [nI_add]; exact (nI_leI (by omega) (by omega)).mpr (by omega))) gX4_accept_X4_checkRoom rfl rfl rfl hd_X4_checkRoom ⟨⟨Nat.le_of_ble_eq_true rfl, Nat.le_of_ble_eq_true rfl⟩, ⟨Nat.le_of_ble_eq_true rfl, Nat.le_of_ble_eq_true rfl⟩, Nat.le_of_ble_eq_true rfl⟩ [0, 11] rfl rfl 0 rfl rfl rfl rfl rfl rfl rfl rfl rfl rfl dX4_accept_73 ?_
  refine z_aload_n hF dX4_accept_76 rfl ?_
  refine z_get (C := RX4) (T := TX4) (N := 11) (ci := 4) (v := .ref d4) hF k_0 10 (by decide) rfl k_6 rfl 0 rfl rfl dX4_accept_77 ?_
  refine z_iload_n hF dX4_accept_80 rfl ?_
  refine z_iconst (v := nI 1) hF dX4_accept_81 (by decide) ?_
  refine z_iast (k := i) (ws' := [(d0, .inr (4, [.ref t0, .ref r0, .ref q0, .ref y0, .ref d1, .int o, .int (nI v), .ref u0, .ref d2, .ref d3, .ref d4])), (y0, .inr (0, [.ref y1])), (y1, eI G 3600 h), (r0, .inr (2, [.ref r1, .ref r2, .ref r3, .int (nI m)])), (r1, eI G 12 b), (r2, eI G 12 e), (r3, eI G 12 s), (u0, .inr (2, [.ref u1, .ref u2, .ref u3, .int (nI j)])), (u1, eI G 12 b2), (u2, eI G 12 e2), (u3, eI G 12 s2), (t0, .inr (3, [.ref t1, .ref t2, .int (nI n)])), (t1, eI G 60 f), (t2, eI G 60 g), (d2, eI G 10 xl), (d3, eI G 10 xc), (d4, eI G 10 (upd xs i (nI 1)))]) hF 16 rfl (rfl) (by omega) rfl rfl dX4_accept_82 ?_
  refine z_aload_n hF dX4_accept_83 rfl ?_
  refine z_iload_n hF dX4_accept_84 rfl ?_
  refine z_iload_n hF dX4_accept_85 rfl ?_
  refine z_V (As := [.int (nI p), .int (nI (q - p))]) (rest := []) (ws' := [(d0, .inr (4, [.ref t0, .ref r0, .ref q0, .ref y0, .ref d1, .int o, .int (nI (v + 1)), .ref u0, .ref d2, .ref d3, .ref d4])), (y0, .inr (0, [.ref y1])), (y1, eI G 3600 (wrF h (v * 12) 12 (fun kk => if kk < m then numF (b kk) (e kk) else -1))), (r0, .inr (2, [.ref r1, .ref r2, .ref r3, .int (nI m)])), (r1, eI G 12 (mpF m (remB (nI p) (nI (q - p)) b e) b)), (r2, eI G 12 (mpF m (remE (nI p) (nI (q - p)) b e) e)), (r3, eI G 12 s), (u0, .inr (2, [.ref u1, .ref u2, .ref u3, .int (nI j)])), (u1, eI G 12 (mpF j (remB (nI p) (nI (q - p)) b2 e2) b2)), (u2, eI G 12 (mpF j (remE (nI p) (nI (q - p)) b2 e2) e2)), (u3, eI G 12 s2), (t0, .inr (3, [.ref t1, .ref t2, .int (nI (n - (q - p)))])), (t1, eI G 60 (va_cpy f f (p + (q - p)) p (n - (p + (q - p))))), (t2, eI G 60 (va_cpy g g (p + (q - p)) p (n - (p + (q - p))))), (d2, eI G 10 xl), (d3, eI G 10 xc), (d4, eI G 10 (mpF j (lgF (gonF (nI p) (nI (q - p)) b2 e2 j) (upd xs i (nI 1))) (upd xs i (nI 1))))]) (st2 := [.int (bcF (gonF (nI p) (nI (q - p)) b e m))]) (c2 := 0) (s2 := 0) hF (c_X4_takeLettersOut G d0 t0 r0 q0 y0 d1 u0 d2 d3 d4 v o t1 t2 n f g r1 r2 r3 m b e y1 h u1 u2 u3 j b2 e2 (upd xs i (nI 1)) p (q - p) (by first | assumption | omega) (by first | assumption | omega) (by first | assumption | omega) (by first | assumption | omega) (by first | assumption | omega)) gX4_accept_X4_takeLettersOut rfl rfl rfl hd_X4_takeLettersOut ⟨⟨Nat.le_of_ble_eq_true rfl, Nat.le_of_ble_eq_true rfl⟩, ⟨Nat.le_of_ble_eq_true rfl, Nat.le_of_ble_eq_true rfl⟩, Nat.le_of_ble_eq_true rfl⟩ [0, 1, 2, 3, 4, 5, 7, 8, 9, 11, 12, 13, 16] rfl rfl 0 rfl rfl rfl rfl rfl rfl rfl rfl rfl rfl dX4_accept_86 ?_
  refine z_pop hF dX4_accept_89 rfl ?_
  refine z_iload hF dX4_accept_90 rfl ?_
  refine z_if_le (tgt := 108) hF dX4_accept_92 (by decide) (fun c_3 => ?_) (fun c_3 => absurd c_3 (by decide))
  refine z_aload_n hF dX4_accept_108 rfl ?_
  refine z_get (C := RX4) (T := TX4) (N := 11) (ci := 4) (v := .ref t0) hF k_0 0 (by decide) rfl k_7 rfl 0 rfl rfl dX4_accept_109 ?_
  refine z_getN (C := RX3) (T := TX3) (N := 3) (ci := 3) (v := .int (nI (n - (q - p)))) hF k_8 2 (by decide) rfl k_9 rfl 11 rfl rfl dX4_accept_112 ?_
  exact hR.i dX4_accept_115 (Nat.le_of_ble_eq_true rfl) (Nat.le_of_ble_eq_true rfl) (rfl) (rfl)
