set_option maxHeartbeats 4000000 in
set_option maxRecDepth 100000 in
theorem c_X4_orphans (G : zG) (d0 t0 r0 q0 y0 d1 u0 d2 d3 d4 v : Nat) (o : Int32) (r1 r2 r3 m : Nat) (b : Nat → Int32) (hm : m ≤ 12) : zM G yX4_orphans wsX4_orphans ({ frames := 1, cells := 0, slots := 0, locals := 33 }) [.ref d0] [(d0, .inr (4, [.ref t0, .ref r0, .ref q0, .ref y0, .ref d1, .int o, .int (nI v), .ref u0, .ref d2, .ref d3, .ref d4])), (r0, .inr (2, [.ref r1, .ref r2, .ref r3, .int (nI m)])), (r1, eI G 12 b)] [(d0, .inr (4, [.ref t0, .ref r0, .ref q0, .ref y0, .ref d1, .int o, .int (nI v), .ref u0, .ref d2, .ref d3, .ref d4])), (r0, .inr (2, [.ref r1, .ref r2, .ref r3, .int (nI m)])), (r1, eI G 12 b)] (some (.int (cov (fun kk => b kk = -1) m))) 0 0 := by
  refine zM.ofI (own := RX4) (cc := cX4_orphans) (maxL := 3) rfl (by decide) rfl rfl (by simp [Value.category]) (Nat.le_of_ble_eq_true rfl) ?_
  intro X hF hR
  have k_0 : ∀ w ∈ wsX40, w ∈ wsX4_orphans := by decide +kernel
  have k_1 : zH X (.fieldLink RX4 19 "MarginDesk" "commentRanges" "LMarginDesk$Ranges;") := hF.w (by decide +kernel)
  have k_2 : ∀ w ∈ wsX20, w ∈ wsX4_orphans := by decide +kernel
  have k_3 : zH X (.fieldLinkNest RX4 92 "MarginDesk$Ranges" "count" "I" RX4) := hF.nf (List.mem_of_getElem? (i := 3) rfl)
  have k_4 : zH X (.initialized RX2) := hF.w (by decide +kernel)
  have k_5 : zH X (.instanceMethod yX2_isGone) := hF.w (by decide +kernel)
  have k_6 : zH X (.selects RX2 yX2_isGone yX2_isGone) := hF.w (by decide +kernel)
  refine z_lv (lv' := [some (.ref d0), none, none]) rfl ?_
  refine z_iconst (v := nI 0) hF dX4_orphans_0 (by decide) ?_
  refine z_istore_n (lv' := [some (.ref d0), some (.int (nI 0)), none]) hF dX4_orphans_1 rfl rfl ?_
  refine z_iconst (v := nI 0) hF dX4_orphans_2 (by decide) ?_
  refine z_istore_n (lv' := [some (.ref d0), some (.int (nI 0)), some (.int (nI 0))]) hF dX4_orphans_3 rfl rfl ?_
  refine z_lv (lv' := [some (.ref d0), some (.int (cov (fun kk => b kk = -1) 0)), some (.int (nI 0))]) (by rfl) ?_
  have J_4 : ∀ (n9 : Nat) (i : Nat), m - i < n9 → (i ≤ m) → zJ G X 4 [(d0, .inr (4, [.ref t0, .ref r0, .ref q0, .ref y0, .ref d1, .int o, .int (nI v), .ref u0, .ref d2, .ref d3, .ref d4])), (r0, .inr (2, [.ref r1, .ref r2, .ref r3, .int (nI m)])), (r1, eI G 12 b)] [some (.ref d0), some (.int (cov (fun kk => b kk = -1) i)), some (.int (nI i))] [] 0 0 := by
    intro n9
    induction n9 with
    | zero => intro i hmu; exact absurd hmu (Nat.not_lt_zero _)
    | succ n9 ih =>
      intro i hmu h2
      refine z_iload_n hF dX4_orphans_4 rfl ?_
      refine z_aload_n hF dX4_orphans_5 rfl ?_
      refine z_get (C := RX4) (T := TX4) (N := 11) (ci := 4) (v := .ref r0) hF k_0 1 (by decide) rfl k_1 rfl 0 rfl rfl dX4_orphans_6 ?_
      refine z_getN (C := RX2) (T := TX2) (N := 4) (ci := 2) (v := .int (nI m)) hF k_2 3 (by decide) rfl k_3 rfl 1 rfl rfl dX4_orphans_9 ?_
      refine z_icn_ge (tgt := 39) hF (by omega) (by omega) dX4_orphans_12 (by decide) (fun c_1 => ?_) (fun c_1 => ?_)
      · refine z_iload_n hF dX4_orphans_39 rfl ?_
        exact hR.i dX4_orphans_40 (Nat.le_of_ble_eq_true rfl) (Nat.le_of_ble_eq_true rfl) (rfl) (by rw [show i = m by omega])
      · refine z_aload_n hF dX4_orphans_15 rfl ?_
        refine z_get (C := RX4) (T := TX4) (N := 11) (ci := 4) (v := .ref r0) hF k_0 1 (by decide) rfl k_1 rfl 0 rfl rfl dX4_orphans_16 ?_
        refine z_iload_n hF dX4_orphans_19 rfl ?_
        refine z_VN (As := [.int (nI i)]) (rest := []) (ws' := [(d0, .inr (4, [.ref t0, .ref r0, .ref q0, .ref y0, .ref d1, .int o, .int (nI v), .ref u0, .ref d2, .ref d3, .ref d4])), (r0, .inr (2, [.ref r1, .ref r2, .ref r3, .int (nI m)])), (r1, eI G 12 b)]) (st2 := [.int (zb (b i = -1))]) (c2 := 0) (s2 := 0) hF (c_X2_isGone G r0 r1 r2 r3 m i b (by first | assumption | omega)) ggX4_orphans_X2_isGone (List.mem_of_getElem? (i := 4) rfl) k_4 k_5 k_6 rfl rfl rfl hs_X2_isGone ⟨⟨Nat.le_of_ble_eq_true rfl, Nat.le_of_ble_eq_true rfl⟩, ⟨Nat.le_of_ble_eq_true rfl, Nat.le_of_ble_eq_true rfl⟩, Nat.le_of_ble_eq_true rfl⟩ [1, 2] rfl rfl 0 rfl rfl rfl rfl rfl rfl rfl rfl rfl rfl dX4_orphans_20 ?_
        refine z_if_eq_b (tgt := 33) hF dX4_orphans_23 (by decide) (fun hb => ?_) (fun hb => ?_)
        · refine z_iinc (v := nI (i + 1)) (lv' := [some (.ref d0), some (.int (cov (fun kk => b kk = -1) i)), some (.int (nI (i + 1)))]) hF dX4_orphans_33 rfl (nI_1 i) rfl rfl ?_
          refine z_goto (tgt := 4) hF dX4_orphans_36 (by decide) ?_
          refine z_lv (lv' := [some (.ref d0), some (.int (cov (fun kk => b kk = -1) (i + 1))), some (.int (nI (i + 1)))]) (by rw [cov_f (k := i) hb]) ?_
          exact ih (i + 1) (by omega) (by omega)
        · refine z_iload_n hF dX4_orphans_26 rfl ?_
          refine z_iload_n hF dX4_orphans_27 rfl ?_
          refine z_S (As := [.int (nI i)]) (rest := [.int (cov (fun kk => b kk = -1) i)]) (ws' := [(d0, .inr (4, [.ref t0, .ref r0, .ref q0, .ref y0, .ref d1, .int o, .int (nI v), .ref u0, .ref d2, .ref d3, .ref d4])), (r0, .inr (2, [.ref r1, .ref r2, .ref r3, .int (nI m)])), (r1, eI G 12 b)]) (st2 := [.int (bitF (nI i)), .int (cov (fun kk => b kk = -1) i)]) (c2 := 0) (s2 := 0) hF (c_X4_bit G (nI i)) gX4_orphans_X4_bit rfl rfl rfl hs_X4_bit ⟨⟨Nat.le_of_ble_eq_true rfl, Nat.le_of_ble_eq_true rfl⟩, ⟨Nat.le_of_ble_eq_true rfl, Nat.le_of_ble_eq_true rfl⟩, Nat.le_of_ble_eq_true rfl⟩ [] rfl rfl rfl rfl rfl rfl rfl rfl rfl rfl dX4_orphans_28 ?_
          refine z_ior hF dX4_orphans_31 ?_
          refine z_top (y := cov (fun kk => b kk = -1) (i + 1)) (cov_t (P := fun kk => b kk = -1) hb) ?_
          refine z_istore_n (lv' := [some (.ref d0), some (.int (cov (fun kk => b kk = -1) (i + 1))), some (.int (nI i))]) hF dX4_orphans_32 rfl rfl ?_
          refine z_iinc (v := nI (i + 1)) (lv' := [some (.ref d0), some (.int (cov (fun kk => b kk = -1) (i + 1))), some (.int (nI (i + 1)))]) hF dX4_orphans_33 rfl (nI_1 i) rfl rfl ?_
          refine z_goto (tgt := 4) hF dX4_orphans_36 (by decide) ?_
          exact ih (i + 1) (by omega) (by omega)
  exact J_4 ((m - 0) + 1) 0 (Nat.lt_succ_self _) (by omega)
set_option maxHeartbeats 4000000 in
set_option maxRecDepth 100000 in
theorem c_X4_cover (G : zG) (d0 t0 r0 q0 y0 d1 u0 d2 d3 d4 v : Nat) (o : Int32) (t1 t2 n : Nat) (r1 r2 r3 m : Nat) (b : Nat → Int32) (e : Nat → Int32) (a : Int32) (hm : m ≤ 12) : zX G yX4_cover wsX4_cover ({ frames := 7, cells := 1, slots := 6, locals := 111 }) [.ref d0, .int a] [(d0, .inr (4, [.ref t0, .ref r0, .ref q0, .ref y0, .ref d1, .int o, .int (nI v), .ref u0, .ref d2, .ref d3, .ref d4])), (t0, .inr (3, [.ref t1, .ref t2, .int (nI n)])), (r0, .inr (2, [.ref r1, .ref r2, .ref r3, .int (nI m)])), (r1, eI G 12 b), (r2, eI G 12 e)] [(d0, .inr (4, [.ref t0, .ref r0, .ref q0, .ref y0, .ref d1, .int o, .int (nI v), .ref u0, .ref d2, .ref d3, .ref d4])), (t0, .inr (3, [.ref t1, .ref t2, .int (nI n)])), (r0, .inr (2, [.ref r1, .ref r2, .ref r3, .int (nI m)])), (r1, eI G 12 b), (r2, eI G 12 e)] (plC n a) (some (.int (covF b e m a))) 1 6 := by
  refine zX.ofI (own := RX4) (cc := cX4_cover) (maxL := 2) rfl (by decide) rfl rfl (by simp [Value.category]) (Nat.le_of_ble_eq_true rfl) ?_
  intro X hF hZ hR
  have k_0 : ∀ w ∈ wsX40, w ∈ wsX4_cover := by decide +kernel
  have k_1 : zH X (.fieldLink RX4 19 "MarginDesk" "commentRanges" "LMarginDesk$Ranges;") := hF.w (by decide +kernel)
  have k_2 : zH X (.initialized RX2) := hF.w (by decide +kernel)
  have k_3 : zH X (.instanceMethod yX2_covering) := hF.w (by decide +kernel)
  have k_4 : zH X (.selects RX2 yX2_covering yX2_covering) := hF.w (by decide +kernel)
  refine z_lv (lv' := [some (.ref d0), some (.int a)]) rfl ?_
  refine z_aload_n hF dX4_cover_0 rfl ?_
  refine z_iload_n hF dX4_cover_1 rfl ?_
  refine z_Vx (As := [.int a]) (rest := []) (ws' := [(d0, .inr (4, [.ref t0, .ref r0, .ref q0, .ref y0, .ref d1, .int o, .int (nI v), .ref u0, .ref d2, .ref d3, .ref d4])), (t0, .inr (3, [.ref t1, .ref t2, .int (nI n)])), (r0, .inr (2, [.ref r1, .ref r2, .ref r3, .int (nI m)])), (r1, eI G 12 b), (r2, eI G 12 e)]) (st2 := []) (c2 := 1) (s2 := 6) hF (c_X4_checkPlace G d0 t0 r0 q0 y0 d1 u0 d2 d3 d4 v o t1 t2 n a) gX4_cover_X4_checkPlace rfl rfl rfl hd_X4_checkPlace ⟨⟨Nat.le_of_ble_eq_true rfl, Nat.le_of_ble_eq_true rfl⟩, ⟨Nat.le_of_ble_eq_true rfl, Nat.le_of_ble_eq_true rfl⟩, Nat.le_of_ble_eq_true rfl⟩ [0, 1] rfl rfl 0 rfl rfl rfl rfl rfl rfl rfl rfl rfl rfl rfl rfl dX4_cover_2 (fun c_1 => hZ.x (Nat.le_of_ble_eq_true rfl) (Nat.le_of_ble_eq_true rfl) (fun _ => by simp [fz, c_1]) c_1 rfl) (fun c_1 => ?_)
  refine z_aload_n hF dX4_cover_5 rfl ?_
  refine z_get (C := RX4) (T := TX4) (N := 11) (ci := 4) (v := .ref r0) hF k_0 1 (by decide) rfl k_1 rfl 0 rfl rfl dX4_cover_6 ?_
  refine z_iload_n hF dX4_cover_9 rfl ?_
  refine z_VN (As := [.int a]) (rest := []) (ws' := [(d0, .inr (4, [.ref t0, .ref r0, .ref q0, .ref y0, .ref d1, .int o, .int (nI v), .ref u0, .ref d2, .ref d3, .ref d4])), (t0, .inr (3, [.ref t1, .ref t2, .int (nI n)])), (r0, .inr (2, [.ref r1, .ref r2, .ref r3, .int (nI m)])), (r1, eI G 12 b), (r2, eI G 12 e)]) (st2 := [.int (covF b e m a)]) (c2 := 1) (s2 := 6) hF (c_X2_covering G r0 r1 r2 r3 m a b e (by first | assumption | omega)) ggX4_cover_X2_covering (List.mem_of_getElem? (i := 5) rfl) k_2 k_3 k_4 rfl rfl rfl hs_X2_covering ⟨⟨Nat.le_of_ble_eq_true rfl, Nat.le_of_ble_eq_true rfl⟩, ⟨Nat.le_of_ble_eq_true rfl, Nat.le_of_ble_eq_true rfl⟩, Nat.le_of_ble_eq_true rfl⟩ [2, 3, 4] rfl rfl 0 rfl rfl rfl rfl rfl rfl rfl rfl rfl rfl dX4_cover_10 ?_
  exact (hR (by simp [fz, c_1])).i dX4_cover_13 (Nat.le_of_ble_eq_true rfl) (Nat.le_of_ble_eq_true rfl) (rfl) (rfl)
set_option maxHeartbeats 4000000 in
set_option maxRecDepth 100000 in
theorem c_X4_coverByLetters (G : zG) (d0 t0 r0 q0 y0 d1 u0 d2 d3 d4 v : Nat) (o : Int32) (t1 t2 n : Nat) (g : Nat → Int32) (a : Int32) (hn : n ≤ 60) : zX G yX4_coverByLetters wsX4_coverByLetters ({ frames := 7, cells := 1, slots := 6, locals := 111 }) [.ref d0, .int a] [(d0, .inr (4, [.ref t0, .ref r0, .ref q0, .ref y0, .ref d1, .int o, .int (nI v), .ref u0, .ref d2, .ref d3, .ref d4])), (t0, .inr (3, [.ref t1, .ref t2, .int (nI n)])), (t2, eI G 60 g)] [(d0, .inr (4, [.ref t0, .ref r0, .ref q0, .ref y0, .ref d1, .int o, .int (nI v), .ref u0, .ref d2, .ref d3, .ref d4])), (t0, .inr (3, [.ref t1, .ref t2, .int (nI n)])), (t2, eI G 60 g)] (plC n a) (some (.int (marF n g a))) 1 6 := by
  refine zX.ofI (own := RX4) (cc := cX4_coverByLetters) (maxL := 2) rfl (by decide) rfl rfl (by simp [Value.category]) (Nat.le_of_ble_eq_true rfl) ?_
  intro X hF hZ hR
  have k_0 : ∀ w ∈ wsX40, w ∈ wsX4_coverByLetters := by decide +kernel
  have k_1 : zH X (.fieldLink RX4 10 "MarginDesk" "text" "LMarginDesk$Text;") := hF.w (by decide +kernel)
  have k_2 : zH X (.initialized RX3) := hF.w (by decide +kernel)
  have k_3 : zH X (.instanceMethod yX3_marksBehind) := hF.w (by decide +kernel)
  have k_4 : zH X (.selects RX3 yX3_marksBehind yX3_marksBehind) := hF.w (by decide +kernel)
  refine z_lv (lv' := [some (.ref d0), some (.int a)]) rfl ?_
  refine z_aload_n hF dX4_coverByLetters_0 rfl ?_
  refine z_iload_n hF dX4_coverByLetters_1 rfl ?_
  refine z_Vx (As := [.int a]) (rest := []) (ws' := [(d0, .inr (4, [.ref t0, .ref r0, .ref q0, .ref y0, .ref d1, .int o, .int (nI v), .ref u0, .ref d2, .ref d3, .ref d4])), (t0, .inr (3, [.ref t1, .ref t2, .int (nI n)])), (t2, eI G 60 g)]) (st2 := []) (c2 := 1) (s2 := 6) hF (c_X4_checkPlace G d0 t0 r0 q0 y0 d1 u0 d2 d3 d4 v o t1 t2 n a) gX4_coverByLetters_X4_checkPlace rfl rfl rfl hd_X4_checkPlace ⟨⟨Nat.le_of_ble_eq_true rfl, Nat.le_of_ble_eq_true rfl⟩, ⟨Nat.le_of_ble_eq_true rfl, Nat.le_of_ble_eq_true rfl⟩, Nat.le_of_ble_eq_true rfl⟩ [0, 1] rfl rfl 0 rfl rfl rfl rfl rfl rfl rfl rfl rfl rfl rfl rfl dX4_coverByLetters_2 (fun c_1 => hZ.x (Nat.le_of_ble_eq_true rfl) (Nat.le_of_ble_eq_true rfl) (fun _ => by simp [fz, c_1]) c_1 rfl) (fun c_1 => ?_)
  refine z_aload_n hF dX4_coverByLetters_5 rfl ?_
  refine z_get (C := RX4) (T := TX4) (N := 11) (ci := 4) (v := .ref t0) hF k_0 0 (by decide) rfl k_1 rfl 0 rfl rfl dX4_coverByLetters_6 ?_
  refine z_iload_n hF dX4_coverByLetters_9 rfl ?_
  refine z_VN (As := [.int a]) (rest := []) (ws' := [(d0, .inr (4, [.ref t0, .ref r0, .ref q0, .ref y0, .ref d1, .int o, .int (nI v), .ref u0, .ref d2, .ref d3, .ref d4])), (t0, .inr (3, [.ref t1, .ref t2, .int (nI n)])), (t2, eI G 60 g)]) (st2 := [.int (marF n g a)]) (c2 := 1) (s2 := 6) hF (c_X3_marksBehind G t0 t1 t2 n g a (by first | assumption | omega)) ggX4_coverByLetters_X3_marksBehind (List.mem_of_getElem? (i := 23) rfl) k_2 k_3 k_4 rfl rfl rfl hs_X3_marksBehind ⟨⟨Nat.le_of_ble_eq_true rfl, Nat.le_of_ble_eq_true rfl⟩, ⟨Nat.le_of_ble_eq_true rfl, Nat.le_of_ble_eq_true rfl⟩, Nat.le_of_ble_eq_true rfl⟩ [1, 2] rfl rfl 0 rfl rfl rfl rfl rfl rfl rfl rfl rfl rfl dX4_coverByLetters_10 ?_
  exact (hR (by simp [fz, c_1])).i dX4_coverByLetters_13 (Nat.le_of_ble_eq_true rfl) (Nat.le_of_ble_eq_true rfl) (rfl) (rfl)
set_option maxHeartbeats 4000000 in
set_option maxRecDepth 100000 in
theorem c_X4_pieces (G : zG) (d0 t0 r0 q0 y0 d1 u0 d2 d3 d4 v : Nat) (o : Int32) (t1 t2 n : Nat) (r1 r2 r3 m : Nat) (b : Nat → Int32) (e : Nat → Int32) (hm : m ≤ 12) (hn : n ≤ 60) : zM G yX4_pieces wsX4_pieces ({ frames := 3, cells := 0, slots := 0, locals := 76 }) [.ref d0] [(d0, .inr (4, [.ref t0, .ref r0, .ref q0, .ref y0, .ref d1, .int o, .int (nI v), .ref u0, .ref d2, .ref d3, .ref d4])), (t0, .inr (3, [.ref t1, .ref t2, .int (nI n)])), (r0, .inr (2, [.ref r1, .ref r2, .ref r3, .int (nI m)])), (r1, eI G 12 b), (r2, eI G 12 e)] [(d0, .inr (4, [.ref t0, .ref r0, .ref q0, .ref y0, .ref d1, .int o, .int (nI v), .ref u0, .ref d2, .ref d3, .ref d4])), (t0, .inr (3, [.ref t1, .ref t2, .int (nI n)])), (r0, .inr (2, [.ref r1, .ref r2, .ref r3, .int (nI m)])), (r1, eI G 12 b), (r2, eI G 12 e)] (some (.int (nI (cntF (pcP b e m) n)))) 0 0 := by
  refine zM.ofI (own := RX4) (cc := cX4_pieces) (maxL := 3) rfl (by decide) rfl rfl (by simp [Value.category]) (Nat.le_of_ble_eq_true rfl) ?_
  intro X hF hR
  have k_0 : ∀ w ∈ wsX40, w ∈ wsX4_pieces := by decide +kernel
  have k_1 : zH X (.fieldLink RX4 10 "MarginDesk" "text" "LMarginDesk$Text;") := hF.w (by decide +kernel)
  have k_2 : ∀ w ∈ wsX30, w ∈ wsX4_pieces := by decide +kernel
  have k_3 : zH X (.fieldLinkNest RX4 78 "MarginDesk$Text" "size" "I" RX4) := hF.nf (List.mem_of_getElem? (i := 2) rfl)
  refine z_lv (lv' := [some (.ref d0), none, none]) rfl ?_
  refine z_iconst (v := nI 0) hF dX4_pieces_0 (by decide) ?_
  refine z_istore_n (lv' := [some (.ref d0), some (.int (nI 0)), none]) hF dX4_pieces_1 rfl rfl ?_
  refine z_iconst (v := nI 0) hF dX4_pieces_2 (by decide) ?_
  refine z_istore_n (lv' := [some (.ref d0), some (.int (nI 0)), some (.int (nI 0))]) hF dX4_pieces_3 rfl rfl ?_
  refine z_lv (lv' := [some (.ref d0), some (.int (nI (cntF (pcP b e m) 0))), some (.int (nI 0))]) (by rfl) ?_
  have J_4 : ∀ (n9 : Nat) (i : Nat), n - i < n9 → (i ≤ n) → zJ G X 4 [(d0, .inr (4, [.ref t0, .ref r0, .ref q0, .ref y0, .ref d1, .int o, .int (nI v), .ref u0, .ref d2, .ref d3, .ref d4])), (t0, .inr (3, [.ref t1, .ref t2, .int (nI n)])), (r0, .inr (2, [.ref r1, .ref r2, .ref r3, .int (nI m)])), (r1, eI G 12 b), (r2, eI G 12 e)] [some (.ref d0), some (.int (nI (cntF (pcP b e m) i))), some (.int (nI i))] [] 0 0 := by
    intro n9
    induction n9 with
    | zero => intro i hmu; exact absurd hmu (Nat.not_lt_zero _)
    | succ n9 ih =>
      intro i hmu h2
      refine z_iload_n hF dX4_pieces_4 rfl ?_
      refine z_aload_n hF dX4_pieces_5 rfl ?_
      refine z_get (C := RX4) (T := TX4) (N := 11) (ci := 4) (v := .ref t0) hF k_0 0 (by decide) rfl k_1 rfl 0 rfl rfl dX4_pieces_6 ?_
      refine z_getN (C := RX3) (T := TX3) (N := 3) (ci := 3) (v := .int (nI n)) hF k_2 2 (by decide) rfl k_3 rfl 1 rfl rfl dX4_pieces_9 ?_
      refine z_icn_ge (tgt := 32) hF (by omega) (by omega) dX4_pieces_12 (by decide) (fun c_1 => ?_) (fun c_1 => ?_)
      · refine z_iload_n hF dX4_pieces_32 rfl ?_
        exact hR.i dX4_pieces_33 (Nat.le_of_ble_eq_true rfl) (Nat.le_of_ble_eq_true rfl) (rfl) (by rw [show i = n by omega])
      · refine z_aload_n hF dX4_pieces_15 rfl ?_
        refine z_iload_n hF dX4_pieces_16 rfl ?_
        refine z_V (As := [.int (nI i)]) (rest := []) (ws' := [(d0, .inr (4, [.ref t0, .ref r0, .ref q0, .ref y0, .ref d1, .int o, .int (nI v), .ref u0, .ref d2, .ref d3, .ref d4])), (t0, .inr (3, [.ref t1, .ref t2, .int (nI n)])), (r0, .inr (2, [.ref r1, .ref r2, .ref r3, .int (nI m)])), (r1, eI G 12 b), (r2, eI G 12 e)]) (st2 := [.int (zb (pcP b e m i))]) (c2 := 0) (s2 := 0) hF (c_X4_beginsPiece G d0 t0 r0 q0 y0 d1 u0 d2 d3 d4 v o r1 r2 r3 m b e i (by first | assumption | omega) (by first | assumption | omega)) gX4_pieces_X4_beginsPiece rfl rfl rfl hd_X4_beginsPiece ⟨⟨Nat.le_of_ble_eq_true rfl, Nat.le_of_ble_eq_true rfl⟩, ⟨Nat.le_of_ble_eq_true rfl, Nat.le_of_ble_eq_true rfl⟩, Nat.le_of_ble_eq_true rfl⟩ [0, 2, 3, 4] rfl rfl 0 rfl rfl rfl rfl rfl rfl rfl rfl rfl rfl dX4_pieces_17 ?_
        refine z_if_eq_b (tgt := 26) hF dX4_pieces_20 (by decide) (fun hb => ?_) (fun hb => ?_)
        · refine z_iinc (v := nI (i + 1)) (lv' := [some (.ref d0), some (.int (nI (cntF (pcP b e m) i))), some (.int (nI (i + 1)))]) hF dX4_pieces_26 rfl (nI_1 i) rfl rfl ?_
          refine z_goto (tgt := 4) hF dX4_pieces_29 (by decide) ?_
          refine z_lv (lv' := [some (.ref d0), some (.int (nI (cntF (pcP b e m) (i + 1)))), some (.int (nI (i + 1)))]) (by rw [cntF_f (k := i) hb]) ?_
          exact ih (i + 1) (by omega) (by omega)
        · refine z_iinc (v := nI (cntF (pcP b e m) i + 1)) (lv' := [some (.ref d0), some (.int (nI (cntF (pcP b e m) i + 1))), some (.int (nI i))]) hF dX4_pieces_23 rfl (nI_1 (cntF (pcP b e m) i)) rfl rfl ?_
          refine z_iinc (v := nI (i + 1)) (lv' := [some (.ref d0), some (.int (nI (cntF (pcP b e m) i + 1))), some (.int (nI (i + 1)))]) hF dX4_pieces_26 rfl (nI_1 i) rfl rfl ?_
          refine z_goto (tgt := 4) hF dX4_pieces_29 (by decide) ?_
          refine z_lv (lv' := [some (.ref d0), some (.int (nI (cntF (pcP b e m) (i + 1)))), some (.int (nI (i + 1)))]) (by rw [cntF_t (k := i) hb]) ?_
          exact ih (i + 1) (by omega) (by omega)
  exact J_4 ((n - 0) + 1) 0 (Nat.lt_succ_self _) (by omega)
set_option maxHeartbeats 4000000 in
set_option maxRecDepth 100000 in
theorem c_X4_pieceAt (G : zG) (d0 t0 r0 q0 y0 d1 u0 d2 d3 d4 v : Nat) (o : Int32) (t1 t2 n : Nat) (r1 r2 r3 m : Nat) (b : Nat → Int32) (e : Nat → Int32) (x : Int32) (hm : m ≤ 12) (hn : n ≤ 60) : zX G yX4_pieceAt wsX4_pieceAt ({ frames := 6, cells := 1, slots := 6, locals := 90 }) [.ref d0, .int x] [(d0, .inr (4, [.ref t0, .ref r0, .ref q0, .ref y0, .ref d1, .int o, .int (nI v), .ref u0, .ref d2, .ref d3, .ref d4])), (t0, .inr (3, [.ref t1, .ref t2, .int (nI n)])), (r0, .inr (2, [.ref r1, .ref r2, .ref r3, .int (nI m)])), (r1, eI G 12 b), (r2, eI G 12 e)] [(d0, .inr (4, [.ref t0, .ref r0, .ref q0, .ref y0, .ref d1, .int o, .int (nI v), .ref u0, .ref d2, .ref d3, .ref d4])), (t0, .inr (3, [.ref t1, .ref t2, .int (nI n)])), (r0, .inr (2, [.ref r1, .ref r2, .ref r3, .int (nI m)])), (r1, eI G 12 b), (r2, eI G 12 e)] (if fndF (pcP b e m) x n = -1 then 1 else 0) (some (.int (fndF (pcP b e m) x n))) 1 6 := by
  refine zX.ofI (own := RX4) (cc := cX4_pieceAt) (maxL := 4) rfl (by decide) rfl rfl (by simp [Value.category]) (Nat.le_of_ble_eq_true rfl) ?_
  intro X hF hZ hR
  have k_0 : ∀ w ∈ wsX40, w ∈ wsX4_pieceAt := by decide +kernel
  have k_1 : zH X (.fieldLink RX4 10 "MarginDesk" "text" "LMarginDesk$Text;") := hF.w (by decide +kernel)
  have k_2 : ∀ w ∈ wsX30, w ∈ wsX4_pieceAt := by decide +kernel
  have k_3 : zH X (.fieldLinkNest RX4 78 "MarginDesk$Text" "size" "I" RX4) := hF.nf (List.mem_of_getElem? (i := 2) rfl)
  have k_4 : zH X (.classLink RX4 138 "java/lang/IndexOutOfBoundsException") := hF.w (by decide +kernel)
  have k_5 : zH X (.initialized "java/lang/IndexOutOfBoundsException") := hF.w (by decide +kernel)
  have k_6 : ∀ w ∈ (vx_atS RX4 142 (zEx 1) [zRun, zExc]).filter goodWord, w ∈ wsX4_pieceAt := by first | exact fun _ h => List.mem_cons_of_mem _ (List.mem_append_right _ h) | exact fun _ h => List.mem_cons_of_mem _ (List.mem_append_left _ (List.mem_append_right _ h)) | exact fun _ h => List.mem_cons_of_mem _ (List.mem_append_left _ (List.mem_append_left _ (List.mem_append_right _ h))) | exact fun _ h => List.mem_cons_of_mem _ (List.mem_append_left _ (List.mem_append_left _ (List.mem_append_left _ (List.mem_append_right _ h)))) | exact fun _ h => List.mem_cons_of_mem _ (List.mem_append_left _ (List.mem_append_left _ (List.mem_append_left _ (List.mem_append_left _ (List.mem_append_right _ h))))) | decide +kernel
  refine z_lv (lv' := [some (.ref d0), some (.int x), none, none]) rfl ?_
  refine z_iconst (v := nI 0) hF dX4_pieceAt_0 (by decide) ?_
  refine z_istore_n (lv' := [some (.ref d0), some (.int x), some (.int (nI 0)), none]) hF dX4_pieceAt_1 rfl rfl ?_
  refine z_iconst (v := nI 0) hF dX4_pieceAt_2 (by decide) ?_
  refine z_istore_n (lv' := [some (.ref d0), some (.int x), some (.int (nI 0)), some (.int (nI 0))]) hF dX4_pieceAt_3 rfl rfl ?_
  refine z_lv (lv' := [some (.ref d0), some (.int x), some (.int (nI (cntF (pcP b e m) 0))), some (.int (nI 0))]) (by rfl) ?_
  have J_4 : ∀ (n9 : Nat) (i : Nat), n - i < n9 → (i ≤ n) → (fndF (pcP b e m) x i = -1) → zJ G X 4 [(d0, .inr (4, [.ref t0, .ref r0, .ref q0, .ref y0, .ref d1, .int o, .int (nI v), .ref u0, .ref d2, .ref d3, .ref d4])), (t0, .inr (3, [.ref t1, .ref t2, .int (nI n)])), (r0, .inr (2, [.ref r1, .ref r2, .ref r3, .int (nI m)])), (r1, eI G 12 b), (r2, eI G 12 e)] [some (.ref d0), some (.int x), some (.int (nI (cntF (pcP b e m) i))), some (.int (nI i))] [] 0 0 := by
    intro n9
    induction n9 with
    | zero => intro i hmu; exact absurd hmu (Nat.not_lt_zero _)
    | succ n9 ih =>
      intro i hmu h2 hf
      refine z_iload_n hF dX4_pieceAt_4 rfl ?_
      refine z_aload_n hF dX4_pieceAt_5 rfl ?_
      refine z_get (C := RX4) (T := TX4) (N := 11) (ci := 4) (v := .ref t0) hF k_0 0 (by decide) rfl k_1 rfl 0 rfl rfl dX4_pieceAt_6 ?_
      refine z_getN (C := RX3) (T := TX3) (N := 3) (ci := 3) (v := .int (nI n)) hF k_2 2 (by decide) rfl k_3 rfl 1 rfl rfl dX4_pieceAt_9 ?_
      refine z_icn_ge (tgt := 39) hF (by omega) (by omega) dX4_pieceAt_12 (by decide) (fun c_1 => ?_) (fun c_1 => ?_)
      · have h9 : i = n := by omega
        subst h9
        exact z_throw (k := 1) hF hZ k_4 k_5 (List.mem_of_getElem? (i := 2) rfl) k_6 zfit1 zbad1 znc1 zgood1 dX4_pieceAt_39 dX4_pieceAt_42 dX4_pieceAt_43 dX4_pieceAt_45 dX4_pieceAt_48 ⟨Nat.le_of_ble_eq_true rfl, Nat.le_of_ble_eq_true rfl, Nat.le_of_ble_eq_true rfl, Nat.le_of_ble_eq_true rfl⟩ (Nat.le_of_ble_eq_true rfl) (Nat.le_of_ble_eq_true rfl) (by decide) (by rw [if_pos hf]) rfl
      · refine z_aload_n hF dX4_pieceAt_15 rfl ?_
        refine z_iload_n hF dX4_pieceAt_16 rfl ?_
        refine z_V (As := [.int (nI i)]) (rest := []) (ws' := [(d0, .inr (4, [.ref t0, .ref r0, .ref q0, .ref y0, .ref d1, .int o, .int (nI v), .ref u0, .ref d2, .ref d3, .ref d4])), (t0, .inr (3, [.ref t1, .ref t2, .int (nI n)])), (r0, .inr (2, [.ref r1, .ref r2, .ref r3, .int (nI m)])), (r1, eI G 12 b), (r2, eI G 12 e)]) (st2 := [.int (zb (pcP b e m i))]) (c2 := 0) (s2 := 0) hF (c_X4_beginsPiece G d0 t0 r0 q0 y0 d1 u0 d2 d3 d4 v o r1 r2 r3 m b e i (by first | assumption | omega) (by first | assumption | omega)) gX4_pieceAt_X4_beginsPiece rfl rfl rfl hd_X4_beginsPiece ⟨⟨Nat.le_of_ble_eq_true rfl, Nat.le_of_ble_eq_true rfl⟩, ⟨Nat.le_of_ble_eq_true rfl, Nat.le_of_ble_eq_true rfl⟩, Nat.le_of_ble_eq_true rfl⟩ [0, 2, 3, 4] rfl rfl 0 rfl rfl rfl rfl rfl rfl rfl rfl rfl rfl dX4_pieceAt_17 ?_
        refine z_if_eq_b (tgt := 33) hF dX4_pieceAt_20 (by decide) (fun hb => ?_) (fun hb => ?_)
        · refine z_iinc (v := nI (i + 1)) (lv' := [some (.ref d0), some (.int x), some (.int (nI (cntF (pcP b e m) i))), some (.int (nI (i + 1)))]) hF dX4_pieceAt_33 rfl (nI_1 i) rfl rfl ?_
          refine z_goto (tgt := 4) hF dX4_pieceAt_36 (by decide) ?_
          refine z_lv (lv' := [some (.ref d0), some (.int x), some (.int (nI (cntF (pcP b e m) (i + 1)))), some (.int (nI (i + 1)))]) (by rw [cntF_f (k := i) hb]) ?_
          exact ih (i + 1) (by omega) (by omega) (fndF_f hf (by grind))
        · refine z_iload_n hF dX4_pieceAt_23 rfl ?_
          refine z_iload_n hF dX4_pieceAt_24 rfl ?_
          refine z_ic_ne (tgt := 30) hF dX4_pieceAt_25 (by decide) (fun hx => ?_) (fun hx => ?_)
          · refine z_iinc (v := nI (cntF (pcP b e m) i + 1)) (lv' := [some (.ref d0), some (.int x), some (.int (nI (cntF (pcP b e m) i + 1))), some (.int (nI i))]) hF dX4_pieceAt_30 rfl (nI_1 (cntF (pcP b e m) i)) rfl rfl ?_
            refine z_iinc (v := nI (i + 1)) (lv' := [some (.ref d0), some (.int x), some (.int (nI (cntF (pcP b e m) i + 1))), some (.int (nI (i + 1)))]) hF dX4_pieceAt_33 rfl (nI_1 i) rfl rfl ?_
            refine z_goto (tgt := 4) hF dX4_pieceAt_36 (by decide) ?_
            refine z_lv (lv' := [some (.ref d0), some (.int x), some (.int (nI (cntF (pcP b e m) (i + 1)))), some (.int (nI (i + 1)))]) (by rw [cntF_t (k := i) hb]) ?_
            exact ih (i + 1) (by omega) (by omega) (fndF_f hf (by grind))
          · have h9 := fndF_t hf hb hx (by omega) n (by omega)
            refine z_iload_n hF dX4_pieceAt_28 rfl ?_
            exact (hR (by rw [h9]; exact if_neg (nI_m1 (by omega)))).i dX4_pieceAt_29 (Nat.le_of_ble_eq_true rfl) (Nat.le_of_ble_eq_true rfl) (rfl) (h9.symm)
  exact J_4 ((n - 0) + 1) 0 (Nat.lt_succ_self _) (by omega) rfl
set_option maxHeartbeats 4000000 in
set_option maxRecDepth 100000 in
theorem c_X4_suggest (G : zG) (d0 t0 r0 q0 y0 d1 u0 d2 d3 d4 v : Nat) (o : Int32) (t1 t2 n : Nat) (u1 u2 u3 j : Nat) (b2 : Nat → Int32) (e2 : Nat → Int32) (s2 : Nat → Int32) (xl : Nat → Int32) (xc : Nat → Int32) (xs : Nat → Int32) (a k l w : Int32) (hn : n ≤ 60) (hj : j ≤ 10) : zX G yX4_suggest wsX4_suggest ({ frames := 8, cells := 6, slots := 36, locals := 134 }) [.ref d0, .int a, .int k, .int l, .int w] [(d0, .inr (4, [.ref t0, .ref r0, .ref q0, .ref y0, .ref d1, .int o, .int (nI v), .ref u0, .ref d2, .ref d3, .ref d4])), (t0, .inr (3, [.ref t1, .ref t2, .int (nI n)])), (u0, .inr (2, [.ref u1, .ref u2, .ref u3, .int (nI j)])), (u1, eI G 12 b2), (u2, eI G 12 e2), (u3, eI G 12 s2), (d2, eI G 10 xl), (d3, eI G 10 xc), (d4, eI G 10 xs)] [(d0, .inr (4, [.ref t0, .ref r0, .ref q0, .ref y0, .ref d1, .int o, .int (nI v), .ref u0, .ref d2, .ref d3, .ref d4])), (t0, .inr (3, [.ref t1, .ref t2, .int (nI n)])), (u0, .inr (2, [.ref u1, .ref u2, .ref u3, .int (nI (j + 1))])), (u1, eI G 12 (upd b2 j a)), (u2, eI G 12 (upd e2 j k)), (u3, eI G 12 (upd s2 j (nI 0))), (d2, eI G 10 (upd xl j l)), (d3, eI G 10 (upd xc j w)), (d4, eI G 10 (upd xs j (nI 0)))] (fz (rgC n a k) (fz (amC l (nI 0) (nI 25)) (fz (amC w (nI 0) (nI 5)) (if j < 10 then 0 else 3)))) (some (.int (nI j))) 6 36 := by
  refine zX.ofI (own := RX4) (cc := cX4_suggest) (maxL := 6) rfl (by decide) rfl rfl (by simp [Value.category]) (Nat.le_of_ble_eq_true rfl) ?_
  intro X hF hZ hR
  have k_0 : ∀ w ∈ wsX40, w ∈ wsX4_suggest := by decide +kernel
  have k_1 : zH X (.fieldLink RX4 48 "MarginDesk" "suggestionRanges" "LMarginDesk$Ranges;") := hF.w (by decide +kernel)
  have k_2 : ∀ w ∈ wsX20, w ∈ wsX4_suggest := by decide +kernel
  have k_3 : zH X (.fieldLinkNest RX4 92 "MarginDesk$Ranges" "count" "I" RX4) := hF.nf (List.mem_of_getElem? (i := 3) rfl)
  have k_4 : zH X (.initialized RX2) := hF.w (by decide +kernel)
  have k_5 : zH X (.instanceMethod yX2_add) := hF.w (by decide +kernel)
  have k_6 : zH X (.selects RX2 yX2_add yX2_add) := hF.w (by decide +kernel)
  have k_7 : zH X (.fieldLink RX4 51 "MarginDesk" "suggestedLetters" "[I") := hF.w (by decide +kernel)
  have k_8 : zH X (.fieldLink RX4 54 "MarginDesk" "suggestedCounts" "[I") := hF.w (by decide +kernel)
  have k_9 : zH X (.fieldLink RX4 57 "MarginDesk" "states" "[I") := hF.w (by decide +kernel)
  have k_10 : zH X (.classLink RX4 95 "java/lang/IllegalStateException") := hF.w (by decide +kernel)
  have k_11 : zH X (.initialized "java/lang/IllegalStateException") := hF.w (by decide +kernel)
  have k_12 : ∀ w ∈ (vx_atS RX4 99 (zEx 3) [zRun, zExc]).filter goodWord, w ∈ wsX4_suggest := by first | exact fun _ h => List.mem_cons_of_mem _ (List.mem_append_right _ h) | exact fun _ h => List.mem_cons_of_mem _ (List.mem_append_left _ (List.mem_append_right _ h)) | exact fun _ h => List.mem_cons_of_mem _ (List.mem_append_left _ (List.mem_append_left _ (List.mem_append_right _ h))) | exact fun _ h => List.mem_cons_of_mem _ (List.mem_append_left _ (List.mem_append_left _ (List.mem_append_left _ (List.mem_append_right _ h)))) | exact fun _ h => List.mem_cons_of_mem _ (List.mem_append_left _ (List.mem_append_left _ (List.mem_append_left _ (List.mem_append_left _ (List.mem_append_right _ h))))) | decide +kernel
  refine z_lv (lv' := [some (.ref d0), some (.int a), some (.int k), some (.int l), some (.int w), none]) rfl ?_
  refine z_aload_n hF dX4_suggest_0 rfl ?_
  refine z_iload_n hF dX4_suggest_1 rfl ?_
  refine z_iload_n hF dX4_suggest_2 rfl ?_
  refine z_Vx (As := [.int a, .int k]) (rest := []) (ws' := [(d0, .inr (4, [.ref t0, .ref r0, .ref q0, .ref y0, .ref d1, .int o, .int (nI v), .ref u0, .ref d2, .ref d3, .ref d4])), (t0, .inr (3, [.ref t1, .ref t2, .int (nI n)])), (u0, .inr (2, [.ref u1, .ref u2, .ref u3, .int (nI j)])), (u1, eI G 12 b2), (u2, eI G 12 e2), (u3, eI G 12 s2), (d2, eI G 10 xl), (d3, eI G 10 xc), (d4, eI G 10 xs)]) (st2 := []) (c2 := 3) (s2 := 18) hF (c_X4_checkRange G d0 t0 r0 q0 y0 d1 u0 d2 d3 d4 v o t1 t2 n a k) gX4_suggest_X4_checkRange rfl rfl rfl hd_X4_checkRange ⟨⟨Nat.le_of_ble_eq_true rfl, Nat.le_of_ble_eq_true rfl⟩, ⟨Nat.le_of_ble_eq_true rfl, Nat.le_of_ble_eq_true rfl⟩, Nat.le_of_ble_eq_true rfl⟩ [0, 1] rfl rfl 0 rfl rfl rfl rfl rfl rfl rfl rfl rfl rfl rfl rfl dX4_suggest_3 (fun h1 => hZ.x (Nat.le_of_ble_eq_true rfl) (Nat.le_of_ble_eq_true rfl) (fun _ => by simp [fz, h1]) h1 rfl) (fun h1 => ?_)
  refine z_aload_n hF dX4_suggest_6 rfl ?_
  refine z_iload_n hF dX4_suggest_7 rfl ?_
  refine z_Vx (As := [.int l]) (rest := []) (ws' := [(d0, .inr (4, [.ref t0, .ref r0, .ref q0, .ref y0, .ref d1, .int o, .int (nI v), .ref u0, .ref d2, .ref d3, .ref d4])), (t0, .inr (3, [.ref t1, .ref t2, .int (nI n)])), (u0, .inr (2, [.ref u1, .ref u2, .ref u3, .int (nI j)])), (u1, eI G 12 b2), (u2, eI G 12 e2), (u3, eI G 12 s2), (d2, eI G 10 xl), (d3, eI G 10 xc), (d4, eI G 10 xs)]) (st2 := []) (c2 := 4) (s2 := 24) hF (c_X4_checkLetter G d0 t0 r0 q0 y0 d1 u0 d2 d3 d4 v o l) gX4_suggest_X4_checkLetter rfl rfl rfl hd_X4_checkLetter ⟨⟨Nat.le_of_ble_eq_true rfl, Nat.le_of_ble_eq_true rfl⟩, ⟨Nat.le_of_ble_eq_true rfl, Nat.le_of_ble_eq_true rfl⟩, Nat.le_of_ble_eq_true rfl⟩ [0] rfl rfl 0 rfl rfl rfl rfl rfl rfl rfl rfl rfl rfl rfl rfl dX4_suggest_8 (fun h2 => hZ.x (Nat.le_of_ble_eq_true rfl) (Nat.le_of_ble_eq_true rfl) (fun _ => by simp [fz, h1, h2]) h2 rfl) (fun h2 => ?_)
  refine z_aload_n hF dX4_suggest_11 rfl ?_
  refine z_iload hF dX4_suggest_12 rfl ?_
  refine z_iconst (v := nI 0) hF dX4_suggest_14 (by decide) ?_
  refine z_iconst (v := nI 5) hF dX4_suggest_15 (by decide) ?_
  refine z_Vx (As := [.int w, .int (nI 0), .int (nI 5)]) (rest := []) (ws' := [(d0, .inr (4, [.ref t0, .ref r0, .ref q0, .ref y0, .ref d1, .int o, .int (nI v), .ref u0, .ref d2, .ref d3, .ref d4])), (t0, .inr (3, [.ref t1, .ref t2, .int (nI n)])), (u0, .inr (2, [.ref u1, .ref u2, .ref u3, .int (nI j)])), (u1, eI G 12 b2), (u2, eI G 12 e2), (u3, eI G 12 s2), (d2, eI G 10 xl), (d3, eI G 10 xc), (d4, eI G 10 xs)]) (st2 := []) (c2 := 5) (s2 := 30) hF (c_X4_checkAmong G d0 t0 r0 q0 y0 d1 u0 d2 d3 d4 v o w (nI 0) (nI 5)) gX4_suggest_X4_checkAmong rfl rfl rfl hd_X4_checkAmong ⟨⟨Nat.le_of_ble_eq_true rfl, Nat.le_of_ble_eq_true rfl⟩, ⟨Nat.le_of_ble_eq_true rfl, Nat.le_of_ble_eq_true rfl⟩, Nat.le_of_ble_eq_true rfl⟩ [0] rfl rfl 0 rfl rfl rfl rfl rfl rfl rfl rfl rfl rfl rfl rfl dX4_suggest_16 (fun h3 => hZ.x (Nat.le_of_ble_eq_true rfl) (Nat.le_of_ble_eq_true rfl) (fun _ => by simp [fz, h1, h2, h3]) h3 rfl) (fun h3 => ?_)
  refine z_aload_n hF dX4_suggest_19 rfl ?_
  refine z_get (C := RX4) (T := TX4) (N := 11) (ci := 4) (v := .ref u0) hF k_0 7 (by decide) rfl k_1 rfl 0 rfl rfl dX4_suggest_20 ?_
  refine z_getN (C := RX2) (T := TX2) (N := 4) (ci := 2) (v := .int (nI j)) hF k_2 3 (by decide) rfl k_3 rfl 2 rfl rfl dX4_suggest_23 ?_
  refine z_bipush (v := nI 10) hF dX4_suggest_26 (by decide) ?_
  refine z_icn_lt (tgt := 41) hF (by omega) (by omega) dX4_suggest_28 (by decide) (fun h4 => ?_) (fun h4 => ?_)
  · refine z_aload_n hF dX4_suggest_41 rfl ?_
    refine z_get (C := RX4) (T := TX4) (N := 11) (ci := 4) (v := .ref u0) hF k_0 7 (by decide) rfl k_1 rfl 0 rfl rfl dX4_suggest_42 ?_
    refine z_iload_n hF dX4_suggest_45 rfl ?_
    refine z_iload_n hF dX4_suggest_46 rfl ?_
    refine z_iconst (v := nI 0) hF dX4_suggest_47 (by decide) ?_
    refine z_VN (As := [.int a, .int k, .int (nI 0)]) (rest := []) (ws' := [(d0, .inr (4, [.ref t0, .ref r0, .ref q0, .ref y0, .ref d1, .int o, .int (nI v), .ref u0, .ref d2, .ref d3, .ref d4])), (t0, .inr (3, [.ref t1, .ref t2, .int (nI n)])), (u0, .inr (2, [.ref u1, .ref u2, .ref u3, .int (nI (j + 1))])), (u1, eI G 12 (upd b2 j a)), (u2, eI G 12 (upd e2 j k)), (u3, eI G 12 (upd s2 j (nI 0))), (d2, eI G 10 xl), (d3, eI G 10 xc), (d4, eI G 10 xs)]) (st2 := [.int (nI j)]) (c2 := 5) (s2 := 30) hF (c_X2_add G u0 u1 u2 u3 j a k (nI 0) b2 e2 s2 (by first | assumption | omega)) ggX4_suggest_X2_add (List.mem_of_getElem? (i := 15) rfl) k_4 k_5 k_6 rfl rfl rfl hs_X2_add ⟨⟨Nat.le_of_ble_eq_true rfl, Nat.le_of_ble_eq_true rfl⟩, ⟨Nat.le_of_ble_eq_true rfl, Nat.le_of_ble_eq_true rfl⟩, Nat.le_of_ble_eq_true rfl⟩ [2, 3, 4, 5] rfl rfl 0 rfl rfl rfl rfl rfl rfl rfl rfl rfl rfl dX4_suggest_48 ?_
    refine z_istore (lv' := [some (.ref d0), some (.int a), some (.int k), some (.int l), some (.int w), some (.int (nI j))]) hF dX4_suggest_51 rfl rfl ?_
    refine z_aload_n hF dX4_suggest_53 rfl ?_
    refine z_get (C := RX4) (T := TX4) (N := 11) (ci := 4) (v := .ref d2) hF k_0 8 (by decide) rfl k_7 rfl 0 rfl rfl dX4_suggest_54 ?_
    refine z_iload hF dX4_suggest_57 rfl ?_
    refine z_iload_n hF dX4_suggest_59 rfl ?_
    refine z_iast (k := j) (ws' := [(d0, .inr (4, [.ref t0, .ref r0, .ref q0, .ref y0, .ref d1, .int o, .int (nI v), .ref u0, .ref d2, .ref d3, .ref d4])), (t0, .inr (3, [.ref t1, .ref t2, .int (nI n)])), (u0, .inr (2, [.ref u1, .ref u2, .ref u3, .int (nI (j + 1))])), (u1, eI G 12 (upd b2 j a)), (u2, eI G 12 (upd e2 j k)), (u3, eI G 12 (upd s2 j (nI 0))), (d2, eI G 10 (upd xl j l)), (d3, eI G 10 xc), (d4, eI G 10 xs)]) hF 6 rfl (rfl) (by omega) rfl rfl dX4_suggest_60 ?_
    refine z_aload_n hF dX4_suggest_61 rfl ?_
    refine z_get (C := RX4) (T := TX4) (N := 11) (ci := 4) (v := .ref d3) hF k_0 9 (by decide) rfl k_8 rfl 0 rfl rfl dX4_suggest_62 ?_
    refine z_iload hF dX4_suggest_65 rfl ?_
    refine z_iload hF dX4_suggest_67 rfl ?_
    refine z_iast (k := j) (ws' := [(d0, .inr (4, [.ref t0, .ref r0, .ref q0, .ref y0, .ref d1, .int o, .int (nI v), .ref u0, .ref d2, .ref d3, .ref d4])), (t0, .inr (3, [.ref t1, .ref t2, .int (nI n)])), (u0, .inr (2, [.ref u1, .ref u2, .ref u3, .int (nI (j + 1))])), (u1, eI G 12 (upd b2 j a)), (u2, eI G 12 (upd e2 j k)), (u3, eI G 12 (upd s2 j (nI 0))), (d2, eI G 10 (upd xl j l)), (d3, eI G 10 (upd xc j w)), (d4, eI G 10 xs)]) hF 7 rfl (rfl) (by omega) rfl rfl dX4_suggest_69 ?_
    refine z_aload_n hF dX4_suggest_70 rfl ?_
    refine z_get (C := RX4) (T := TX4) (N := 11) (ci := 4) (v := .ref d4) hF k_0 10 (by decide) rfl k_9 rfl 0 rfl rfl dX4_suggest_71 ?_
    refine z_iload hF dX4_suggest_74 rfl ?_
    refine z_iconst (v := nI 0) hF dX4_suggest_76 (by decide) ?_
    refine z_iast (k := j) (ws' := [(d0, .inr (4, [.ref t0, .ref r0, .ref q0, .ref y0, .ref d1, .int o, .int (nI v), .ref u0, .ref d2, .ref d3, .ref d4])), (t0, .inr (3, [.ref t1, .ref t2, .int (nI n)])), (u0, .inr (2, [.ref u1, .ref u2, .ref u3, .int (nI (j + 1))])), (u1, eI G 12 (upd b2 j a)), (u2, eI G 12 (upd e2 j k)), (u3, eI G 12 (upd s2 j (nI 0))), (d2, eI G 10 (upd xl j l)), (d3, eI G 10 (upd xc j w)), (d4, eI G 10 (upd xs j (nI 0)))]) hF 8 rfl (rfl) (by omega) rfl rfl dX4_suggest_77 ?_
    refine z_iload hF dX4_suggest_78 rfl ?_
    exact (hR (by simp [fz, h1, h2, h3, h4])).i dX4_suggest_80 (Nat.le_of_ble_eq_true rfl) (Nat.le_of_ble_eq_true rfl) (rfl) (rfl)
  · have h9 := Nat.not_lt.mpr h4
    exact z_throw (k := 3) hF hZ k_10 k_11 (List.mem_of_getElem? (i := 3) rfl) k_12 zfit3 zbad3 znc3 zgood3 dX4_suggest_31 dX4_suggest_34 dX4_suggest_35 dX4_suggest_37 dX4_suggest_40 ⟨Nat.le_of_ble_eq_true rfl, Nat.le_of_ble_eq_true rfl, Nat.le_of_ble_eq_true rfl, Nat.le_of_ble_eq_true rfl⟩ (Nat.le_of_ble_eq_true rfl) (Nat.le_of_ble_eq_true rfl) (by decide) (by simp [fz, h1, h2, h3, h4, h9]) rfl
