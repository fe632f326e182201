set_option maxHeartbeats 4000000 in
set_option maxRecDepth 100000 in
theorem c_X5_coverByLetters_k (G : zG) (w0 w1 w2 w3 w4 w5 w6 w7 w8 w9 w10 w11 w12 w13 w14 w15 w16 n v m j : Nat) (th : Int32) (b : Nat → Int32) (e : Nat → Int32) (a : Int32) (hm : m ≤ 12) (hg : ∀ i, i < m → b i = -1 → e i = -1) (hc : (plC n a) = 0) : zM G yX5_coverByLetters wsX5_coverByLetters ({ frames := 2, cells := 0, slots := 0, locals := 55 }) [.ref w0, .int a] [(w0, .inr (5, [.int th, .int (nI n), .ref w1, .int (nI v), .int (nI m), .ref w2, .ref w3, .ref w4, .ref w5, .ref w6, .ref w7, .ref w8, .ref w9, .ref w10, .ref w11, .int (nI j), .ref w12, .ref w13, .ref w14, .ref w15, .ref w16])), (w2, eI G 12 b), (w3, eI G 12 e)] [(w0, .inr (5, [.int (nI 0), .int (nI n), .ref w1, .int (nI v), .int (nI m), .ref w2, .ref w3, .ref w4, .ref w5, .ref w6, .ref w7, .ref w8, .ref w9, .ref w10, .ref w11, .int (nI j), .ref w12, .ref w13, .ref w14, .ref w15, .ref w16])), (w2, eI G 12 b), (w3, eI G 12 e)] (some (.int (if a < nI n then covF b e m a else 0))) 0 0 := by
  refine zM.ofI (own := RX5) (cc := cX5_coverByLetters) (maxL := 2) rfl (by decide) rfl rfl (by simp [Value.category]) (Nat.le_of_ble_eq_true rfl) ?_
  intro X hF hR
  have k_0 : ∀ w ∈ wsX50, w ∈ wsX5_coverByLetters := by decide +kernel
  have k_1 : zH X (.fieldLink RX5 62 "MarginDeskModel" "thrown" "I") := hF.w (by decide +kernel)
  refine z_lv (lv' := [some (.ref w0), some (.int a)]) rfl ?_
  have d_0 := plC_d n a
  refine z_aload_n hF dX5_coverByLetters_0 rfl ?_
  refine z_iconst (v := nI 0) hF dX5_coverByLetters_1 (by decide) ?_
  refine z_put (C := RX5) (T := TX5) (N := 21) (ci := 5) (ws' := [(w0, .inr (5, [.int (nI 0), .int (nI n), .ref w1, .int (nI v), .int (nI m), .ref w2, .ref w3, .ref w4, .ref w5, .ref w6, .ref w7, .ref w8, .ref w9, .ref w10, .ref w11, .int (nI j), .ref w12, .ref w13, .ref w14, .ref w15, .ref w16])), (w2, eI G 12 b), (w3, eI G 12 e)]) hF k_0 tyX5 tyX5_ok nmX5 0 (by decide) rfl k_1 rfl rfl rfl rfl 0 rfl rfl rfl dX5_coverByLetters_2 ?_
  refine z_aload_n hF dX5_coverByLetters_5 rfl ?_
  refine z_iload_n hF dX5_coverByLetters_6 rfl ?_
  refine z_V (As := [.int a]) (rest := []) (ws' := [(w0, .inr (5, [.int (nI 0), .int (nI n), .ref w1, .int (nI v), .int (nI m), .ref w2, .ref w3, .ref w4, .ref w5, .ref w6, .ref w7, .ref w8, .ref w9, .ref w10, .ref w11, .int (nI j), .ref w12, .ref w13, .ref w14, .ref w15, .ref w16])), (w2, eI G 12 b), (w3, eI G 12 e)]) (st2 := [.int (zb (plC n a = 0))]) (c2 := 0) (s2 := 0) hF (c_X5_isPlace G w0 w1 w2 w3 w4 w5 w6 w7 w8 w9 w10 w11 w12 w13 w14 w15 w16 n v m j (nI 0) a) gX5_coverByLetters_X5_isPlace rfl rfl rfl hd_X5_isPlace ⟨⟨Nat.le_of_ble_eq_true rfl, Nat.le_of_ble_eq_true rfl⟩, ⟨Nat.le_of_ble_eq_true rfl, Nat.le_of_ble_eq_true rfl⟩, Nat.le_of_ble_eq_true rfl⟩ [0] rfl rfl 0 rfl rfl rfl rfl rfl rfl rfl rfl rfl rfl dX5_coverByLetters_7 ?_
  refine z_if_eq_b (tgt := 21) hF dX5_coverByLetters_10 (by decide) (fun c_1 => ?_) (fun c_1 => ?_)
  · exact absurd hc (by (try simp only [fz]); grind)
  · refine z_aload_n hF dX5_coverByLetters_13 rfl ?_
    refine z_iload_n hF dX5_coverByLetters_14 rfl ?_
    refine z_V (As := [.int a]) (rest := []) (ws' := [(w0, .inr (5, [.int (nI 0), .int (nI n), .ref w1, .int (nI v), .int (nI m), .ref w2, .ref w3, .ref w4, .ref w5, .ref w6, .ref w7, .ref w8, .ref w9, .ref w10, .ref w11, .int (nI j), .ref w12, .ref w13, .ref w14, .ref w15, .ref w16])), (w2, eI G 12 b), (w3, eI G 12 e)]) (st2 := [.int (if a < nI n then covF b e m a else 0)]) (c2 := 0) (s2 := 0) hF (c_X5_coverOf G w0 w1 w2 w3 w4 w5 w6 w7 w8 w9 w10 w11 w12 w13 w14 w15 w16 n v m j (nI 0) b e a (by first | assumption | omega) (by first | assumption | omega)) gX5_coverByLetters_X5_coverOf rfl rfl rfl hd_X5_coverOf ⟨⟨Nat.le_of_ble_eq_true rfl, Nat.le_of_ble_eq_true rfl⟩, ⟨Nat.le_of_ble_eq_true rfl, Nat.le_of_ble_eq_true rfl⟩, Nat.le_of_ble_eq_true rfl⟩ [0, 1, 2] rfl rfl 0 rfl rfl rfl rfl rfl rfl rfl rfl rfl rfl dX5_coverByLetters_15 ?_
    refine z_goto (tgt := 26) hF dX5_coverByLetters_18 (by decide) ?_
    exact hR.i dX5_coverByLetters_26 (Nat.le_of_ble_eq_true rfl) (Nat.le_of_ble_eq_true rfl) (rfl) (rfl)
set_option maxHeartbeats 4000000 in
set_option maxRecDepth 100000 in
theorem c_X5_pieceOf (G : zG) (w0 w1 w2 w3 w4 w5 w6 w7 w8 w9 w10 w11 w12 w13 w14 w15 w16 n v m j : Nat) (th : Int32) (b : Nat → Int32) (e : Nat → Int32) (x : Int32) (hn : n ≤ 60) (hm : m ≤ 12) (hg : ∀ i, i < m → b i = -1 → e i = -1) : zM G yX5_pieceOf wsX5_pieceOf ({ frames := 1, cells := 0, slots := 0, locals := 35 }) [.ref w0, .int x] [(w0, .inr (5, [.int th, .int (nI n), .ref w1, .int (nI v), .int (nI m), .ref w2, .ref w3, .ref w4, .ref w5, .ref w6, .ref w7, .ref w8, .ref w9, .ref w10, .ref w11, .int (nI j), .ref w12, .ref w13, .ref w14, .ref w15, .ref w16])), (w2, eI G 12 b), (w3, eI G 12 e)] [(w0, .inr (5, [.int th, .int (nI n), .ref w1, .int (nI v), .int (nI m), .ref w2, .ref w3, .ref w4, .ref w5, .ref w6, .ref w7, .ref w8, .ref w9, .ref w10, .ref w11, .int (nI j), .ref w12, .ref w13, .ref w14, .ref w15, .ref w16])), (w2, eI G 12 b), (w3, eI G 12 e)] (some (.int (if x = -1 then nI (cntF (pcP b e m) n) else lstF (pcP b e m) x n))) 0 0 := by
  refine zM.ofI (own := RX5) (cc := cX5_pieceOf) (maxL := 6) rfl (by decide) rfl rfl (by simp [Value.category]) (Nat.le_of_ble_eq_true rfl) ?_
  intro X hF hR
  have k_0 : ∀ w ∈ wsX50, w ∈ wsX5_pieceOf := by decide +kernel
  have k_1 : zH X (.fieldLink RX5 66 "MarginDeskModel" "length" "I") := hF.w (by decide +kernel)
  refine z_lv (lv' := [some (.ref w0), some (.int x), none, none, none, none]) rfl ?_
  refine z_iconst (v := nI 0) hF dX5_pieceOf_0 (by decide) ?_
  refine z_istore_n (lv' := [some (.ref w0), some (.int x), some (.int (nI 0)), none, none, none]) hF dX5_pieceOf_1 rfl rfl ?_
  refine z_iconst (v := -1) hF dX5_pieceOf_2 (by decide) ?_
  refine z_istore_n (lv' := [some (.ref w0), some (.int x), some (.int (nI 0)), some (.int (-1)), none, none]) hF dX5_pieceOf_3 rfl rfl ?_
  refine z_iconst (v := nI 0) hF dX5_pieceOf_4 (by decide) ?_
  refine z_istore (lv' := [some (.ref w0), some (.int x), some (.int (nI 0)), some (.int (-1)), some (.int (nI 0)), none]) hF dX5_pieceOf_5 rfl rfl ?_
  refine z_lv (lv' := [some (.ref w0), some (.int x), some (.int (nI (cntF (pcP b e m) 0))), some (.int (-1)), some (.int (nI 0)), none]) (by rfl) ?_
  refine z_lv (lv' := [some (.ref w0), some (.int x), some (.int (nI (cntF (pcP b e m) 0))), some (.int (lstF (pcP b e m) x 0)), some (.int (nI 0)), none]) (by rfl) ?_
  have J_7 : ∀ (n9 : Nat) (i : Nat), n - i < n9 → (i ≤ n) → zJ G X 7 [(w0, .inr (5, [.int th, .int (nI n), .ref w1, .int (nI v), .int (nI m), .ref w2, .ref w3, .ref w4, .ref w5, .ref w6, .ref w7, .ref w8, .ref w9, .ref w10, .ref w11, .int (nI j), .ref w12, .ref w13, .ref w14, .ref w15, .ref w16])), (w2, eI G 12 b), (w3, eI G 12 e)] [some (.ref w0), some (.int x), some (.int (nI (cntF (pcP b e m) i))), some (.int (lstF (pcP b e m) x i)), some (.int (nI i)), none] [] 0 0 := by
    intro n9
    induction n9 with
    | zero => intro i hmu; exact absurd hmu (Nat.not_lt_zero _)
    | succ n9 ih =>
      intro i hmu h2
      refine z_iload hF dX5_pieceOf_7 rfl ?_
      refine z_aload_n hF dX5_pieceOf_9 rfl ?_
      refine z_get (C := RX5) (T := TX5) (N := 21) (ci := 5) (v := .int (nI n)) hF k_0 1 (by decide) rfl k_1 rfl 0 rfl rfl dX5_pieceOf_10 ?_
      refine z_icn_ge (tgt := 81) hF (by omega) (by omega) dX5_pieceOf_13 (by decide) (fun c_1 => ?_) (fun c_1 => ?_)
      · have h9 : i = n := by omega
        subst h9
        refine z_iload_n hF dX5_pieceOf_81 rfl ?_
        refine z_iconst (v := -1) hF dX5_pieceOf_82 (by decide) ?_
        refine z_ic_ne (tgt := 90) hF dX5_pieceOf_83 (by decide) (fun c_2 => ?_) (fun c_2 => ?_)
        · refine z_iload_n hF dX5_pieceOf_90 rfl ?_
          exact hR.i dX5_pieceOf_91 (Nat.le_of_ble_eq_true rfl) (Nat.le_of_ble_eq_true rfl) (rfl) (by grind)
        · refine z_iload_n hF dX5_pieceOf_86 rfl ?_
          refine z_goto (tgt := 91) hF dX5_pieceOf_87 (by decide) ?_
          exact hR.i dX5_pieceOf_91 (Nat.le_of_ble_eq_true rfl) (Nat.le_of_ble_eq_true rfl) (rfl) (by grind)
      · have J_43 : zJ G X 43 [(w0, .inr (5, [.int th, .int (nI n), .ref w1, .int (nI v), .int (nI m), .ref w2, .ref w3, .ref w4, .ref w5, .ref w6, .ref w7, .ref w8, .ref w9, .ref w10, .ref w11, .int (nI j), .ref w12, .ref w13, .ref w14, .ref w15, .ref w16])), (w2, eI G 12 b), (w3, eI G 12 e)] [some (.ref w0), some (.int x), some (.int (nI (cntF (pcP b e m) i))), some (.int (lstF (pcP b e m) x i)), some (.int (nI i)), none] [.int (zb (pcP b e m i))] 0 0 := by
          refine z_istore (lv' := [some (.ref w0), some (.int x), some (.int (nI (cntF (pcP b e m) i))), some (.int (lstF (pcP b e m) x i)), some (.int (nI i)), some (.int (zb (pcP b e m i)))]) hF dX5_pieceOf_43 rfl rfl ?_
          refine z_iload hF dX5_pieceOf_45 rfl ?_
          refine z_if_eq_b (tgt := 60) hF dX5_pieceOf_47 (by decide) (fun c_3 => ?_) (fun c_3 => ?_)
          · refine z_iload_n hF dX5_pieceOf_60 rfl ?_
            refine z_top (y := lstF (pcP b e m) x (i + 1)) (lstF_f (fun h9 => by first | exact absurd h9.1 (by assumption) | exact absurd h9.2 (by assumption))) ?_
            refine z_istore_n (lv' := [some (.ref w0), some (.int x), some (.int (nI (cntF (pcP b e m) i))), some (.int (lstF (pcP b e m) x (i + 1))), some (.int (nI i)), some (.int (zb (pcP b e m i)))]) hF dX5_pieceOf_61 rfl rfl ?_
            refine z_iload_n hF dX5_pieceOf_62 rfl ?_
            refine z_iload hF dX5_pieceOf_63 rfl ?_
            refine z_if_eq_b (tgt := 72) hF dX5_pieceOf_65 (by decide) (fun c_4 => ?_) (fun c_4 => ?_)
            · refine z_iconst (v := nI 0) hF dX5_pieceOf_72 (by decide) ?_
              refine z_iadd hF dX5_pieceOf_73 ?_
              refine z_top (nI_add (cntF (pcP b e m) i) 0) ?_
              refine z_top (y := nI (cntF (pcP b e m) (i + 1))) (by rw [Nat.add_zero, cntF_f (k := i) (by assumption)]) ?_
              refine z_istore_n (lv' := [some (.ref w0), some (.int x), some (.int (nI (cntF (pcP b e m) (i + 1)))), some (.int (lstF (pcP b e m) x (i + 1))), some (.int (nI i)), some (.int (zb (pcP b e m i)))]) hF dX5_pieceOf_74 rfl rfl ?_
              refine z_iinc (v := nI (i + 1)) (lv' := [some (.ref w0), some (.int x), some (.int (nI (cntF (pcP b e m) (i + 1)))), some (.int (lstF (pcP b e m) x (i + 1))), some (.int (nI (i + 1))), some (.int (zb (pcP b e m i)))]) hF dX5_pieceOf_75 rfl (nI_1 i) rfl rfl ?_
              refine z_goto (tgt := 7) hF dX5_pieceOf_78 (by decide) ?_
              refine z_forget (lv' := [some (.ref w0), some (.int x), some (.int (nI (cntF (pcP b e m) (i + 1)))), some (.int (lstF (pcP b e m) x (i + 1))), some (.int (nI (i + 1))), none]) ⟨rfl, ⟨rfl, ⟨rfl, ⟨rfl, ⟨rfl, trivial⟩⟩⟩⟩⟩ ?_
              exact ih (i + 1) (by omega) (by omega)
            · refine z_iconst (v := nI 1) hF dX5_pieceOf_68 (by decide) ?_
              refine z_goto (tgt := 73) hF dX5_pieceOf_69 (by decide) ?_
              refine z_iadd hF dX5_pieceOf_73 ?_
              refine z_top (nI_add (cntF (pcP b e m) i) 1) ?_
              refine z_top (y := nI (cntF (pcP b e m) (i + 1))) (by rw [cntF_t (k := i) (by assumption)]) ?_
              refine z_istore_n (lv' := [some (.ref w0), some (.int x), some (.int (nI (cntF (pcP b e m) (i + 1)))), some (.int (lstF (pcP b e m) x (i + 1))), some (.int (nI i)), some (.int (zb (pcP b e m i)))]) hF dX5_pieceOf_74 rfl rfl ?_
              refine z_iinc (v := nI (i + 1)) (lv' := [some (.ref w0), some (.int x), some (.int (nI (cntF (pcP b e m) (i + 1)))), some (.int (lstF (pcP b e m) x (i + 1))), some (.int (nI (i + 1))), some (.int (zb (pcP b e m i)))]) hF dX5_pieceOf_75 rfl (nI_1 i) rfl rfl ?_
              refine z_goto (tgt := 7) hF dX5_pieceOf_78 (by decide) ?_
              refine z_forget (lv' := [some (.ref w0), some (.int x), some (.int (nI (cntF (pcP b e m) (i + 1)))), some (.int (lstF (pcP b e m) x (i + 1))), some (.int (nI (i + 1))), none]) ⟨rfl, ⟨rfl, ⟨rfl, ⟨rfl, ⟨rfl, trivial⟩⟩⟩⟩⟩ ?_
              exact ih (i + 1) (by omega) (by omega)
          · refine z_iload_n hF dX5_pieceOf_50 rfl ?_
            refine z_iload_n hF dX5_pieceOf_51 rfl ?_
            refine z_ic_ne (tgt := 60) hF dX5_pieceOf_52 (by decide) (fun c_5 => ?_) (fun c_5 => ?_)
            · refine z_iload_n hF dX5_pieceOf_60 rfl ?_
              refine z_top (y := lstF (pcP b e m) x (i + 1)) (lstF_f (fun h9 => by first | exact absurd h9.1 (by assumption) | exact absurd h9.2 (by assumption))) ?_
              refine z_istore_n (lv' := [some (.ref w0), some (.int x), some (.int (nI (cntF (pcP b e m) i))), some (.int (lstF (pcP b e m) x (i + 1))), some (.int (nI i)), some (.int (zb (pcP b e m i)))]) hF dX5_pieceOf_61 rfl rfl ?_
              refine z_iload_n hF dX5_pieceOf_62 rfl ?_
              refine z_iload hF dX5_pieceOf_63 rfl ?_
              refine z_if_eq_b (tgt := 72) hF dX5_pieceOf_65 (by decide) (fun c_6 => ?_) (fun c_6 => ?_)
              · refine z_iconst (v := nI 0) hF dX5_pieceOf_72 (by decide) ?_
                refine z_iadd hF dX5_pieceOf_73 ?_
                refine z_top (nI_add (cntF (pcP b e m) i) 0) ?_
                refine z_top (y := nI (cntF (pcP b e m) (i + 1))) (by rw [Nat.add_zero, cntF_f (k := i) (by assumption)]) ?_
                refine z_istore_n (lv' := [some (.ref w0), some (.int x), some (.int (nI (cntF (pcP b e m) (i + 1)))), some (.int (lstF (pcP b e m) x (i + 1))), some (.int (nI i)), some (.int (zb (pcP b e m i)))]) hF dX5_pieceOf_74 rfl rfl ?_
                refine z_iinc (v := nI (i + 1)) (lv' := [some (.ref w0), some (.int x), some (.int (nI (cntF (pcP b e m) (i + 1)))), some (.int (lstF (pcP b e m) x (i + 1))), some (.int (nI (i + 1))), some (.int (zb (pcP b e m i)))]) hF dX5_pieceOf_75 rfl (nI_1 i) rfl rfl ?_
                refine z_goto (tgt := 7) hF dX5_pieceOf_78 (by decide) ?_
                refine z_forget (lv' := [some (.ref w0), some (.int x), some (.int (nI (cntF (pcP b e m) (i + 1)))), some (.int (lstF (pcP b e m) x (i + 1))), some (.int (nI (i + 1))), none]) ⟨rfl, ⟨rfl, ⟨rfl, ⟨rfl, ⟨rfl, trivial⟩⟩⟩⟩⟩ ?_
                exact ih (i + 1) (by omega) (by omega)
              · refine z_iconst (v := nI 1) hF dX5_pieceOf_68 (by decide) ?_
                refine z_goto (tgt := 73) hF dX5_pieceOf_69 (by decide) ?_
                refine z_iadd hF dX5_pieceOf_73 ?_
                refine z_top (nI_add (cntF (pcP b e m) i) 1) ?_
                refine z_top (y := nI (cntF (pcP b e m) (i + 1))) (by rw [cntF_t (k := i) (by assumption)]) ?_
                refine z_istore_n (lv' := [some (.ref w0), some (.int x), some (.int (nI (cntF (pcP b e m) (i + 1)))), some (.int (lstF (pcP b e m) x (i + 1))), some (.int (nI i)), some (.int (zb (pcP b e m i)))]) hF dX5_pieceOf_74 rfl rfl ?_
                refine z_iinc (v := nI (i + 1)) (lv' := [some (.ref w0), some (.int x), some (.int (nI (cntF (pcP b e m) (i + 1)))), some (.int (lstF (pcP b e m) x (i + 1))), some (.int (nI (i + 1))), some (.int (zb (pcP b e m i)))]) hF dX5_pieceOf_75 rfl (nI_1 i) rfl rfl ?_
                refine z_goto (tgt := 7) hF dX5_pieceOf_78 (by decide) ?_
                refine z_forget (lv' := [some (.ref w0), some (.int x), some (.int (nI (cntF (pcP b e m) (i + 1)))), some (.int (lstF (pcP b e m) x (i + 1))), some (.int (nI (i + 1))), none]) ⟨rfl, ⟨rfl, ⟨rfl, ⟨rfl, ⟨rfl, trivial⟩⟩⟩⟩⟩ ?_
                exact ih (i + 1) (by omega) (by omega)
            · refine z_iload hF dX5_pieceOf_55 rfl ?_
              refine z_goto (tgt := 61) hF dX5_pieceOf_57 (by decide) ?_
              refine z_top (y := lstF (pcP b e m) x (i + 1)) (lstF_t ⟨by assumption, by assumption⟩) ?_
              refine z_istore_n (lv' := [some (.ref w0), some (.int x), some (.int (nI (cntF (pcP b e m) i))), some (.int (lstF (pcP b e m) x (i + 1))), some (.int (nI i)), some (.int (zb (pcP b e m i)))]) hF dX5_pieceOf_61 rfl rfl ?_
              refine z_iload_n hF dX5_pieceOf_62 rfl ?_
              refine z_iload hF dX5_pieceOf_63 rfl ?_
              refine z_if_eq_b (tgt := 72) hF dX5_pieceOf_65 (by decide) (fun c_7 => ?_) (fun c_7 => ?_)
              · refine z_iconst (v := nI 0) hF dX5_pieceOf_72 (by decide) ?_
                refine z_iadd hF dX5_pieceOf_73 ?_
                refine z_top (nI_add (cntF (pcP b e m) i) 0) ?_
                refine z_top (y := nI (cntF (pcP b e m) (i + 1))) (by rw [Nat.add_zero, cntF_f (k := i) (by assumption)]) ?_
                refine z_istore_n (lv' := [some (.ref w0), some (.int x), some (.int (nI (cntF (pcP b e m) (i + 1)))), some (.int (lstF (pcP b e m) x (i + 1))), some (.int (nI i)), some (.int (zb (pcP b e m i)))]) hF dX5_pieceOf_74 rfl rfl ?_
                refine z_iinc (v := nI (i + 1)) (lv' := [some (.ref w0), some (.int x), some (.int (nI (cntF (pcP b e m) (i + 1)))), some (.int (lstF (pcP b e m) x (i + 1))), some (.int (nI (i + 1))), some (.int (zb (pcP b e m i)))]) hF dX5_pieceOf_75 rfl (nI_1 i) rfl rfl ?_
                refine z_goto (tgt := 7) hF dX5_pieceOf_78 (by decide) ?_
                refine z_forget (lv' := [some (.ref w0), some (.int x), some (.int (nI (cntF (pcP b e m) (i + 1)))), some (.int (lstF (pcP b e m) x (i + 1))), some (.int (nI (i + 1))), none]) ⟨rfl, ⟨rfl, ⟨rfl, ⟨rfl, ⟨rfl, trivial⟩⟩⟩⟩⟩ ?_
                exact ih (i + 1) (by omega) (by omega)
              · refine z_iconst (v := nI 1) hF dX5_pieceOf_68 (by decide) ?_
                refine z_goto (tgt := 73) hF dX5_pieceOf_69 (by decide) ?_
                refine z_iadd hF dX5_pieceOf_73 ?_
                refine z_top (nI_add (cntF (pcP b e m) i) 1) ?_
                refine z_top (y := nI (cntF (pcP b e m) (i + 1))) (by rw [cntF_t (k := i) (by assumption)]) ?_
                refine z_istore_n (lv' := [some (.ref w0), some (.int x), some (.int (nI (cntF (pcP b e m) (i + 1)))), some (.int (lstF (pcP b e m) x (i + 1))), some (.int (nI i)), some (.int (zb (pcP b e m i)))]) hF dX5_pieceOf_74 rfl rfl ?_
                refine z_iinc (v := nI (i + 1)) (lv' := [some (.ref w0), some (.int x), some (.int (nI (cntF (pcP b e m) (i + 1)))), some (.int (lstF (pcP b e m) x (i + 1))), some (.int (nI (i + 1))), some (.int (zb (pcP b e m i)))]) hF dX5_pieceOf_75 rfl (nI_1 i) rfl rfl ?_
                refine z_goto (tgt := 7) hF dX5_pieceOf_78 (by decide) ?_
                refine z_forget (lv' := [some (.ref w0), some (.int x), some (.int (nI (cntF (pcP b e m) (i + 1)))), some (.int (lstF (pcP b e m) x (i + 1))), some (.int (nI (i + 1))), none]) ⟨rfl, ⟨rfl, ⟨rfl, ⟨rfl, ⟨rfl, trivial⟩⟩⟩⟩⟩ ?_
                exact ih (i + 1) (by omega) (by omega)
        refine z_iload hF dX5_pieceOf_16 rfl ?_
        refine z_ifn_eq (tgt := 38) hF (by omega) dX5_pieceOf_18 (by decide) (fun h0 => ?_) (fun h0 => ?_)
        · refine z_iconst (v := nI 1) hF dX5_pieceOf_38 (by decide) ?_
          refine z_goto (tgt := 43) hF dX5_pieceOf_39 (by decide) ?_
          refine z_top (y := zb (pcP b e m i)) (zb1 (by simp [pcP, h0])) ?_
          exact J_43  
        · refine z_aload_n hF dX5_pieceOf_21 rfl ?_
          refine z_iload hF dX5_pieceOf_22 rfl ?_
          refine z_V (As := [.int (nI i)]) (rest := []) (ws' := [(w0, .inr (5, [.int th, .int (nI n), .ref w1, .int (nI v), .int (nI m), .ref w2, .ref w3, .ref w4, .ref w5, .ref w6, .ref w7, .ref w8, .ref w9, .ref w10, .ref w11, .int (nI j), .ref w12, .ref w13, .ref w14, .ref w15, .ref w16])), (w2, eI G 12 b), (w3, eI G 12 e)]) (st2 := [.int (if (nI i) < nI n then covF b e m (nI i) else 0)]) (c2 := 0) (s2 := 0) hF (c_X5_coverOf G w0 w1 w2 w3 w4 w5 w6 w7 w8 w9 w10 w11 w12 w13 w14 w15 w16 n v m j th b e (nI i) (by first | assumption | omega) (by first | assumption | omega)) gX5_pieceOf_X5_coverOf rfl rfl rfl hd_X5_coverOf ⟨⟨Nat.le_of_ble_eq_true rfl, Nat.le_of_ble_eq_true rfl⟩, ⟨Nat.le_of_ble_eq_true rfl, Nat.le_of_ble_eq_true rfl⟩, Nat.le_of_ble_eq_true rfl⟩ [0, 1, 2] rfl rfl 0 rfl rfl rfl rfl rfl rfl rfl rfl rfl rfl dX5_pieceOf_24 ?_
          refine z_top (y := covF b e m (nI i)) (if_pos ((nI_ltI (by omega) (by omega)).mpr (by omega))) ?_
          refine z_aload_n hF dX5_pieceOf_27 rfl ?_
          refine z_iload hF dX5_pieceOf_28 rfl ?_
          refine z_iconst (v := nI 1) hF dX5_pieceOf_30 (by decide) ?_
          refine z_isub hF dX5_pieceOf_31 ?_
          refine z_top (pk_sub (by omega)) ?_
          refine z_V (As := [.int (nI (i - 1))]) (rest := [.int (covF b e m (nI i))]) (ws' := [(w0, .inr (5, [.int th, .int (nI n), .ref w1, .int (nI v), .int (nI m), .ref w2, .ref w3, .ref w4, .ref w5, .ref w6, .ref w7, .ref w8, .ref w9, .ref w10, .ref w11, .int (nI j), .ref w12, .ref w13, .ref w14, .ref w15, .ref w16])), (w2, eI G 12 b), (w3, eI G 12 e)]) (st2 := [.int (if (nI (i - 1)) < nI n then covF b e m (nI (i - 1)) else 0), .int (covF b e m (nI i))]) (c2 := 0) (s2 := 0) hF (c_X5_coverOf G w0 w1 w2 w3 w4 w5 w6 w7 w8 w9 w10 w11 w12 w13 w14 w15 w16 n v m j th b e (nI (i - 1)) (by first | assumption | omega) (by first | assumption | omega)) gX5_pieceOf_X5_coverOf rfl rfl rfl hd_X5_coverOf ⟨⟨Nat.le_of_ble_eq_true rfl, Nat.le_of_ble_eq_true rfl⟩, ⟨Nat.le_of_ble_eq_true rfl, Nat.le_of_ble_eq_true rfl⟩, Nat.le_of_ble_eq_true rfl⟩ [0, 1, 2] rfl rfl 0 rfl rfl rfl rfl rfl rfl rfl rfl rfl rfl dX5_pieceOf_32 ?_
          refine z_top (y := covF b e m (nI (i - 1))) (if_pos ((nI_ltI (by omega) (by omega)).mpr (by omega))) ?_
          refine z_ic_eq (tgt := 42) hF dX5_pieceOf_35 (by decide) (fun hq => ?_) (fun hq => ?_)
          · refine z_iconst (v := nI 0) hF dX5_pieceOf_42 (by decide) ?_
            refine z_top (y := zb (pcP b e m i)) (zb0 (by simp [pcP, h0, hq])) ?_
            exact J_43  
          · refine z_iconst (v := nI 1) hF dX5_pieceOf_38 (by decide) ?_
            refine z_goto (tgt := 43) hF dX5_pieceOf_39 (by decide) ?_
            refine z_top (y := zb (pcP b e m i)) (zb1 (by simp [pcP, h0, hq])) ?_
            exact J_43  
  exact J_7 ((n - 0) + 1) 0 (Nat.lt_succ_self _) (by omega)
set_option maxHeartbeats 4000000 in
set_option maxRecDepth 100000 in
theorem c_X5_pieces (G : zG) (w0 w1 w2 w3 w4 w5 w6 w7 w8 w9 w10 w11 w12 w13 w14 w15 w16 n v m j : Nat) (th : Int32) (b : Nat → Int32) (e : Nat → Int32) (hn : n ≤ 60) (hm : m ≤ 12) (hg : ∀ i, i < m → b i = -1 → e i = -1) : zM G yX5_pieces wsX5_pieces ({ frames := 2, cells := 0, slots := 0, locals := 60 }) [.ref w0] [(w0, .inr (5, [.int th, .int (nI n), .ref w1, .int (nI v), .int (nI m), .ref w2, .ref w3, .ref w4, .ref w5, .ref w6, .ref w7, .ref w8, .ref w9, .ref w10, .ref w11, .int (nI j), .ref w12, .ref w13, .ref w14, .ref w15, .ref w16])), (w2, eI G 12 b), (w3, eI G 12 e)] [(w0, .inr (5, [.int (nI 0), .int (nI n), .ref w1, .int (nI v), .int (nI m), .ref w2, .ref w3, .ref w4, .ref w5, .ref w6, .ref w7, .ref w8, .ref w9, .ref w10, .ref w11, .int (nI j), .ref w12, .ref w13, .ref w14, .ref w15, .ref w16])), (w2, eI G 12 b), (w3, eI G 12 e)] (some (.int (nI (cntF (pcP b e m) n)))) 0 0 := by
  refine zM.ofI (own := RX5) (cc := cX5_pieces) (maxL := 1) rfl (by decide) rfl rfl (by simp [Value.category]) (Nat.le_of_ble_eq_true rfl) ?_
  intro X hF hR
  have k_0 : ∀ w ∈ wsX50, w ∈ wsX5_pieces := by decide +kernel
  have k_1 : zH X (.fieldLink RX5 62 "MarginDeskModel" "thrown" "I") := hF.w (by decide +kernel)
  refine z_lv (lv' := [some (.ref w0)]) rfl ?_
  refine z_aload_n hF dX5_pieces_0 rfl ?_
  refine z_iconst (v := nI 0) hF dX5_pieces_1 (by decide) ?_
  refine z_put (C := RX5) (T := TX5) (N := 21) (ci := 5) (ws' := [(w0, .inr (5, [.int (nI 0), .int (nI n), .ref w1, .int (nI v), .int (nI m), .ref w2, .ref w3, .ref w4, .ref w5, .ref w6, .ref w7, .ref w8, .ref w9, .ref w10, .ref w11, .int (nI j), .ref w12, .ref w13, .ref w14, .ref w15, .ref w16])), (w2, eI G 12 b), (w3, eI G 12 e)]) hF k_0 tyX5 tyX5_ok nmX5 0 (by decide) rfl k_1 rfl rfl rfl rfl 0 rfl rfl rfl dX5_pieces_2 ?_
  refine z_aload_n hF dX5_pieces_5 rfl ?_
  refine z_iconst (v := -1) hF dX5_pieces_6 (by decide) ?_
  refine z_V (As := [.int (-1)]) (rest := []) (ws' := [(w0, .inr (5, [.int (nI 0), .int (nI n), .ref w1, .int (nI v), .int (nI m), .ref w2, .ref w3, .ref w4, .ref w5, .ref w6, .ref w7, .ref w8, .ref w9, .ref w10, .ref w11, .int (nI j), .ref w12, .ref w13, .ref w14, .ref w15, .ref w16])), (w2, eI G 12 b), (w3, eI G 12 e)]) (st2 := [.int (if (-1) = -1 then nI (cntF (pcP b e m) n) else lstF (pcP b e m) (-1) n)]) (c2 := 0) (s2 := 0) hF (c_X5_pieceOf G w0 w1 w2 w3 w4 w5 w6 w7 w8 w9 w10 w11 w12 w13 w14 w15 w16 n v m j (nI 0) b e (-1) (by first | assumption | omega) (by first | assumption | omega) (by first | assumption | omega)) gX5_pieces_X5_pieceOf rfl rfl rfl hd_X5_pieceOf ⟨⟨Nat.le_of_ble_eq_true rfl, Nat.le_of_ble_eq_true rfl⟩, ⟨Nat.le_of_ble_eq_true rfl, Nat.le_of_ble_eq_true rfl⟩, Nat.le_of_ble_eq_true rfl⟩ [0, 1, 2] rfl rfl 0 rfl rfl rfl rfl rfl rfl rfl rfl rfl rfl dX5_pieces_7 ?_
  exact hR.i dX5_pieces_10 (Nat.le_of_ble_eq_true rfl) (Nat.le_of_ble_eq_true rfl) (rfl) (by rw [if_pos rfl])
