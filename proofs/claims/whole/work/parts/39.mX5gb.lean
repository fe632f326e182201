set_option maxHeartbeats 4000000 in
set_option maxRecDepth 100000 in
theorem c_X5_find_k0 (G : zG) (w0 w1 w2 w3 w4 w5 w6 w7 w8 w9 w10 w11 w12 w13 w14 w15 w16 n v m j : Nat) (th : Int32) (f : Nat → Int32) (b : Nat → Int32) (e : Nat → Int32) (ql : Nat → Int32) (qs : Nat → Int32) (qa : Nat → Int32) (qb : Nat → Int32) (tn : Nat → Int32) (a : Int32) (z : Nat) (hn : n ≤ 60) (hm : m ≤ 12) (hv : v ≤ 300) (hz : cmC m a = 0 → qs a.toNatClampNeg = nI z) (hz2 : z ≤ 60) (h0 : bsM (fiM n z a.toNatClampNeg ql qa qb f) n = -1) (hc : (fz (cmC m a) (if b a.toNatClampNeg = -1 then 0 else 3)) = 0) : zM G yX5_find wsX5_find ({ frames := 3, cells := 0, slots := 0, locals := 79 }) [.ref w0, .int a] [(w0, .inr (5, [.int th, .int (nI n), .ref w1, .int (nI v), .int (nI m), .ref w2, .ref w3, .ref w4, .ref w5, .ref w6, .ref w7, .ref w8, .ref w9, .ref w10, .ref w11, .int (nI j), .ref w12, .ref w13, .ref w14, .ref w15, .ref w16])), (w1, eI G 60 f), (w2, eI G 12 b), (w3, eI G 12 e), (w7, eI G 720 ql), (w8, eI G 12 qs), (w9, eI G 12 qa), (w10, eI G 12 qb), (w11, eI G 3612 tn)] [(w0, .inr (5, [.int (nI 0), .int (nI n), .ref w1, .int (nI v), .int (nI m), .ref w2, .ref w3, .ref w4, .ref w5, .ref w6, .ref w7, .ref w8, .ref w9, .ref w10, .ref w11, .int (nI j), .ref w12, .ref w13, .ref w14, .ref w15, .ref w16])), (w1, eI G 60 f), (w2, eI G 12 b), (w3, eI G 12 e), (w7, eI G 720 ql), (w8, eI G 12 qs), (w9, eI G 12 qa), (w10, eI G 12 qb), (w11, eI G 3612 tn)] (some (.int (bsM (fiM n z a.toNatClampNeg ql qa qb f) n))) 0 0 := by
  refine zM.ofI (own := RX5) (cc := cX5_find) (maxL := 5) rfl (by decide) rfl rfl (by simp [Value.category]) (Nat.le_of_ble_eq_true rfl) ?_
  intro X hF hR
  have k_0 : ∀ w ∈ wsX50, w ∈ wsX5_find := by decide +kernel
  have k_1 : zH X (.fieldLink RX5 62 "MarginDeskModel" "thrown" "I") := hF.w (by decide +kernel)
  have k_2 : zH X (.fieldLink RX5 13 "MarginDeskModel" "from" "[I") := hF.w (by decide +kernel)
  have k_3 : zH X (.fieldLink RX5 66 "MarginDeskModel" "length" "I") := hF.w (by decide +kernel)
  refine z_lv (lv' := [some (.ref w0), some (.int a), none, none, none]) rfl ?_
  have d_0 := cmC_d m a
  refine z_aload_n hF dX5_find_0 rfl ?_
  refine z_iconst (v := nI 0) hF dX5_find_1 (by decide) ?_
  refine z_put (C := RX5) (T := TX5) (N := 21) (ci := 5) (ws' := [(w0, .inr (5, [.int (nI 0), .int (nI n), .ref w1, .int (nI v), .int (nI m), .ref w2, .ref w3, .ref w4, .ref w5, .ref w6, .ref w7, .ref w8, .ref w9, .ref w10, .ref w11, .int (nI j), .ref w12, .ref w13, .ref w14, .ref w15, .ref w16])), (w1, eI G 60 f), (w2, eI G 12 b), (w3, eI G 12 e), (w7, eI G 720 ql), (w8, eI G 12 qs), (w9, eI G 12 qa), (w10, eI G 12 qb), (w11, eI G 3612 tn)]) hF k_0 tyX5 tyX5_ok nmX5 0 (by decide) rfl k_1 rfl rfl rfl rfl 0 rfl rfl rfl dX5_find_2 ?_
  refine z_aload_n hF dX5_find_5 rfl ?_
  refine z_iload_n hF dX5_find_6 rfl ?_
  refine z_V (As := [.int a]) (rest := []) (ws' := [(w0, .inr (5, [.int (nI 0), .int (nI n), .ref w1, .int (nI v), .int (nI m), .ref w2, .ref w3, .ref w4, .ref w5, .ref w6, .ref w7, .ref w8, .ref w9, .ref w10, .ref w11, .int (nI j), .ref w12, .ref w13, .ref w14, .ref w15, .ref w16])), (w1, eI G 60 f), (w2, eI G 12 b), (w3, eI G 12 e), (w7, eI G 720 ql), (w8, eI G 12 qs), (w9, eI G 12 qa), (w10, eI G 12 qb), (w11, eI G 3612 tn)]) (st2 := [.int (zb (cmC m a = 0))]) (c2 := 0) (s2 := 0) hF (c_X5_isComment G w0 w1 w2 w3 w4 w5 w6 w7 w8 w9 w10 w11 w12 w13 w14 w15 w16 n v m j (nI 0) a (by first | assumption | omega)) gX5_find_X5_isComment rfl rfl rfl hd_X5_isComment ⟨⟨Nat.le_of_ble_eq_true rfl, Nat.le_of_ble_eq_true rfl⟩, ⟨Nat.le_of_ble_eq_true rfl, Nat.le_of_ble_eq_true rfl⟩, Nat.le_of_ble_eq_true rfl⟩ [0] rfl rfl 0 rfl rfl rfl rfl rfl rfl rfl rfl rfl rfl dX5_find_7 ?_
  refine z_if_ne_b (tgt := 19) hF dX5_find_10 (by decide) (fun h1 => ?_) (fun h1 => ?_)
  · have ha := cmC_0 (by omega) h1
    refine z_lv (lv' := [some (.ref w0), some (.int (nI a.toNatClampNeg)), none, none, none]) (by rw [← ha.1]) ?_
    have hz9 := hz h1
    refine z_aload_n hF dX5_find_19 rfl ?_
    refine z_get (C := RX5) (T := TX5) (N := 21) (ci := 5) (v := .ref w2) hF k_0 5 (by decide) rfl k_2 rfl 0 rfl rfl dX5_find_20 ?_
    refine z_iload_n hF dX5_find_23 rfl ?_
    refine z_iald (k := a.toNatClampNeg) hF 2 rfl (rfl) (by omega) rfl dX5_find_24 ?_
    refine z_iconst (v := -1) hF dX5_find_25 (by decide) ?_
    refine z_ic_eq (tgt := 35) hF dX5_find_26 (by decide) (fun c_1 => ?_) (fun c_1 => ?_)
    · refine z_iconst (v := -1) hF dX5_find_35 (by decide) ?_
      refine z_istore_n (lv' := [some (.ref w0), some (.int (nI a.toNatClampNeg)), some (.int (-1)), none, none]) hF dX5_find_36 rfl rfl ?_
      refine z_iconst (v := nI 0) hF dX5_find_37 (by decide) ?_
      refine z_istore_n (lv' := [some (.ref w0), some (.int (nI a.toNatClampNeg)), some (.int (-1)), some (.int (nI 0)), none]) hF dX5_find_38 rfl rfl ?_
      refine z_lv (lv' := [some (.ref w0), some (.int (nI a.toNatClampNeg)), some (.int (bsM (fiM n z a.toNatClampNeg ql qa qb f) 0)), some (.int (nI 0)), none]) (by rfl) ?_
      have J_39 : ∀ (n9 : Nat) (i : Nat), n - i < n9 → (i ≤ n) → zJ G X 39 [(w0, .inr (5, [.int (nI 0), .int (nI n), .ref w1, .int (nI v), .int (nI m), .ref w2, .ref w3, .ref w4, .ref w5, .ref w6, .ref w7, .ref w8, .ref w9, .ref w10, .ref w11, .int (nI j), .ref w12, .ref w13, .ref w14, .ref w15, .ref w16])), (w1, eI G 60 f), (w2, eI G 12 b), (w3, eI G 12 e), (w7, eI G 720 ql), (w8, eI G 12 qs), (w9, eI G 12 qa), (w10, eI G 12 qb), (w11, eI G 3612 tn)] [some (.ref w0), some (.int (nI a.toNatClampNeg)), some (.int (bsM (fiM n z a.toNatClampNeg ql qa qb f) i)), some (.int (nI i)), none] [] 0 0 := by
        intro n9
        induction n9 with
        | zero => intro i hmu; exact absurd hmu (Nat.not_lt_zero _)
        | succ n9 ih =>
          intro i hmu h2
          refine z_iload_n hF dX5_find_39 rfl ?_
          refine z_aload_n hF dX5_find_40 rfl ?_
          refine z_get (C := RX5) (T := TX5) (N := 21) (ci := 5) (v := .int (nI n)) hF k_0 1 (by decide) rfl k_3 rfl 0 rfl rfl dX5_find_41 ?_
          refine z_icn_ge (tgt := 95) hF (by omega) (by omega) dX5_find_44 (by decide) (fun c_2 => ?_) (fun c_2 => ?_)
          · refine z_lv (lv' := [some (.ref w0), some (.int (nI a.toNatClampNeg)), some (.int (bsM (fiM n z a.toNatClampNeg ql qa qb f) n)), some (.int (nI i)), none]) (by rw [show i = n by omega]) ?_
            refine z_iload_n hF dX5_find_95 rfl ?_
            refine z_iconst (v := -1) hF dX5_find_96 (by decide) ?_
            refine z_ic_eq (tgt := 125) hF dX5_find_97 (by decide) (fun c_3 => ?_) (fun c_3 => absurd c_3 (not_not_intro h0))
            refine z_iload_n hF dX5_find_125 rfl ?_
            exact hR.i dX5_find_126 (Nat.le_of_ble_eq_true rfl) (Nat.le_of_ble_eq_true rfl) (rfl) (rfl)
          · refine z_aload_n hF dX5_find_47 rfl ?_
            refine z_iload_n hF dX5_find_48 rfl ?_
            refine z_iload_n hF dX5_find_49 rfl ?_
            refine z_V (As := [.int (nI a.toNatClampNeg), .int (nI i)]) (rest := []) (ws' := [(w0, .inr (5, [.int (nI 0), .int (nI n), .ref w1, .int (nI v), .int (nI m), .ref w2, .ref w3, .ref w4, .ref w5, .ref w6, .ref w7, .ref w8, .ref w9, .ref w10, .ref w11, .int (nI j), .ref w12, .ref w13, .ref w14, .ref w15, .ref w16])), (w1, eI G 60 f), (w2, eI G 12 b), (w3, eI G 12 e), (w7, eI G 720 ql), (w8, eI G 12 qs), (w9, eI G 12 qa), (w10, eI G 12 qb), (w11, eI G 3612 tn)]) (st2 := [.int (fiM n z a.toNatClampNeg ql qa qb f i)]) (c2 := 0) (s2 := 0) hF (c_X5_fit G w0 w1 w2 w3 w4 w5 w6 w7 w8 w9 w10 w11 w12 w13 w14 w15 w16 n v m j (nI 0) f ql qs qa qb a.toNatClampNeg i z (by first | assumption | omega) (by first | assumption | omega) (by first | assumption | omega) (hz9) (by first | assumption | omega)) gX5_find_X5_fit rfl rfl rfl hd_X5_fit ⟨⟨Nat.le_of_ble_eq_true rfl, Nat.le_of_ble_eq_true rfl⟩, ⟨Nat.le_of_ble_eq_true rfl, Nat.le_of_ble_eq_true rfl⟩, Nat.le_of_ble_eq_true rfl⟩ [0, 1, 4, 5, 6, 7] rfl rfl 0 rfl rfl rfl rfl rfl rfl rfl rfl rfl rfl dX5_find_50 ?_
            refine z_iload_n hF dX5_find_53 rfl ?_
            refine z_iconst (v := -1) hF dX5_find_54 (by decide) ?_
            refine z_ic_ne (tgt := 62) hF dX5_find_55 (by decide) (fun hb5 => ?_) (fun hb5 => ?_)
            · have hbi := bsM_n (by omega) hb5
              refine z_lv (lv' := [some (.ref w0), some (.int (nI a.toNatClampNeg)), some (.int (nI ((bsM (fiM n z a.toNatClampNeg ql qa qb f) i).toNatClampNeg))), some (.int (nI i)), none]) (by rw [← hbi.1]) ?_
              refine z_aload_n hF dX5_find_62 rfl ?_
              refine z_iload_n hF dX5_find_63 rfl ?_
              refine z_iload_n hF dX5_find_64 rfl ?_
              refine z_V (As := [.int (nI a.toNatClampNeg), .int (nI ((bsM (fiM n z a.toNatClampNeg ql qa qb f) i).toNatClampNeg))]) (rest := [.int (fiM n z a.toNatClampNeg ql qa qb f i)]) (ws' := [(w0, .inr (5, [.int (nI 0), .int (nI n), .ref w1, .int (nI v), .int (nI m), .ref w2, .ref w3, .ref w4, .ref w5, .ref w6, .ref w7, .ref w8, .ref w9, .ref w10, .ref w11, .int (nI j), .ref w12, .ref w13, .ref w14, .ref w15, .ref w16])), (w1, eI G 60 f), (w2, eI G 12 b), (w3, eI G 12 e), (w7, eI G 720 ql), (w8, eI G 12 qs), (w9, eI G 12 qa), (w10, eI G 12 qb), (w11, eI G 3612 tn)]) (st2 := [.int (fiM n z a.toNatClampNeg ql qa qb f ((bsM (fiM n z a.toNatClampNeg ql qa qb f) i).toNatClampNeg)), .int (fiM n z a.toNatClampNeg ql qa qb f i)]) (c2 := 0) (s2 := 0) hF (c_X5_fit G w0 w1 w2 w3 w4 w5 w6 w7 w8 w9 w10 w11 w12 w13 w14 w15 w16 n v m j (nI 0) f ql qs qa qb a.toNatClampNeg ((bsM (fiM n z a.toNatClampNeg ql qa qb f) i).toNatClampNeg) z (by first | assumption | omega) (by first | assumption | omega) (by omega) (hz9) (by first | assumption | omega)) gX5_find_X5_fit rfl rfl rfl hd_X5_fit ⟨⟨Nat.le_of_ble_eq_true rfl, Nat.le_of_ble_eq_true rfl⟩, ⟨Nat.le_of_ble_eq_true rfl, Nat.le_of_ble_eq_true rfl⟩, Nat.le_of_ble_eq_true rfl⟩ [0, 1, 4, 5, 6, 7] rfl rfl 0 rfl rfl rfl rfl rfl rfl rfl rfl rfl rfl dX5_find_65 ?_
              refine z_ic_le (tgt := 75) hF dX5_find_68 (by decide) (fun c_4 => ?_) (fun c_4 => ?_)
              · refine z_iconst (v := nI 0) hF dX5_find_75 (by decide) ?_
                refine z_istore (lv' := [some (.ref w0), some (.int (nI a.toNatClampNeg)), some (.int (nI ((bsM (fiM n z a.toNatClampNeg ql qa qb f) i).toNatClampNeg))), some (.int (nI i)), some (.int (nI 0))]) hF dX5_find_76 rfl rfl ?_
                refine z_iload hF dX5_find_78 rfl ?_
                refine z_if_eq (tgt := 87) hF dX5_find_80 (by decide) (fun c_5 => ?_) (fun c_5 => absurd c_5 (by decide))
                refine z_iload_n hF dX5_find_87 rfl ?_
                refine z_top (y := bsM (fiM n z a.toNatClampNeg ql qa qb f) (i + 1)) (by simp only [bsM]; grind) ?_
                refine z_istore_n (lv' := [some (.ref w0), some (.int (nI a.toNatClampNeg)), some (.int (bsM (fiM n z a.toNatClampNeg ql qa qb f) (i + 1))), some (.int (nI i)), some (.int (nI 0))]) hF dX5_find_88 rfl rfl ?_
                refine z_iinc (v := nI (i + 1)) (lv' := [some (.ref w0), some (.int (nI a.toNatClampNeg)), some (.int (bsM (fiM n z a.toNatClampNeg ql qa qb f) (i + 1))), some (.int (nI (i + 1))), some (.int (nI 0))]) hF dX5_find_89 rfl (nI_1 i) rfl rfl ?_
                refine z_goto (tgt := 39) hF dX5_find_92 (by decide) ?_
                refine z_forget (lv' := [some (.ref w0), some (.int (nI a.toNatClampNeg)), some (.int (bsM (fiM n z a.toNatClampNeg ql qa qb f) (i + 1))), some (.int (nI (i + 1))), none]) ⟨rfl, ⟨rfl, ⟨rfl, ⟨rfl, trivial⟩⟩⟩⟩ ?_
                exact ih (i + 1) (by omega) (by omega)
              · refine z_iconst (v := nI 1) hF dX5_find_71 (by decide) ?_
                refine z_goto (tgt := 76) hF dX5_find_72 (by decide) ?_
                refine z_istore (lv' := [some (.ref w0), some (.int (nI a.toNatClampNeg)), some (.int (nI ((bsM (fiM n z a.toNatClampNeg ql qa qb f) i).toNatClampNeg))), some (.int (nI i)), some (.int (nI 1))]) hF dX5_find_76 rfl rfl ?_
                refine z_iload hF dX5_find_78 rfl ?_
                refine z_if_eq (tgt := 87) hF dX5_find_80 (by decide) (fun c_6 => absurd c_6 (by decide)) (fun c_6 => ?_)
                refine z_iload_n hF dX5_find_83 rfl ?_
                refine z_goto (tgt := 88) hF dX5_find_84 (by decide) ?_
                refine z_top (y := bsM (fiM n z a.toNatClampNeg ql qa qb f) (i + 1)) (by simp only [bsM]; grind) ?_
                refine z_istore_n (lv' := [some (.ref w0), some (.int (nI a.toNatClampNeg)), some (.int (bsM (fiM n z a.toNatClampNeg ql qa qb f) (i + 1))), some (.int (nI i)), some (.int (nI 1))]) hF dX5_find_88 rfl rfl ?_
                refine z_iinc (v := nI (i + 1)) (lv' := [some (.ref w0), some (.int (nI a.toNatClampNeg)), some (.int (bsM (fiM n z a.toNatClampNeg ql qa qb f) (i + 1))), some (.int (nI (i + 1))), some (.int (nI 1))]) hF dX5_find_89 rfl (nI_1 i) rfl rfl ?_
                refine z_goto (tgt := 39) hF dX5_find_92 (by decide) ?_
                refine z_forget (lv' := [some (.ref w0), some (.int (nI a.toNatClampNeg)), some (.int (bsM (fiM n z a.toNatClampNeg ql qa qb f) (i + 1))), some (.int (nI (i + 1))), none]) ⟨rfl, ⟨rfl, ⟨rfl, ⟨rfl, trivial⟩⟩⟩⟩ ?_
                exact ih (i + 1) (by omega) (by omega)
            · refine z_iconst (v := -1) hF dX5_find_58 (by decide) ?_
              refine z_goto (tgt := 68) hF dX5_find_59 (by decide) ?_
              refine z_ic_le (tgt := 75) hF dX5_find_68 (by decide) (fun c_7 => ?_) (fun c_7 => ?_)
              · refine z_iconst (v := nI 0) hF dX5_find_75 (by decide) ?_
                refine z_istore (lv' := [some (.ref w0), some (.int (nI a.toNatClampNeg)), some (.int (bsM (fiM n z a.toNatClampNeg ql qa qb f) i)), some (.int (nI i)), some (.int (nI 0))]) hF dX5_find_76 rfl rfl ?_
                refine z_iload hF dX5_find_78 rfl ?_
                refine z_if_eq (tgt := 87) hF dX5_find_80 (by decide) (fun c_8 => ?_) (fun c_8 => absurd c_8 (by decide))
                refine z_iload_n hF dX5_find_87 rfl ?_
                refine z_top (y := bsM (fiM n z a.toNatClampNeg ql qa qb f) (i + 1)) (by simp only [bsM]; grind) ?_
                refine z_istore_n (lv' := [some (.ref w0), some (.int (nI a.toNatClampNeg)), some (.int (bsM (fiM n z a.toNatClampNeg ql qa qb f) (i + 1))), some (.int (nI i)), some (.int (nI 0))]) hF dX5_find_88 rfl rfl ?_
                refine z_iinc (v := nI (i + 1)) (lv' := [some (.ref w0), some (.int (nI a.toNatClampNeg)), some (.int (bsM (fiM n z a.toNatClampNeg ql qa qb f) (i + 1))), some (.int (nI (i + 1))), some (.int (nI 0))]) hF dX5_find_89 rfl (nI_1 i) rfl rfl ?_
                refine z_goto (tgt := 39) hF dX5_find_92 (by decide) ?_
                refine z_forget (lv' := [some (.ref w0), some (.int (nI a.toNatClampNeg)), some (.int (bsM (fiM n z a.toNatClampNeg ql qa qb f) (i + 1))), some (.int (nI (i + 1))), none]) ⟨rfl, ⟨rfl, ⟨rfl, ⟨rfl, trivial⟩⟩⟩⟩ ?_
                exact ih (i + 1) (by omega) (by omega)
              · refine z_iconst (v := nI 1) hF dX5_find_71 (by decide) ?_
                refine z_goto (tgt := 76) hF dX5_find_72 (by decide) ?_
                refine z_istore (lv' := [some (.ref w0), some (.int (nI a.toNatClampNeg)), some (.int (bsM (fiM n z a.toNatClampNeg ql qa qb f) i)), some (.int (nI i)), some (.int (nI 1))]) hF dX5_find_76 rfl rfl ?_
                refine z_iload hF dX5_find_78 rfl ?_
                refine z_if_eq (tgt := 87) hF dX5_find_80 (by decide) (fun c_9 => absurd c_9 (by decide)) (fun c_9 => ?_)
                refine z_iload_n hF dX5_find_83 rfl ?_
                refine z_goto (tgt := 88) hF dX5_find_84 (by decide) ?_
                refine z_top (y := bsM (fiM n z a.toNatClampNeg ql qa qb f) (i + 1)) (by simp only [bsM]; grind) ?_
                refine z_istore_n (lv' := [some (.ref w0), some (.int (nI a.toNatClampNeg)), some (.int (bsM (fiM n z a.toNatClampNeg ql qa qb f) (i + 1))), some (.int (nI i)), some (.int (nI 1))]) hF dX5_find_88 rfl rfl ?_
                refine z_iinc (v := nI (i + 1)) (lv' := [some (.ref w0), some (.int (nI a.toNatClampNeg)), some (.int (bsM (fiM n z a.toNatClampNeg ql qa qb f) (i + 1))), some (.int (nI (i + 1))), some (.int (nI 1))]) hF dX5_find_89 rfl (nI_1 i) rfl rfl ?_
                refine z_goto (tgt := 39) hF dX5_find_92 (by decide) ?_
                refine z_forget (lv' := [some (.ref w0), some (.int (nI a.toNatClampNeg)), some (.int (bsM (fiM n z a.toNatClampNeg ql qa qb f) (i + 1))), some (.int (nI (i + 1))), none]) ⟨rfl, ⟨rfl, ⟨rfl, ⟨rfl, trivial⟩⟩⟩⟩ ?_
                exact ih (i + 1) (by omega) (by omega)
      exact J_39 ((n - 0) + 1) 0 (Nat.lt_succ_self _) (by omega)
    · exact absurd hc (by (try simp only [fz]); grind)
  · exact absurd hc (by (try simp only [fz]); grind)
set_option maxHeartbeats 4000000 in
set_option maxRecDepth 100000 in
theorem c_X5_find_k1 (G : zG) (w0 w1 w2 w3 w4 w5 w6 w7 w8 w9 w10 w11 w12 w13 w14 w15 w16 n v m j : Nat) (th : Int32) (f : Nat → Int32) (b : Nat → Int32) (e : Nat → Int32) (ql : Nat → Int32) (qs : Nat → Int32) (qa : Nat → Int32) (qb : Nat → Int32) (tn : Nat → Int32) (a : Int32) (z : Nat) (hn : n ≤ 60) (hm : m ≤ 12) (hv : v ≤ 300) (hz : cmC m a = 0 → qs a.toNatClampNeg = nI z) (hz2 : z ≤ 60) (h0 : ¬ bsM (fiM n z a.toNatClampNeg ql qa qb f) n = -1) (hc : (fz (cmC m a) (if b a.toNatClampNeg = -1 then 0 else 3)) = 0) : zM G yX5_find wsX5_find ({ frames := 3, cells := 0, slots := 0, locals := 79 }) [.ref w0, .int a] [(w0, .inr (5, [.int th, .int (nI n), .ref w1, .int (nI v), .int (nI m), .ref w2, .ref w3, .ref w4, .ref w5, .ref w6, .ref w7, .ref w8, .ref w9, .ref w10, .ref w11, .int (nI j), .ref w12, .ref w13, .ref w14, .ref w15, .ref w16])), (w1, eI G 60 f), (w2, eI G 12 b), (w3, eI G 12 e), (w7, eI G 720 ql), (w8, eI G 12 qs), (w9, eI G 12 qa), (w10, eI G 12 qb), (w11, eI G 3612 tn)] [(w0, .inr (5, [.int (nI 0), .int (nI n), .ref w1, .int (nI v), .int (nI m), .ref w2, .ref w3, .ref w4, .ref w5, .ref w6, .ref w7, .ref w8, .ref w9, .ref w10, .ref w11, .int (nI j), .ref w12, .ref w13, .ref w14, .ref w15, .ref w16])), (w1, eI G 60 f), (w2, eI G 12 (upd b a.toNatClampNeg (nI (bsM (fiM n z a.toNatClampNeg ql qa qb f) n).toNatClampNeg))), (w3, eI G 12 (upd e a.toNatClampNeg (nI ((bsM (fiM n z a.toNatClampNeg ql qa qb f) n).toNatClampNeg + z)))), (w7, eI G 720 ql), (w8, eI G 12 qs), (w9, eI G 12 qa), (w10, eI G 12 qb), (w11, eI G 3612 (wrF tn (v * 12) 12 (fun kk => if kk < m then numF ((upd b a.toNatClampNeg (nI (bsM (fiM n z a.toNatClampNeg ql qa qb f) n).toNatClampNeg)) kk) ((upd e a.toNatClampNeg (nI ((bsM (fiM n z a.toNatClampNeg ql qa qb f) n).toNatClampNeg + z))) kk) else -1)))] (some (.int (bsM (fiM n z a.toNatClampNeg ql qa qb f) n))) 0 0 := by
  refine zM.ofI (own := RX5) (cc := cX5_find) (maxL := 5) rfl (by decide) rfl rfl (by simp [Value.category]) (Nat.le_of_ble_eq_true rfl) ?_
  intro X hF hR
  have k_0 : ∀ w ∈ wsX50, w ∈ wsX5_find := by decide +kernel
  have k_1 : zH X (.fieldLink RX5 62 "MarginDeskModel" "thrown" "I") := hF.w (by decide +kernel)
  have k_2 : zH X (.fieldLink RX5 13 "MarginDeskModel" "from" "[I") := hF.w (by decide +kernel)
  have k_3 : zH X (.fieldLink RX5 66 "MarginDeskModel" "length" "I") := hF.w (by decide +kernel)
  have k_4 : zH X (.fieldLink RX5 16 "MarginDeskModel" "to" "[I") := hF.w (by decide +kernel)
  have k_5 : zH X (.fieldLink RX5 32 "MarginDeskModel" "many" "[I") := hF.w (by decide +kernel)
  refine z_lv (lv' := [some (.ref w0), some (.int a), none, none, none]) rfl ?_
  have d_0 := cmC_d m a
  refine z_aload_n hF dX5_find_0 rfl ?_
  refine z_iconst (v := nI 0) hF dX5_find_1 (by decide) ?_
  refine z_put (C := RX5) (T := TX5) (N := 21) (ci := 5) (ws' := [(w0, .inr (5, [.int (nI 0), .int (nI n), .ref w1, .int (nI v), .int (nI m), .ref w2, .ref w3, .ref w4, .ref w5, .ref w6, .ref w7, .ref w8, .ref w9, .ref w10, .ref w11, .int (nI j), .ref w12, .ref w13, .ref w14, .ref w15, .ref w16])), (w1, eI G 60 f), (w2, eI G 12 b), (w3, eI G 12 e), (w7, eI G 720 ql), (w8, eI G 12 qs), (w9, eI G 12 qa), (w10, eI G 12 qb), (w11, eI G 3612 tn)]) hF k_0 tyX5 tyX5_ok nmX5 0 (by decide) rfl k_1 rfl rfl rfl rfl 0 rfl rfl rfl dX5_find_2 ?_
  refine z_aload_n hF dX5_find_5 rfl ?_
  refine z_iload_n hF dX5_find_6 rfl ?_
  refine z_V (As := [.int a]) (rest := []) (ws' := [(w0, .inr (5, [.int (nI 0), .int (nI n), .ref w1, .int (nI v), .int (nI m), .ref w2, .ref w3, .ref w4, .ref w5, .ref w6, .ref w7, .ref w8, .ref w9, .ref w10, .ref w11, .int (nI j), .ref w12, .ref w13, .ref w14, .ref w15, .ref w16])), (w1, eI G 60 f), (w2, eI G 12 b), (w3, eI G 12 e), (w7, eI G 720 ql), (w8, eI G 12 qs), (w9, eI G 12 qa), (w10, eI G 12 qb), (w11, eI G 3612 tn)]) (st2 := [.int (zb (cmC m a = 0))]) (c2 := 0) (s2 := 0) hF (c_X5_isComment G w0 w1 w2 w3 w4 w5 w6 w7 w8 w9 w10 w11 w12 w13 w14 w15 w16 n v m j (nI 0) a (by first | assumption | omega)) gX5_find_X5_isComment rfl rfl rfl hd_X5_isComment ⟨⟨Nat.le_of_ble_eq_true rfl, Nat.le_of_ble_eq_true rfl⟩, ⟨Nat.le_of_ble_eq_true rfl, Nat.le_of_ble_eq_true rfl⟩, Nat.le_of_ble_eq_true rfl⟩ [0] rfl rfl 0 rfl rfl rfl rfl rfl rfl rfl rfl rfl rfl dX5_find_7 ?_
  refine z_if_ne_b (tgt := 19) hF dX5_find_10 (by decide) (fun h1 => ?_) (fun h1 => ?_)
  · have ha := cmC_0 (by omega) h1
    refine z_lv (lv' := [some (.ref w0), some (.int (nI a.toNatClampNeg)), none, none, none]) (by rw [← ha.1]) ?_
    have hz9 := hz h1
    refine z_aload_n hF dX5_find_19 rfl ?_
    refine z_get (C := RX5) (T := TX5) (N := 21) (ci := 5) (v := .ref w2) hF k_0 5 (by decide) rfl k_2 rfl 0 rfl rfl dX5_find_20 ?_
    refine z_iload_n hF dX5_find_23 rfl ?_
    refine z_iald (k := a.toNatClampNeg) hF 2 rfl (rfl) (by omega) rfl dX5_find_24 ?_
    refine z_iconst (v := -1) hF dX5_find_25 (by decide) ?_
    refine z_ic_eq (tgt := 35) hF dX5_find_26 (by decide) (fun c_1 => ?_) (fun c_1 => ?_)
    · refine z_iconst (v := -1) hF dX5_find_35 (by decide) ?_
      refine z_istore_n (lv' := [some (.ref w0), some (.int (nI a.toNatClampNeg)), some (.int (-1)), none, none]) hF dX5_find_36 rfl rfl ?_
      refine z_iconst (v := nI 0) hF dX5_find_37 (by decide) ?_
      refine z_istore_n (lv' := [some (.ref w0), some (.int (nI a.toNatClampNeg)), some (.int (-1)), some (.int (nI 0)), none]) hF dX5_find_38 rfl rfl ?_
      refine z_lv (lv' := [some (.ref w0), some (.int (nI a.toNatClampNeg)), some (.int (bsM (fiM n z a.toNatClampNeg ql qa qb f) 0)), some (.int (nI 0)), none]) (by rfl) ?_
      have J_39 : ∀ (n9 : Nat) (i : Nat), n - i < n9 → (i ≤ n) → zJ G X 39 [(w0, .inr (5, [.int (nI 0), .int (nI n), .ref w1, .int (nI v), .int (nI m), .ref w2, .ref w3, .ref w4, .ref w5, .ref w6, .ref w7, .ref w8, .ref w9, .ref w10, .ref w11, .int (nI j), .ref w12, .ref w13, .ref w14, .ref w15, .ref w16])), (w1, eI G 60 f), (w2, eI G 12 b), (w3, eI G 12 e), (w7, eI G 720 ql), (w8, eI G 12 qs), (w9, eI G 12 qa), (w10, eI G 12 qb), (w11, eI G 3612 tn)] [some (.ref w0), some (.int (nI a.toNatClampNeg)), some (.int (bsM (fiM n z a.toNatClampNeg ql qa qb f) i)), some (.int (nI i)), none] [] 0 0 := by
        intro n9
        induction n9 with
        | zero => intro i hmu; exact absurd hmu (Nat.not_lt_zero _)
        | succ n9 ih =>
          intro i hmu h2
          refine z_iload_n hF dX5_find_39 rfl ?_
          refine z_aload_n hF dX5_find_40 rfl ?_
          refine z_get (C := RX5) (T := TX5) (N := 21) (ci := 5) (v := .int (nI n)) hF k_0 1 (by decide) rfl k_3 rfl 0 rfl rfl dX5_find_41 ?_
          refine z_icn_ge (tgt := 95) hF (by omega) (by omega) dX5_find_44 (by decide) (fun c_2 => ?_) (fun c_2 => ?_)
          · refine z_lv (lv' := [some (.ref w0), some (.int (nI a.toNatClampNeg)), some (.int (bsM (fiM n z a.toNatClampNeg ql qa qb f) n)), some (.int (nI i)), none]) (by rw [show i = n by omega]) ?_
            refine z_iload_n hF dX5_find_95 rfl ?_
            refine z_iconst (v := -1) hF dX5_find_96 (by decide) ?_
            refine z_ic_eq (tgt := 125) hF dX5_find_97 (by decide) (fun c_3 => absurd c_3 (h0)) (fun c_3 => ?_)
            have hbf := bsM_n (by omega) h0
            refine z_lv (lv' := [some (.ref w0), some (.int (nI a.toNatClampNeg)), some (.int (nI ((bsM (fiM n z a.toNatClampNeg ql qa qb f) n).toNatClampNeg))), some (.int (nI i)), none]) (by rw [← hbf.1]) ?_
            refine z_aload_n hF dX5_find_100 rfl ?_
            refine z_get (C := RX5) (T := TX5) (N := 21) (ci := 5) (v := .ref w2) hF k_0 5 (by decide) rfl k_2 rfl 0 rfl rfl dX5_find_101 ?_
            refine z_iload_n hF dX5_find_104 rfl ?_
            refine z_iload_n hF dX5_find_105 rfl ?_
            refine z_iast (k := a.toNatClampNeg) (ws' := [(w0, .inr (5, [.int (nI 0), .int (nI n), .ref w1, .int (nI v), .int (nI m), .ref w2, .ref w3, .ref w4, .ref w5, .ref w6, .ref w7, .ref w8, .ref w9, .ref w10, .ref w11, .int (nI j), .ref w12, .ref w13, .ref w14, .ref w15, .ref w16])), (w1, eI G 60 f), (w2, eI G 12 (upd b a.toNatClampNeg (nI ((bsM (fiM n z a.toNatClampNeg ql qa qb f) n).toNatClampNeg)))), (w3, eI G 12 e), (w7, eI G 720 ql), (w8, eI G 12 qs), (w9, eI G 12 qa), (w10, eI G 12 qb), (w11, eI G 3612 tn)]) hF 2 rfl (rfl) (by omega) rfl rfl dX5_find_106 ?_
            refine z_aload_n hF dX5_find_107 rfl ?_
            refine z_get (C := RX5) (T := TX5) (N := 21) (ci := 5) (v := .ref w3) hF k_0 6 (by decide) rfl k_4 rfl 0 rfl rfl dX5_find_108 ?_
            refine z_iload_n hF dX5_find_111 rfl ?_
            refine z_iload_n hF dX5_find_112 rfl ?_
            refine z_aload_n hF dX5_find_113 rfl ?_
            refine z_get (C := RX5) (T := TX5) (N := 21) (ci := 5) (v := .ref w8) hF k_0 11 (by decide) rfl k_5 rfl 0 rfl rfl dX5_find_114 ?_
            refine z_iload_n hF dX5_find_117 rfl ?_
            refine z_iald (k := a.toNatClampNeg) hF 5 rfl (rfl) (by omega) rfl dX5_find_118 ?_
            refine z_top (y := nI z) (hz9) ?_
            refine z_iadd hF dX5_find_119 ?_
            refine z_top (nI_add ((bsM (fiM n z a.toNatClampNeg ql qa qb f) n).toNatClampNeg) z) ?_
            refine z_iast (k := a.toNatClampNeg) (ws' := [(w0, .inr (5, [.int (nI 0), .int (nI n), .ref w1, .int (nI v), .int (nI m), .ref w2, .ref w3, .ref w4, .ref w5, .ref w6, .ref w7, .ref w8, .ref w9, .ref w10, .ref w11, .int (nI j), .ref w12, .ref w13, .ref w14, .ref w15, .ref w16])), (w1, eI G 60 f), (w2, eI G 12 (upd b a.toNatClampNeg (nI ((bsM (fiM n z a.toNatClampNeg ql qa qb f) n).toNatClampNeg)))), (w3, eI G 12 (upd e a.toNatClampNeg (nI ((bsM (fiM n z a.toNatClampNeg ql qa qb f) n).toNatClampNeg + z)))), (w7, eI G 720 ql), (w8, eI G 12 qs), (w9, eI G 12 qa), (w10, eI G 12 qb), (w11, eI G 3612 tn)]) hF 3 rfl (rfl) (by omega) rfl rfl dX5_find_120 ?_
            refine z_aload_n hF dX5_find_121 rfl ?_
            refine z_V (As := []) (rest := []) (ws' := [(w0, .inr (5, [.int (nI 0), .int (nI n), .ref w1, .int (nI v), .int (nI m), .ref w2, .ref w3, .ref w4, .ref w5, .ref w6, .ref w7, .ref w8, .ref w9, .ref w10, .ref w11, .int (nI j), .ref w12, .ref w13, .ref w14, .ref w15, .ref w16])), (w1, eI G 60 f), (w2, eI G 12 (upd b a.toNatClampNeg (nI ((bsM (fiM n z a.toNatClampNeg ql qa qb f) n).toNatClampNeg)))), (w3, eI G 12 (upd e a.toNatClampNeg (nI ((bsM (fiM n z a.toNatClampNeg ql qa qb f) n).toNatClampNeg + z)))), (w7, eI G 720 ql), (w8, eI G 12 qs), (w9, eI G 12 qa), (w10, eI G 12 qb), (w11, eI G 3612 (wrF tn (v * 12) 12 (fun kk => if kk < m then numF ((upd b a.toNatClampNeg (nI ((bsM (fiM n z a.toNatClampNeg ql qa qb f) n).toNatClampNeg))) kk) ((upd e a.toNatClampNeg (nI ((bsM (fiM n z a.toNatClampNeg ql qa qb f) n).toNatClampNeg + z))) kk) else -1)))]) (st2 := []) (c2 := 0) (s2 := 0) hF (c_X5_keeps G w0 w1 w2 w3 w4 w5 w6 w7 w8 w9 w10 w11 w12 w13 w14 w15 w16 n v m j (nI 0) (upd b a.toNatClampNeg (nI ((bsM (fiM n z a.toNatClampNeg ql qa qb f) n).toNatClampNeg))) (upd e a.toNatClampNeg (nI ((bsM (fiM n z a.toNatClampNeg ql qa qb f) n).toNatClampNeg + z))) tn (by first | assumption | omega) (by first | assumption | omega)) gX5_find_X5_keeps rfl rfl rfl hd_X5_keeps ⟨⟨Nat.le_of_ble_eq_true rfl, Nat.le_of_ble_eq_true rfl⟩, ⟨Nat.le_of_ble_eq_true rfl, Nat.le_of_ble_eq_true rfl⟩, Nat.le_of_ble_eq_true rfl⟩ [0, 2, 3, 8] rfl rfl 0 rfl rfl rfl rfl rfl rfl rfl rfl rfl rfl dX5_find_122 ?_
            refine z_iload_n hF dX5_find_125 rfl ?_
            exact hR.i dX5_find_126 (Nat.le_of_ble_eq_true rfl) (Nat.le_of_ble_eq_true rfl) (rfl) (hbf.1.symm)
          · refine z_aload_n hF dX5_find_47 rfl ?_
            refine z_iload_n hF dX5_find_48 rfl ?_
            refine z_iload_n hF dX5_find_49 rfl ?_
            refine z_V (As := [.int (nI a.toNatClampNeg), .int (nI i)]) (rest := []) (ws' := [(w0, .inr (5, [.int (nI 0), .int (nI n), .ref w1, .int (nI v), .int (nI m), .ref w2, .ref w3, .ref w4, .ref w5, .ref w6, .ref w7, .ref w8, .ref w9, .ref w10, .ref w11, .int (nI j), .ref w12, .ref w13, .ref w14, .ref w15, .ref w16])), (w1, eI G 60 f), (w2, eI G 12 b), (w3, eI G 12 e), (w7, eI G 720 ql), (w8, eI G 12 qs), (w9, eI G 12 qa), (w10, eI G 12 qb), (w11, eI G 3612 tn)]) (st2 := [.int (fiM n z a.toNatClampNeg ql qa qb f i)]) (c2 := 0) (s2 := 0) hF (c_X5_fit G w0 w1 w2 w3 w4 w5 w6 w7 w8 w9 w10 w11 w12 w13 w14 w15 w16 n v m j (nI 0) f ql qs qa qb a.toNatClampNeg i z (by first | assumption | omega) (by first | assumption | omega) (by first | assumption | omega) (hz9) (by first | assumption | omega)) gX5_find_X5_fit rfl rfl rfl hd_X5_fit ⟨⟨Nat.le_of_ble_eq_true rfl, Nat.le_of_ble_eq_true rfl⟩, ⟨Nat.le_of_ble_eq_true rfl, Nat.le_of_ble_eq_true rfl⟩, Nat.le_of_ble_eq_true rfl⟩ [0, 1, 4, 5, 6, 7] rfl rfl 0 rfl rfl rfl rfl rfl rfl rfl rfl rfl rfl dX5_find_50 ?_
            refine z_iload_n hF dX5_find_53 rfl ?_
            refine z_iconst (v := -1) hF dX5_find_54 (by decide) ?_
            refine z_ic_ne (tgt := 62) hF dX5_find_55 (by decide) (fun hb5 => ?_) (fun hb5 => ?_)
            · have hbi := bsM_n (by omega) hb5
              refine z_lv (lv' := [some (.ref w0), some (.int (nI a.toNatClampNeg)), some (.int (nI ((bsM (fiM n z a.toNatClampNeg ql qa qb f) i).toNatClampNeg))), some (.int (nI i)), none]) (by rw [← hbi.1]) ?_
              refine z_aload_n hF dX5_find_62 rfl ?_
              refine z_iload_n hF dX5_find_63 rfl ?_
              refine z_iload_n hF dX5_find_64 rfl ?_
              refine z_V (As := [.int (nI a.toNatClampNeg), .int (nI ((bsM (fiM n z a.toNatClampNeg ql qa qb f) i).toNatClampNeg))]) (rest := [.int (fiM n z a.toNatClampNeg ql qa qb f i)]) (ws' := [(w0, .inr (5, [.int (nI 0), .int (nI n), .ref w1, .int (nI v), .int (nI m), .ref w2, .ref w3, .ref w4, .ref w5, .ref w6, .ref w7, .ref w8, .ref w9, .ref w10, .ref w11, .int (nI j), .ref w12, .ref w13, .ref w14, .ref w15, .ref w16])), (w1, eI G 60 f), (w2, eI G 12 b), (w3, eI G 12 e), (w7, eI G 720 ql), (w8, eI G 12 qs), (w9, eI G 12 qa), (w10, eI G 12 qb), (w11, eI G 3612 tn)]) (st2 := [.int (fiM n z a.toNatClampNeg ql qa qb f ((bsM (fiM n z a.toNatClampNeg ql qa qb f) i).toNatClampNeg)), .int (fiM n z a.toNatClampNeg ql qa qb f i)]) (c2 := 0) (s2 := 0) hF (c_X5_fit G w0 w1 w2 w3 w4 w5 w6 w7 w8 w9 w10 w11 w12 w13 w14 w15 w16 n v m j (nI 0) f ql qs qa qb a.toNatClampNeg ((bsM (fiM n z a.toNatClampNeg ql qa qb f) i).toNatClampNeg) z (by first | assumption | omega) (by first | assumption | omega) (by omega) (hz9) (by first | assumption | omega)) gX5_find_X5_fit rfl rfl rfl hd_X5_fit ⟨⟨Nat.le_of_ble_eq_true rfl, Nat.le_of_ble_eq_true rfl⟩, ⟨Nat.le_of_ble_eq_true rfl, Nat.le_of_ble_eq_true rfl⟩, Nat.le_of_ble_eq_true rfl⟩ [0, 1, 4, 5, 6, 7] rfl rfl 0 rfl rfl rfl rfl rfl rfl rfl rfl rfl rfl dX5_find_65 ?_
              refine z_ic_le (tgt := 75) hF dX5_find_68 (by decide) (fun c_4 => ?_) (fun c_4 => ?_)
              · refine z_iconst (v := nI 0) hF dX5_find_75 (by decide) ?_
                refine z_istore (lv' := [some (.ref w0), some (.int (nI a.toNatClampNeg)), some (.int (nI ((bsM (fiM n z a.toNatClampNeg ql qa qb f) i).toNatClampNeg))), some (.int (nI i)), some (.int (nI 0))]) hF dX5_find_76 rfl rfl ?_
                refine z_iload hF dX5_find_78 rfl ?_
                refine z_if_eq (tgt := 87) hF dX5_find_80 (by decide) (fun c_5 => ?_) (fun c_5 => absurd c_5 (by decide))
                refine z_iload_n hF dX5_find_87 rfl ?_
                refine z_top (y := bsM (fiM n z a.toNatClampNeg ql qa qb f) (i + 1)) (by simp only [bsM]; grind) ?_
                refine z_istore_n (lv' := [some (.ref w0), some (.int (nI a.toNatClampNeg)), some (.int (bsM (fiM n z a.toNatClampNeg ql qa qb f) (i + 1))), some (.int (nI i)), some (.int (nI 0))]) hF dX5_find_88 rfl rfl ?_
                refine z_iinc (v := nI (i + 1)) (lv' := [some (.ref w0), some (.int (nI a.toNatClampNeg)), some (.int (bsM (fiM n z a.toNatClampNeg ql qa qb f) (i + 1))), some (.int (nI (i + 1))), some (.int (nI 0))]) hF dX5_find_89 rfl (nI_1 i) rfl rfl ?_
                refine z_goto (tgt := 39) hF dX5_find_92 (by decide) ?_
                refine z_forget (lv' := [some (.ref w0), some (.int (nI a.toNatClampNeg)), some (.int (bsM (fiM n z a.toNatClampNeg ql qa qb f) (i + 1))), some (.int (nI (i + 1))), none]) ⟨rfl, ⟨rfl, ⟨rfl, ⟨rfl, trivial⟩⟩⟩⟩ ?_
                exact ih (i + 1) (by omega) (by omega)
              · refine z_iconst (v := nI 1) hF dX5_find_71 (by decide) ?_
                refine z_goto (tgt := 76) hF dX5_find_72 (by decide) ?_
                refine z_istore (lv' := [some (.ref w0), some (.int (nI a.toNatClampNeg)), some (.int (nI ((bsM (fiM n z a.toNatClampNeg ql qa qb f) i).toNatClampNeg))), some (.int (nI i)), some (.int (nI 1))]) hF dX5_find_76 rfl rfl ?_
                refine z_iload hF dX5_find_78 rfl ?_
                refine z_if_eq (tgt := 87) hF dX5_find_80 (by decide) (fun c_6 => absurd c_6 (by decide)) (fun c_6 => ?_)
                refine z_iload_n hF dX5_find_83 rfl ?_
                refine z_goto (tgt := 88) hF dX5_find_84 (by decide) ?_
                refine z_top (y := bsM (fiM n z a.toNatClampNeg ql qa qb f) (i + 1)) (by simp only [bsM]; grind) ?_
                refine z_istore_n (lv' := [some (.ref w0), some (.int (nI a.toNatClampNeg)), some (.int (bsM (fiM n z a.toNatClampNeg ql qa qb f) (i + 1))), some (.int (nI i)), some (.int (nI 1))]) hF dX5_find_88 rfl rfl ?_
                refine z_iinc (v := nI (i + 1)) (lv' := [some (.ref w0), some (.int (nI a.toNatClampNeg)), some (.int (bsM (fiM n z a.toNatClampNeg ql qa qb f) (i + 1))), some (.int (nI (i + 1))), some (.int (nI 1))]) hF dX5_find_89 rfl (nI_1 i) rfl rfl ?_
                refine z_goto (tgt := 39) hF dX5_find_92 (by decide) ?_
                refine z_forget (lv' := [some (.ref w0), some (.int (nI a.toNatClampNeg)), some (.int (bsM (fiM n z a.toNatClampNeg ql qa qb f) (i + 1))), some (.int (nI (i + 1))), none]) ⟨rfl, ⟨rfl, ⟨rfl, ⟨rfl, trivial⟩⟩⟩⟩ ?_
                exact ih (i + 1) (by omega) (by omega)
            · refine z_iconst (v := -1) hF dX5_find_58 (by decide) ?_
              refine z_goto (tgt := 68) hF dX5_find_59 (by decide) ?_
              refine z_ic_le (tgt := 75) hF dX5_find_68 (by decide) (fun c_7 => ?_) (fun c_7 => ?_)
              · refine z_iconst (v := nI 0) hF dX5_find_75 (by decide) ?_
                refine z_istore (lv' := [some (.ref w0), some (.int (nI a.toNatClampNeg)), some (.int (bsM (fiM n z a.toNatClampNeg ql qa qb f) i)), some (.int (nI i)), some (.int (nI 0))]) hF dX5_find_76 rfl rfl ?_
                refine z_iload hF dX5_find_78 rfl ?_
                refine z_if_eq (tgt := 87) hF dX5_find_80 (by decide) (fun c_8 => ?_) (fun c_8 => absurd c_8 (by decide))
                refine z_iload_n hF dX5_find_87 rfl ?_
                refine z_top (y := bsM (fiM n z a.toNatClampNeg ql qa qb f) (i + 1)) (by simp only [bsM]; grind) ?_
                refine z_istore_n (lv' := [some (.ref w0), some (.int (nI a.toNatClampNeg)), some (.int (bsM (fiM n z a.toNatClampNeg ql qa qb f) (i + 1))), some (.int (nI i)), some (.int (nI 0))]) hF dX5_find_88 rfl rfl ?_
                refine z_iinc (v := nI (i + 1)) (lv' := [some (.ref w0), some (.int (nI a.toNatClampNeg)), some (.int (bsM (fiM n z a.toNatClampNeg ql qa qb f) (i + 1))), some (.int (nI (i + 1))), some (.int (nI 0))]) hF dX5_find_89 rfl (nI_1 i) rfl rfl ?_
                refine z_goto (tgt := 39) hF dX5_find_92 (by decide) ?_
                refine z_forget (lv' := [some (.ref w0), some (.int (nI a.toNatClampNeg)), some (.int (bsM (fiM n z a.toNatClampNeg ql qa qb f) (i + 1))), some (.int (nI (i + 1))), none]) ⟨rfl, ⟨rfl, ⟨rfl, ⟨rfl, trivial⟩⟩⟩⟩ ?_
                exact ih (i + 1) (by omega) (by omega)
              · refine z_iconst (v := nI 1) hF dX5_find_71 (by decide) ?_
                refine z_goto (tgt := 76) hF dX5_find_72 (by decide) ?_
                refine z_istore (lv' := [some (.ref w0), some (.int (nI a.toNatClampNeg)), some (.int (bsM (fiM n z a.toNatClampNeg ql qa qb f) i)), some (.int (nI i)), some (.int (nI 1))]) hF dX5_find_76 rfl rfl ?_
                refine z_iload hF dX5_find_78 rfl ?_
                refine z_if_eq (tgt := 87) hF dX5_find_80 (by decide) (fun c_9 => absurd c_9 (by decide)) (fun c_9 => ?_)
                refine z_iload_n hF dX5_find_83 rfl ?_
                refine z_goto (tgt := 88) hF dX5_find_84 (by decide) ?_
                refine z_top (y := bsM (fiM n z a.toNatClampNeg ql qa qb f) (i + 1)) (by simp only [bsM]; grind) ?_
                refine z_istore_n (lv' := [some (.ref w0), some (.int (nI a.toNatClampNeg)), some (.int (bsM (fiM n z a.toNatClampNeg ql qa qb f) (i + 1))), some (.int (nI i)), some (.int (nI 1))]) hF dX5_find_88 rfl rfl ?_
                refine z_iinc (v := nI (i + 1)) (lv' := [some (.ref w0), some (.int (nI a.toNatClampNeg)), some (.int (bsM (fiM n z a.toNatClampNeg ql qa qb f) (i + 1))), some (.int (nI (i + 1))), some (.int (nI 1))]) hF dX5_find_89 rfl (nI_1 i) rfl rfl ?_
                refine z_goto (tgt := 39) hF dX5_find_92 (by decide) ?_
                refine z_forget (lv' := [some (.ref w0), some (.int (nI a.toNatClampNeg)), some (.int (bsM (fiM n z a.toNatClampNeg ql qa qb f) (i + 1))), some (.int (nI (i + 1))), none]) ⟨rfl, ⟨rfl, ⟨rfl, ⟨rfl, trivial⟩⟩⟩⟩ ?_
                exact ih (i + 1) (by omega) (by omega)
      exact J_39 ((n - 0) + 1) 0 (Nat.lt_succ_self _) (by omega)
    · exact absurd hc (by (try simp only [fz]); grind)
  · exact absurd hc (by (try simp only [fz]); grind)
