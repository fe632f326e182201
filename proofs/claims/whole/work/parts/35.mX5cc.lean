set_option maxHeartbeats 4000000 in
set_option maxRecDepth 100000 in
theorem c_X5_comment_k (G : zG) (w0 w1 w2 w3 w4 w5 w6 w7 w8 w9 w10 w11 w12 w13 w14 w15 w16 n v m j : Nat) (th : Int32) (f : Nat → Int32) (b : Nat → Int32) (e : Nat → Int32) (s : Nat → Int32) (op : Nat → Int32) (ql : Nat → Int32) (qs : Nat → Int32) (qa : Nat → Int32) (qb : Nat → Int32) (tn : Nat → Int32) (a k l : Int32) (hn : n ≤ 60) (hm : m ≤ 12) (hv : v ≤ 300) (hc : (fz (rgC n a k) (fz (amC l (nI 0) (nI 3)) (if m < 12 then 0 else 3))) = 0) : zM G yX5_comment wsX5_comment ({ frames := 2, cells := 0, slots := 0, locals := 55 }) [.ref w0, .int a, .int k, .int l] [(w0, .inr (5, [.int th, .int (nI n), .ref w1, .int (nI v), .int (nI m), .ref w2, .ref w3, .ref w4, .ref w5, .ref w6, .ref w7, .ref w8, .ref w9, .ref w10, .ref w11, .int (nI j), .ref w12, .ref w13, .ref w14, .ref w15, .ref w16])), (w1, eI G 60 f), (w2, eI G 12 b), (w3, eI G 12 e), (w4, eI G 12 s), (w5, eZ G 12 op), (w7, eI G 720 ql), (w8, eI G 12 qs), (w9, eI G 12 qa), (w10, eI G 12 qb), (w11, eI G 3612 tn)] [(w0, .inr (5, [.int (nI 0), .int (nI n), .ref w1, .int (nI v), .int (nI (m + 1)), .ref w2, .ref w3, .ref w4, .ref w5, .ref w6, .ref w7, .ref w8, .ref w9, .ref w10, .ref w11, .int (nI j), .ref w12, .ref w13, .ref w14, .ref w15, .ref w16])), (w1, eI G 60 f), (w2, eI G 12 (upd b m a)), (w3, eI G 12 (upd e m k)), (w4, eI G 12 (upd s m l)), (w5, eZ G 12 (upd op m (nI 1))), (w7, eI G 720 (va_cpy f ql a.toNatClampNeg (m * 60) (k.toNatClampNeg - a.toNatClampNeg))), (w8, eI G 12 (upd qs m (nI (k.toNatClampNeg - a.toNatClampNeg)))), (w9, eI G 12 (upd qa m (letF n f (nI a.toNatClampNeg - nI 1)))), (w10, eI G 12 (upd qb m (letF n f (nI k.toNatClampNeg)))), (w11, eI G 3612 (wrF tn (v * 12) 12 (fun kk => if kk < m + 1 then numF (upd b m a kk) (upd e m k kk) else -1)))] (some (.int (nI m))) 0 0 := by
  refine zM.ofI (own := RX5) (cc := cX5_comment) (maxL := 6) rfl (by decide) rfl rfl (by simp [Value.category]) (Nat.le_of_ble_eq_true rfl) ?_
  intro X hF hR
  have k_0 : ∀ w ∈ wsX50, w ∈ wsX5_comment := by decide +kernel
  have k_1 : zH X (.fieldLink RX5 62 "MarginDeskModel" "thrown" "I") := hF.w (by decide +kernel)
  have k_2 : zH X (.fieldLink RX5 73 "MarginDeskModel" "comments" "I") := hF.w (by decide +kernel)
  have k_3 : zH X (.fieldLink RX5 13 "MarginDeskModel" "from" "[I") := hF.w (by decide +kernel)
  have k_4 : zH X (.fieldLink RX5 16 "MarginDeskModel" "to" "[I") := hF.w (by decide +kernel)
  have k_5 : zH X (.fieldLink RX5 19 "MarginDeskModel" "sticky" "[I") := hF.w (by decide +kernel)
  have k_6 : zH X (.fieldLink RX5 22 "MarginDeskModel" "open" "[Z") := hF.w (by decide +kernel)
  have k_7 : zH X (.fieldLink RX5 32 "MarginDeskModel" "many" "[I") := hF.w (by decide +kernel)
  have k_8 : zH X (.fieldLink RX5 35 "MarginDeskModel" "ahead" "[I") := hF.w (by decide +kernel)
  have k_9 : zH X (.fieldLink RX5 38 "MarginDeskModel" "behind" "[I") := hF.w (by decide +kernel)
  have k_10 : zH X (.fieldLink RX5 29 "MarginDeskModel" "kept" "[I") := hF.w (by decide +kernel)
  have k_11 : zH X (.fieldLink RX5 7 "MarginDeskModel" "letters" "[I") := hF.w (by decide +kernel)
  refine z_lv (lv' := [some (.ref w0), some (.int a), some (.int k), some (.int l), none, none]) rfl ?_
  have d_0 := rgI n a k
  have d_1 := amC_d l (nI 0) (nI 3)
  have d_2 := plC_d n a
  have d_3 := plC_d n k
  refine z_aload_n hF dX5_comment_0 rfl ?_
  refine z_iconst (v := nI 0) hF dX5_comment_1 (by decide) ?_
  refine z_put (C := RX5) (T := TX5) (N := 21) (ci := 5) (ws' := [(w0, .inr (5, [.int (nI 0), .int (nI n), .ref w1, .int (nI v), .int (nI m), .ref w2, .ref w3, .ref w4, .ref w5, .ref w6, .ref w7, .ref w8, .ref w9, .ref w10, .ref w11, .int (nI j), .ref w12, .ref w13, .ref w14, .ref w15, .ref w16])), (w1, eI G 60 f), (w2, eI G 12 b), (w3, eI G 12 e), (w4, eI G 12 s), (w5, eZ G 12 op), (w7, eI G 720 ql), (w8, eI G 12 qs), (w9, eI G 12 qa), (w10, eI G 12 qb), (w11, eI G 3612 tn)]) hF k_0 tyX5 tyX5_ok nmX5 0 (by decide) rfl k_1 rfl rfl rfl rfl 0 rfl rfl rfl dX5_comment_2 ?_
  refine z_aload_n hF dX5_comment_5 rfl ?_
  refine z_iload_n hF dX5_comment_6 rfl ?_
  refine z_V (As := [.int a]) (rest := []) (ws' := [(w0, .inr (5, [.int (nI 0), .int (nI n), .ref w1, .int (nI v), .int (nI m), .ref w2, .ref w3, .ref w4, .ref w5, .ref w6, .ref w7, .ref w8, .ref w9, .ref w10, .ref w11, .int (nI j), .ref w12, .ref w13, .ref w14, .ref w15, .ref w16])), (w1, eI G 60 f), (w2, eI G 12 b), (w3, eI G 12 e), (w4, eI G 12 s), (w5, eZ G 12 op), (w7, eI G 720 ql), (w8, eI G 12 qs), (w9, eI G 12 qa), (w10, eI G 12 qb), (w11, eI G 3612 tn)]) (st2 := [.int (zb (plC n a = 0))]) (c2 := 0) (s2 := 0) hF (c_X5_isPlace G w0 w1 w2 w3 w4 w5 w6 w7 w8 w9 w10 w11 w12 w13 w14 w15 w16 n v m j (nI 0) a) gX5_comment_X5_isPlace rfl rfl rfl hd_X5_isPlace ⟨⟨Nat.le_of_ble_eq_true rfl, Nat.le_of_ble_eq_true rfl⟩, ⟨Nat.le_of_ble_eq_true rfl, Nat.le_of_ble_eq_true rfl⟩, Nat.le_of_ble_eq_true rfl⟩ [0] rfl rfl 0 rfl rfl rfl rfl rfl rfl rfl rfl rfl rfl dX5_comment_7 ?_
  refine z_if_eq_b (tgt := 21) hF dX5_comment_10 (by decide) (fun c_1 => ?_) (fun c_1 => ?_)
  · exact absurd hc (by (try simp only [fz]); grind)
  · refine z_aload_n hF dX5_comment_13 rfl ?_
    refine z_iload_n hF dX5_comment_14 rfl ?_
    refine z_V (As := [.int k]) (rest := []) (ws' := [(w0, .inr (5, [.int (nI 0), .int (nI n), .ref w1, .int (nI v), .int (nI m), .ref w2, .ref w3, .ref w4, .ref w5, .ref w6, .ref w7, .ref w8, .ref w9, .ref w10, .ref w11, .int (nI j), .ref w12, .ref w13, .ref w14, .ref w15, .ref w16])), (w1, eI G 60 f), (w2, eI G 12 b), (w3, eI G 12 e), (w4, eI G 12 s), (w5, eZ G 12 op), (w7, eI G 720 ql), (w8, eI G 12 qs), (w9, eI G 12 qa), (w10, eI G 12 qb), (w11, eI G 3612 tn)]) (st2 := [.int (zb (plC n k = 0))]) (c2 := 0) (s2 := 0) hF (c_X5_isPlace G w0 w1 w2 w3 w4 w5 w6 w7 w8 w9 w10 w11 w12 w13 w14 w15 w16 n v m j (nI 0) k) gX5_comment_X5_isPlace rfl rfl rfl hd_X5_isPlace ⟨⟨Nat.le_of_ble_eq_true rfl, Nat.le_of_ble_eq_true rfl⟩, ⟨Nat.le_of_ble_eq_true rfl, Nat.le_of_ble_eq_true rfl⟩, Nat.le_of_ble_eq_true rfl⟩ [0] rfl rfl 0 rfl rfl rfl rfl rfl rfl rfl rfl rfl rfl dX5_comment_15 ?_
    refine z_if_ne_b (tgt := 27) hF dX5_comment_18 (by decide) (fun c_2 => ?_) (fun c_2 => ?_)
    · refine z_iload_n hF dX5_comment_27 rfl ?_
      refine z_iload_n hF dX5_comment_28 rfl ?_
      refine z_ic_le (tgt := 41) hF dX5_comment_29 (by decide) (fun c_3 => ?_) (fun c_3 => ?_)
      · exact absurd hc (by (try simp only [fz]); grind)
      · refine z_iload_n hF dX5_comment_32 rfl ?_
        refine z_iconst (v := nI 0) hF dX5_comment_33 (by decide) ?_
        refine z_iconst (v := nI 3) hF dX5_comment_34 (by decide) ?_
        refine z_S (As := [.int l, .int (nI 0), .int (nI 3)]) (rest := []) (ws' := [(w0, .inr (5, [.int (nI 0), .int (nI n), .ref w1, .int (nI v), .int (nI m), .ref w2, .ref w3, .ref w4, .ref w5, .ref w6, .ref w7, .ref w8, .ref w9, .ref w10, .ref w11, .int (nI j), .ref w12, .ref w13, .ref w14, .ref w15, .ref w16])), (w1, eI G 60 f), (w2, eI G 12 b), (w3, eI G 12 e), (w4, eI G 12 s), (w5, eZ G 12 op), (w7, eI G 720 ql), (w8, eI G 12 qs), (w9, eI G 12 qa), (w10, eI G 12 qb), (w11, eI G 3612 tn)]) (st2 := [.int (zb ((nI 0) ≤ l ∧ l ≤ (nI 3)))]) (c2 := 0) (s2 := 0) hF (c_X5_in G l (nI 0) (nI 3)) gX5_comment_X5_in rfl rfl rfl hs_X5_in ⟨⟨Nat.le_of_ble_eq_true rfl, Nat.le_of_ble_eq_true rfl⟩, ⟨Nat.le_of_ble_eq_true rfl, Nat.le_of_ble_eq_true rfl⟩, Nat.le_of_ble_eq_true rfl⟩ [] rfl rfl rfl rfl rfl rfl rfl rfl rfl rfl dX5_comment_35 ?_
        refine z_top (y := zb (amC l (nI 0) (nI 3) = 0)) (zb_iff inL_am) ?_
        refine z_if_ne_b (tgt := 47) hF dX5_comment_38 (by decide) (fun c_4 => ?_) (fun c_4 => ?_)
        · refine z_aload_n hF dX5_comment_47 rfl ?_
          refine z_get (C := RX5) (T := TX5) (N := 21) (ci := 5) (v := .int (nI m)) hF k_0 4 (by decide) rfl k_2 rfl 0 rfl rfl dX5_comment_48 ?_
          refine z_bipush (v := nI 12) hF dX5_comment_51 (by decide) ?_
          refine z_icn_ne (tgt := 62) hF (by omega) (by omega) dX5_comment_53 (by decide) (fun c_5 => ?_) (fun c_5 => ?_)
          · refine z_aload_n hF dX5_comment_62 rfl ?_
            refine z_get (C := RX5) (T := TX5) (N := 21) (ci := 5) (v := .int (nI m)) hF k_0 4 (by decide) rfl k_2 rfl 0 rfl rfl dX5_comment_63 ?_
            refine z_istore (lv' := [some (.ref w0), some (.int a), some (.int k), some (.int l), some (.int (nI m)), none]) hF dX5_comment_66 rfl rfl ?_
            refine z_aload_n hF dX5_comment_68 rfl ?_
            refine z_get (C := RX5) (T := TX5) (N := 21) (ci := 5) (v := .ref w2) hF k_0 5 (by decide) rfl k_3 rfl 0 rfl rfl dX5_comment_69 ?_
            refine z_iload hF dX5_comment_72 rfl ?_
            refine z_iload_n hF dX5_comment_74 rfl ?_
            refine z_iast (k := m) (ws' := [(w0, .inr (5, [.int (nI 0), .int (nI n), .ref w1, .int (nI v), .int (nI m), .ref w2, .ref w3, .ref w4, .ref w5, .ref w6, .ref w7, .ref w8, .ref w9, .ref w10, .ref w11, .int (nI j), .ref w12, .ref w13, .ref w14, .ref w15, .ref w16])), (w1, eI G 60 f), (w2, eI G 12 (upd b m a)), (w3, eI G 12 e), (w4, eI G 12 s), (w5, eZ G 12 op), (w7, eI G 720 ql), (w8, eI G 12 qs), (w9, eI G 12 qa), (w10, eI G 12 qb), (w11, eI G 3612 tn)]) hF 2 rfl (rfl) (by omega) rfl rfl dX5_comment_75 ?_
            refine z_aload_n hF dX5_comment_76 rfl ?_
            refine z_get (C := RX5) (T := TX5) (N := 21) (ci := 5) (v := .ref w3) hF k_0 6 (by decide) rfl k_4 rfl 0 rfl rfl dX5_comment_77 ?_
            refine z_iload hF dX5_comment_80 rfl ?_
            refine z_iload_n hF dX5_comment_82 rfl ?_
            refine z_iast (k := m) (ws' := [(w0, .inr (5, [.int (nI 0), .int (nI n), .ref w1, .int (nI v), .int (nI m), .ref w2, .ref w3, .ref w4, .ref w5, .ref w6, .ref w7, .ref w8, .ref w9, .ref w10, .ref w11, .int (nI j), .ref w12, .ref w13, .ref w14, .ref w15, .ref w16])), (w1, eI G 60 f), (w2, eI G 12 (upd b m a)), (w3, eI G 12 (upd e m k)), (w4, eI G 12 s), (w5, eZ G 12 op), (w7, eI G 720 ql), (w8, eI G 12 qs), (w9, eI G 12 qa), (w10, eI G 12 qb), (w11, eI G 3612 tn)]) hF 3 rfl (rfl) (by omega) rfl rfl dX5_comment_83 ?_
            refine z_aload_n hF dX5_comment_84 rfl ?_
            refine z_get (C := RX5) (T := TX5) (N := 21) (ci := 5) (v := .ref w4) hF k_0 7 (by decide) rfl k_5 rfl 0 rfl rfl dX5_comment_85 ?_
            refine z_iload hF dX5_comment_88 rfl ?_
            refine z_iload_n hF dX5_comment_90 rfl ?_
            refine z_iast (k := m) (ws' := [(w0, .inr (5, [.int (nI 0), .int (nI n), .ref w1, .int (nI v), .int (nI m), .ref w2, .ref w3, .ref w4, .ref w5, .ref w6, .ref w7, .ref w8, .ref w9, .ref w10, .ref w11, .int (nI j), .ref w12, .ref w13, .ref w14, .ref w15, .ref w16])), (w1, eI G 60 f), (w2, eI G 12 (upd b m a)), (w3, eI G 12 (upd e m k)), (w4, eI G 12 (upd s m l)), (w5, eZ G 12 op), (w7, eI G 720 ql), (w8, eI G 12 qs), (w9, eI G 12 qa), (w10, eI G 12 qb), (w11, eI G 3612 tn)]) hF 4 rfl (rfl) (by omega) rfl rfl dX5_comment_91 ?_
            refine z_aload_n hF dX5_comment_92 rfl ?_
            refine z_get (C := RX5) (T := TX5) (N := 21) (ci := 5) (v := .ref w5) hF k_0 8 (by decide) rfl k_6 rfl 0 rfl rfl dX5_comment_93 ?_
            refine z_iload hF dX5_comment_96 rfl ?_
            refine z_iconst (v := nI 1) hF dX5_comment_98 (by decide) ?_
            refine z_zast (k := m) (ws' := [(w0, .inr (5, [.int (nI 0), .int (nI n), .ref w1, .int (nI v), .int (nI m), .ref w2, .ref w3, .ref w4, .ref w5, .ref w6, .ref w7, .ref w8, .ref w9, .ref w10, .ref w11, .int (nI j), .ref w12, .ref w13, .ref w14, .ref w15, .ref w16])), (w1, eI G 60 f), (w2, eI G 12 (upd b m a)), (w3, eI G 12 (upd e m k)), (w4, eI G 12 (upd s m l)), (w5, eZ G 12 (upd op m (nI 1))), (w7, eI G 720 ql), (w8, eI G 12 qs), (w9, eI G 12 qa), (w10, eI G 12 qb), (w11, eI G 3612 tn)]) hF 5 rfl (rfl) (by omega) rfl (by decide) rfl dX5_comment_99 ?_
            have h1 : rgC n a k = 0 := by simp only [fz] at hc; grind
            have hm2 : m < 12 := by simp only [fz] at hc; grind
            have hab := rgC_0 (by omega) h1
            refine z_lv (lv' := [some (.ref w0), some (.int (nI a.toNatClampNeg)), some (.int k), some (.int l), some (.int (nI m)), none]) (by rw [← hab.1.1]) ?_
            refine z_lv (lv' := [some (.ref w0), some (.int (nI a.toNatClampNeg)), some (.int (nI k.toNatClampNeg)), some (.int l), some (.int (nI m)), none]) (by rw [← hab.2.1.1]) ?_
            refine z_aload_n hF dX5_comment_100 rfl ?_
            refine z_get (C := RX5) (T := TX5) (N := 21) (ci := 5) (v := .ref w8) hF k_0 11 (by decide) rfl k_7 rfl 0 rfl rfl dX5_comment_101 ?_
            refine z_iload hF dX5_comment_104 rfl ?_
            refine z_iload_n hF dX5_comment_106 rfl ?_
            refine z_iload_n hF dX5_comment_107 rfl ?_
            refine z_isub hF dX5_comment_108 ?_
            refine z_top (pk_sub (by omega)) ?_
            refine z_iast (k := m) (ws' := [(w0, .inr (5, [.int (nI 0), .int (nI n), .ref w1, .int (nI v), .int (nI m), .ref w2, .ref w3, .ref w4, .ref w5, .ref w6, .ref w7, .ref w8, .ref w9, .ref w10, .ref w11, .int (nI j), .ref w12, .ref w13, .ref w14, .ref w15, .ref w16])), (w1, eI G 60 f), (w2, eI G 12 (upd b m a)), (w3, eI G 12 (upd e m k)), (w4, eI G 12 (upd s m l)), (w5, eZ G 12 (upd op m (nI 1))), (w7, eI G 720 ql), (w8, eI G 12 (upd qs m (nI (k.toNatClampNeg - a.toNatClampNeg)))), (w9, eI G 12 qa), (w10, eI G 12 qb), (w11, eI G 3612 tn)]) hF 7 rfl (rfl) (by omega) rfl rfl dX5_comment_109 ?_
            refine z_iconst (v := nI 0) hF dX5_comment_110 (by decide) ?_
            refine z_istore (lv' := [some (.ref w0), some (.int (nI a.toNatClampNeg)), some (.int (nI k.toNatClampNeg)), some (.int l), some (.int (nI m)), some (.int (nI 0))]) hF dX5_comment_111 rfl rfl ?_
            refine z_ws (ws' := [(w0, .inr (5, [.int (nI 0), .int (nI n), .ref w1, .int (nI v), .int (nI m), .ref w2, .ref w3, .ref w4, .ref w5, .ref w6, .ref w7, .ref w8, .ref w9, .ref w10, .ref w11, .int (nI j), .ref w12, .ref w13, .ref w14, .ref w15, .ref w16])), (w1, eI G 60 f), (w2, eI G 12 (upd b m a)), (w3, eI G 12 (upd e m k)), (w4, eI G 12 (upd s m l)), (w5, eZ G 12 (upd op m (nI 1))), (w7, eI G 720 (va_cpy f ql a.toNatClampNeg (m * 60) 0)), (w8, eI G 12 (upd qs m (nI (k.toNatClampNeg - a.toNatClampNeg)))), (w9, eI G 12 qa), (w10, eI G 12 qb), (w11, eI G 3612 tn)]) (by rw [cpy_z]) ?_
            have J_113 : ∀ (n9 : Nat) (i : Nat), k.toNatClampNeg - a.toNatClampNeg - i < n9 → (i ≤ k.toNatClampNeg - a.toNatClampNeg) → zJ G X 113 [(w0, .inr (5, [.int (nI 0), .int (nI n), .ref w1, .int (nI v), .int (nI m), .ref w2, .ref w3, .ref w4, .ref w5, .ref w6, .ref w7, .ref w8, .ref w9, .ref w10, .ref w11, .int (nI j), .ref w12, .ref w13, .ref w14, .ref w15, .ref w16])), (w1, eI G 60 f), (w2, eI G 12 (upd b m a)), (w3, eI G 12 (upd e m k)), (w4, eI G 12 (upd s m l)), (w5, eZ G 12 (upd op m (nI 1))), (w7, eI G 720 (va_cpy f ql a.toNatClampNeg (m * 60) i)), (w8, eI G 12 (upd qs m (nI (k.toNatClampNeg - a.toNatClampNeg)))), (w9, eI G 12 qa), (w10, eI G 12 qb), (w11, eI G 3612 tn)] [some (.ref w0), some (.int (nI a.toNatClampNeg)), some (.int (nI k.toNatClampNeg)), some (.int l), some (.int (nI m)), some (.int (nI i))] [] 0 0 := by
              intro n9
              induction n9 with
              | zero => intro i hmu; exact absurd hmu (Nat.not_lt_zero _)
              | succ n9 ih =>
                intro i hmu h2
                refine z_iload hF dX5_comment_113 rfl ?_
                refine z_aload_n hF dX5_comment_115 rfl ?_
                refine z_get (C := RX5) (T := TX5) (N := 21) (ci := 5) (v := .ref w8) hF k_0 11 (by decide) rfl k_7 rfl 0 rfl rfl dX5_comment_116 ?_
                refine z_iload hF dX5_comment_119 rfl ?_
                refine z_iald (k := m) hF 7 rfl (rfl) (by omega) rfl dX5_comment_121 ?_
                refine z_top (y := nI (k.toNatClampNeg - a.toNatClampNeg)) (pk_us) ?_
                refine z_icn_ge (tgt := 153) hF (by omega) (by omega) dX5_comment_122 (by decide) (fun c_6 => ?_) (fun c_6 => ?_)
                · refine z_ws (ws' := [(w0, .inr (5, [.int (nI 0), .int (nI n), .ref w1, .int (nI v), .int (nI m), .ref w2, .ref w3, .ref w4, .ref w5, .ref w6, .ref w7, .ref w8, .ref w9, .ref w10, .ref w11, .int (nI j), .ref w12, .ref w13, .ref w14, .ref w15, .ref w16])), (w1, eI G 60 f), (w2, eI G 12 (upd b m a)), (w3, eI G 12 (upd e m k)), (w4, eI G 12 (upd s m l)), (w5, eZ G 12 (upd op m (nI 1))), (w7, eI G 720 (va_cpy f ql a.toNatClampNeg (m * 60) (k.toNatClampNeg - a.toNatClampNeg))), (w8, eI G 12 (upd qs m (nI (k.toNatClampNeg - a.toNatClampNeg)))), (w9, eI G 12 qa), (w10, eI G 12 qb), (w11, eI G 3612 tn)]) (by rw [show i = k.toNatClampNeg - a.toNatClampNeg by omega]) ?_
                  refine z_aload_n hF dX5_comment_153 rfl ?_
                  refine z_get (C := RX5) (T := TX5) (N := 21) (ci := 5) (v := .ref w9) hF k_0 12 (by decide) rfl k_8 rfl 0 rfl rfl dX5_comment_154 ?_
                  refine z_iload hF dX5_comment_157 rfl ?_
                  refine z_aload_n hF dX5_comment_159 rfl ?_
                  refine z_iload_n hF dX5_comment_160 rfl ?_
                  refine z_iconst (v := nI 1) hF dX5_comment_161 (by decide) ?_
                  refine z_isub hF dX5_comment_162 ?_
                  refine z_V (As := [.int ((nI a.toNatClampNeg) - (nI 1))]) (rest := [.int (nI m), .ref w9]) (ws' := [(w0, .inr (5, [.int (nI 0), .int (nI n), .ref w1, .int (nI v), .int (nI m), .ref w2, .ref w3, .ref w4, .ref w5, .ref w6, .ref w7, .ref w8, .ref w9, .ref w10, .ref w11, .int (nI j), .ref w12, .ref w13, .ref w14, .ref w15, .ref w16])), (w1, eI G 60 f), (w2, eI G 12 (upd b m a)), (w3, eI G 12 (upd e m k)), (w4, eI G 12 (upd s m l)), (w5, eZ G 12 (upd op m (nI 1))), (w7, eI G 720 (va_cpy f ql a.toNatClampNeg (m * 60) (k.toNatClampNeg - a.toNatClampNeg))), (w8, eI G 12 (upd qs m (nI (k.toNatClampNeg - a.toNatClampNeg)))), (w9, eI G 12 qa), (w10, eI G 12 qb), (w11, eI G 3612 tn)]) (st2 := [.int (letF n f ((nI a.toNatClampNeg) - (nI 1))), .int (nI m), .ref w9]) (c2 := 0) (s2 := 0) hF (c_X5_letterOf G w0 w1 w2 w3 w4 w5 w6 w7 w8 w9 w10 w11 w12 w13 w14 w15 w16 n v m j (nI 0) f ((nI a.toNatClampNeg) - (nI 1)) (by first | assumption | omega)) gX5_comment_X5_letterOf rfl rfl rfl hd_X5_letterOf ⟨⟨Nat.le_of_ble_eq_true rfl, Nat.le_of_ble_eq_true rfl⟩, ⟨Nat.le_of_ble_eq_true rfl, Nat.le_of_ble_eq_true rfl⟩, Nat.le_of_ble_eq_true rfl⟩ [0, 1] rfl rfl 0 rfl rfl rfl rfl rfl rfl rfl rfl rfl rfl dX5_comment_163 ?_
                  refine z_iast (k := m) (ws' := [(w0, .inr (5, [.int (nI 0), .int (nI n), .ref w1, .int (nI v), .int (nI m), .ref w2, .ref w3, .ref w4, .ref w5, .ref w6, .ref w7, .ref w8, .ref w9, .ref w10, .ref w11, .int (nI j), .ref w12, .ref w13, .ref w14, .ref w15, .ref w16])), (w1, eI G 60 f), (w2, eI G 12 (upd b m a)), (w3, eI G 12 (upd e m k)), (w4, eI G 12 (upd s m l)), (w5, eZ G 12 (upd op m (nI 1))), (w7, eI G 720 (va_cpy f ql a.toNatClampNeg (m * 60) (k.toNatClampNeg - a.toNatClampNeg))), (w8, eI G 12 (upd qs m (nI (k.toNatClampNeg - a.toNatClampNeg)))), (w9, eI G 12 (upd qa m (letF n f ((nI a.toNatClampNeg) - (nI 1))))), (w10, eI G 12 qb), (w11, eI G 3612 tn)]) hF 8 rfl (rfl) (by omega) rfl rfl dX5_comment_166 ?_
                  refine z_aload_n hF dX5_comment_167 rfl ?_
                  refine z_get (C := RX5) (T := TX5) (N := 21) (ci := 5) (v := .ref w10) hF k_0 13 (by decide) rfl k_9 rfl 0 rfl rfl dX5_comment_168 ?_
                  refine z_iload hF dX5_comment_171 rfl ?_
                  refine z_aload_n hF dX5_comment_173 rfl ?_
                  refine z_iload_n hF dX5_comment_174 rfl ?_
                  refine z_V (As := [.int (nI k.toNatClampNeg)]) (rest := [.int (nI m), .ref w10]) (ws' := [(w0, .inr (5, [.int (nI 0), .int (nI n), .ref w1, .int (nI v), .int (nI m), .ref w2, .ref w3, .ref w4, .ref w5, .ref w6, .ref w7, .ref w8, .ref w9, .ref w10, .ref w11, .int (nI j), .ref w12, .ref w13, .ref w14, .ref w15, .ref w16])), (w1, eI G 60 f), (w2, eI G 12 (upd b m a)), (w3, eI G 12 (upd e m k)), (w4, eI G 12 (upd s m l)), (w5, eZ G 12 (upd op m (nI 1))), (w7, eI G 720 (va_cpy f ql a.toNatClampNeg (m * 60) (k.toNatClampNeg - a.toNatClampNeg))), (w8, eI G 12 (upd qs m (nI (k.toNatClampNeg - a.toNatClampNeg)))), (w9, eI G 12 (upd qa m (letF n f ((nI a.toNatClampNeg) - (nI 1))))), (w10, eI G 12 qb), (w11, eI G 3612 tn)]) (st2 := [.int (letF n f (nI k.toNatClampNeg)), .int (nI m), .ref w10]) (c2 := 0) (s2 := 0) hF (c_X5_letterOf G w0 w1 w2 w3 w4 w5 w6 w7 w8 w9 w10 w11 w12 w13 w14 w15 w16 n v m j (nI 0) f (nI k.toNatClampNeg) (by first | assumption | omega)) gX5_comment_X5_letterOf rfl rfl rfl hd_X5_letterOf ⟨⟨Nat.le_of_ble_eq_true rfl, Nat.le_of_ble_eq_true rfl⟩, ⟨Nat.le_of_ble_eq_true rfl, Nat.le_of_ble_eq_true rfl⟩, Nat.le_of_ble_eq_true rfl⟩ [0, 1] rfl rfl 0 rfl rfl rfl rfl rfl rfl rfl rfl rfl rfl dX5_comment_175 ?_
                  refine z_iast (k := m) (ws' := [(w0, .inr (5, [.int (nI 0), .int (nI n), .ref w1, .int (nI v), .int (nI m), .ref w2, .ref w3, .ref w4, .ref w5, .ref w6, .ref w7, .ref w8, .ref w9, .ref w10, .ref w11, .int (nI j), .ref w12, .ref w13, .ref w14, .ref w15, .ref w16])), (w1, eI G 60 f), (w2, eI G 12 (upd b m a)), (w3, eI G 12 (upd e m k)), (w4, eI G 12 (upd s m l)), (w5, eZ G 12 (upd op m (nI 1))), (w7, eI G 720 (va_cpy f ql a.toNatClampNeg (m * 60) (k.toNatClampNeg - a.toNatClampNeg))), (w8, eI G 12 (upd qs m (nI (k.toNatClampNeg - a.toNatClampNeg)))), (w9, eI G 12 (upd qa m (letF n f ((nI a.toNatClampNeg) - (nI 1))))), (w10, eI G 12 (upd qb m (letF n f (nI k.toNatClampNeg)))), (w11, eI G 3612 tn)]) hF 9 rfl (rfl) (by omega) rfl rfl dX5_comment_178 ?_
                  refine z_aload_n hF dX5_comment_179 rfl ?_
                  refine z_dup hF dX5_comment_180 rfl ?_
                  refine z_get (C := RX5) (T := TX5) (N := 21) (ci := 5) (v := .int (nI m)) hF k_0 4 (by decide) rfl k_2 rfl 0 rfl rfl dX5_comment_181 ?_
                  refine z_iconst (v := nI 1) hF dX5_comment_184 (by decide) ?_
                  refine z_iadd hF dX5_comment_185 ?_
                  refine z_top (nI_add m 1) ?_
                  refine z_put (C := RX5) (T := TX5) (N := 21) (ci := 5) (ws' := [(w0, .inr (5, [.int (nI 0), .int (nI n), .ref w1, .int (nI v), .int (nI (m + 1)), .ref w2, .ref w3, .ref w4, .ref w5, .ref w6, .ref w7, .ref w8, .ref w9, .ref w10, .ref w11, .int (nI j), .ref w12, .ref w13, .ref w14, .ref w15, .ref w16])), (w1, eI G 60 f), (w2, eI G 12 (upd b m a)), (w3, eI G 12 (upd e m k)), (w4, eI G 12 (upd s m l)), (w5, eZ G 12 (upd op m (nI 1))), (w7, eI G 720 (va_cpy f ql a.toNatClampNeg (m * 60) (k.toNatClampNeg - a.toNatClampNeg))), (w8, eI G 12 (upd qs m (nI (k.toNatClampNeg - a.toNatClampNeg)))), (w9, eI G 12 (upd qa m (letF n f ((nI a.toNatClampNeg) - (nI 1))))), (w10, eI G 12 (upd qb m (letF n f (nI k.toNatClampNeg)))), (w11, eI G 3612 tn)]) hF k_0 tyX5 tyX5_ok nmX5 4 (by decide) rfl k_2 rfl rfl rfl rfl 0 rfl rfl rfl dX5_comment_186 ?_
                  refine z_aload_n hF dX5_comment_189 rfl ?_
                  refine z_V (As := []) (rest := []) (ws' := [(w0, .inr (5, [.int (nI 0), .int (nI n), .ref w1, .int (nI v), .int (nI (m + 1)), .ref w2, .ref w3, .ref w4, .ref w5, .ref w6, .ref w7, .ref w8, .ref w9, .ref w10, .ref w11, .int (nI j), .ref w12, .ref w13, .ref w14, .ref w15, .ref w16])), (w1, eI G 60 f), (w2, eI G 12 (upd b m a)), (w3, eI G 12 (upd e m k)), (w4, eI G 12 (upd s m l)), (w5, eZ G 12 (upd op m (nI 1))), (w7, eI G 720 (va_cpy f ql a.toNatClampNeg (m * 60) (k.toNatClampNeg - a.toNatClampNeg))), (w8, eI G 12 (upd qs m (nI (k.toNatClampNeg - a.toNatClampNeg)))), (w9, eI G 12 (upd qa m (letF n f ((nI a.toNatClampNeg) - (nI 1))))), (w10, eI G 12 (upd qb m (letF n f (nI k.toNatClampNeg)))), (w11, eI G 3612 (wrF tn (v * 12) 12 (fun kk => if kk < (m + 1) then numF ((upd b m a) kk) ((upd e m k) kk) else -1)))]) (st2 := []) (c2 := 0) (s2 := 0) hF (c_X5_keeps G w0 w1 w2 w3 w4 w5 w6 w7 w8 w9 w10 w11 w12 w13 w14 w15 w16 n v (m + 1) j (nI 0) (upd b m a) (upd e m k) tn (by first | assumption | omega) (by first | assumption | omega)) gX5_comment_X5_keeps rfl rfl rfl hd_X5_keeps ⟨⟨Nat.le_of_ble_eq_true rfl, Nat.le_of_ble_eq_true rfl⟩, ⟨Nat.le_of_ble_eq_true rfl, Nat.le_of_ble_eq_true rfl⟩, Nat.le_of_ble_eq_true rfl⟩ [0, 2, 3, 10] rfl rfl 0 rfl rfl rfl rfl rfl rfl rfl rfl rfl rfl dX5_comment_190 ?_
                  refine z_iload hF dX5_comment_193 rfl ?_
                  exact hR.i dX5_comment_195 (Nat.le_of_ble_eq_true rfl) (Nat.le_of_ble_eq_true rfl) (rfl) (rfl)
                · refine z_aload_n hF dX5_comment_125 rfl ?_
                  refine z_get (C := RX5) (T := TX5) (N := 21) (ci := 5) (v := .ref w7) hF k_0 10 (by decide) rfl k_10 rfl 0 rfl rfl dX5_comment_126 ?_
                  refine z_bipush (v := nI 60) hF dX5_comment_129 (by decide) ?_
                  refine z_iload hF dX5_comment_131 rfl ?_
                  refine z_imul hF dX5_comment_133 ?_
                  refine z_top (pk_mul 60 m) ?_
                  refine z_iload hF dX5_comment_134 rfl ?_
                  refine z_iadd hF dX5_comment_136 ?_
                  refine z_top (nI_add (60 * m) i) ?_
                  refine z_aload_n hF dX5_comment_137 rfl ?_
                  refine z_get (C := RX5) (T := TX5) (N := 21) (ci := 5) (v := .ref w1) hF k_0 2 (by decide) rfl k_11 rfl 0 rfl rfl dX5_comment_138 ?_
                  refine z_iload_n hF dX5_comment_141 rfl ?_
                  refine z_iload hF dX5_comment_142 rfl ?_
                  refine z_iadd hF dX5_comment_144 ?_
                  refine z_top (nI_add a.toNatClampNeg i) ?_
                  refine z_iald (k := a.toNatClampNeg + i) hF 1 rfl (rfl) (by omega) rfl dX5_comment_145 ?_
                  refine z_iast (k := m * 60 + i) (ws' := [(w0, .inr (5, [.int (nI 0), .int (nI n), .ref w1, .int (nI v), .int (nI m), .ref w2, .ref w3, .ref w4, .ref w5, .ref w6, .ref w7, .ref w8, .ref w9, .ref w10, .ref w11, .int (nI j), .ref w12, .ref w13, .ref w14, .ref w15, .ref w16])), (w1, eI G 60 f), (w2, eI G 12 (upd b m a)), (w3, eI G 12 (upd e m k)), (w4, eI G 12 (upd s m l)), (w5, eZ G 12 (upd op m (nI 1))), (w7, eI G 720 (upd (va_cpy f ql a.toNatClampNeg (m * 60) i) (m * 60 + i) (f (a.toNatClampNeg + i)))), (w8, eI G 12 (upd qs m (nI (k.toNatClampNeg - a.toNatClampNeg)))), (w9, eI G 12 qa), (w10, eI G 12 qb), (w11, eI G 3612 tn)]) hF 6 rfl (by rw [Nat.mul_comm 60 m]) (by omega) rfl rfl dX5_comment_146 ?_
                  refine z_ws (ws' := [(w0, .inr (5, [.int (nI 0), .int (nI n), .ref w1, .int (nI v), .int (nI m), .ref w2, .ref w3, .ref w4, .ref w5, .ref w6, .ref w7, .ref w8, .ref w9, .ref w10, .ref w11, .int (nI j), .ref w12, .ref w13, .ref w14, .ref w15, .ref w16])), (w1, eI G 60 f), (w2, eI G 12 (upd b m a)), (w3, eI G 12 (upd e m k)), (w4, eI G 12 (upd s m l)), (w5, eZ G 12 (upd op m (nI 1))), (w7, eI G 720 (va_cpy f ql a.toNatClampNeg (m * 60) (i + 1))), (w8, eI G 12 (upd qs m (nI (k.toNatClampNeg - a.toNatClampNeg)))), (w9, eI G 12 qa), (w10, eI G 12 qb), (w11, eI G 3612 tn)]) (by rw [cpy_g]) ?_
                  refine z_iinc (v := nI (i + 1)) (lv' := [some (.ref w0), some (.int (nI a.toNatClampNeg)), some (.int (nI k.toNatClampNeg)), some (.int l), some (.int (nI m)), some (.int (nI (i + 1)))]) hF dX5_comment_147 rfl (nI_1 i) rfl rfl ?_
                  refine z_goto (tgt := 113) hF dX5_comment_150 (by decide) ?_
                  exact ih (i + 1) (by omega) (by omega)
            exact J_113 ((k.toNatClampNeg - a.toNatClampNeg - 0) + 1) 0 (Nat.lt_succ_self _) (by omega)
          · exact absurd hc (by (try simp only [fz]); grind)
        · exact absurd hc (by (try simp only [fz]); grind)
    · exact absurd hc (by (try simp only [fz]); grind)
set_option maxHeartbeats 4000000 in
set_option maxRecDepth 100000 in
theorem c_X5_answer_f (G : zG) (w0 w1 w2 w3 w4 w5 w6 w7 w8 w9 w10 w11 w12 w13 w14 w15 w16 n v m j : Nat) (th : Int32) (op : Nat → Int32) (an : Nat → Int32) (a : Int32) (hm : m ≤ 12) (hc : ¬ (cmC m a) = 0) : zM G yX5_answer wsX5_answer ({ frames := 2, cells := 0, slots := 0, locals := 55 }) [.ref w0, .int a] [(w0, .inr (5, [.int th, .int (nI n), .ref w1, .int (nI v), .int (nI m), .ref w2, .ref w3, .ref w4, .ref w5, .ref w6, .ref w7, .ref w8, .ref w9, .ref w10, .ref w11, .int (nI j), .ref w12, .ref w13, .ref w14, .ref w15, .ref w16])), (w5, eZ G 12 op), (w6, eI G 12 an)] [(w0, .inr (5, [.int (nI (cmC m a)), .int (nI n), .ref w1, .int (nI v), .int (nI m), .ref w2, .ref w3, .ref w4, .ref w5, .ref w6, .ref w7, .ref w8, .ref w9, .ref w10, .ref w11, .int (nI j), .ref w12, .ref w13, .ref w14, .ref w15, .ref w16])), (w5, eZ G 12 op), (w6, eI G 12 an)] (some (.int (nI 0))) 0 0 := by
  refine zM.ofI (own := RX5) (cc := cX5_answer) (maxL := 2) rfl (by decide) rfl rfl (by simp [Value.category]) (Nat.le_of_ble_eq_true rfl) ?_
  intro X hF hR
  have k_0 : ∀ w ∈ wsX50, w ∈ wsX5_answer := by decide +kernel
  have k_1 : zH X (.fieldLink RX5 62 "MarginDeskModel" "thrown" "I") := hF.w (by decide +kernel)
  refine z_lv (lv' := [some (.ref w0), some (.int a)]) rfl ?_
  have d_0 := cmC_d m a
  refine z_aload_n hF dX5_answer_0 rfl ?_
  refine z_iconst (v := nI 0) hF dX5_answer_1 (by decide) ?_
  refine z_put (C := RX5) (T := TX5) (N := 21) (ci := 5) (ws' := [(w0, .inr (5, [.int (nI 0), .int (nI n), .ref w1, .int (nI v), .int (nI m), .ref w2, .ref w3, .ref w4, .ref w5, .ref w6, .ref w7, .ref w8, .ref w9, .ref w10, .ref w11, .int (nI j), .ref w12, .ref w13, .ref w14, .ref w15, .ref w16])), (w5, eZ G 12 op), (w6, eI G 12 an)]) hF k_0 tyX5 tyX5_ok nmX5 0 (by decide) rfl k_1 rfl rfl rfl rfl 0 rfl rfl rfl dX5_answer_2 ?_
  refine z_aload_n hF dX5_answer_5 rfl ?_
  refine z_iload_n hF dX5_answer_6 rfl ?_
  refine z_V (As := [.int a]) (rest := []) (ws' := [(w0, .inr (5, [.int (nI 0), .int (nI n), .ref w1, .int (nI v), .int (nI m), .ref w2, .ref w3, .ref w4, .ref w5, .ref w6, .ref w7, .ref w8, .ref w9, .ref w10, .ref w11, .int (nI j), .ref w12, .ref w13, .ref w14, .ref w15, .ref w16])), (w5, eZ G 12 op), (w6, eI G 12 an)]) (st2 := [.int (zb (cmC m a = 0))]) (c2 := 0) (s2 := 0) hF (c_X5_isComment G w0 w1 w2 w3 w4 w5 w6 w7 w8 w9 w10 w11 w12 w13 w14 w15 w16 n v m j (nI 0) a (by first | assumption | omega)) gX5_answer_X5_isComment rfl rfl rfl hd_X5_isComment ⟨⟨Nat.le_of_ble_eq_true rfl, Nat.le_of_ble_eq_true rfl⟩, ⟨Nat.le_of_ble_eq_true rfl, Nat.le_of_ble_eq_true rfl⟩, Nat.le_of_ble_eq_true rfl⟩ [0] rfl rfl 0 rfl rfl rfl rfl rfl rfl rfl rfl rfl rfl dX5_answer_7 ?_
  refine z_if_ne_b (tgt := 19) hF dX5_answer_10 (by decide) (fun c_1 => ?_) (fun c_1 => ?_)
  · exact absurd (by (try simp only [fz]); grind : (cmC m a) = 0) hc
  · refine z_aload_n hF dX5_answer_13 rfl ?_
    refine z_iconst (v := nI 1) hF dX5_answer_14 (by decide) ?_
    refine z_V (As := [.int (nI 1)]) (rest := []) (ws' := [(w0, .inr (5, [.int (nI 1), .int (nI n), .ref w1, .int (nI v), .int (nI m), .ref w2, .ref w3, .ref w4, .ref w5, .ref w6, .ref w7, .ref w8, .ref w9, .ref w10, .ref w11, .int (nI j), .ref w12, .ref w13, .ref w14, .ref w15, .ref w16])), (w5, eZ G 12 op), (w6, eI G 12 an)]) (st2 := [.int (nI 0)]) (c2 := 0) (s2 := 0) hF (c_X5_fails G w0 w1 w2 w3 w4 w5 w6 w7 w8 w9 w10 w11 w12 w13 w14 w15 w16 n v m j (nI 0) (nI 1)) gX5_answer_X5_fails rfl rfl rfl hd_X5_fails ⟨⟨Nat.le_of_ble_eq_true rfl, Nat.le_of_ble_eq_true rfl⟩, ⟨Nat.le_of_ble_eq_true rfl, Nat.le_of_ble_eq_true rfl⟩, Nat.le_of_ble_eq_true rfl⟩ [0] rfl rfl 0 rfl rfl rfl rfl rfl rfl rfl rfl rfl rfl dX5_answer_15 ?_
    exact hR.i dX5_answer_18 (Nat.le_of_ble_eq_true rfl) (Nat.le_of_ble_eq_true rfl) (by rw [show (cmC m a) = 1 from (by (try simp only [fz]); grind)]) (rfl)
set_option maxHeartbeats 4000000 in
set_option maxRecDepth 100000 in
theorem c_X5_answer_k (G : zG) (w0 w1 w2 w3 w4 w5 w6 w7 w8 w9 w10 w11 w12 w13 w14 w15 w16 n v m j : Nat) (th : Int32) (op : Nat → Int32) (an : Nat → Int32) (a : Int32) (hm : m ≤ 12) (hc : (cmC m a) = 0) : zM G yX5_answer wsX5_answer ({ frames := 2, cells := 0, slots := 0, locals := 55 }) [.ref w0, .int a] [(w0, .inr (5, [.int th, .int (nI n), .ref w1, .int (nI v), .int (nI m), .ref w2, .ref w3, .ref w4, .ref w5, .ref w6, .ref w7, .ref w8, .ref w9, .ref w10, .ref w11, .int (nI j), .ref w12, .ref w13, .ref w14, .ref w15, .ref w16])), (w5, eZ G 12 op), (w6, eI G 12 an)] [(w0, .inr (5, [.int (nI 0), .int (nI n), .ref w1, .int (nI v), .int (nI m), .ref w2, .ref w3, .ref w4, .ref w5, .ref w6, .ref w7, .ref w8, .ref w9, .ref w10, .ref w11, .int (nI j), .ref w12, .ref w13, .ref w14, .ref w15, .ref w16])), (w5, eZ G 12 (upd op a.toNatClampNeg (nI 1))), (w6, eI G 12 (upd an a.toNatClampNeg (an a.toNatClampNeg + nI 1)))] (some (.int (an a.toNatClampNeg + nI 1))) 0 0 := by
  refine zM.ofI (own := RX5) (cc := cX5_answer) (maxL := 2) rfl (by decide) rfl rfl (by simp [Value.category]) (Nat.le_of_ble_eq_true rfl) ?_
  intro X hF hR
  have k_0 : ∀ w ∈ wsX50, w ∈ wsX5_answer := by decide +kernel
  have k_1 : zH X (.fieldLink RX5 62 "MarginDeskModel" "thrown" "I") := hF.w (by decide +kernel)
  have k_2 : zH X (.fieldLink RX5 22 "MarginDeskModel" "open" "[Z") := hF.w (by decide +kernel)
  have k_3 : zH X (.fieldLink RX5 26 "MarginDeskModel" "answers" "[I") := hF.w (by decide +kernel)
  refine z_lv (lv' := [some (.ref w0), some (.int a)]) rfl ?_
  have d_0 := cmC_d m a
  refine z_aload_n hF dX5_answer_0 rfl ?_
  refine z_iconst (v := nI 0) hF dX5_answer_1 (by decide) ?_
  refine z_put (C := RX5) (T := TX5) (N := 21) (ci := 5) (ws' := [(w0, .inr (5, [.int (nI 0), .int (nI n), .ref w1, .int (nI v), .int (nI m), .ref w2, .ref w3, .ref w4, .ref w5, .ref w6, .ref w7, .ref w8, .ref w9, .ref w10, .ref w11, .int (nI j), .ref w12, .ref w13, .ref w14, .ref w15, .ref w16])), (w5, eZ G 12 op), (w6, eI G 12 an)]) hF k_0 tyX5 tyX5_ok nmX5 0 (by decide) rfl k_1 rfl rfl rfl rfl 0 rfl rfl rfl dX5_answer_2 ?_
  refine z_aload_n hF dX5_answer_5 rfl ?_
  refine z_iload_n hF dX5_answer_6 rfl ?_
  refine z_V (As := [.int a]) (rest := []) (ws' := [(w0, .inr (5, [.int (nI 0), .int (nI n), .ref w1, .int (nI v), .int (nI m), .ref w2, .ref w3, .ref w4, .ref w5, .ref w6, .ref w7, .ref w8, .ref w9, .ref w10, .ref w11, .int (nI j), .ref w12, .ref w13, .ref w14, .ref w15, .ref w16])), (w5, eZ G 12 op), (w6, eI G 12 an)]) (st2 := [.int (zb (cmC m a = 0))]) (c2 := 0) (s2 := 0) hF (c_X5_isComment G w0 w1 w2 w3 w4 w5 w6 w7 w8 w9 w10 w11 w12 w13 w14 w15 w16 n v m j (nI 0) a (by first | assumption | omega)) gX5_answer_X5_isComment rfl rfl rfl hd_X5_isComment ⟨⟨Nat.le_of_ble_eq_true rfl, Nat.le_of_ble_eq_true rfl⟩, ⟨Nat.le_of_ble_eq_true rfl, Nat.le_of_ble_eq_true rfl⟩, Nat.le_of_ble_eq_true rfl⟩ [0] rfl rfl 0 rfl rfl rfl rfl rfl rfl rfl rfl rfl rfl dX5_answer_7 ?_
  refine z_if_ne_b (tgt := 19) hF dX5_answer_10 (by decide) (fun c_1 => ?_) (fun c_1 => ?_)
  · have ha := cmC_0 (by omega) hc
    refine z_lv (lv' := [some (.ref w0), some (.int (nI a.toNatClampNeg))]) (by rw [← ha.1]) ?_
    refine z_aload_n hF dX5_answer_19 rfl ?_
    refine z_get (C := RX5) (T := TX5) (N := 21) (ci := 5) (v := .ref w5) hF k_0 8 (by decide) rfl k_2 rfl 0 rfl rfl dX5_answer_20 ?_
    refine z_iload_n hF dX5_answer_23 rfl ?_
    refine z_iconst (v := nI 1) hF dX5_answer_24 (by decide) ?_
    refine z_zast (k := a.toNatClampNeg) (ws' := [(w0, .inr (5, [.int (nI 0), .int (nI n), .ref w1, .int (nI v), .int (nI m), .ref w2, .ref w3, .ref w4, .ref w5, .ref w6, .ref w7, .ref w8, .ref w9, .ref w10, .ref w11, .int (nI j), .ref w12, .ref w13, .ref w14, .ref w15, .ref w16])), (w5, eZ G 12 (upd op a.toNatClampNeg (nI 1))), (w6, eI G 12 an)]) hF 1 rfl (rfl) (by omega) rfl (by decide) rfl dX5_answer_25 ?_
    refine z_aload_n hF dX5_answer_26 rfl ?_
    refine z_get (C := RX5) (T := TX5) (N := 21) (ci := 5) (v := .ref w6) hF k_0 9 (by decide) rfl k_3 rfl 0 rfl rfl dX5_answer_27 ?_
    refine z_iload_n hF dX5_answer_30 rfl ?_
    refine z_dup2 hF dX5_answer_31 rfl rfl ?_
    refine z_iald (k := a.toNatClampNeg) hF 2 rfl (rfl) (by omega) rfl dX5_answer_32 ?_
    refine z_iconst (v := nI 1) hF dX5_answer_33 (by decide) ?_
    refine z_iadd hF dX5_answer_34 ?_
    refine z_iast (k := a.toNatClampNeg) (ws' := [(w0, .inr (5, [.int (nI 0), .int (nI n), .ref w1, .int (nI v), .int (nI m), .ref w2, .ref w3, .ref w4, .ref w5, .ref w6, .ref w7, .ref w8, .ref w9, .ref w10, .ref w11, .int (nI j), .ref w12, .ref w13, .ref w14, .ref w15, .ref w16])), (w5, eZ G 12 (upd op a.toNatClampNeg (nI 1))), (w6, eI G 12 (upd an a.toNatClampNeg ((an a.toNatClampNeg) + (nI 1))))]) hF 2 rfl (rfl) (by omega) rfl rfl dX5_answer_35 ?_
    refine z_aload_n hF dX5_answer_36 rfl ?_
    refine z_get (C := RX5) (T := TX5) (N := 21) (ci := 5) (v := .ref w6) hF k_0 9 (by decide) rfl k_3 rfl 0 rfl rfl dX5_answer_37 ?_
    refine z_iload_n hF dX5_answer_40 rfl ?_
    refine z_iald (k := a.toNatClampNeg) hF 2 rfl (rfl) (by omega) rfl dX5_answer_41 ?_
    refine z_top (y := an a.toNatClampNeg + nI 1) (pk_us) ?_
    exact hR.i dX5_answer_42 (Nat.le_of_ble_eq_true rfl) (Nat.le_of_ble_eq_true rfl) (rfl) (rfl)
  · exact absurd hc (by (try simp only [fz]); grind)
set_option maxHeartbeats 4000000 in
set_option maxRecDepth 100000 in
theorem c_X5_rangeOf_f (G : zG) (w0 w1 w2 w3 w4 w5 w6 w7 w8 w9 w10 w11 w12 w13 w14 w15 w16 n v m j : Nat) (th : Int32) (b : Nat → Int32) (e : Nat → Int32) (a : Int32) (hm : m ≤ 12) (hc : ¬ (cmC m a) = 0) : zM G yX5_rangeOf wsX5_rangeOf ({ frames := 2, cells := 0, slots := 0, locals := 55 }) [.ref w0, .int a] [(w0, .inr (5, [.int th, .int (nI n), .ref w1, .int (nI v), .int (nI m), .ref w2, .ref w3, .ref w4, .ref w5, .ref w6, .ref w7, .ref w8, .ref w9, .ref w10, .ref w11, .int (nI j), .ref w12, .ref w13, .ref w14, .ref w15, .ref w16])), (w2, eI G 12 b), (w3, eI G 12 e)] [(w0, .inr (5, [.int (nI (cmC m a)), .int (nI n), .ref w1, .int (nI v), .int (nI m), .ref w2, .ref w3, .ref w4, .ref w5, .ref w6, .ref w7, .ref w8, .ref w9, .ref w10, .ref w11, .int (nI j), .ref w12, .ref w13, .ref w14, .ref w15, .ref w16])), (w2, eI G 12 b), (w3, eI G 12 e)] (some (.int (nI 0))) 0 0 := by
  refine zM.ofI (own := RX5) (cc := cX5_rangeOf) (maxL := 2) rfl (by decide) rfl rfl (by simp [Value.category]) (Nat.le_of_ble_eq_true rfl) ?_
  intro X hF hR
  have k_0 : ∀ w ∈ wsX50, w ∈ wsX5_rangeOf := by decide +kernel
  have k_1 : zH X (.fieldLink RX5 62 "MarginDeskModel" "thrown" "I") := hF.w (by decide +kernel)
  refine z_lv (lv' := [some (.ref w0), some (.int a)]) rfl ?_
  have d_0 := cmC_d m a
  refine z_aload_n hF dX5_rangeOf_0 rfl ?_
  refine z_iconst (v := nI 0) hF dX5_rangeOf_1 (by decide) ?_
  refine z_put (C := RX5) (T := TX5) (N := 21) (ci := 5) (ws' := [(w0, .inr (5, [.int (nI 0), .int (nI n), .ref w1, .int (nI v), .int (nI m), .ref w2, .ref w3, .ref w4, .ref w5, .ref w6, .ref w7, .ref w8, .ref w9, .ref w10, .ref w11, .int (nI j), .ref w12, .ref w13, .ref w14, .ref w15, .ref w16])), (w2, eI G 12 b), (w3, eI G 12 e)]) hF k_0 tyX5 tyX5_ok nmX5 0 (by decide) rfl k_1 rfl rfl rfl rfl 0 rfl rfl rfl dX5_rangeOf_2 ?_
  refine z_aload_n hF dX5_rangeOf_5 rfl ?_
  refine z_iload_n hF dX5_rangeOf_6 rfl ?_
  refine z_V (As := [.int a]) (rest := []) (ws' := [(w0, .inr (5, [.int (nI 0), .int (nI n), .ref w1, .int (nI v), .int (nI m), .ref w2, .ref w3, .ref w4, .ref w5, .ref w6, .ref w7, .ref w8, .ref w9, .ref w10, .ref w11, .int (nI j), .ref w12, .ref w13, .ref w14, .ref w15, .ref w16])), (w2, eI G 12 b), (w3, eI G 12 e)]) (st2 := [.int (zb (cmC m a = 0))]) (c2 := 0) (s2 := 0) hF (c_X5_isComment G w0 w1 w2 w3 w4 w5 w6 w7 w8 w9 w10 w11 w12 w13 w14 w15 w16 n v m j (nI 0) a (by first | assumption | omega)) gX5_rangeOf_X5_isComment rfl rfl rfl hd_X5_isComment ⟨⟨Nat.le_of_ble_eq_true rfl, Nat.le_of_ble_eq_true rfl⟩, ⟨Nat.le_of_ble_eq_true rfl, Nat.le_of_ble_eq_true rfl⟩, Nat.le_of_ble_eq_true rfl⟩ [0] rfl rfl 0 rfl rfl rfl rfl rfl rfl rfl rfl rfl rfl dX5_rangeOf_7 ?_
  refine z_if_eq_b (tgt := 21) hF dX5_rangeOf_10 (by decide) (fun c_1 => ?_) (fun c_1 => ?_)
  · refine z_aload_n hF dX5_rangeOf_21 rfl ?_
    refine z_iconst (v := nI 1) hF dX5_rangeOf_22 (by decide) ?_
    refine z_V (As := [.int (nI 1)]) (rest := []) (ws' := [(w0, .inr (5, [.int (nI 1), .int (nI n), .ref w1, .int (nI v), .int (nI m), .ref w2, .ref w3, .ref w4, .ref w5, .ref w6, .ref w7, .ref w8, .ref w9, .ref w10, .ref w11, .int (nI j), .ref w12, .ref w13, .ref w14, .ref w15, .ref w16])), (w2, eI G 12 b), (w3, eI G 12 e)]) (st2 := [.int (nI 0)]) (c2 := 0) (s2 := 0) hF (c_X5_fails G w0 w1 w2 w3 w4 w5 w6 w7 w8 w9 w10 w11 w12 w13 w14 w15 w16 n v m j (nI 0) (nI 1)) gX5_rangeOf_X5_fails rfl rfl rfl hd_X5_fails ⟨⟨Nat.le_of_ble_eq_true rfl, Nat.le_of_ble_eq_true rfl⟩, ⟨Nat.le_of_ble_eq_true rfl, Nat.le_of_ble_eq_true rfl⟩, Nat.le_of_ble_eq_true rfl⟩ [0] rfl rfl 0 rfl rfl rfl rfl rfl rfl rfl rfl rfl rfl dX5_rangeOf_23 ?_
    exact hR.i dX5_rangeOf_26 (Nat.le_of_ble_eq_true rfl) (Nat.le_of_ble_eq_true rfl) (by rw [show (cmC m a) = 1 from (by (try simp only [fz]); grind)]) (rfl)
  · exact absurd (by (try simp only [fz]); grind : (cmC m a) = 0) hc
set_option maxHeartbeats 4000000 in
set_option maxRecDepth 100000 in
theorem c_X5_rangeOf_k (G : zG) (w0 w1 w2 w3 w4 w5 w6 w7 w8 w9 w10 w11 w12 w13 w14 w15 w16 n v m j : Nat) (th : Int32) (b : Nat → Int32) (e : Nat → Int32) (a : Int32) (hm : m ≤ 12) (hc : (cmC m a) = 0) : zM G yX5_rangeOf wsX5_rangeOf ({ frames := 2, cells := 0, slots := 0, locals := 55 }) [.ref w0, .int a] [(w0, .inr (5, [.int th, .int (nI n), .ref w1, .int (nI v), .int (nI m), .ref w2, .ref w3, .ref w4, .ref w5, .ref w6, .ref w7, .ref w8, .ref w9, .ref w10, .ref w11, .int (nI j), .ref w12, .ref w13, .ref w14, .ref w15, .ref w16])), (w2, eI G 12 b), (w3, eI G 12 e)] [(w0, .inr (5, [.int (nI 0), .int (nI n), .ref w1, .int (nI v), .int (nI m), .ref w2, .ref w3, .ref w4, .ref w5, .ref w6, .ref w7, .ref w8, .ref w9, .ref w10, .ref w11, .int (nI j), .ref w12, .ref w13, .ref w14, .ref w15, .ref w16])), (w2, eI G 12 b), (w3, eI G 12 e)] (some (.int (numF (b a.toNatClampNeg) (e a.toNatClampNeg)))) 0 0 := by
  refine zM.ofI (own := RX5) (cc := cX5_rangeOf) (maxL := 2) rfl (by decide) rfl rfl (by simp [Value.category]) (Nat.le_of_ble_eq_true rfl) ?_
  intro X hF hR
  have k_0 : ∀ w ∈ wsX50, w ∈ wsX5_rangeOf := by decide +kernel
  have k_1 : zH X (.fieldLink RX5 62 "MarginDeskModel" "thrown" "I") := hF.w (by decide +kernel)
  refine z_lv (lv' := [some (.ref w0), some (.int a)]) rfl ?_
  have d_0 := cmC_d m a
  refine z_aload_n hF dX5_rangeOf_0 rfl ?_
  refine z_iconst (v := nI 0) hF dX5_rangeOf_1 (by decide) ?_
  refine z_put (C := RX5) (T := TX5) (N := 21) (ci := 5) (ws' := [(w0, .inr (5, [.int (nI 0), .int (nI n), .ref w1, .int (nI v), .int (nI m), .ref w2, .ref w3, .ref w4, .ref w5, .ref w6, .ref w7, .ref w8, .ref w9, .ref w10, .ref w11, .int (nI j), .ref w12, .ref w13, .ref w14, .ref w15, .ref w16])), (w2, eI G 12 b), (w3, eI G 12 e)]) hF k_0 tyX5 tyX5_ok nmX5 0 (by decide) rfl k_1 rfl rfl rfl rfl 0 rfl rfl rfl dX5_rangeOf_2 ?_
  refine z_aload_n hF dX5_rangeOf_5 rfl ?_
  refine z_iload_n hF dX5_rangeOf_6 rfl ?_
  refine z_V (As := [.int a]) (rest := []) (ws' := [(w0, .inr (5, [.int (nI 0), .int (nI n), .ref w1, .int (nI v), .int (nI m), .ref w2, .ref w3, .ref w4, .ref w5, .ref w6, .ref w7, .ref w8, .ref w9, .ref w10, .ref w11, .int (nI j), .ref w12, .ref w13, .ref w14, .ref w15, .ref w16])), (w2, eI G 12 b), (w3, eI G 12 e)]) (st2 := [.int (zb (cmC m a = 0))]) (c2 := 0) (s2 := 0) hF (c_X5_isComment G w0 w1 w2 w3 w4 w5 w6 w7 w8 w9 w10 w11 w12 w13 w14 w15 w16 n v m j (nI 0) a (by first | assumption | omega)) gX5_rangeOf_X5_isComment rfl rfl rfl hd_X5_isComment ⟨⟨Nat.le_of_ble_eq_true rfl, Nat.le_of_ble_eq_true rfl⟩, ⟨Nat.le_of_ble_eq_true rfl, Nat.le_of_ble_eq_true rfl⟩, Nat.le_of_ble_eq_true rfl⟩ [0] rfl rfl 0 rfl rfl rfl rfl rfl rfl rfl rfl rfl rfl dX5_rangeOf_7 ?_
  refine z_if_eq_b (tgt := 21) hF dX5_rangeOf_10 (by decide) (fun c_1 => ?_) (fun c_1 => ?_)
  · exact absurd hc (by (try simp only [fz]); grind)
  · have ha := cmC_0 (by omega) hc
    refine z_lv (lv' := [some (.ref w0), some (.int (nI a.toNatClampNeg))]) (by rw [← ha.1]) ?_
    refine z_aload_n hF dX5_rangeOf_13 rfl ?_
    refine z_iload_n hF dX5_rangeOf_14 rfl ?_
    refine z_V (As := [.int (nI a.toNatClampNeg)]) (rest := []) (ws' := [(w0, .inr (5, [.int (nI 0), .int (nI n), .ref w1, .int (nI v), .int (nI m), .ref w2, .ref w3, .ref w4, .ref w5, .ref w6, .ref w7, .ref w8, .ref w9, .ref w10, .ref w11, .int (nI j), .ref w12, .ref w13, .ref w14, .ref w15, .ref w16])), (w2, eI G 12 b), (w3, eI G 12 e)]) (st2 := [.int (if a.toNatClampNeg < m then numF (b a.toNatClampNeg) (e a.toNatClampNeg) else -1)]) (c2 := 0) (s2 := 0) hF (c_X5_told G w0 w1 w2 w3 w4 w5 w6 w7 w8 w9 w10 w11 w12 w13 w14 w15 w16 n v m j (nI 0) b e a.toNatClampNeg (by first | assumption | omega) (by first | assumption | omega)) gX5_rangeOf_X5_told rfl rfl rfl hd_X5_told ⟨⟨Nat.le_of_ble_eq_true rfl, Nat.le_of_ble_eq_true rfl⟩, ⟨Nat.le_of_ble_eq_true rfl, Nat.le_of_ble_eq_true rfl⟩, Nat.le_of_ble_eq_true rfl⟩ [0, 1, 2] rfl rfl 0 rfl rfl rfl rfl rfl rfl rfl rfl rfl rfl dX5_rangeOf_15 ?_
    refine z_goto (tgt := 26) hF dX5_rangeOf_18 (by decide) ?_
    exact hR.i dX5_rangeOf_26 (Nat.le_of_ble_eq_true rfl) (Nat.le_of_ble_eq_true rfl) (rfl) (by rw [if_pos (by omega)])
