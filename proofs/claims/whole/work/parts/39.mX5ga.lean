set_option maxHeartbeats 4000000 in
set_option maxRecDepth 100000 in
theorem c_X5_fit (G : zG) (w0 w1 w2 w3 w4 w5 w6 w7 w8 w9 w10 w11 w12 w13 w14 w15 w16 n v m j : Nat) (th : Int32) (f : Nat → Int32) (ql : Nat → Int32) (qs : Nat → Int32) (qa : Nat → Int32) (qb : Nat → Int32) (c p z : Nat) (hn : n ≤ 60) (hcc : c < 12) (hp : p < n) (hz : qs c = nI z) (hz2 : z ≤ 60) : zM G yX5_fit wsX5_fit ({ frames := 2, cells := 0, slots := 0, locals := 55 }) [.ref w0, .int (nI c), .int (nI p)] [(w0, .inr (5, [.int th, .int (nI n), .ref w1, .int (nI v), .int (nI m), .ref w2, .ref w3, .ref w4, .ref w5, .ref w6, .ref w7, .ref w8, .ref w9, .ref w10, .ref w11, .int (nI j), .ref w12, .ref w13, .ref w14, .ref w15, .ref w16])), (w1, eI G 60 f), (w7, eI G 720 ql), (w8, eI G 12 qs), (w9, eI G 12 qa), (w10, eI G 12 qb)] [(w0, .inr (5, [.int th, .int (nI n), .ref w1, .int (nI v), .int (nI m), .ref w2, .ref w3, .ref w4, .ref w5, .ref w6, .ref w7, .ref w8, .ref w9, .ref w10, .ref w11, .int (nI j), .ref w12, .ref w13, .ref w14, .ref w15, .ref w16])), (w1, eI G 60 f), (w7, eI G 720 ql), (w8, eI G 12 qs), (w9, eI G 12 qa), (w10, eI G 12 qb)] (some (.int (fiM n z c ql qa qb f p))) 0 0 := by
  refine zM.ofI (own := RX5) (cc := cX5_fit) (maxL := 5) rfl (by decide) rfl rfl (by simp [Value.category]) (Nat.le_of_ble_eq_true rfl) ?_
  intro X hF hR
  have k_0 : ∀ w ∈ wsX50, w ∈ wsX5_fit := by decide +kernel
  have k_1 : zH X (.fieldLink RX5 32 "MarginDeskModel" "many" "[I") := hF.w (by decide +kernel)
  have k_2 : zH X (.fieldLink RX5 66 "MarginDeskModel" "length" "I") := hF.w (by decide +kernel)
  have k_3 : zH X (.fieldLink RX5 38 "MarginDeskModel" "behind" "[I") := hF.w (by decide +kernel)
  have k_4 : zH X (.fieldLink RX5 35 "MarginDeskModel" "ahead" "[I") := hF.w (by decide +kernel)
  have k_5 : zH X (.fieldLink RX5 7 "MarginDeskModel" "letters" "[I") := hF.w (by decide +kernel)
  have k_6 : zH X (.fieldLink RX5 29 "MarginDeskModel" "kept" "[I") := hF.w (by decide +kernel)
  refine z_lv (lv' := [some (.ref w0), some (.int (nI c)), some (.int (nI p)), none, none]) rfl ?_
  refine z_iload_n hF dX5_fit_0 rfl ?_
  refine z_aload_n hF dX5_fit_1 rfl ?_
  refine z_get (C := RX5) (T := TX5) (N := 21) (ci := 5) (v := .ref w8) hF k_0 11 (by decide) rfl k_1 rfl 0 rfl rfl dX5_fit_2 ?_
  refine z_iload_n hF dX5_fit_5 rfl ?_
  refine z_iald (k := c) hF 3 rfl (rfl) (by omega) rfl dX5_fit_6 ?_
  refine z_top (y := nI z) (hz) ?_
  refine z_iadd hF dX5_fit_7 ?_
  refine z_top (nI_add p z) ?_
  refine z_aload_n hF dX5_fit_8 rfl ?_
  refine z_get (C := RX5) (T := TX5) (N := 21) (ci := 5) (v := .int (nI n)) hF k_0 1 (by decide) rfl k_2 rfl 0 rfl rfl dX5_fit_9 ?_
  refine z_icn_le (tgt := 17) hF (by omega) (by omega) dX5_fit_12 (by decide) (fun h0 => ?_) (fun h0 => ?_)
  · refine z_iconst (v := nI 1) hF dX5_fit_17 (by decide) ?_
    refine z_istore_n (lv' := [some (.ref w0), some (.int (nI c)), some (.int (nI p)), some (.int (nI 1)), none]) hF dX5_fit_18 rfl rfl ?_
    refine z_iconst (v := nI 0) hF dX5_fit_19 (by decide) ?_
    refine z_istore (lv' := [some (.ref w0), some (.int (nI c)), some (.int (nI p)), some (.int (nI 1)), some (.int (nI 0))]) hF dX5_fit_20 rfl rfl ?_
    refine z_lv (lv' := [some (.ref w0), some (.int (nI c)), some (.int (nI p)), some (.int (@zb (∀ jj : Nat, jj < 0 → ql (c * 60 + jj) = f (p + jj)) (Nat.decidableBallLT 0 fun jj _ => ql (c * 60 + jj) = f (p + jj)))), some (.int (nI 0))]) (by rw [← @zb1 (∀ jj : Nat, jj < 0 → ql (c * 60 + jj) = f (p + jj)) (Nat.decidableBallLT 0 fun jj _ => ql (c * 60 + jj) = f (p + jj)) (fun jj h => absurd h (Nat.not_lt_zero _))]) ?_
    have J_22 : ∀ (n9 : Nat) (i : Nat), z - i < n9 → (i ≤ z) → zJ G X 22 [(w0, .inr (5, [.int th, .int (nI n), .ref w1, .int (nI v), .int (nI m), .ref w2, .ref w3, .ref w4, .ref w5, .ref w6, .ref w7, .ref w8, .ref w9, .ref w10, .ref w11, .int (nI j), .ref w12, .ref w13, .ref w14, .ref w15, .ref w16])), (w1, eI G 60 f), (w7, eI G 720 ql), (w8, eI G 12 qs), (w9, eI G 12 qa), (w10, eI G 12 qb)] [some (.ref w0), some (.int (nI c)), some (.int (nI p)), some (.int (zb (∀ jj, jj < i → ql (c * 60 + jj) = f (p + jj)))), some (.int (nI i))] [] 0 0 := by
      intro n9
      induction n9 with
      | zero => intro i hmu; exact absurd hmu (Nat.not_lt_zero _)
      | succ n9 ih =>
        intro i hmu h2
        refine z_iload hF dX5_fit_22 rfl ?_
        refine z_aload_n hF dX5_fit_24 rfl ?_
        refine z_get (C := RX5) (T := TX5) (N := 21) (ci := 5) (v := .ref w8) hF k_0 11 (by decide) rfl k_1 rfl 0 rfl rfl dX5_fit_25 ?_
        refine z_iload_n hF dX5_fit_28 rfl ?_
        refine z_iald (k := c) hF 3 rfl (rfl) (by omega) rfl dX5_fit_29 ?_
        refine z_top (y := nI z) (hz) ?_
        refine z_icn_ge (tgt := 73) hF (by omega) (by omega) dX5_fit_30 (by decide) (fun c_1 => ?_) (fun c_1 => ?_)
        · refine z_lv (lv' := [some (.ref w0), some (.int (nI c)), some (.int (nI p)), some (.int (zb (∀ jj, jj < z → ql (c * 60 + jj) = f (p + jj)))), some (.int (nI i))]) (by rw [show i = z by omega]) ?_
          have J_94 : zJ G X 94 [(w0, .inr (5, [.int th, .int (nI n), .ref w1, .int (nI v), .int (nI m), .ref w2, .ref w3, .ref w4, .ref w5, .ref w6, .ref w7, .ref w8, .ref w9, .ref w10, .ref w11, .int (nI j), .ref w12, .ref w13, .ref w14, .ref w15, .ref w16])), (w1, eI G 60 f), (w7, eI G 720 ql), (w8, eI G 12 qs), (w9, eI G 12 qa), (w10, eI G 12 qb)] [some (.ref w0), some (.int (nI c)), some (.int (nI p)), some (.int (zb (∀ jj, jj < z → ql (c * 60 + jj) = f (p + jj)))), some (.int (nI i))] [.int (zb (letF n f ((nI p) - (nI 1)) = qa c))] 0 0 := by
            refine z_aload_n hF dX5_fit_94 rfl ?_
            refine z_iload_n hF dX5_fit_95 rfl ?_
            refine z_aload_n hF dX5_fit_96 rfl ?_
            refine z_get (C := RX5) (T := TX5) (N := 21) (ci := 5) (v := .ref w8) hF k_0 11 (by decide) rfl k_1 rfl 0 rfl rfl dX5_fit_97 ?_
            refine z_iload_n hF dX5_fit_100 rfl ?_
            refine z_iald (k := c) hF 3 rfl (rfl) (by omega) rfl dX5_fit_101 ?_
            refine z_top (y := nI z) (hz) ?_
            refine z_iadd hF dX5_fit_102 ?_
            refine z_top (nI_add p z) ?_
            refine z_V (As := [.int (nI (p + z))]) (rest := [.int (zb (letF n f ((nI p) - (nI 1)) = qa c))]) (ws' := [(w0, .inr (5, [.int th, .int (nI n), .ref w1, .int (nI v), .int (nI m), .ref w2, .ref w3, .ref w4, .ref w5, .ref w6, .ref w7, .ref w8, .ref w9, .ref w10, .ref w11, .int (nI j), .ref w12, .ref w13, .ref w14, .ref w15, .ref w16])), (w1, eI G 60 f), (w7, eI G 720 ql), (w8, eI G 12 qs), (w9, eI G 12 qa), (w10, eI G 12 qb)]) (st2 := [.int (letF n f (nI (p + z))), .int (zb (letF n f ((nI p) - (nI 1)) = qa c))]) (c2 := 0) (s2 := 0) hF (c_X5_letterOf G w0 w1 w2 w3 w4 w5 w6 w7 w8 w9 w10 w11 w12 w13 w14 w15 w16 n v m j th f (nI (p + z)) (by first | assumption | omega)) gX5_fit_X5_letterOf rfl rfl rfl hd_X5_letterOf ⟨⟨Nat.le_of_ble_eq_true rfl, Nat.le_of_ble_eq_true rfl⟩, ⟨Nat.le_of_ble_eq_true rfl, Nat.le_of_ble_eq_true rfl⟩, Nat.le_of_ble_eq_true rfl⟩ [0, 1] rfl rfl 0 rfl rfl rfl rfl rfl rfl rfl rfl rfl rfl dX5_fit_103 ?_
            refine z_aload_n hF dX5_fit_106 rfl ?_
            refine z_get (C := RX5) (T := TX5) (N := 21) (ci := 5) (v := .ref w10) hF k_0 13 (by decide) rfl k_3 rfl 0 rfl rfl dX5_fit_107 ?_
            refine z_iload_n hF dX5_fit_110 rfl ?_
            refine z_iald (k := c) hF 5 rfl (rfl) (by omega) rfl dX5_fit_111 ?_
            refine z_ic_ne (tgt := 119) hF dX5_fit_112 (by decide) (fun c_2 => ?_) (fun c_2 => ?_)
            · refine z_iconst (v := nI 0) hF dX5_fit_119 (by decide) ?_
              refine z_top (y := zb (letF n f (nI (p + z)) = qb c)) (zb0 (by assumption)) ?_
              refine z_iadd hF dX5_fit_120 ?_
              refine z_istore (lv' := [some (.ref w0), some (.int (nI c)), some (.int (nI p)), some (.int (zb (∀ jj, jj < z → ql (c * 60 + jj) = f (p + jj)))), some (.int ((zb (letF n f ((nI p) - (nI 1)) = qa c)) + (zb (letF n f (nI (p + z)) = qb c))))]) hF dX5_fit_121 rfl rfl ?_
              refine z_iload_n hF dX5_fit_123 rfl ?_
              refine z_if_eq_b (tgt := 132) hF dX5_fit_124 (by decide) (fun h9 => ?_) (fun h9 => ?_)
              · refine z_iconst (v := -1) hF dX5_fit_132 (by decide) ?_
                exact hR.i dX5_fit_133 (Nat.le_of_ble_eq_true rfl) (Nat.le_of_ble_eq_true rfl) (rfl) (by simp only [fiM]; first | exact (if_pos ⟨by omega, by assumption⟩).symm | exact (if_neg (fun h => by first | exact absurd h.2 (by assumption) | exact absurd h.1 (by omega))).symm)
              · refine z_iload hF dX5_fit_127 rfl ?_
                refine z_goto (tgt := 133) hF dX5_fit_129 (by decide) ?_
                exact hR.i dX5_fit_133 (Nat.le_of_ble_eq_true rfl) (Nat.le_of_ble_eq_true rfl) (rfl) (by simp only [fiM]; first | exact (if_pos ⟨by omega, by assumption⟩).symm | exact (if_neg (fun h => by first | exact absurd h.2 (by assumption) | exact absurd h.1 (by omega))).symm)
            · refine z_iconst (v := nI 1) hF dX5_fit_115 (by decide) ?_
              refine z_goto (tgt := 120) hF dX5_fit_116 (by decide) ?_
              refine z_top (y := zb (letF n f (nI (p + z)) = qb c)) (zb1 (by assumption)) ?_
              refine z_iadd hF dX5_fit_120 ?_
              refine z_istore (lv' := [some (.ref w0), some (.int (nI c)), some (.int (nI p)), some (.int (zb (∀ jj, jj < z → ql (c * 60 + jj) = f (p + jj)))), some (.int ((zb (letF n f ((nI p) - (nI 1)) = qa c)) + (zb (letF n f (nI (p + z)) = qb c))))]) hF dX5_fit_121 rfl rfl ?_
              refine z_iload_n hF dX5_fit_123 rfl ?_
              refine z_if_eq_b (tgt := 132) hF dX5_fit_124 (by decide) (fun h9 => ?_) (fun h9 => ?_)
              · refine z_iconst (v := -1) hF dX5_fit_132 (by decide) ?_
                exact hR.i dX5_fit_133 (Nat.le_of_ble_eq_true rfl) (Nat.le_of_ble_eq_true rfl) (rfl) (by simp only [fiM]; first | exact (if_pos ⟨by omega, by assumption⟩).symm | exact (if_neg (fun h => by first | exact absurd h.2 (by assumption) | exact absurd h.1 (by omega))).symm)
              · refine z_iload hF dX5_fit_127 rfl ?_
                refine z_goto (tgt := 133) hF dX5_fit_129 (by decide) ?_
                exact hR.i dX5_fit_133 (Nat.le_of_ble_eq_true rfl) (Nat.le_of_ble_eq_true rfl) (rfl) (by simp only [fiM]; first | exact (if_pos ⟨by omega, by assumption⟩).symm | exact (if_neg (fun h => by first | exact absurd h.2 (by assumption) | exact absurd h.1 (by omega))).symm)
          refine z_aload_n hF dX5_fit_73 rfl ?_
          refine z_iload_n hF dX5_fit_74 rfl ?_
          refine z_iconst (v := nI 1) hF dX5_fit_75 (by decide) ?_
          refine z_isub hF dX5_fit_76 ?_
          refine z_V (As := [.int ((nI p) - (nI 1))]) (rest := []) (ws' := [(w0, .inr (5, [.int th, .int (nI n), .ref w1, .int (nI v), .int (nI m), .ref w2, .ref w3, .ref w4, .ref w5, .ref w6, .ref w7, .ref w8, .ref w9, .ref w10, .ref w11, .int (nI j), .ref w12, .ref w13, .ref w14, .ref w15, .ref w16])), (w1, eI G 60 f), (w7, eI G 720 ql), (w8, eI G 12 qs), (w9, eI G 12 qa), (w10, eI G 12 qb)]) (st2 := [.int (letF n f ((nI p) - (nI 1)))]) (c2 := 0) (s2 := 0) hF (c_X5_letterOf G w0 w1 w2 w3 w4 w5 w6 w7 w8 w9 w10 w11 w12 w13 w14 w15 w16 n v m j th f ((nI p) - (nI 1)) (by first | assumption | omega)) gX5_fit_X5_letterOf rfl rfl rfl hd_X5_letterOf ⟨⟨Nat.le_of_ble_eq_true rfl, Nat.le_of_ble_eq_true rfl⟩, ⟨Nat.le_of_ble_eq_true rfl, Nat.le_of_ble_eq_true rfl⟩, Nat.le_of_ble_eq_true rfl⟩ [0, 1] rfl rfl 0 rfl rfl rfl rfl rfl rfl rfl rfl rfl rfl dX5_fit_77 ?_
          refine z_aload_n hF dX5_fit_80 rfl ?_
          refine z_get (C := RX5) (T := TX5) (N := 21) (ci := 5) (v := .ref w9) hF k_0 12 (by decide) rfl k_4 rfl 0 rfl rfl dX5_fit_81 ?_
          refine z_iload_n hF dX5_fit_84 rfl ?_
          refine z_iald (k := c) hF 4 rfl (rfl) (by omega) rfl dX5_fit_85 ?_
          refine z_ic_ne (tgt := 93) hF dX5_fit_86 (by decide) (fun c_3 => ?_) (fun c_3 => ?_)
          · refine z_iconst (v := nI 0) hF dX5_fit_93 (by decide) ?_
            refine z_top (y := zb (letF n f ((nI p) - (nI 1)) = qa c)) (zb0 (by assumption)) ?_
            exact J_94  
          · refine z_iconst (v := nI 1) hF dX5_fit_89 (by decide) ?_
            refine z_goto (tgt := 94) hF dX5_fit_90 (by decide) ?_
            refine z_top (y := zb (letF n f ((nI p) - (nI 1)) = qa c)) (zb1 (by assumption)) ?_
            exact J_94  
        · have J_66 : zJ G X 66 [(w0, .inr (5, [.int th, .int (nI n), .ref w1, .int (nI v), .int (nI m), .ref w2, .ref w3, .ref w4, .ref w5, .ref w6, .ref w7, .ref w8, .ref w9, .ref w10, .ref w11, .int (nI j), .ref w12, .ref w13, .ref w14, .ref w15, .ref w16])), (w1, eI G 60 f), (w7, eI G 720 ql), (w8, eI G 12 qs), (w9, eI G 12 qa), (w10, eI G 12 qb)] [some (.ref w0), some (.int (nI c)), some (.int (nI p)), some (.int (zb (∀ jj, jj < i → ql (c * 60 + jj) = f (p + jj)))), some (.int (nI i))] [.int (zb (∀ jj, jj < (i + 1) → ql (c * 60 + jj) = f (p + jj)))] 0 0 := by
            refine z_istore_n (lv' := [some (.ref w0), some (.int (nI c)), some (.int (nI p)), some (.int (zb (∀ jj, jj < (i + 1) → ql (c * 60 + jj) = f (p + jj)))), some (.int (nI i))]) hF dX5_fit_66 rfl rfl ?_
            refine z_iinc (v := nI (i + 1)) (lv' := [some (.ref w0), some (.int (nI c)), some (.int (nI p)), some (.int (zb (∀ jj, jj < (i + 1) → ql (c * 60 + jj) = f (p + jj)))), some (.int (nI (i + 1)))]) hF dX5_fit_67 rfl (nI_1 i) rfl rfl ?_
            refine z_goto (tgt := 22) hF dX5_fit_70 (by decide) ?_
            exact ih (i + 1) (by omega) (by omega)
          refine z_iload_n hF dX5_fit_33 rfl ?_
          refine z_if_eq_b (tgt := 65) hF dX5_fit_34 (by decide) (fun c_4 => ?_) (fun c_4 => ?_)
          · refine z_iconst (v := nI 0) hF dX5_fit_65 (by decide) ?_
            refine z_top (y := zb (∀ jj, jj < (i + 1) → ql (c * 60 + jj) = f (p + jj))) (zb0 (by first | exact all_f1 (by assumption) | exact all_f2 (by assumption))) ?_
            exact J_66  
          · refine z_aload_n hF dX5_fit_37 rfl ?_
            refine z_get (C := RX5) (T := TX5) (N := 21) (ci := 5) (v := .ref w1) hF k_0 2 (by decide) rfl k_5 rfl 0 rfl rfl dX5_fit_38 ?_
            refine z_iload_n hF dX5_fit_41 rfl ?_
            refine z_iload hF dX5_fit_42 rfl ?_
            refine z_iadd hF dX5_fit_44 ?_
            refine z_top (nI_add p i) ?_
            refine z_iald (k := p + i) hF 1 rfl (rfl) (by omega) rfl dX5_fit_45 ?_
            refine z_aload_n hF dX5_fit_46 rfl ?_
            refine z_get (C := RX5) (T := TX5) (N := 21) (ci := 5) (v := .ref w7) hF k_0 10 (by decide) rfl k_6 rfl 0 rfl rfl dX5_fit_47 ?_
            refine z_bipush (v := nI 60) hF dX5_fit_50 (by decide) ?_
            refine z_iload_n hF dX5_fit_52 rfl ?_
            refine z_imul hF dX5_fit_53 ?_
            refine z_top (pk_mul 60 c) ?_
            refine z_iload hF dX5_fit_54 rfl ?_
            refine z_iadd hF dX5_fit_56 ?_
            refine z_top (nI_add (60 * c) i) ?_
            refine z_iald (k := c * 60 + i) hF 2 rfl (by rw [Nat.mul_comm 60 c]) (by omega) rfl dX5_fit_57 ?_
            refine z_ic_ne (tgt := 65) hF dX5_fit_58 (by decide) (fun c_5 => ?_) (fun c_5 => ?_)
            · refine z_iconst (v := nI 0) hF dX5_fit_65 (by decide) ?_
              refine z_top (y := zb (∀ jj, jj < (i + 1) → ql (c * 60 + jj) = f (p + jj))) (zb0 (by first | exact all_f1 (by assumption) | exact all_f2 (by assumption))) ?_
              exact J_66  
            · refine z_iconst (v := nI 1) hF dX5_fit_61 (by decide) ?_
              refine z_goto (tgt := 66) hF dX5_fit_62 (by decide) ?_
              refine z_top (y := zb (∀ jj, jj < (i + 1) → ql (c * 60 + jj) = f (p + jj))) (zb1 (all_t (by assumption) (by assumption))) ?_
              exact J_66  
    exact J_22 ((z - 0) + 1) 0 (Nat.lt_succ_self _) (by omega)
  · refine z_iconst (v := -1) hF dX5_fit_15 (by decide) ?_
    exact hR.i dX5_fit_16 (Nat.le_of_ble_eq_true rfl) (Nat.le_of_ble_eq_true rfl) (rfl) (by simp only [fiM]; first | exact (if_pos ⟨by omega, by assumption⟩).symm | exact (if_neg (fun h => by first | exact absurd h.2 (by assumption) | exact absurd h.1 (by omega))).symm)
set_option maxHeartbeats 4000000 in
set_option maxRecDepth 100000 in
theorem c_X5_find_f (G : zG) (w0 w1 w2 w3 w4 w5 w6 w7 w8 w9 w10 w11 w12 w13 w14 w15 w16 n v m j : Nat) (th : Int32) (f : Nat → Int32) (b : Nat → Int32) (e : Nat → Int32) (ql : Nat → Int32) (qs : Nat → Int32) (qa : Nat → Int32) (qb : Nat → Int32) (tn : Nat → Int32) (a : Int32) (z : Nat) (hn : n ≤ 60) (hm : m ≤ 12) (hv : v ≤ 300) (hz : cmC m a = 0 → qs a.toNatClampNeg = nI z) (hz2 : z ≤ 60) (hc : ¬ (fz (cmC m a) (if b a.toNatClampNeg = -1 then 0 else 3)) = 0) : zM G yX5_find wsX5_find ({ frames := 2, cells := 0, slots := 0, locals := 55 }) [.ref w0, .int a] [(w0, .inr (5, [.int th, .int (nI n), .ref w1, .int (nI v), .int (nI m), .ref w2, .ref w3, .ref w4, .ref w5, .ref w6, .ref w7, .ref w8, .ref w9, .ref w10, .ref w11, .int (nI j), .ref w12, .ref w13, .ref w14, .ref w15, .ref w16])), (w1, eI G 60 f), (w2, eI G 12 b), (w3, eI G 12 e), (w7, eI G 720 ql), (w8, eI G 12 qs), (w9, eI G 12 qa), (w10, eI G 12 qb), (w11, eI G 3612 tn)] [(w0, .inr (5, [.int (nI (if (fz (cmC m a) (if b a.toNatClampNeg = -1 then 0 else 3)) = 3 then 2 else (fz (cmC m a) (if b a.toNatClampNeg = -1 then 0 else 3)))), .int (nI n), .ref w1, .int (nI v), .int (nI m), .ref w2, .ref w3, .ref w4, .ref w5, .ref w6, .ref w7, .ref w8, .ref w9, .ref w10, .ref w11, .int (nI j), .ref w12, .ref w13, .ref w14, .ref w15, .ref w16])), (w1, eI G 60 f), (w2, eI G 12 b), (w3, eI G 12 e), (w7, eI G 720 ql), (w8, eI G 12 qs), (w9, eI G 12 qa), (w10, eI G 12 qb), (w11, eI G 3612 tn)] (some (.int (nI 0))) 0 0 := by
  refine zM.ofI (own := RX5) (cc := cX5_find) (maxL := 5) rfl (by decide) rfl rfl (by simp [Value.category]) (Nat.le_of_ble_eq_true rfl) ?_
  intro X hF hR
  have k_0 : ∀ w ∈ wsX50, w ∈ wsX5_find := by decide +kernel
  have k_1 : zH X (.fieldLink RX5 62 "MarginDeskModel" "thrown" "I") := hF.w (by decide +kernel)
  have k_2 : zH X (.fieldLink RX5 13 "MarginDeskModel" "from" "[I") := hF.w (by decide +kernel)
  refine z_lv (lv' := [some (.ref w0), some (.int a), none, none, none]) rfl ?_
  have d_0 := cmC_d m a
  refine z_aload_n hF dX5_find_0 rfl ?_
  refine z_iconst (v := nI 0) hF dX5_find_1 (by decide) ?_
  refine z_put (C := RX5) (T := TX5) (N := 21) (ci := 5) (ws' := [(w0, .inr (5, [.int (nI 0), .int (nI n), .ref w1, .int (nI v), .int (nI m), .ref w2, .ref w3, .ref w4, .ref w5, .ref w6, .ref w7, .ref w8, .ref w9, .ref w10, .ref w11, .int (nI j), .ref w12, .ref w13, .ref w14, .ref w15, .ref w16])), (w1, eI G 60 f), (w2, eI G 12 b), (w3, eI G 12 e), (w7, eI G 720 ql), (w8, eI G 12 qs), (w9, eI G 12 qa), (w10, eI G 12 qb), (w11, eI G 3612 tn)]) hF k_0 tyX5 tyX5_ok nmX5 0 (by decide) rfl k_1 rfl rfl rfl rfl 0 rfl rfl rfl dX5_find_2 ?_
  refine z_aload_n hF dX5_find_5 rfl ?_
  refine z_iload_n hF dX5_find_6 rfl ?_
  refine z_V (As := [.int a]) (rest := []) (ws' := [(w0, .inr (5, [.int (nI 0), .int (nI n), .ref w1, .int (nI v), .int (nI m), .ref w2, .ref w3, .ref w4, .ref w5, .ref w6, .ref w7, .ref w8, .ref w9, .ref w10, .ref w11, .int (nI j), .ref w12, .ref w13, .ref w14, .ref w15, .ref w16])), (w1, eI G 60 f), (w2, eI G 12 b), (w3, eI G 12 e), (w7, eI G 720 ql), (w8, eI G 12 qs), (w9, eI G 12 qa), (w10, eI G 12 qb), (w11, eI G 3612 tn)]) (st2 := [.int (zb (cmC m a = 0))]) (c2 := 0) (s2 := 0) hF (c_X5_isComment G w0 w1 w2 w3 w4 w5 w6 w7 w8 w9 w10 w11 w12 w13 w14 w15 w16 n v m j (nI 0) a (by first | assumption | omega)) gX5_find_X5_isComment rfl rfl rfl hd_X5_isComment ⟨⟨Nat.le_of_ble_eq_true rfl, Nat.le_of_ble_eq_true rfl⟩, ⟨Nat.le_of_ble_eq_true rfl, Nat.le_of_ble_eq_true rfl⟩, Nat.le_of_ble_eq_true rfl⟩ [0] rfl rfl 0 rfl rfl rfl rfl rfl rfl rfl rfl rfl rfl dX5_find_7 ?_
  refine z_if_ne_b (tgt := 19) hF dX5_find_10 (by decide) (fun h1 => ?_) (fun h1 => ?_)
  · have ha := cmC_0 (by omega) h1
    refine z_lv (lv' := [some (.ref w0), some (.int (nI a.toNatClampNeg)), none, none, none]) (by rw [← ha.1]) ?_
    have hz9 := hz h1
    refine z_aload_n hF dX5_find_19 rfl ?_
    refine z_get (C := RX5) (T := TX5) (N := 21) (ci := 5) (v := .ref w2) hF k_0 5 (by decide) rfl k_2 rfl 0 rfl rfl dX5_find_20 ?_
    refine z_iload_n hF dX5_find_23 rfl ?_
    refine z_iald (k := a.toNatClampNeg) hF 2 rfl (rfl) (by omega) rfl dX5_find_24 ?_
    refine z_iconst (v := -1) hF dX5_find_25 (by decide) ?_
    refine z_ic_eq (tgt := 35) hF dX5_find_26 (by decide) (fun c_1 => ?_) (fun c_1 => ?_)
    · exact absurd (by (try simp only [fz]); grind : (fz (cmC m a) (if b a.toNatClampNeg = -1 then 0 else 3)) = 0) hc
    · refine z_aload_n hF dX5_find_29 rfl ?_
      refine z_iconst (v := nI 2) hF dX5_find_30 (by decide) ?_
      refine z_V (As := [.int (nI 2)]) (rest := []) (ws' := [(w0, .inr (5, [.int (nI 2), .int (nI n), .ref w1, .int (nI v), .int (nI m), .ref w2, .ref w3, .ref w4, .ref w5, .ref w6, .ref w7, .ref w8, .ref w9, .ref w10, .ref w11, .int (nI j), .ref w12, .ref w13, .ref w14, .ref w15, .ref w16])), (w1, eI G 60 f), (w2, eI G 12 b), (w3, eI G 12 e), (w7, eI G 720 ql), (w8, eI G 12 qs), (w9, eI G 12 qa), (w10, eI G 12 qb), (w11, eI G 3612 tn)]) (st2 := [.int (nI 0)]) (c2 := 0) (s2 := 0) hF (c_X5_fails G w0 w1 w2 w3 w4 w5 w6 w7 w8 w9 w10 w11 w12 w13 w14 w15 w16 n v m j (nI 0) (nI 2)) gX5_find_X5_fails rfl rfl rfl hd_X5_fails ⟨⟨Nat.le_of_ble_eq_true rfl, Nat.le_of_ble_eq_true rfl⟩, ⟨Nat.le_of_ble_eq_true rfl, Nat.le_of_ble_eq_true rfl⟩, Nat.le_of_ble_eq_true rfl⟩ [0] rfl rfl 0 rfl rfl rfl rfl rfl rfl rfl rfl rfl rfl dX5_find_31 ?_
      exact hR.i dX5_find_34 (Nat.le_of_ble_eq_true rfl) (Nat.le_of_ble_eq_true rfl) (by rw [show (if (fz (cmC m a) (if b a.toNatClampNeg = -1 then 0 else 3)) = 3 then 2 else (fz (cmC m a) (if b a.toNatClampNeg = -1 then 0 else 3))) = 2 from (by (try simp only [fz]); grind)]) (rfl)
  · refine z_aload_n hF dX5_find_13 rfl ?_
    refine z_iconst (v := nI 1) hF dX5_find_14 (by decide) ?_
    refine z_V (As := [.int (nI 1)]) (rest := []) (ws' := [(w0, .inr (5, [.int (nI 1), .int (nI n), .ref w1, .int (nI v), .int (nI m), .ref w2, .ref w3, .ref w4, .ref w5, .ref w6, .ref w7, .ref w8, .ref w9, .ref w10, .ref w11, .int (nI j), .ref w12, .ref w13, .ref w14, .ref w15, .ref w16])), (w1, eI G 60 f), (w2, eI G 12 b), (w3, eI G 12 e), (w7, eI G 720 ql), (w8, eI G 12 qs), (w9, eI G 12 qa), (w10, eI G 12 qb), (w11, eI G 3612 tn)]) (st2 := [.int (nI 0)]) (c2 := 0) (s2 := 0) hF (c_X5_fails G w0 w1 w2 w3 w4 w5 w6 w7 w8 w9 w10 w11 w12 w13 w14 w15 w16 n v m j (nI 0) (nI 1)) gX5_find_X5_fails rfl rfl rfl hd_X5_fails ⟨⟨Nat.le_of_ble_eq_true rfl, Nat.le_of_ble_eq_true rfl⟩, ⟨Nat.le_of_ble_eq_true rfl, Nat.le_of_ble_eq_true rfl⟩, Nat.le_of_ble_eq_true rfl⟩ [0] rfl rfl 0 rfl rfl rfl rfl rfl rfl rfl rfl rfl rfl dX5_find_15 ?_
    exact hR.i dX5_find_18 (Nat.le_of_ble_eq_true rfl) (Nat.le_of_ble_eq_true rfl) (by rw [show (if (fz (cmC m a) (if b a.toNatClampNeg = -1 then 0 else 3)) = 3 then 2 else (fz (cmC m a) (if b a.toNatClampNeg = -1 then 0 else 3))) = 1 from (by (try simp only [fz]); grind)]) (rfl)
