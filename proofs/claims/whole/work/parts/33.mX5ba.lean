set_option maxHeartbeats 4000000 in
set_option maxRecDepth 100000 in
theorem c_X5_inserts (G : zG) (w0 w1 w2 w3 w4 w5 w6 w7 w8 w9 w10 w11 w12 w13 w14 w15 w16 n v m j : Nat) (th : Int32) (f : Nat → Int32) (b : Nat → Int32) (e : Nat → Int32) (s : Nat → Int32) (b2 : Nat → Int32) (e2 : Nat → Int32) (p k : Nat) (x : Int32) (hm : m ≤ 12) (hj : j ≤ 10) (hp : p ≤ n) (hk : n + k ≤ 60) (hs : ∀ i, i < m → st4 (s i)) : zM G yX5_inserts wsX5_inserts ({ frames := 0, cells := 0, slots := 0, locals := 12 }) [.ref w0, .int (nI p), .int x, .int (nI k)] [(w0, .inr (5, [.int th, .int (nI n), .ref w1, .int (nI v), .int (nI m), .ref w2, .ref w3, .ref w4, .ref w5, .ref w6, .ref w7, .ref w8, .ref w9, .ref w10, .ref w11, .int (nI j), .ref w12, .ref w13, .ref w14, .ref w15, .ref w16])), (w1, eI G 60 f), (w2, eI G 12 b), (w3, eI G 12 e), (w4, eI G 12 s), (w12, eI G 10 b2), (w13, eI G 10 e2)] [(w0, .inr (5, [.int th, .int (nI (n + k)), .ref w1, .int (nI (v + 1)), .int (nI m), .ref w2, .ref w3, .ref w4, .ref w5, .ref w6, .ref w7, .ref w8, .ref w9, .ref w10, .ref w11, .int (nI j), .ref w12, .ref w13, .ref w14, .ref w15, .ref w16])), (w1, eI G 60 (filF (va_cpy f f p (p + k) (n - p)) p (p + k) x)), (w2, eI G 12 (mpF m (insB (nI p) (nI k) b s) b)), (w3, eI G 12 (mpF m (insE (nI p) (nI k) b e s) e)), (w4, eI G 12 s), (w12, eI G 10 (mpF j (siB (nI p) (nI k) b2) b2)), (w13, eI G 10 (mpF j (siE (nI p) (nI k) e2) e2))] none 0 0 := by
  refine zM.ofV (own := RX5) (cc := cX5_inserts) (maxL := 8) rfl (by decide) rfl (by simp [Value.category]) (Nat.le_of_ble_eq_true rfl) ?_
  intro X hF hR
  have k_0 : ∀ w ∈ wsX50, w ∈ wsX5_inserts := by decide +kernel
  have k_1 : zH X (.fieldLink RX5 66 "MarginDeskModel" "length" "I") := hF.w (by decide +kernel)
  have k_2 : zH X (.fieldLink RX5 73 "MarginDeskModel" "comments" "I") := hF.w (by decide +kernel)
  have k_3 : zH X (.fieldLink RX5 76 "MarginDeskModel" "suggestions" "I") := hF.w (by decide +kernel)
  have k_4 : zH X (.fieldLink RX5 79 "MarginDeskModel" "edits" "I") := hF.w (by decide +kernel)
  have k_5 : zH X (.fieldLink RX5 44 "MarginDeskModel" "first" "[I") := hF.w (by decide +kernel)
  have k_6 : zH X (.fieldLink RX5 47 "MarginDeskModel" "last" "[I") := hF.w (by decide +kernel)
  have k_7 : zH X (.fieldLink RX5 13 "MarginDeskModel" "from" "[I") := hF.w (by decide +kernel)
  have k_8 : zH X (.fieldLink RX5 16 "MarginDeskModel" "to" "[I") := hF.w (by decide +kernel)
  have k_9 : zH X (.fieldLink RX5 19 "MarginDeskModel" "sticky" "[I") := hF.w (by decide +kernel)
  have k_10 : zH X (.fieldLink RX5 7 "MarginDeskModel" "letters" "[I") := hF.w (by decide +kernel)
  refine z_lv (lv' := [some (.ref w0), some (.int (nI p)), some (.int x), some (.int (nI k)), none, none, none, none]) rfl ?_
  refine z_aload_n hF dX5_inserts_0 rfl ?_
  refine z_get (C := RX5) (T := TX5) (N := 21) (ci := 5) (v := .int (nI n)) hF k_0 1 (by decide) rfl k_1 rfl 0 rfl rfl dX5_inserts_1 ?_
  refine z_iconst (v := nI 1) hF dX5_inserts_4 (by decide) ?_
  refine z_isub hF dX5_inserts_5 ?_
  refine z_istore (lv' := [some (.ref w0), some (.int (nI p)), some (.int x), some (.int (nI k)), some (.int ((nI n) - (nI 1))), none, none, none]) hF dX5_inserts_6 rfl rfl ?_
  refine z_ws (ws' := [(w0, .inr (5, [.int th, .int (nI n), .ref w1, .int (nI v), .int (nI m), .ref w2, .ref w3, .ref w4, .ref w5, .ref w6, .ref w7, .ref w8, .ref w9, .ref w10, .ref w11, .int (nI j), .ref w12, .ref w13, .ref w14, .ref w15, .ref w16])), (w1, eI G 60 (va_cpy f f n (n + k) (n - n))), (w2, eI G 12 b), (w3, eI G 12 e), (w4, eI G 12 s), (w12, eI G 10 b2), (w13, eI G 10 e2)]) (by rw [Nat.sub_self, cpy_0]) ?_
  have J_8 : ∀ (n9 : Nat) (q : Nat), q - p < n9 → (p ≤ q) → (q ≤ n) → zJ G X 8 [(w0, .inr (5, [.int th, .int (nI n), .ref w1, .int (nI v), .int (nI m), .ref w2, .ref w3, .ref w4, .ref w5, .ref w6, .ref w7, .ref w8, .ref w9, .ref w10, .ref w11, .int (nI j), .ref w12, .ref w13, .ref w14, .ref w15, .ref w16])), (w1, eI G 60 (va_cpy f f q (q + k) (n - q))), (w2, eI G 12 b), (w3, eI G 12 e), (w4, eI G 12 s), (w12, eI G 10 b2), (w13, eI G 10 e2)] [some (.ref w0), some (.int (nI p)), some (.int x), some (.int (nI k)), some (.int ((nI q) - (nI 1))), none, none, none] [] 0 0 := by
    intro n9
    induction n9 with
    | zero => intro q hmu; exact absurd hmu (Nat.not_lt_zero _)
    | succ n9 ih =>
      intro q hmu hq1 hq2
      refine z_iload hF dX5_inserts_8 rfl ?_
      refine z_iload_n hF dX5_inserts_10 rfl ?_
      refine z_ic_lt (tgt := 36) hF dX5_inserts_11 (by decide) (fun hq => ?_) (fun hq => ?_)
      · have hq3 : q = p := by
              have := zsubgt2 (i := p) (n := q) (z := 1) (by omega) (by omega) (by omega) hq
              omega
        refine z_ws (ws' := [(w0, .inr (5, [.int th, .int (nI n), .ref w1, .int (nI v), .int (nI m), .ref w2, .ref w3, .ref w4, .ref w5, .ref w6, .ref w7, .ref w8, .ref w9, .ref w10, .ref w11, .int (nI j), .ref w12, .ref w13, .ref w14, .ref w15, .ref w16])), (w1, eI G 60 (va_cpy f f p (p + k) (n - p))), (w2, eI G 12 b), (w3, eI G 12 e), (w4, eI G 12 s), (w12, eI G 10 b2), (w13, eI G 10 e2)]) (by rw [hq3]) ?_
        refine z_iconst (v := nI 0) hF dX5_inserts_36 (by decide) ?_
        refine z_istore (lv' := [some (.ref w0), some (.int (nI p)), some (.int x), some (.int (nI k)), some (.int (nI 0)), none, none, none]) hF dX5_inserts_37 rfl rfl ?_
        refine z_ws (ws' := [(w0, .inr (5, [.int th, .int (nI n), .ref w1, .int (nI v), .int (nI m), .ref w2, .ref w3, .ref w4, .ref w5, .ref w6, .ref w7, .ref w8, .ref w9, .ref w10, .ref w11, .int (nI j), .ref w12, .ref w13, .ref w14, .ref w15, .ref w16])), (w1, eI G 60 (filF (va_cpy f f p (p + k) (n - p)) p (p + 0) x)), (w2, eI G 12 b), (w3, eI G 12 e), (w4, eI G 12 s), (w12, eI G 10 b2), (w13, eI G 10 e2)]) (by rw [Nat.add_zero, filF_0 _ x (Nat.le_refl p)]) ?_
        have J_39 : ∀ (n9 : Nat) (i : Nat), k - i < n9 → (i ≤ k) → zJ G X 39 [(w0, .inr (5, [.int th, .int (nI n), .ref w1, .int (nI v), .int (nI m), .ref w2, .ref w3, .ref w4, .ref w5, .ref w6, .ref w7, .ref w8, .ref w9, .ref w10, .ref w11, .int (nI j), .ref w12, .ref w13, .ref w14, .ref w15, .ref w16])), (w1, eI G 60 (filF (va_cpy f f p (p + k) (n - p)) p (p + i) x)), (w2, eI G 12 b), (w3, eI G 12 e), (w4, eI G 12 s), (w12, eI G 10 b2), (w13, eI G 10 e2)] [some (.ref w0), some (.int (nI p)), some (.int x), some (.int (nI k)), some (.int (nI i)), none, none, none] [] 0 0 := by
          intro n9
          induction n9 with
          | zero => intro i hmu; exact absurd hmu (Nat.not_lt_zero _)
          | succ n9 ih =>
            intro i hmu h2
            refine z_iload hF dX5_inserts_39 rfl ?_
            refine z_iload_n hF dX5_inserts_41 rfl ?_
            refine z_icn_ge (tgt := 61) hF (by omega) (by omega) dX5_inserts_42 (by decide) (fun c_1 => ?_) (fun c_1 => ?_)
            · refine z_ws (ws' := [(w0, .inr (5, [.int th, .int (nI n), .ref w1, .int (nI v), .int (nI m), .ref w2, .ref w3, .ref w4, .ref w5, .ref w6, .ref w7, .ref w8, .ref w9, .ref w10, .ref w11, .int (nI j), .ref w12, .ref w13, .ref w14, .ref w15, .ref w16])), (w1, eI G 60 (filF (va_cpy f f p (p + k) (n - p)) p (p + k) x)), (w2, eI G 12 b), (w3, eI G 12 e), (w4, eI G 12 s), (w12, eI G 10 b2), (w13, eI G 10 e2)]) (by rw [show i = k by omega]) ?_
              refine z_aload_n hF dX5_inserts_61 rfl ?_
              refine z_dup hF dX5_inserts_62 rfl ?_
              refine z_get (C := RX5) (T := TX5) (N := 21) (ci := 5) (v := .int (nI n)) hF k_0 1 (by decide) rfl k_1 rfl 0 rfl rfl dX5_inserts_63 ?_
              refine z_iload_n hF dX5_inserts_66 rfl ?_
              refine z_iadd hF dX5_inserts_67 ?_
              refine z_top (nI_add n k) ?_
              refine z_put (C := RX5) (T := TX5) (N := 21) (ci := 5) (ws' := [(w0, .inr (5, [.int th, .int (nI (n + k)), .ref w1, .int (nI v), .int (nI m), .ref w2, .ref w3, .ref w4, .ref w5, .ref w6, .ref w7, .ref w8, .ref w9, .ref w10, .ref w11, .int (nI j), .ref w12, .ref w13, .ref w14, .ref w15, .ref w16])), (w1, eI G 60 (filF (va_cpy f f p (p + k) (n - p)) p (p + k) x)), (w2, eI G 12 b), (w3, eI G 12 e), (w4, eI G 12 s), (w12, eI G 10 b2), (w13, eI G 10 e2)]) hF k_0 tyX5 tyX5_ok nmX5 1 (by decide) rfl k_1 rfl rfl rfl rfl 0 rfl rfl rfl dX5_inserts_68 ?_
              refine z_iconst (v := nI 0) hF dX5_inserts_71 (by decide) ?_
              refine z_istore (lv' := [some (.ref w0), some (.int (nI p)), some (.int x), some (.int (nI k)), some (.int (nI 0)), none, none, none]) hF dX5_inserts_72 rfl rfl ?_
              refine z_ws (ws' := [(w0, .inr (5, [.int th, .int (nI (n + k)), .ref w1, .int (nI v), .int (nI m), .ref w2, .ref w3, .ref w4, .ref w5, .ref w6, .ref w7, .ref w8, .ref w9, .ref w10, .ref w11, .int (nI j), .ref w12, .ref w13, .ref w14, .ref w15, .ref w16])), (w1, eI G 60 (filF (va_cpy f f p (p + k) (n - p)) p (p + k) x)), (w2, eI G 12 (mpF 0 (insB (nI p) (nI k) b s) b)), (w3, eI G 12 e), (w4, eI G 12 s), (w12, eI G 10 b2), (w13, eI G 10 e2)]) (by simp only [mpF_0]) ?_
              refine z_ws (ws' := [(w0, .inr (5, [.int th, .int (nI (n + k)), .ref w1, .int (nI v), .int (nI m), .ref w2, .ref w3, .ref w4, .ref w5, .ref w6, .ref w7, .ref w8, .ref w9, .ref w10, .ref w11, .int (nI j), .ref w12, .ref w13, .ref w14, .ref w15, .ref w16])), (w1, eI G 60 (filF (va_cpy f f p (p + k) (n - p)) p (p + k) x)), (w2, eI G 12 (mpF 0 (insB (nI p) (nI k) b s) b)), (w3, eI G 12 (mpF 0 (insE (nI p) (nI k) b e s) e)), (w4, eI G 12 s), (w12, eI G 10 b2), (w13, eI G 10 e2)]) (by simp only [mpF_0]) ?_
              have J_74 : ∀ (n9 : Nat) (i : Nat), m - i < n9 → (i ≤ m) → zJ G X 74 [(w0, .inr (5, [.int th, .int (nI (n + k)), .ref w1, .int (nI v), .int (nI m), .ref w2, .ref w3, .ref w4, .ref w5, .ref w6, .ref w7, .ref w8, .ref w9, .ref w10, .ref w11, .int (nI j), .ref w12, .ref w13, .ref w14, .ref w15, .ref w16])), (w1, eI G 60 (filF (va_cpy f f p (p + k) (n - p)) p (p + k) x)), (w2, eI G 12 (mpF i (insB (nI p) (nI k) b s) b)), (w3, eI G 12 (mpF i (insE (nI p) (nI k) b e s) e)), (w4, eI G 12 s), (w12, eI G 10 b2), (w13, eI G 10 e2)] [some (.ref w0), some (.int (nI p)), some (.int x), some (.int (nI k)), some (.int (nI i)), none, none, none] [] 0 0 := by
                intro n9
                induction n9 with
                | zero => intro i hmu; exact absurd hmu (Nat.not_lt_zero _)
                | succ n9 ih =>
                  intro i hmu h2
                  refine z_iload hF dX5_inserts_74 rfl ?_
                  refine z_aload_n hF dX5_inserts_76 rfl ?_
                  refine z_get (C := RX5) (T := TX5) (N := 21) (ci := 5) (v := .int (nI m)) hF k_0 4 (by decide) rfl k_2 rfl 0 rfl rfl dX5_inserts_77 ?_
                  refine z_icn_ge (tgt := 240) hF (by omega) (by omega) dX5_inserts_80 (by decide) (fun c_2 => ?_) (fun c_2 => ?_)
                  · refine z_ws (ws' := [(w0, .inr (5, [.int th, .int (nI (n + k)), .ref w1, .int (nI v), .int (nI m), .ref w2, .ref w3, .ref w4, .ref w5, .ref w6, .ref w7, .ref w8, .ref w9, .ref w10, .ref w11, .int (nI j), .ref w12, .ref w13, .ref w14, .ref w15, .ref w16])), (w1, eI G 60 (filF (va_cpy f f p (p + k) (n - p)) p (p + k) x)), (w2, eI G 12 (mpF m (insB (nI p) (nI k) b s) b)), (w3, eI G 12 (mpF i (insE (nI p) (nI k) b e s) e)), (w4, eI G 12 s), (w12, eI G 10 b2), (w13, eI G 10 e2)]) (by rw [show i = m by omega]) ?_
                    refine z_ws (ws' := [(w0, .inr (5, [.int th, .int (nI (n + k)), .ref w1, .int (nI v), .int (nI m), .ref w2, .ref w3, .ref w4, .ref w5, .ref w6, .ref w7, .ref w8, .ref w9, .ref w10, .ref w11, .int (nI j), .ref w12, .ref w13, .ref w14, .ref w15, .ref w16])), (w1, eI G 60 (filF (va_cpy f f p (p + k) (n - p)) p (p + k) x)), (w2, eI G 12 (mpF m (insB (nI p) (nI k) b s) b)), (w3, eI G 12 (mpF m (insE (nI p) (nI k) b e s) e)), (w4, eI G 12 s), (w12, eI G 10 b2), (w13, eI G 10 e2)]) (by rw [show i = m by omega]) ?_
                    refine z_iconst (v := nI 0) hF dX5_inserts_240 (by decide) ?_
                    refine z_istore (lv' := [some (.ref w0), some (.int (nI p)), some (.int x), some (.int (nI k)), some (.int (nI 0)), none, none, none]) hF dX5_inserts_241 rfl rfl ?_
                    refine z_ws (ws' := [(w0, .inr (5, [.int th, .int (nI (n + k)), .ref w1, .int (nI v), .int (nI m), .ref w2, .ref w3, .ref w4, .ref w5, .ref w6, .ref w7, .ref w8, .ref w9, .ref w10, .ref w11, .int (nI j), .ref w12, .ref w13, .ref w14, .ref w15, .ref w16])), (w1, eI G 60 (filF (va_cpy f f p (p + k) (n - p)) p (p + k) x)), (w2, eI G 12 (mpF m (insB (nI p) (nI k) b s) b)), (w3, eI G 12 (mpF m (insE (nI p) (nI k) b e s) e)), (w4, eI G 12 s), (w12, eI G 10 (mpF 0 (siB (nI p) (nI k) b2) b2)), (w13, eI G 10 e2)]) (by simp only [mpF_0]) ?_
                    refine z_ws (ws' := [(w0, .inr (5, [.int th, .int (nI (n + k)), .ref w1, .int (nI v), .int (nI m), .ref w2, .ref w3, .ref w4, .ref w5, .ref w6, .ref w7, .ref w8, .ref w9, .ref w10, .ref w11, .int (nI j), .ref w12, .ref w13, .ref w14, .ref w15, .ref w16])), (w1, eI G 60 (filF (va_cpy f f p (p + k) (n - p)) p (p + k) x)), (w2, eI G 12 (mpF m (insB (nI p) (nI k) b s) b)), (w3, eI G 12 (mpF m (insE (nI p) (nI k) b e s) e)), (w4, eI G 12 s), (w12, eI G 10 (mpF 0 (siB (nI p) (nI k) b2) b2)), (w13, eI G 10 (mpF 0 (siE (nI p) (nI k) e2) e2))]) (by simp only [mpF_0]) ?_
                    have J_243 : ∀ (n9 : Nat) (i : Nat), j - i < n9 → (i ≤ j) → zJ G X 243 [(w0, .inr (5, [.int th, .int (nI (n + k)), .ref w1, .int (nI v), .int (nI m), .ref w2, .ref w3, .ref w4, .ref w5, .ref w6, .ref w7, .ref w8, .ref w9, .ref w10, .ref w11, .int (nI j), .ref w12, .ref w13, .ref w14, .ref w15, .ref w16])), (w1, eI G 60 (filF (va_cpy f f p (p + k) (n - p)) p (p + k) x)), (w2, eI G 12 (mpF m (insB (nI p) (nI k) b s) b)), (w3, eI G 12 (mpF m (insE (nI p) (nI k) b e s) e)), (w4, eI G 12 s), (w12, eI G 10 (mpF i (siB (nI p) (nI k) b2) b2)), (w13, eI G 10 (mpF i (siE (nI p) (nI k) e2) e2))] [some (.ref w0), some (.int (nI p)), some (.int x), some (.int (nI k)), some (.int (nI i)), none, none, none] [] 0 0 := by
                      intro n9
                      induction n9 with
                      | zero => intro i hmu; exact absurd hmu (Nat.not_lt_zero _)
                      | succ n9 ih =>
                        intro i hmu h2
                        refine z_iload hF dX5_inserts_243 rfl ?_
                        refine z_aload_n hF dX5_inserts_245 rfl ?_
                        refine z_get (C := RX5) (T := TX5) (N := 21) (ci := 5) (v := .int (nI j)) hF k_0 15 (by decide) rfl k_3 rfl 0 rfl rfl dX5_inserts_246 ?_
                        refine z_icn_ge (tgt := 310) hF (by omega) (by omega) dX5_inserts_249 (by decide) (fun c_3 => ?_) (fun c_3 => ?_)
                        · refine z_ws (ws' := [(w0, .inr (5, [.int th, .int (nI (n + k)), .ref w1, .int (nI v), .int (nI m), .ref w2, .ref w3, .ref w4, .ref w5, .ref w6, .ref w7, .ref w8, .ref w9, .ref w10, .ref w11, .int (nI j), .ref w12, .ref w13, .ref w14, .ref w15, .ref w16])), (w1, eI G 60 (filF (va_cpy f f p (p + k) (n - p)) p (p + k) x)), (w2, eI G 12 (mpF m (insB (nI p) (nI k) b s) b)), (w3, eI G 12 (mpF m (insE (nI p) (nI k) b e s) e)), (w4, eI G 12 s), (w12, eI G 10 (mpF j (siB (nI p) (nI k) b2) b2)), (w13, eI G 10 (mpF i (siE (nI p) (nI k) e2) e2))]) (by rw [show i = j by omega]) ?_
                          refine z_ws (ws' := [(w0, .inr (5, [.int th, .int (nI (n + k)), .ref w1, .int (nI v), .int (nI m), .ref w2, .ref w3, .ref w4, .ref w5, .ref w6, .ref w7, .ref w8, .ref w9, .ref w10, .ref w11, .int (nI j), .ref w12, .ref w13, .ref w14, .ref w15, .ref w16])), (w1, eI G 60 (filF (va_cpy f f p (p + k) (n - p)) p (p + k) x)), (w2, eI G 12 (mpF m (insB (nI p) (nI k) b s) b)), (w3, eI G 12 (mpF m (insE (nI p) (nI k) b e s) e)), (w4, eI G 12 s), (w12, eI G 10 (mpF j (siB (nI p) (nI k) b2) b2)), (w13, eI G 10 (mpF j (siE (nI p) (nI k) e2) e2))]) (by rw [show i = j by omega]) ?_
                          refine z_aload_n hF dX5_inserts_310 rfl ?_
                          refine z_dup hF dX5_inserts_311 rfl ?_
                          refine z_get (C := RX5) (T := TX5) (N := 21) (ci := 5) (v := .int (nI v)) hF k_0 3 (by decide) rfl k_4 rfl 0 rfl rfl dX5_inserts_312 ?_
                          refine z_iconst (v := nI 1) hF dX5_inserts_315 (by decide) ?_
                          refine z_iadd hF dX5_inserts_316 ?_
                          refine z_top (nI_add v 1) ?_
                          refine z_put (C := RX5) (T := TX5) (N := 21) (ci := 5) (ws' := [(w0, .inr (5, [.int th, .int (nI (n + k)), .ref w1, .int (nI (v + 1)), .int (nI m), .ref w2, .ref w3, .ref w4, .ref w5, .ref w6, .ref w7, .ref w8, .ref w9, .ref w10, .ref w11, .int (nI j), .ref w12, .ref w13, .ref w14, .ref w15, .ref w16])), (w1, eI G 60 (filF (va_cpy f f p (p + k) (n - p)) p (p + k) x)), (w2, eI G 12 (mpF m (insB (nI p) (nI k) b s) b)), (w3, eI G 12 (mpF m (insE (nI p) (nI k) b e s) e)), (w4, eI G 12 s), (w12, eI G 10 (mpF j (siB (nI p) (nI k) b2) b2)), (w13, eI G 10 (mpF j (siE (nI p) (nI k) e2) e2))]) hF k_0 tyX5 tyX5_ok nmX5 3 (by decide) rfl k_4 rfl rfl rfl rfl 0 rfl rfl rfl dX5_inserts_317 ?_
                          exact hR.v dX5_inserts_320 (Nat.le_of_ble_eq_true rfl) (Nat.le_of_ble_eq_true rfl) (rfl)
                        · refine z_aload_n hF dX5_inserts_252 rfl ?_
                          refine z_get (C := RX5) (T := TX5) (N := 21) (ci := 5) (v := .ref w12) hF k_0 16 (by decide) rfl k_5 rfl 0 rfl rfl dX5_inserts_253 ?_
                          refine z_iload hF dX5_inserts_256 rfl ?_
                          refine z_dup2 hF dX5_inserts_258 rfl rfl ?_
                          refine z_iald (k := i) hF 5 rfl (rfl) (by omega) rfl dX5_inserts_259 ?_
                          refine z_top (y := b2 i) (mpF_at _ _ (Nat.le_refl i)) ?_
                          refine z_aload_n hF dX5_inserts_260 rfl ?_
                          refine z_get (C := RX5) (T := TX5) (N := 21) (ci := 5) (v := .ref w12) hF k_0 16 (by decide) rfl k_5 rfl 0 rfl rfl dX5_inserts_261 ?_
                          refine z_iload hF dX5_inserts_264 rfl ?_
                          refine z_iald (k := i) hF 5 rfl (rfl) (by omega) rfl dX5_inserts_266 ?_
                          refine z_top (y := b2 i) (mpF_at _ _ (Nat.le_refl i)) ?_
                          refine z_iload_n hF dX5_inserts_267 rfl ?_
                          refine z_ic_lt (tgt := 275) hF dX5_inserts_268 (by decide) (fun hf => ?_) (fun hf => ?_)
                          · refine z_iconst (v := nI 0) hF dX5_inserts_275 (by decide) ?_
                            refine z_iadd hF dX5_inserts_276 ?_
                            refine z_iast (k := i) (ws' := [(w0, .inr (5, [.int th, .int (nI (n + k)), .ref w1, .int (nI v), .int (nI m), .ref w2, .ref w3, .ref w4, .ref w5, .ref w6, .ref w7, .ref w8, .ref w9, .ref w10, .ref w11, .int (nI j), .ref w12, .ref w13, .ref w14, .ref w15, .ref w16])), (w1, eI G 60 (filF (va_cpy f f p (p + k) (n - p)) p (p + k) x)), (w2, eI G 12 (mpF m (insB (nI p) (nI k) b s) b)), (w3, eI G 12 (mpF m (insE (nI p) (nI k) b e s) e)), (w4, eI G 12 s), (w12, eI G 10 (upd (mpF i (siB (nI p) (nI k) b2) b2) i ((b2 i) + (nI 0)))), (w13, eI G 10 (mpF i (siE (nI p) (nI k) e2) e2))]) hF 5 rfl (rfl) (by omega) rfl rfl dX5_inserts_277 ?_
                            refine z_ws (ws' := [(w0, .inr (5, [.int th, .int (nI (n + k)), .ref w1, .int (nI v), .int (nI m), .ref w2, .ref w3, .ref w4, .ref w5, .ref w6, .ref w7, .ref w8, .ref w9, .ref w10, .ref w11, .int (nI j), .ref w12, .ref w13, .ref w14, .ref w15, .ref w16])), (w1, eI G 60 (filF (va_cpy f f p (p + k) (n - p)) p (p + k) x)), (w2, eI G 12 (mpF m (insB (nI p) (nI k) b s) b)), (w3, eI G 12 (mpF m (insE (nI p) (nI k) b e s) e)), (w4, eI G 12 s), (w12, eI G 10 (mpF (i + 1) (siB (nI p) (nI k) b2) b2)), (w13, eI G 10 (mpF i (siE (nI p) (nI k) e2) e2))]) (by rw [← mpF_up (siB (nI p) (nI k) b2)]; simp [siB, hf]) ?_
                            refine z_aload_n hF dX5_inserts_278 rfl ?_
                            refine z_get (C := RX5) (T := TX5) (N := 21) (ci := 5) (v := .ref w13) hF k_0 17 (by decide) rfl k_6 rfl 0 rfl rfl dX5_inserts_279 ?_
                            refine z_iload hF dX5_inserts_282 rfl ?_
                            refine z_dup2 hF dX5_inserts_284 rfl rfl ?_
                            refine z_iald (k := i) hF 6 rfl (rfl) (by omega) rfl dX5_inserts_285 ?_
                            refine z_top (y := e2 i) (mpF_at _ _ (Nat.le_refl i)) ?_
                            refine z_aload_n hF dX5_inserts_286 rfl ?_
                            refine z_get (C := RX5) (T := TX5) (N := 21) (ci := 5) (v := .ref w13) hF k_0 17 (by decide) rfl k_6 rfl 0 rfl rfl dX5_inserts_287 ?_
                            refine z_iload hF dX5_inserts_290 rfl ?_
                            refine z_iald (k := i) hF 6 rfl (rfl) (by omega) rfl dX5_inserts_292 ?_
                            refine z_top (y := e2 i) (mpF_at _ _ (Nat.le_refl i)) ?_
                            refine z_iload_n hF dX5_inserts_293 rfl ?_
                            refine z_ic_le (tgt := 301) hF dX5_inserts_294 (by decide) (fun hl => ?_) (fun hl => ?_)
                            · refine z_iconst (v := nI 0) hF dX5_inserts_301 (by decide) ?_
                              refine z_iadd hF dX5_inserts_302 ?_
                              refine z_iast (k := i) (ws' := [(w0, .inr (5, [.int th, .int (nI (n + k)), .ref w1, .int (nI v), .int (nI m), .ref w2, .ref w3, .ref w4, .ref w5, .ref w6, .ref w7, .ref w8, .ref w9, .ref w10, .ref w11, .int (nI j), .ref w12, .ref w13, .ref w14, .ref w15, .ref w16])), (w1, eI G 60 (filF (va_cpy f f p (p + k) (n - p)) p (p + k) x)), (w2, eI G 12 (mpF m (insB (nI p) (nI k) b s) b)), (w3, eI G 12 (mpF m (insE (nI p) (nI k) b e s) e)), (w4, eI G 12 s), (w12, eI G 10 (mpF (i + 1) (siB (nI p) (nI k) b2) b2)), (w13, eI G 10 (upd (mpF i (siE (nI p) (nI k) e2) e2) i ((e2 i) + (nI 0))))]) hF 6 rfl (rfl) (by omega) rfl rfl dX5_inserts_303 ?_
                              refine z_ws (ws' := [(w0, .inr (5, [.int th, .int (nI (n + k)), .ref w1, .int (nI v), .int (nI m), .ref w2, .ref w3, .ref w4, .ref w5, .ref w6, .ref w7, .ref w8, .ref w9, .ref w10, .ref w11, .int (nI j), .ref w12, .ref w13, .ref w14, .ref w15, .ref w16])), (w1, eI G 60 (filF (va_cpy f f p (p + k) (n - p)) p (p + k) x)), (w2, eI G 12 (mpF m (insB (nI p) (nI k) b s) b)), (w3, eI G 12 (mpF m (insE (nI p) (nI k) b e s) e)), (w4, eI G 12 s), (w12, eI G 10 (mpF (i + 1) (siB (nI p) (nI k) b2) b2)), (w13, eI G 10 (mpF (i + 1) (siE (nI p) (nI k) e2) e2))]) (by rw [← mpF_up (siE (nI p) (nI k) e2)]; simp [siE, hl]) ?_
                              refine z_iinc (v := nI (i + 1)) (lv' := [some (.ref w0), some (.int (nI p)), some (.int x), some (.int (nI k)), some (.int (nI (i + 1))), none, none, none]) hF dX5_inserts_304 rfl (nI_1 i) rfl rfl ?_
                              refine z_goto (tgt := 243) hF dX5_inserts_307 (by decide) ?_
                              exact ih (i + 1) (by omega) (by omega)
                            · refine z_iload_n hF dX5_inserts_297 rfl ?_
                              refine z_goto (tgt := 302) hF dX5_inserts_298 (by decide) ?_
                              refine z_iadd hF dX5_inserts_302 ?_
                              refine z_iast (k := i) (ws' := [(w0, .inr (5, [.int th, .int (nI (n + k)), .ref w1, .int (nI v), .int (nI m), .ref w2, .ref w3, .ref w4, .ref w5, .ref w6, .ref w7, .ref w8, .ref w9, .ref w10, .ref w11, .int (nI j), .ref w12, .ref w13, .ref w14, .ref w15, .ref w16])), (w1, eI G 60 (filF (va_cpy f f p (p + k) (n - p)) p (p + k) x)), (w2, eI G 12 (mpF m (insB (nI p) (nI k) b s) b)), (w3, eI G 12 (mpF m (insE (nI p) (nI k) b e s) e)), (w4, eI G 12 s), (w12, eI G 10 (mpF (i + 1) (siB (nI p) (nI k) b2) b2)), (w13, eI G 10 (upd (mpF i (siE (nI p) (nI k) e2) e2) i ((e2 i) + (nI k))))]) hF 6 rfl (rfl) (by omega) rfl rfl dX5_inserts_303 ?_
                              refine z_ws (ws' := [(w0, .inr (5, [.int th, .int (nI (n + k)), .ref w1, .int (nI v), .int (nI m), .ref w2, .ref w3, .ref w4, .ref w5, .ref w6, .ref w7, .ref w8, .ref w9, .ref w10, .ref w11, .int (nI j), .ref w12, .ref w13, .ref w14, .ref w15, .ref w16])), (w1, eI G 60 (filF (va_cpy f f p (p + k) (n - p)) p (p + k) x)), (w2, eI G 12 (mpF m (insB (nI p) (nI k) b s) b)), (w3, eI G 12 (mpF m (insE (nI p) (nI k) b e s) e)), (w4, eI G 12 s), (w12, eI G 10 (mpF (i + 1) (siB (nI p) (nI k) b2) b2)), (w13, eI G 10 (mpF (i + 1) (siE (nI p) (nI k) e2) e2))]) (by rw [← mpF_up (siE (nI p) (nI k) e2)]; simp [siE, hl]) ?_
                              refine z_iinc (v := nI (i + 1)) (lv' := [some (.ref w0), some (.int (nI p)), some (.int x), some (.int (nI k)), some (.int (nI (i + 1))), none, none, none]) hF dX5_inserts_304 rfl (nI_1 i) rfl rfl ?_
                              refine z_goto (tgt := 243) hF dX5_inserts_307 (by decide) ?_
                              exact ih (i + 1) (by omega) (by omega)
                          · refine z_iload_n hF dX5_inserts_271 rfl ?_
                            refine z_goto (tgt := 276) hF dX5_inserts_272 (by decide) ?_
                            refine z_iadd hF dX5_inserts_276 ?_
                            refine z_iast (k := i) (ws' := [(w0, .inr (5, [.int th, .int (nI (n + k)), .ref w1, .int (nI v), .int (nI m), .ref w2, .ref w3, .ref w4, .ref w5, .ref w6, .ref w7, .ref w8, .ref w9, .ref w10, .ref w11, .int (nI j), .ref w12, .ref w13, .ref w14, .ref w15, .ref w16])), (w1, eI G 60 (filF (va_cpy f f p (p + k) (n - p)) p (p + k) x)), (w2, eI G 12 (mpF m (insB (nI p) (nI k) b s) b)), (w3, eI G 12 (mpF m (insE (nI p) (nI k) b e s) e)), (w4, eI G 12 s), (w12, eI G 10 (upd (mpF i (siB (nI p) (nI k) b2) b2) i ((b2 i) + (nI k)))), (w13, eI G 10 (mpF i (siE (nI p) (nI k) e2) e2))]) hF 5 rfl (rfl) (by omega) rfl rfl dX5_inserts_277 ?_
                            refine z_ws (ws' := [(w0, .inr (5, [.int th, .int (nI (n + k)), .ref w1, .int (nI v), .int (nI m), .ref w2, .ref w3, .ref w4, .ref w5, .ref w6, .ref w7, .ref w8, .ref w9, .ref w10, .ref w11, .int (nI j), .ref w12, .ref w13, .ref w14, .ref w15, .ref w16])), (w1, eI G 60 (filF (va_cpy f f p (p + k) (n - p)) p (p + k) x)), (w2, eI G 12 (mpF m (insB (nI p) (nI k) b s) b)), (w3, eI G 12 (mpF m (insE (nI p) (nI k) b e s) e)), (w4, eI G 12 s), (w12, eI G 10 (mpF (i + 1) (siB (nI p) (nI k) b2) b2)), (w13, eI G 10 (mpF i (siE (nI p) (nI k) e2) e2))]) (by rw [← mpF_up (siB (nI p) (nI k) b2)]; simp [siB, hf]) ?_
                            refine z_aload_n hF dX5_inserts_278 rfl ?_
                            refine z_get (C := RX5) (T := TX5) (N := 21) (ci := 5) (v := .ref w13) hF k_0 17 (by decide) rfl k_6 rfl 0 rfl rfl dX5_inserts_279 ?_
                            refine z_iload hF dX5_inserts_282 rfl ?_
                            refine z_dup2 hF dX5_inserts_284 rfl rfl ?_
                            refine z_iald (k := i) hF 6 rfl (rfl) (by omega) rfl dX5_inserts_285 ?_
                            refine z_top (y := e2 i) (mpF_at _ _ (Nat.le_refl i)) ?_
                            refine z_aload_n hF dX5_inserts_286 rfl ?_
                            refine z_get (C := RX5) (T := TX5) (N := 21) (ci := 5) (v := .ref w13) hF k_0 17 (by decide) rfl k_6 rfl 0 rfl rfl dX5_inserts_287 ?_
                            refine z_iload hF dX5_inserts_290 rfl ?_
                            refine z_iald (k := i) hF 6 rfl (rfl) (by omega) rfl dX5_inserts_292 ?_
                            refine z_top (y := e2 i) (mpF_at _ _ (Nat.le_refl i)) ?_
                            refine z_iload_n hF dX5_inserts_293 rfl ?_
                            refine z_ic_le (tgt := 301) hF dX5_inserts_294 (by decide) (fun hl => ?_) (fun hl => ?_)
                            · refine z_iconst (v := nI 0) hF dX5_inserts_301 (by decide) ?_
                              refine z_iadd hF dX5_inserts_302 ?_
                              refine z_iast (k := i) (ws' := [(w0, .inr (5, [.int th, .int (nI (n + k)), .ref w1, .int (nI v), .int (nI m), .ref w2, .ref w3, .ref w4, .ref w5, .ref w6, .ref w7, .ref w8, .ref w9, .ref w10, .ref w11, .int (nI j), .ref w12, .ref w13, .ref w14, .ref w15, .ref w16])), (w1, eI G 60 (filF (va_cpy f f p (p + k) (n - p)) p (p + k) x)), (w2, eI G 12 (mpF m (insB (nI p) (nI k) b s) b)), (w3, eI G 12 (mpF m (insE (nI p) (nI k) b e s) e)), (w4, eI G 12 s), (w12, eI G 10 (mpF (i + 1) (siB (nI p) (nI k) b2) b2)), (w13, eI G 10 (upd (mpF i (siE (nI p) (nI k) e2) e2) i ((e2 i) + (nI 0))))]) hF 6 rfl (rfl) (by omega) rfl rfl dX5_inserts_303 ?_
                              refine z_ws (ws' := [(w0, .inr (5, [.int th, .int (nI (n + k)), .ref w1, .int (nI v), .int (nI m), .ref w2, .ref w3, .ref w4, .ref w5, .ref w6, .ref w7, .ref w8, .ref w9, .ref w10, .ref w11, .int (nI j), .ref w12, .ref w13, .ref w14, .ref w15, .ref w16])), (w1, eI G 60 (filF (va_cpy f f p (p + k) (n - p)) p (p + k) x)), (w2, eI G 12 (mpF m (insB (nI p) (nI k) b s) b)), (w3, eI G 12 (mpF m (insE (nI p) (nI k) b e s) e)), (w4, eI G 12 s), (w12, eI G 10 (mpF (i + 1) (siB (nI p) (nI k) b2) b2)), (w13, eI G 10 (mpF (i + 1) (siE (nI p) (nI k) e2) e2))]) (by rw [← mpF_up (siE (nI p) (nI k) e2)]; simp [siE, hl]) ?_
                              refine z_iinc (v := nI (i + 1)) (lv' := [some (.ref w0), some (.int (nI p)), some (.int x), some (.int (nI k)), some (.int (nI (i + 1))), none, none, none]) hF dX5_inserts_304 rfl (nI_1 i) rfl rfl ?_
                              refine z_goto (tgt := 243) hF dX5_inserts_307 (by decide) ?_
                              exact ih (i + 1) (by omega) (by omega)
                            · refine z_iload_n hF dX5_inserts_297 rfl ?_
                              refine z_goto (tgt := 302) hF dX5_inserts_298 (by decide) ?_
                              refine z_iadd hF dX5_inserts_302 ?_
                              refine z_iast (k := i) (ws' := [(w0, .inr (5, [.int th, .int (nI (n + k)), .ref w1, .int (nI v), .int (nI m), .ref w2, .ref w3, .ref w4, .ref w5, .ref w6, .ref w7, .ref w8, .ref w9, .ref w10, .ref w11, .int (nI j), .ref w12, .ref w13, .ref w14, .ref w15, .ref w16])), (w1, eI G 60 (filF (va_cpy f f p (p + k) (n - p)) p (p + k) x)), (w2, eI G 12 (mpF m (insB (nI p) (nI k) b s) b)), (w3, eI G 12 (mpF m (insE (nI p) (nI k) b e s) e)), (w4, eI G 12 s), (w12, eI G 10 (mpF (i + 1) (siB (nI p) (nI k) b2) b2)), (w13, eI G 10 (upd (mpF i (siE (nI p) (nI k) e2) e2) i ((e2 i) + (nI k))))]) hF 6 rfl (rfl) (by omega) rfl rfl dX5_inserts_303 ?_
                              refine z_ws (ws' := [(w0, .inr (5, [.int th, .int (nI (n + k)), .ref w1, .int (nI v), .int (nI m), .ref w2, .ref w3, .ref w4, .ref w5, .ref w6, .ref w7, .ref w8, .ref w9, .ref w10, .ref w11, .int (nI j), .ref w12, .ref w13, .ref w14, .ref w15, .ref w16])), (w1, eI G 60 (filF (va_cpy f f p (p + k) (n - p)) p (p + k) x)), (w2, eI G 12 (mpF m (insB (nI p) (nI k) b s) b)), (w3, eI G 12 (mpF m (insE (nI p) (nI k) b e s) e)), (w4, eI G 12 s), (w12, eI G 10 (mpF (i + 1) (siB (nI p) (nI k) b2) b2)), (w13, eI G 10 (mpF (i + 1) (siE (nI p) (nI k) e2) e2))]) (by rw [← mpF_up (siE (nI p) (nI k) e2)]; simp [siE, hl]) ?_
                              refine z_iinc (v := nI (i + 1)) (lv' := [some (.ref w0), some (.int (nI p)), some (.int x), some (.int (nI k)), some (.int (nI (i + 1))), none, none, none]) hF dX5_inserts_304 rfl (nI_1 i) rfl rfl ?_
                              refine z_goto (tgt := 243) hF dX5_inserts_307 (by decide) ?_
                              exact ih (i + 1) (by omega) (by omega)
                    exact J_243 ((j - 0) + 1) 0 (Nat.lt_succ_self _) (by omega)
                  · have J_99 : zJ G X 99 [(w0, .inr (5, [.int th, .int (nI (n + k)), .ref w1, .int (nI v), .int (nI m), .ref w2, .ref w3, .ref w4, .ref w5, .ref w6, .ref w7, .ref w8, .ref w9, .ref w10, .ref w11, .int (nI j), .ref w12, .ref w13, .ref w14, .ref w15, .ref w16])), (w1, eI G 60 (filF (va_cpy f f p (p + k) (n - p)) p (p + k) x)), (w2, eI G 12 (mpF i (insB (nI p) (nI k) b s) b)), (w3, eI G 12 (mpF i (insE (nI p) (nI k) b e s) e)), (w4, eI G 12 s), (w12, eI G 10 b2), (w13, eI G 10 e2)] [some (.ref w0), some (.int (nI p)), some (.int x), some (.int (nI k)), some (.int (nI i)), none, none, none] [.int (zb (¬ b i = -1))] 0 0 := by
                      refine z_istore (lv' := [some (.ref w0), some (.int (nI p)), some (.int x), some (.int (nI k)), some (.int (nI i)), some (.int (zb (¬ b i = -1))), none, none]) hF dX5_inserts_99 rfl rfl ?_
                      have J_140 : zJ G X 140 [(w0, .inr (5, [.int th, .int (nI (n + k)), .ref w1, .int (nI v), .int (nI m), .ref w2, .ref w3, .ref w4, .ref w5, .ref w6, .ref w7, .ref w8, .ref w9, .ref w10, .ref w11, .int (nI j), .ref w12, .ref w13, .ref w14, .ref w15, .ref w16])), (w1, eI G 60 (filF (va_cpy f f p (p + k) (n - p)) p (p + k) x)), (w2, eI G 12 (mpF i (insB (nI p) (nI k) b s) b)), (w3, eI G 12 (mpF i (insE (nI p) (nI k) b e s) e)), (w4, eI G 12 s), (w12, eI G 10 b2), (w13, eI G 10 e2)] [some (.ref w0), some (.int (nI p)), some (.int x), some (.int (nI k)), some (.int (nI i)), some (.int (zb (¬ b i = -1))), none, none] [.int (zb (begP (nI p) b s i))] 0 0 := by
                        refine z_istore (lv' := [some (.ref w0), some (.int (nI p)), some (.int x), some (.int (nI k)), some (.int (nI i)), some (.int (zb (¬ b i = -1))), some (.int (zb (begP (nI p) b s i))), none]) hF dX5_inserts_140 rfl rfl ?_
                        have J_182 : zJ G X 182 [(w0, .inr (5, [.int th, .int (nI (n + k)), .ref w1, .int (nI v), .int (nI m), .ref w2, .ref w3, .ref w4, .ref w5, .ref w6, .ref w7, .ref w8, .ref w9, .ref w10, .ref w11, .int (nI j), .ref w12, .ref w13, .ref w14, .ref w15, .ref w16])), (w1, eI G 60 (filF (va_cpy f f p (p + k) (n - p)) p (p + k) x)), (w2, eI G 12 (mpF i (insB (nI p) (nI k) b s) b)), (w3, eI G 12 (mpF i (insE (nI p) (nI k) b e s) e)), (w4, eI G 12 s), (w12, eI G 10 b2), (w13, eI G 10 e2)] [some (.ref w0), some (.int (nI p)), some (.int x), some (.int (nI k)), some (.int (nI i)), some (.int (zb (¬ b i = -1))), some (.int (zb (begP (nI p) b s i))), none] [.int (zb (endP (nI p) e s i))] 0 0 := by
                          refine z_istore (lv' := [some (.ref w0), some (.int (nI p)), some (.int x), some (.int (nI k)), some (.int (nI i)), some (.int (zb (¬ b i = -1))), some (.int (zb (begP (nI p) b s i))), some (.int (zb (endP (nI p) e s i)))]) hF dX5_inserts_182 rfl rfl ?_
                          refine z_aload_n hF dX5_inserts_184 rfl ?_
                          refine z_get (C := RX5) (T := TX5) (N := 21) (ci := 5) (v := .ref w2) hF k_0 5 (by decide) rfl k_7 rfl 0 rfl rfl dX5_inserts_185 ?_
                          refine z_iload hF dX5_inserts_188 rfl ?_
                          refine z_dup2 hF dX5_inserts_190 rfl rfl ?_
                          refine z_iald (k := i) hF 2 rfl (rfl) (by omega) rfl dX5_inserts_191 ?_
                          refine z_top (y := b i) (mpF_at _ _ (Nat.le_refl i)) ?_
                          have J_207 : zJ G X 207 [(w0, .inr (5, [.int th, .int (nI (n + k)), .ref w1, .int (nI v), .int (nI m), .ref w2, .ref w3, .ref w4, .ref w5, .ref w6, .ref w7, .ref w8, .ref w9, .ref w10, .ref w11, .int (nI j), .ref w12, .ref w13, .ref w14, .ref w15, .ref w16])), (w1, eI G 60 (filF (va_cpy f f p (p + k) (n - p)) p (p + k) x)), (w2, eI G 12 (mpF i (insB (nI p) (nI k) b s) b)), (w3, eI G 12 (mpF i (insE (nI p) (nI k) b e s) e)), (w4, eI G 12 s), (w12, eI G 10 b2), (w13, eI G 10 e2)] [some (.ref w0), some (.int (nI p)), some (.int x), some (.int (nI k)), some (.int (nI i)), some (.int (zb (¬ b i = -1))), some (.int (zb (begP (nI p) b s i))), some (.int (zb (endP (nI p) e s i)))] [.int (if ¬ b i = -1 ∧ begP (nI p) b s i then nI k else nI 0), .int (b i), .int (nI i), .ref w2] 0 0 := by
                            refine z_iadd hF dX5_inserts_207 ?_
                            refine z_iast (k := i) (ws' := [(w0, .inr (5, [.int th, .int (nI (n + k)), .ref w1, .int (nI v), .int (nI m), .ref w2, .ref w3, .ref w4, .ref w5, .ref w6, .ref w7, .ref w8, .ref w9, .ref w10, .ref w11, .int (nI j), .ref w12, .ref w13, .ref w14, .ref w15, .ref w16])), (w1, eI G 60 (filF (va_cpy f f p (p + k) (n - p)) p (p + k) x)), (w2, eI G 12 (upd (mpF i (insB (nI p) (nI k) b s) b) i ((b i) + (if ¬ b i = -1 ∧ begP (nI p) b s i then nI k else nI 0)))), (w3, eI G 12 (mpF i (insE (nI p) (nI k) b e s) e)), (w4, eI G 12 s), (w12, eI G 10 b2), (w13, eI G 10 e2)]) hF 2 rfl (rfl) (by omega) rfl rfl dX5_inserts_208 ?_
                            refine z_ws (ws' := [(w0, .inr (5, [.int th, .int (nI (n + k)), .ref w1, .int (nI v), .int (nI m), .ref w2, .ref w3, .ref w4, .ref w5, .ref w6, .ref w7, .ref w8, .ref w9, .ref w10, .ref w11, .int (nI j), .ref w12, .ref w13, .ref w14, .ref w15, .ref w16])), (w1, eI G 60 (filF (va_cpy f f p (p + k) (n - p)) p (p + k) x)), (w2, eI G 12 (mpF (i + 1) (insB (nI p) (nI k) b s) b)), (w3, eI G 12 (mpF i (insE (nI p) (nI k) b e s) e)), (w4, eI G 12 s), (w12, eI G 10 b2), (w13, eI G 10 e2)]) (by rw [insB_m (hs i (by omega)), mpF_up]) ?_
                            refine z_aload_n hF dX5_inserts_209 rfl ?_
                            refine z_get (C := RX5) (T := TX5) (N := 21) (ci := 5) (v := .ref w3) hF k_0 6 (by decide) rfl k_8 rfl 0 rfl rfl dX5_inserts_210 ?_
                            refine z_iload hF dX5_inserts_213 rfl ?_
                            refine z_dup2 hF dX5_inserts_215 rfl rfl ?_
                            refine z_iald (k := i) hF 3 rfl (rfl) (by omega) rfl dX5_inserts_216 ?_
                            refine z_top (y := e i) (mpF_at _ _ (Nat.le_refl i)) ?_
                            have J_232 : zJ G X 232 [(w0, .inr (5, [.int th, .int (nI (n + k)), .ref w1, .int (nI v), .int (nI m), .ref w2, .ref w3, .ref w4, .ref w5, .ref w6, .ref w7, .ref w8, .ref w9, .ref w10, .ref w11, .int (nI j), .ref w12, .ref w13, .ref w14, .ref w15, .ref w16])), (w1, eI G 60 (filF (va_cpy f f p (p + k) (n - p)) p (p + k) x)), (w2, eI G 12 (mpF (i + 1) (insB (nI p) (nI k) b s) b)), (w3, eI G 12 (mpF i (insE (nI p) (nI k) b e s) e)), (w4, eI G 12 s), (w12, eI G 10 b2), (w13, eI G 10 e2)] [some (.ref w0), some (.int (nI p)), some (.int x), some (.int (nI k)), some (.int (nI i)), some (.int (zb (¬ b i = -1))), some (.int (zb (begP (nI p) b s i))), some (.int (zb (endP (nI p) e s i)))] [.int (if ¬ b i = -1 ∧ endP (nI p) e s i then nI k else nI 0), .int (e i), .int (nI i), .ref w3] 0 0 := by
                              refine z_iadd hF dX5_inserts_232 ?_
                              refine z_iast (k := i) (ws' := [(w0, .inr (5, [.int th, .int (nI (n + k)), .ref w1, .int (nI v), .int (nI m), .ref w2, .ref w3, .ref w4, .ref w5, .ref w6, .ref w7, .ref w8, .ref w9, .ref w10, .ref w11, .int (nI j), .ref w12, .ref w13, .ref w14, .ref w15, .ref w16])), (w1, eI G 60 (filF (va_cpy f f p (p + k) (n - p)) p (p + k) x)), (w2, eI G 12 (mpF (i + 1) (insB (nI p) (nI k) b s) b)), (w3, eI G 12 (upd (mpF i (insE (nI p) (nI k) b e s) e) i ((e i) + (if ¬ b i = -1 ∧ endP (nI p) e s i then nI k else nI 0)))), (w4, eI G 12 s), (w12, eI G 10 b2), (w13, eI G 10 e2)]) hF 3 rfl (rfl) (by omega) rfl rfl dX5_inserts_233 ?_
                              refine z_ws (ws' := [(w0, .inr (5, [.int th, .int (nI (n + k)), .ref w1, .int (nI v), .int (nI m), .ref w2, .ref w3, .ref w4, .ref w5, .ref w6, .ref w7, .ref w8, .ref w9, .ref w10, .ref w11, .int (nI j), .ref w12, .ref w13, .ref w14, .ref w15, .ref w16])), (w1, eI G 60 (filF (va_cpy f f p (p + k) (n - p)) p (p + k) x)), (w2, eI G 12 (mpF (i + 1) (insB (nI p) (nI k) b s) b)), (w3, eI G 12 (mpF (i + 1) (insE (nI p) (nI k) b e s) e)), (w4, eI G 12 s), (w12, eI G 10 b2), (w13, eI G 10 e2)]) (by rw [insE_m (b := b) (hs i (by omega)), mpF_up]) ?_
                              refine z_iinc (v := nI (i + 1)) (lv' := [some (.ref w0), some (.int (nI p)), some (.int x), some (.int (nI k)), some (.int (nI (i + 1))), some (.int (zb (¬ b i = -1))), some (.int (zb (begP (nI p) b s i))), some (.int (zb (endP (nI p) e s i)))]) hF dX5_inserts_234 rfl (nI_1 i) rfl rfl ?_
                              refine z_goto (tgt := 74) hF dX5_inserts_237 (by decide) ?_
                              refine z_forget (lv' := [some (.ref w0), some (.int (nI p)), some (.int x), some (.int (nI k)), some (.int (nI (i + 1))), none, none, none]) ⟨rfl, ⟨rfl, ⟨rfl, ⟨rfl, ⟨rfl, trivial⟩⟩⟩⟩⟩ ?_
                              exact ih (i + 1) (by omega) (by omega)
                            refine z_iload hF dX5_inserts_217 rfl ?_
                            refine z_if_eq_b (tgt := 231) hF dX5_inserts_219 (by decide) (fun c_4 => ?_) (fun c_4 => ?_)
                            · refine z_iconst (v := nI 0) hF dX5_inserts_231 (by decide) ?_
                              refine z_top (y := if ¬ b i = -1 ∧ endP (nI p) e s i then nI k else nI 0) (by grind) ?_
                              exact J_232  
                            · refine z_iload hF dX5_inserts_222 rfl ?_
                              refine z_if_eq_b (tgt := 231) hF dX5_inserts_224 (by decide) (fun c_5 => ?_) (fun c_5 => ?_)
                              · refine z_iconst (v := nI 0) hF dX5_inserts_231 (by decide) ?_
                                refine z_top (y := if ¬ b i = -1 ∧ endP (nI p) e s i then nI k else nI 0) (by grind) ?_
                                exact J_232  
                              · refine z_iload_n hF dX5_inserts_227 rfl ?_
                                refine z_goto (tgt := 232) hF dX5_inserts_228 (by decide) ?_
                                refine z_top (y := if ¬ b i = -1 ∧ endP (nI p) e s i then nI k else nI 0) (by grind) ?_
                                exact J_232  
                          refine z_iload hF dX5_inserts_192 rfl ?_
                          refine z_if_eq_b (tgt := 206) hF dX5_inserts_194 (by decide) (fun c_6 => ?_) (fun c_6 => ?_)
                          · refine z_iconst (v := nI 0) hF dX5_inserts_206 (by decide) ?_
                            refine z_top (y := if ¬ b i = -1 ∧ begP (nI p) b s i then nI k else nI 0) (by grind) ?_
                            exact J_207  
                          · refine z_iload hF dX5_inserts_197 rfl ?_
                            refine z_if_eq_b (tgt := 206) hF dX5_inserts_199 (by decide) (fun c_7 => ?_) (fun c_7 => ?_)
                            · refine z_iconst (v := nI 0) hF dX5_inserts_206 (by decide) ?_
                              refine z_top (y := if ¬ b i = -1 ∧ begP (nI p) b s i then nI k else nI 0) (by grind) ?_
                              exact J_207  
                            · refine z_iload_n hF dX5_inserts_202 rfl ?_
                              refine z_goto (tgt := 207) hF dX5_inserts_203 (by decide) ?_
                              refine z_top (y := if ¬ b i = -1 ∧ begP (nI p) b s i then nI k else nI 0) (by grind) ?_
                              exact J_207  
                        refine z_aload_n hF dX5_inserts_142 rfl ?_
                        refine z_get (C := RX5) (T := TX5) (N := 21) (ci := 5) (v := .ref w3) hF k_0 6 (by decide) rfl k_8 rfl 0 rfl rfl dX5_inserts_143 ?_
                        refine z_iload hF dX5_inserts_146 rfl ?_
                        refine z_iald (k := i) hF 3 rfl (rfl) (by omega) rfl dX5_inserts_148 ?_
                        refine z_top (y := e i) (mpF_at _ _ (Nat.le_refl i)) ?_
                        refine z_iload_n hF dX5_inserts_149 rfl ?_
                        refine z_ic_gt (tgt := 177) hF dX5_inserts_150 (by decide) (fun c_8 => ?_) (fun c_8 => ?_)
                        · refine z_iconst (v := nI 1) hF dX5_inserts_177 (by decide) ?_
                          refine z_goto (tgt := 182) hF dX5_inserts_178 (by decide) ?_
                          refine z_top (y := zb (endP (nI p) e s i)) (zb1 (by first | assumption | grind)) ?_
                          exact J_182  
                        · refine z_aload_n hF dX5_inserts_153 rfl ?_
                          refine z_get (C := RX5) (T := TX5) (N := 21) (ci := 5) (v := .ref w3) hF k_0 6 (by decide) rfl k_8 rfl 0 rfl rfl dX5_inserts_154 ?_
                          refine z_iload hF dX5_inserts_157 rfl ?_
                          refine z_iald (k := i) hF 3 rfl (rfl) (by omega) rfl dX5_inserts_159 ?_
                          refine z_top (y := e i) (mpF_at _ _ (Nat.le_refl i)) ?_
                          refine z_iload_n hF dX5_inserts_160 rfl ?_
                          refine z_ic_ne (tgt := 181) hF dX5_inserts_161 (by decide) (fun c_9 => ?_) (fun c_9 => ?_)
                          · refine z_iconst (v := nI 0) hF dX5_inserts_181 (by decide) ?_
                            refine z_top (y := zb (endP (nI p) e s i)) (zb0 (by first | assumption | grind)) ?_
                            exact J_182  
                          · refine z_aload_n hF dX5_inserts_164 rfl ?_
                            refine z_get (C := RX5) (T := TX5) (N := 21) (ci := 5) (v := .ref w4) hF k_0 7 (by decide) rfl k_9 rfl 0 rfl rfl dX5_inserts_165 ?_
                            refine z_iload hF dX5_inserts_168 rfl ?_
                            refine z_iald (k := i) hF 4 rfl (rfl) (by omega) rfl dX5_inserts_170 ?_
                            refine z_iconst (v := nI 2) hF dX5_inserts_171 (by decide) ?_
                            refine z_idiv hF dX5_inserts_172 (by decide) ?_
                            refine z_iconst (v := nI 1) hF dX5_inserts_173 (by decide) ?_
                            refine z_ic_ne (tgt := 181) hF dX5_inserts_174 (by decide) (fun c_10 => ?_) (fun c_10 => ?_)
                            · refine z_iconst (v := nI 0) hF dX5_inserts_181 (by decide) ?_
                              refine z_top (y := zb (endP (nI p) e s i)) (zb0 (by first | assumption | grind)) ?_
                              exact J_182  
                            · refine z_iconst (v := nI 1) hF dX5_inserts_177 (by decide) ?_
                              refine z_goto (tgt := 182) hF dX5_inserts_178 (by decide) ?_
                              refine z_top (y := zb (endP (nI p) e s i)) (zb1 (by first | assumption | grind)) ?_
                              exact J_182  
                      refine z_aload_n hF dX5_inserts_101 rfl ?_
                      refine z_get (C := RX5) (T := TX5) (N := 21) (ci := 5) (v := .ref w2) hF k_0 5 (by decide) rfl k_7 rfl 0 rfl rfl dX5_inserts_102 ?_
                      refine z_iload hF dX5_inserts_105 rfl ?_
                      refine z_iald (k := i) hF 2 rfl (rfl) (by omega) rfl dX5_inserts_107 ?_
                      refine z_top (y := b i) (mpF_at _ _ (Nat.le_refl i)) ?_
                      refine z_iload_n hF dX5_inserts_108 rfl ?_
                      refine z_ic_gt (tgt := 135) hF dX5_inserts_109 (by decide) (fun c_11 => ?_) (fun c_11 => ?_)
                      · refine z_iconst (v := nI 1) hF dX5_inserts_135 (by decide) ?_
                        refine z_goto (tgt := 140) hF dX5_inserts_136 (by decide) ?_
                        refine z_top (y := zb (begP (nI p) b s i)) (zb1 (by first | assumption | grind)) ?_
                        exact J_140  
                      · refine z_aload_n hF dX5_inserts_112 rfl ?_
                        refine z_get (C := RX5) (T := TX5) (N := 21) (ci := 5) (v := .ref w2) hF k_0 5 (by decide) rfl k_7 rfl 0 rfl rfl dX5_inserts_113 ?_
                        refine z_iload hF dX5_inserts_116 rfl ?_
                        refine z_iald (k := i) hF 2 rfl (rfl) (by omega) rfl dX5_inserts_118 ?_
                        refine z_top (y := b i) (mpF_at _ _ (Nat.le_refl i)) ?_
                        refine z_iload_n hF dX5_inserts_119 rfl ?_
                        refine z_ic_ne (tgt := 139) hF dX5_inserts_120 (by decide) (fun c_12 => ?_) (fun c_12 => ?_)
                        · refine z_iconst (v := nI 0) hF dX5_inserts_139 (by decide) ?_
                          refine z_top (y := zb (begP (nI p) b s i)) (zb0 (by first | assumption | grind)) ?_
                          exact J_140  
                        · refine z_aload_n hF dX5_inserts_123 rfl ?_
                          refine z_get (C := RX5) (T := TX5) (N := 21) (ci := 5) (v := .ref w4) hF k_0 7 (by decide) rfl k_9 rfl 0 rfl rfl dX5_inserts_124 ?_
                          refine z_iload hF dX5_inserts_127 rfl ?_
                          refine z_iald (k := i) hF 4 rfl (rfl) (by omega) rfl dX5_inserts_129 ?_
                          refine z_iconst (v := nI 2) hF dX5_inserts_130 (by decide) ?_
                          refine z_irem hF dX5_inserts_131 (by decide) ?_
                          refine z_if_ne (tgt := 139) hF dX5_inserts_132 (by decide) (fun c_13 => ?_) (fun c_13 => ?_)
                          · refine z_iconst (v := nI 0) hF dX5_inserts_139 (by decide) ?_
                            refine z_top (y := zb (begP (nI p) b s i)) (zb0 (by first | assumption | grind)) ?_
                            exact J_140  
                          · refine z_iconst (v := nI 1) hF dX5_inserts_135 (by decide) ?_
                            refine z_goto (tgt := 140) hF dX5_inserts_136 (by decide) ?_
                            refine z_top (y := zb (begP (nI p) b s i)) (zb1 (by first | assumption | grind)) ?_
                            exact J_140  
                    refine z_aload_n hF dX5_inserts_83 rfl ?_
                    refine z_get (C := RX5) (T := TX5) (N := 21) (ci := 5) (v := .ref w2) hF k_0 5 (by decide) rfl k_7 rfl 0 rfl rfl dX5_inserts_84 ?_
                    refine z_iload hF dX5_inserts_87 rfl ?_
                    refine z_iald (k := i) hF 2 rfl (rfl) (by omega) rfl dX5_inserts_89 ?_
                    refine z_top (y := b i) (mpF_at _ _ (Nat.le_refl i)) ?_
                    refine z_iconst (v := -1) hF dX5_inserts_90 (by decide) ?_
                    refine z_ic_eq (tgt := 98) hF dX5_inserts_91 (by decide) (fun c_14 => ?_) (fun c_14 => ?_)
                    · refine z_iconst (v := nI 0) hF dX5_inserts_98 (by decide) ?_
                      refine z_top (y := zb (¬ b i = -1)) (zb0 (by first | assumption | grind)) ?_
                      exact J_99  
                    · refine z_iconst (v := nI 1) hF dX5_inserts_94 (by decide) ?_
                      refine z_goto (tgt := 99) hF dX5_inserts_95 (by decide) ?_
                      refine z_top (y := zb (¬ b i = -1)) (zb1 (by first | assumption | grind)) ?_
                      exact J_99  
              exact J_74 ((m - 0) + 1) 0 (Nat.lt_succ_self _) (by omega)
            · refine z_aload_n hF dX5_inserts_45 rfl ?_
              refine z_get (C := RX5) (T := TX5) (N := 21) (ci := 5) (v := .ref w1) hF k_0 2 (by decide) rfl k_10 rfl 0 rfl rfl dX5_inserts_46 ?_
              refine z_iload_n hF dX5_inserts_49 rfl ?_
              refine z_iload hF dX5_inserts_50 rfl ?_
              refine z_iadd hF dX5_inserts_52 ?_
              refine z_top (nI_add p i) ?_
              refine z_iload_n hF dX5_inserts_53 rfl ?_
              refine z_iast (k := p + i) (ws' := [(w0, .inr (5, [.int th, .int (nI n), .ref w1, .int (nI v), .int (nI m), .ref w2, .ref w3, .ref w4, .ref w5, .ref w6, .ref w7, .ref w8, .ref w9, .ref w10, .ref w11, .int (nI j), .ref w12, .ref w13, .ref w14, .ref w15, .ref w16])), (w1, eI G 60 (upd (filF (va_cpy f f p (p + k) (n - p)) p (p + i) x) (p + i) x)), (w2, eI G 12 b), (w3, eI G 12 e), (w4, eI G 12 s), (w12, eI G 10 b2), (w13, eI G 10 e2)]) hF 1 rfl (rfl) (by omega) rfl rfl dX5_inserts_54 ?_
              refine z_ws (ws' := [(w0, .inr (5, [.int th, .int (nI n), .ref w1, .int (nI v), .int (nI m), .ref w2, .ref w3, .ref w4, .ref w5, .ref w6, .ref w7, .ref w8, .ref w9, .ref w10, .ref w11, .int (nI j), .ref w12, .ref w13, .ref w14, .ref w15, .ref w16])), (w1, eI G 60 (filF (va_cpy f f p (p + k) (n - p)) p (p + (i + 1)) x)), (w2, eI G 12 b), (w3, eI G 12 e), (w4, eI G 12 s), (w12, eI G 10 b2), (w13, eI G 10 e2)]) (by rw [filF_up _ x (by omega)]; rfl) ?_
              refine z_iinc (v := nI (i + 1)) (lv' := [some (.ref w0), some (.int (nI p)), some (.int x), some (.int (nI k)), some (.int (nI (i + 1))), none, none, none]) hF dX5_inserts_55 rfl (nI_1 i) rfl rfl ?_
              refine z_goto (tgt := 39) hF dX5_inserts_58 (by decide) ?_
              exact ih (i + 1) (by omega) (by omega)
        exact J_39 ((k - 0) + 1) 0 (Nat.lt_succ_self _) (by omega)
      · have hq3 : p + 1 ≤ q := Nat.le_of_not_lt fun z => hq (zsubgt (by omega) (by omega) (by omega) z)
        refine z_lv (lv' := [some (.ref w0), some (.int (nI p)), some (.int x), some (.int (nI k)), some (.int (nI (q - 1))), none, none, none]) (by rw [pk_sub (by omega)]) ?_
        refine z_aload_n hF dX5_inserts_14 rfl ?_
        refine z_get (C := RX5) (T := TX5) (N := 21) (ci := 5) (v := .ref w1) hF k_0 2 (by decide) rfl k_10 rfl 0 rfl rfl dX5_inserts_15 ?_
        refine z_iload hF dX5_inserts_18 rfl ?_
        refine z_iload_n hF dX5_inserts_20 rfl ?_
        refine z_iadd hF dX5_inserts_21 ?_
        refine z_top (nI_add (q - 1) k) ?_
        refine z_aload_n hF dX5_inserts_22 rfl ?_
        refine z_get (C := RX5) (T := TX5) (N := 21) (ci := 5) (v := .ref w1) hF k_0 2 (by decide) rfl k_10 rfl 0 rfl rfl dX5_inserts_23 ?_
        refine z_iload hF dX5_inserts_26 rfl ?_
        refine z_iald (k := q - 1) hF 1 rfl (rfl) (by omega) rfl dX5_inserts_28 ?_
        refine z_top (y := f (q - 1)) (cpy_dat f (by omega)) ?_
        refine z_iast (k := q - 1 + k) (ws' := [(w0, .inr (5, [.int th, .int (nI n), .ref w1, .int (nI v), .int (nI m), .ref w2, .ref w3, .ref w4, .ref w5, .ref w6, .ref w7, .ref w8, .ref w9, .ref w10, .ref w11, .int (nI j), .ref w12, .ref w13, .ref w14, .ref w15, .ref w16])), (w1, eI G 60 (upd (va_cpy f f q (q + k) (n - q)) (q - 1 + k) (f (q - 1)))), (w2, eI G 12 b), (w3, eI G 12 e), (w4, eI G 12 s), (w12, eI G 10 b2), (w13, eI G 10 e2)]) hF 1 rfl (rfl) (by omega) rfl rfl dX5_inserts_29 ?_
        refine z_ws (ws' := [(w0, .inr (5, [.int th, .int (nI n), .ref w1, .int (nI v), .int (nI m), .ref w2, .ref w3, .ref w4, .ref w5, .ref w6, .ref w7, .ref w8, .ref w9, .ref w10, .ref w11, .int (nI j), .ref w12, .ref w13, .ref w14, .ref w15, .ref w16])), (w1, eI G 60 (va_cpy f f (q - 1) ((q - 1) + k) (n - (q - 1)))), (w2, eI G 12 b), (w3, eI G 12 e), (w4, eI G 12 s), (w12, eI G 10 b2), (w13, eI G 10 e2)]) (by rw [cpy_dn f (by omega) hq2]) ?_
        refine z_iinc (v := (nI (q - 1)) - (nI 1)) (lv' := [some (.ref w0), some (.int (nI p)), some (.int x), some (.int (nI k)), some (.int ((nI (q - 1)) - (nI 1))), none, none, none]) hF dX5_inserts_30 rfl (nI_dec _) rfl rfl ?_
        refine z_goto (tgt := 8) hF dX5_inserts_33 (by decide) ?_
        exact ih (q - 1) (by omega) (by omega) (by omega)
  exact J_8 ((n - p) + 1) n (Nat.lt_succ_self _) (by omega) (by omega)
