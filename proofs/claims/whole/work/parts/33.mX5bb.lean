set_option maxHeartbeats 4000000 in
set_option maxRecDepth 100000 in
theorem c_X5_removes (G : zG) (w0 w1 w2 w3 w4 w5 w6 w7 w8 w9 w10 w11 w12 w13 w14 w15 w16 n v m j : Nat) (th : Int32) (f : Nat → Int32) (b : Nat → Int32) (e : Nat → Int32) (b2 : Nat → Int32) (e2 : Nat → Int32) (xs : Nat → Int32) (p k : Nat) (own : Int32) (hm : m ≤ 12) (hj : j ≤ 10) (hn : n ≤ 60) (hp : p + k ≤ n) : zM G yX5_removes wsX5_removes ({ frames := 1, cells := 0, slots := 0, locals := 34 }) [.ref w0, .int (nI p), .int (nI k), .int own] [(w0, .inr (5, [.int th, .int (nI n), .ref w1, .int (nI v), .int (nI m), .ref w2, .ref w3, .ref w4, .ref w5, .ref w6, .ref w7, .ref w8, .ref w9, .ref w10, .ref w11, .int (nI j), .ref w12, .ref w13, .ref w14, .ref w15, .ref w16])), (w1, eI G 60 f), (w2, eI G 12 b), (w3, eI G 12 e), (w12, eI G 10 b2), (w13, eI G 10 e2), (w16, eI G 10 xs)] [(w0, .inr (5, [.int th, .int (nI (n - k)), .ref w1, .int (nI (v + 1)), .int (nI m), .ref w2, .ref w3, .ref w4, .ref w5, .ref w6, .ref w7, .ref w8, .ref w9, .ref w10, .ref w11, .int (nI j), .ref w12, .ref w13, .ref w14, .ref w15, .ref w16])), (w1, eI G 60 (va_cpy f f (p + k) p (n - (p + k)))), (w2, eI G 12 (mpF m (remB (nI p) (nI k) b e) b)), (w3, eI G 12 (mpF m (remE (nI p) (nI k) b e) e)), (w12, eI G 10 (mpF j (slB (nI p) (nI k) b2) b2)), (w13, eI G 10 (mpF j (slB (nI p) (nI k) e2) e2)), (w16, eI G 10 (mpF j (slS (nI p) (nI k) own b2 e2 xs) xs))] (some (.int (nI (cntF (gonP (nI p) (nI k) b e) m)))) 0 0 := by
  refine zM.ofI (own := RX5) (cc := cX5_removes) (maxL := 7) rfl (by decide) rfl rfl (by simp [Value.category]) (Nat.le_of_ble_eq_true rfl) ?_
  intro X hF hR
  have k_0 : ∀ w ∈ wsX50, w ∈ wsX5_removes := by decide +kernel
  have k_1 : zH X (.fieldLink RX5 66 "MarginDeskModel" "length" "I") := hF.w (by decide +kernel)
  have k_2 : zH X (.fieldLink RX5 73 "MarginDeskModel" "comments" "I") := hF.w (by decide +kernel)
  have k_3 : zH X (.fieldLink RX5 76 "MarginDeskModel" "suggestions" "I") := hF.w (by decide +kernel)
  have k_4 : zH X (.fieldLink RX5 79 "MarginDeskModel" "edits" "I") := hF.w (by decide +kernel)
  have k_5 : zH X (.fieldLink RX5 44 "MarginDeskModel" "first" "[I") := hF.w (by decide +kernel)
  have k_6 : zH X (.fieldLink RX5 47 "MarginDeskModel" "last" "[I") := hF.w (by decide +kernel)
  have k_7 : zH X (.fieldLink RX5 56 "MarginDeskModel" "state" "[I") := hF.w (by decide +kernel)
  have k_8 : zH X (.fieldLink RX5 13 "MarginDeskModel" "from" "[I") := hF.w (by decide +kernel)
  have k_9 : zH X (.fieldLink RX5 16 "MarginDeskModel" "to" "[I") := hF.w (by decide +kernel)
  have k_10 : zH X (.fieldLink RX5 7 "MarginDeskModel" "letters" "[I") := hF.w (by decide +kernel)
  refine z_lv (lv' := [some (.ref w0), some (.int (nI p)), some (.int (nI k)), some (.int own), none, none, none]) rfl ?_
  refine z_iload_n hF dX5_removes_0 rfl ?_
  refine z_iload_n hF dX5_removes_1 rfl ?_
  refine z_iadd hF dX5_removes_2 ?_
  refine z_top (nI_add p k) ?_
  refine z_istore (lv' := [some (.ref w0), some (.int (nI p)), some (.int (nI k)), some (.int own), some (.int (nI (p + k))), none, none]) hF dX5_removes_3 rfl rfl ?_
  refine z_ws (ws' := [(w0, .inr (5, [.int th, .int (nI n), .ref w1, .int (nI v), .int (nI m), .ref w2, .ref w3, .ref w4, .ref w5, .ref w6, .ref w7, .ref w8, .ref w9, .ref w10, .ref w11, .int (nI j), .ref w12, .ref w13, .ref w14, .ref w15, .ref w16])), (w1, eI G 60 (va_cpy f f (p + k) p ((p + k) - (p + k)))), (w2, eI G 12 b), (w3, eI G 12 e), (w12, eI G 10 b2), (w13, eI G 10 e2), (w16, eI G 10 xs)]) (by rw [Nat.sub_self, cpy_0]) ?_
  have J_5 : ∀ (n9 : Nat) (i : Nat), n - i < n9 → (p + k ≤ i) → (i ≤ n) → zJ G X 5 [(w0, .inr (5, [.int th, .int (nI n), .ref w1, .int (nI v), .int (nI m), .ref w2, .ref w3, .ref w4, .ref w5, .ref w6, .ref w7, .ref w8, .ref w9, .ref w10, .ref w11, .int (nI j), .ref w12, .ref w13, .ref w14, .ref w15, .ref w16])), (w1, eI G 60 (va_cpy f f (p + k) p (i - (p + k)))), (w2, eI G 12 b), (w3, eI G 12 e), (w12, eI G 10 b2), (w13, eI G 10 e2), (w16, eI G 10 xs)] [some (.ref w0), some (.int (nI p)), some (.int (nI k)), some (.int own), some (.int (nI i)), none, none] [] 0 0 := by
    intro n9
    induction n9 with
    | zero => intro i hmu; exact absurd hmu (Nat.not_lt_zero _)
    | succ n9 ih =>
      intro i hmu h1 h2
      refine z_iload hF dX5_removes_5 rfl ?_
      refine z_aload_n hF dX5_removes_7 rfl ?_
      refine z_get (C := RX5) (T := TX5) (N := 21) (ci := 5) (v := .int (nI n)) hF k_0 1 (by decide) rfl k_1 rfl 0 rfl rfl dX5_removes_8 ?_
      refine z_icn_ge (tgt := 36) hF (by omega) (by omega) dX5_removes_11 (by decide) (fun c_1 => ?_) (fun c_1 => ?_)
      · refine z_ws (ws' := [(w0, .inr (5, [.int th, .int (nI n), .ref w1, .int (nI v), .int (nI m), .ref w2, .ref w3, .ref w4, .ref w5, .ref w6, .ref w7, .ref w8, .ref w9, .ref w10, .ref w11, .int (nI j), .ref w12, .ref w13, .ref w14, .ref w15, .ref w16])), (w1, eI G 60 (va_cpy f f (p + k) p (n - (p + k)))), (w2, eI G 12 b), (w3, eI G 12 e), (w12, eI G 10 b2), (w13, eI G 10 e2), (w16, eI G 10 xs)]) (by rw [show i = n by omega]) ?_
        refine z_aload_n hF dX5_removes_36 rfl ?_
        refine z_dup hF dX5_removes_37 rfl ?_
        refine z_get (C := RX5) (T := TX5) (N := 21) (ci := 5) (v := .int (nI n)) hF k_0 1 (by decide) rfl k_1 rfl 0 rfl rfl dX5_removes_38 ?_
        refine z_iload_n hF dX5_removes_41 rfl ?_
        refine z_isub hF dX5_removes_42 ?_
        refine z_top (pk_sub (by omega)) ?_
        refine z_put (C := RX5) (T := TX5) (N := 21) (ci := 5) (ws' := [(w0, .inr (5, [.int th, .int (nI (n - k)), .ref w1, .int (nI v), .int (nI m), .ref w2, .ref w3, .ref w4, .ref w5, .ref w6, .ref w7, .ref w8, .ref w9, .ref w10, .ref w11, .int (nI j), .ref w12, .ref w13, .ref w14, .ref w15, .ref w16])), (w1, eI G 60 (va_cpy f f (p + k) p (n - (p + k)))), (w2, eI G 12 b), (w3, eI G 12 e), (w12, eI G 10 b2), (w13, eI G 10 e2), (w16, eI G 10 xs)]) hF k_0 tyX5 tyX5_ok nmX5 1 (by decide) rfl k_1 rfl rfl rfl rfl 0 rfl rfl rfl dX5_removes_43 ?_
        refine z_iconst (v := nI 0) hF dX5_removes_46 (by decide) ?_
        refine z_istore (lv' := [some (.ref w0), some (.int (nI p)), some (.int (nI k)), some (.int own), some (.int (nI 0)), none, none]) hF dX5_removes_47 rfl rfl ?_
        refine z_iconst (v := nI 0) hF dX5_removes_49 (by decide) ?_
        refine z_istore (lv' := [some (.ref w0), some (.int (nI p)), some (.int (nI k)), some (.int own), some (.int (nI 0)), some (.int (nI 0)), none]) hF dX5_removes_50 rfl rfl ?_
        refine z_ws (ws' := [(w0, .inr (5, [.int th, .int (nI (n - k)), .ref w1, .int (nI v), .int (nI m), .ref w2, .ref w3, .ref w4, .ref w5, .ref w6, .ref w7, .ref w8, .ref w9, .ref w10, .ref w11, .int (nI j), .ref w12, .ref w13, .ref w14, .ref w15, .ref w16])), (w1, eI G 60 (va_cpy f f (p + k) p (n - (p + k)))), (w2, eI G 12 (mpF 0 (remB (nI p) (nI k) b e) b)), (w3, eI G 12 e), (w12, eI G 10 b2), (w13, eI G 10 e2), (w16, eI G 10 xs)]) (by simp only [mpF_0]) ?_
        refine z_ws (ws' := [(w0, .inr (5, [.int th, .int (nI (n - k)), .ref w1, .int (nI v), .int (nI m), .ref w2, .ref w3, .ref w4, .ref w5, .ref w6, .ref w7, .ref w8, .ref w9, .ref w10, .ref w11, .int (nI j), .ref w12, .ref w13, .ref w14, .ref w15, .ref w16])), (w1, eI G 60 (va_cpy f f (p + k) p (n - (p + k)))), (w2, eI G 12 (mpF 0 (remB (nI p) (nI k) b e) b)), (w3, eI G 12 (mpF 0 (remE (nI p) (nI k) b e) e)), (w12, eI G 10 b2), (w13, eI G 10 e2), (w16, eI G 10 xs)]) (by simp only [mpF_0]) ?_
        refine z_lv (lv' := [some (.ref w0), some (.int (nI p)), some (.int (nI k)), some (.int own), some (.int (nI (cntF (gonP (nI p) (nI k) b e) 0))), some (.int (nI 0)), none]) (by rfl) ?_
        have J_52 : ∀ (n9 : Nat) (i : Nat), m - i < n9 → (i ≤ m) → zJ G X 52 [(w0, .inr (5, [.int th, .int (nI (n - k)), .ref w1, .int (nI v), .int (nI m), .ref w2, .ref w3, .ref w4, .ref w5, .ref w6, .ref w7, .ref w8, .ref w9, .ref w10, .ref w11, .int (nI j), .ref w12, .ref w13, .ref w14, .ref w15, .ref w16])), (w1, eI G 60 (va_cpy f f (p + k) p (n - (p + k)))), (w2, eI G 12 (mpF i (remB (nI p) (nI k) b e) b)), (w3, eI G 12 (mpF i (remE (nI p) (nI k) b e) e)), (w12, eI G 10 b2), (w13, eI G 10 e2), (w16, eI G 10 xs)] [some (.ref w0), some (.int (nI p)), some (.int (nI k)), some (.int own), some (.int (nI (cntF (gonP (nI p) (nI k) b e) i))), some (.int (nI i)), none] [] 0 0 := by
          intro n9
          induction n9 with
          | zero => intro i hmu; exact absurd hmu (Nat.not_lt_zero _)
          | succ n9 ih =>
            intro i hmu h2
            refine z_iload hF dX5_removes_52 rfl ?_
            refine z_aload_n hF dX5_removes_54 rfl ?_
            refine z_get (C := RX5) (T := TX5) (N := 21) (ci := 5) (v := .int (nI m)) hF k_0 4 (by decide) rfl k_2 rfl 0 rfl rfl dX5_removes_55 ?_
            refine z_icn_ge (tgt := 201) hF (by omega) (by omega) dX5_removes_58 (by decide) (fun c_2 => ?_) (fun c_2 => ?_)
            · refine z_ws (ws' := [(w0, .inr (5, [.int th, .int (nI (n - k)), .ref w1, .int (nI v), .int (nI m), .ref w2, .ref w3, .ref w4, .ref w5, .ref w6, .ref w7, .ref w8, .ref w9, .ref w10, .ref w11, .int (nI j), .ref w12, .ref w13, .ref w14, .ref w15, .ref w16])), (w1, eI G 60 (va_cpy f f (p + k) p (n - (p + k)))), (w2, eI G 12 (mpF m (remB (nI p) (nI k) b e) b)), (w3, eI G 12 (mpF i (remE (nI p) (nI k) b e) e)), (w12, eI G 10 b2), (w13, eI G 10 e2), (w16, eI G 10 xs)]) (by rw [show i = m by omega]) ?_
              refine z_ws (ws' := [(w0, .inr (5, [.int th, .int (nI (n - k)), .ref w1, .int (nI v), .int (nI m), .ref w2, .ref w3, .ref w4, .ref w5, .ref w6, .ref w7, .ref w8, .ref w9, .ref w10, .ref w11, .int (nI j), .ref w12, .ref w13, .ref w14, .ref w15, .ref w16])), (w1, eI G 60 (va_cpy f f (p + k) p (n - (p + k)))), (w2, eI G 12 (mpF m (remB (nI p) (nI k) b e) b)), (w3, eI G 12 (mpF m (remE (nI p) (nI k) b e) e)), (w12, eI G 10 b2), (w13, eI G 10 e2), (w16, eI G 10 xs)]) (by rw [show i = m by omega]) ?_
              refine z_lv (lv' := [some (.ref w0), some (.int (nI p)), some (.int (nI k)), some (.int own), some (.int (nI (cntF (gonP (nI p) (nI k) b e) m))), some (.int (nI i)), none]) (by rw [show i = m by omega]) ?_
              refine z_iconst (v := nI 0) hF dX5_removes_201 (by decide) ?_
              refine z_istore (lv' := [some (.ref w0), some (.int (nI p)), some (.int (nI k)), some (.int own), some (.int (nI (cntF (gonP (nI p) (nI k) b e) m))), some (.int (nI 0)), none]) hF dX5_removes_202 rfl rfl ?_
              refine z_ws (ws' := [(w0, .inr (5, [.int th, .int (nI (n - k)), .ref w1, .int (nI v), .int (nI m), .ref w2, .ref w3, .ref w4, .ref w5, .ref w6, .ref w7, .ref w8, .ref w9, .ref w10, .ref w11, .int (nI j), .ref w12, .ref w13, .ref w14, .ref w15, .ref w16])), (w1, eI G 60 (va_cpy f f (p + k) p (n - (p + k)))), (w2, eI G 12 (mpF m (remB (nI p) (nI k) b e) b)), (w3, eI G 12 (mpF m (remE (nI p) (nI k) b e) e)), (w12, eI G 10 (mpF 0 (slB (nI p) (nI k) b2) b2)), (w13, eI G 10 e2), (w16, eI G 10 xs)]) (by simp only [mpF_0]) ?_
              refine z_ws (ws' := [(w0, .inr (5, [.int th, .int (nI (n - k)), .ref w1, .int (nI v), .int (nI m), .ref w2, .ref w3, .ref w4, .ref w5, .ref w6, .ref w7, .ref w8, .ref w9, .ref w10, .ref w11, .int (nI j), .ref w12, .ref w13, .ref w14, .ref w15, .ref w16])), (w1, eI G 60 (va_cpy f f (p + k) p (n - (p + k)))), (w2, eI G 12 (mpF m (remB (nI p) (nI k) b e) b)), (w3, eI G 12 (mpF m (remE (nI p) (nI k) b e) e)), (w12, eI G 10 (mpF 0 (slB (nI p) (nI k) b2) b2)), (w13, eI G 10 (mpF 0 (slB (nI p) (nI k) e2) e2)), (w16, eI G 10 xs)]) (by simp only [mpF_0]) ?_
              refine z_ws (ws' := [(w0, .inr (5, [.int th, .int (nI (n - k)), .ref w1, .int (nI v), .int (nI m), .ref w2, .ref w3, .ref w4, .ref w5, .ref w6, .ref w7, .ref w8, .ref w9, .ref w10, .ref w11, .int (nI j), .ref w12, .ref w13, .ref w14, .ref w15, .ref w16])), (w1, eI G 60 (va_cpy f f (p + k) p (n - (p + k)))), (w2, eI G 12 (mpF m (remB (nI p) (nI k) b e) b)), (w3, eI G 12 (mpF m (remE (nI p) (nI k) b e) e)), (w12, eI G 10 (mpF 0 (slB (nI p) (nI k) b2) b2)), (w13, eI G 10 (mpF 0 (slB (nI p) (nI k) e2) e2)), (w16, eI G 10 (mpF 0 (slS (nI p) (nI k) own b2 e2 xs) xs))]) (by simp only [mpF_0]) ?_
              have J_204 : ∀ (n9 : Nat) (i : Nat), j - i < n9 → (i ≤ j) → zJ G X 204 [(w0, .inr (5, [.int th, .int (nI (n - k)), .ref w1, .int (nI v), .int (nI m), .ref w2, .ref w3, .ref w4, .ref w5, .ref w6, .ref w7, .ref w8, .ref w9, .ref w10, .ref w11, .int (nI j), .ref w12, .ref w13, .ref w14, .ref w15, .ref w16])), (w1, eI G 60 (va_cpy f f (p + k) p (n - (p + k)))), (w2, eI G 12 (mpF m (remB (nI p) (nI k) b e) b)), (w3, eI G 12 (mpF m (remE (nI p) (nI k) b e) e)), (w12, eI G 10 (mpF i (slB (nI p) (nI k) b2) b2)), (w13, eI G 10 (mpF i (slB (nI p) (nI k) e2) e2)), (w16, eI G 10 (mpF i (slS (nI p) (nI k) own b2 e2 xs) xs))] [some (.ref w0), some (.int (nI p)), some (.int (nI k)), some (.int own), some (.int (nI (cntF (gonP (nI p) (nI k) b e) m))), some (.int (nI i)), none] [] 0 0 := by
                intro n9
                induction n9 with
                | zero => intro i hmu; exact absurd hmu (Nat.not_lt_zero _)
                | succ n9 ih =>
                  intro i hmu h2
                  refine z_iload hF dX5_removes_204 rfl ?_
                  refine z_aload_n hF dX5_removes_206 rfl ?_
                  refine z_get (C := RX5) (T := TX5) (N := 21) (ci := 5) (v := .int (nI j)) hF k_0 15 (by decide) rfl k_3 rfl 0 rfl rfl dX5_removes_207 ?_
                  refine z_icn_ge (tgt := 308) hF (by omega) (by omega) dX5_removes_210 (by decide) (fun c_3 => ?_) (fun c_3 => ?_)
                  · refine z_ws (ws' := [(w0, .inr (5, [.int th, .int (nI (n - k)), .ref w1, .int (nI v), .int (nI m), .ref w2, .ref w3, .ref w4, .ref w5, .ref w6, .ref w7, .ref w8, .ref w9, .ref w10, .ref w11, .int (nI j), .ref w12, .ref w13, .ref w14, .ref w15, .ref w16])), (w1, eI G 60 (va_cpy f f (p + k) p (n - (p + k)))), (w2, eI G 12 (mpF m (remB (nI p) (nI k) b e) b)), (w3, eI G 12 (mpF m (remE (nI p) (nI k) b e) e)), (w12, eI G 10 (mpF j (slB (nI p) (nI k) b2) b2)), (w13, eI G 10 (mpF i (slB (nI p) (nI k) e2) e2)), (w16, eI G 10 (mpF i (slS (nI p) (nI k) own b2 e2 xs) xs))]) (by rw [show i = j by omega]) ?_
                    refine z_ws (ws' := [(w0, .inr (5, [.int th, .int (nI (n - k)), .ref w1, .int (nI v), .int (nI m), .ref w2, .ref w3, .ref w4, .ref w5, .ref w6, .ref w7, .ref w8, .ref w9, .ref w10, .ref w11, .int (nI j), .ref w12, .ref w13, .ref w14, .ref w15, .ref w16])), (w1, eI G 60 (va_cpy f f (p + k) p (n - (p + k)))), (w2, eI G 12 (mpF m (remB (nI p) (nI k) b e) b)), (w3, eI G 12 (mpF m (remE (nI p) (nI k) b e) e)), (w12, eI G 10 (mpF j (slB (nI p) (nI k) b2) b2)), (w13, eI G 10 (mpF j (slB (nI p) (nI k) e2) e2)), (w16, eI G 10 (mpF i (slS (nI p) (nI k) own b2 e2 xs) xs))]) (by rw [show i = j by omega]) ?_
                    refine z_ws (ws' := [(w0, .inr (5, [.int th, .int (nI (n - k)), .ref w1, .int (nI v), .int (nI m), .ref w2, .ref w3, .ref w4, .ref w5, .ref w6, .ref w7, .ref w8, .ref w9, .ref w10, .ref w11, .int (nI j), .ref w12, .ref w13, .ref w14, .ref w15, .ref w16])), (w1, eI G 60 (va_cpy f f (p + k) p (n - (p + k)))), (w2, eI G 12 (mpF m (remB (nI p) (nI k) b e) b)), (w3, eI G 12 (mpF m (remE (nI p) (nI k) b e) e)), (w12, eI G 10 (mpF j (slB (nI p) (nI k) b2) b2)), (w13, eI G 10 (mpF j (slB (nI p) (nI k) e2) e2)), (w16, eI G 10 (mpF j (slS (nI p) (nI k) own b2 e2 xs) xs))]) (by rw [show i = j by omega]) ?_
                    refine z_aload_n hF dX5_removes_308 rfl ?_
                    refine z_dup hF dX5_removes_309 rfl ?_
                    refine z_get (C := RX5) (T := TX5) (N := 21) (ci := 5) (v := .int (nI v)) hF k_0 3 (by decide) rfl k_4 rfl 0 rfl rfl dX5_removes_310 ?_
                    refine z_iconst (v := nI 1) hF dX5_removes_313 (by decide) ?_
                    refine z_iadd hF dX5_removes_314 ?_
                    refine z_top (nI_add v 1) ?_
                    refine z_put (C := RX5) (T := TX5) (N := 21) (ci := 5) (ws' := [(w0, .inr (5, [.int th, .int (nI (n - k)), .ref w1, .int (nI (v + 1)), .int (nI m), .ref w2, .ref w3, .ref w4, .ref w5, .ref w6, .ref w7, .ref w8, .ref w9, .ref w10, .ref w11, .int (nI j), .ref w12, .ref w13, .ref w14, .ref w15, .ref w16])), (w1, eI G 60 (va_cpy f f (p + k) p (n - (p + k)))), (w2, eI G 12 (mpF m (remB (nI p) (nI k) b e) b)), (w3, eI G 12 (mpF m (remE (nI p) (nI k) b e) e)), (w12, eI G 10 (mpF j (slB (nI p) (nI k) b2) b2)), (w13, eI G 10 (mpF j (slB (nI p) (nI k) e2) e2)), (w16, eI G 10 (mpF j (slS (nI p) (nI k) own b2 e2 xs) xs))]) hF k_0 tyX5 tyX5_ok nmX5 3 (by decide) rfl k_4 rfl rfl rfl rfl 0 rfl rfl rfl dX5_removes_315 ?_
                    refine z_iload hF dX5_removes_318 rfl ?_
                    exact hR.i dX5_removes_320 (Nat.le_of_ble_eq_true rfl) (Nat.le_of_ble_eq_true rfl) (rfl) (rfl)
                  · refine z_aload_n hF dX5_removes_213 rfl ?_
                    refine z_get (C := RX5) (T := TX5) (N := 21) (ci := 5) (v := .ref w12) hF k_0 16 (by decide) rfl k_5 rfl 0 rfl rfl dX5_removes_214 ?_
                    refine z_iload hF dX5_removes_217 rfl ?_
                    refine z_aload_n hF dX5_removes_219 rfl ?_
                    refine z_get (C := RX5) (T := TX5) (N := 21) (ci := 5) (v := .ref w12) hF k_0 16 (by decide) rfl k_5 rfl 0 rfl rfl dX5_removes_220 ?_
                    refine z_iload hF dX5_removes_223 rfl ?_
                    refine z_iald (k := i) hF 4 rfl (rfl) (by omega) rfl dX5_removes_225 ?_
                    refine z_top (y := b2 i) (mpF_at _ _ (Nat.le_refl i)) ?_
                    refine z_iload_n hF dX5_removes_226 rfl ?_
                    refine z_iload_n hF dX5_removes_227 rfl ?_
                    refine z_S (As := [.int (b2 i), .int (nI p), .int (nI k)]) (rest := [.int (nI i), .ref w12]) (ws' := [(w0, .inr (5, [.int th, .int (nI (n - k)), .ref w1, .int (nI v), .int (nI m), .ref w2, .ref w3, .ref w4, .ref w5, .ref w6, .ref w7, .ref w8, .ref w9, .ref w10, .ref w11, .int (nI j), .ref w12, .ref w13, .ref w14, .ref w15, .ref w16])), (w1, eI G 60 (va_cpy f f (p + k) p (n - (p + k)))), (w2, eI G 12 (mpF m (remB (nI p) (nI k) b e) b)), (w3, eI G 12 (mpF m (remE (nI p) (nI k) b e) e)), (w12, eI G 10 (mpF i (slB (nI p) (nI k) b2) b2)), (w13, eI G 10 (mpF i (slB (nI p) (nI k) e2) e2)), (w16, eI G 10 (mpF i (slS (nI p) (nI k) own b2 e2 xs) xs))]) (st2 := [.int (behF (b2 i) (nI p) (nI k)), .int (nI i), .ref w12]) (c2 := 0) (s2 := 0) hF (c_X5_less G (b2 i) (nI p) (nI k)) gX5_removes_X5_less rfl rfl rfl hs_X5_less ⟨⟨Nat.le_of_ble_eq_true rfl, Nat.le_of_ble_eq_true rfl⟩, ⟨Nat.le_of_ble_eq_true rfl, Nat.le_of_ble_eq_true rfl⟩, Nat.le_of_ble_eq_true rfl⟩ [] rfl rfl rfl rfl rfl rfl rfl rfl rfl rfl dX5_removes_228 ?_
                    refine z_iast (k := i) (ws' := [(w0, .inr (5, [.int th, .int (nI (n - k)), .ref w1, .int (nI v), .int (nI m), .ref w2, .ref w3, .ref w4, .ref w5, .ref w6, .ref w7, .ref w8, .ref w9, .ref w10, .ref w11, .int (nI j), .ref w12, .ref w13, .ref w14, .ref w15, .ref w16])), (w1, eI G 60 (va_cpy f f (p + k) p (n - (p + k)))), (w2, eI G 12 (mpF m (remB (nI p) (nI k) b e) b)), (w3, eI G 12 (mpF m (remE (nI p) (nI k) b e) e)), (w12, eI G 10 (upd (mpF i (slB (nI p) (nI k) b2) b2) i (behF (b2 i) (nI p) (nI k)))), (w13, eI G 10 (mpF i (slB (nI p) (nI k) e2) e2)), (w16, eI G 10 (mpF i (slS (nI p) (nI k) own b2 e2 xs) xs))]) hF 4 rfl (rfl) (by omega) rfl rfl dX5_removes_231 ?_
                    refine z_ws (ws' := [(w0, .inr (5, [.int th, .int (nI (n - k)), .ref w1, .int (nI v), .int (nI m), .ref w2, .ref w3, .ref w4, .ref w5, .ref w6, .ref w7, .ref w8, .ref w9, .ref w10, .ref w11, .int (nI j), .ref w12, .ref w13, .ref w14, .ref w15, .ref w16])), (w1, eI G 60 (va_cpy f f (p + k) p (n - (p + k)))), (w2, eI G 12 (mpF m (remB (nI p) (nI k) b e) b)), (w3, eI G 12 (mpF m (remE (nI p) (nI k) b e) e)), (w12, eI G 10 (mpF (i + 1) (slB (nI p) (nI k) b2) b2)), (w13, eI G 10 (mpF i (slB (nI p) (nI k) e2) e2)), (w16, eI G 10 (mpF i (slS (nI p) (nI k) own b2 e2 xs) xs))]) (by rw [← mpF_up (slB (nI p) (nI k) b2)]; rfl) ?_
                    refine z_aload_n hF dX5_removes_232 rfl ?_
                    refine z_get (C := RX5) (T := TX5) (N := 21) (ci := 5) (v := .ref w13) hF k_0 17 (by decide) rfl k_6 rfl 0 rfl rfl dX5_removes_233 ?_
                    refine z_iload hF dX5_removes_236 rfl ?_
                    refine z_aload_n hF dX5_removes_238 rfl ?_
                    refine z_get (C := RX5) (T := TX5) (N := 21) (ci := 5) (v := .ref w13) hF k_0 17 (by decide) rfl k_6 rfl 0 rfl rfl dX5_removes_239 ?_
                    refine z_iload hF dX5_removes_242 rfl ?_
                    refine z_iald (k := i) hF 5 rfl (rfl) (by omega) rfl dX5_removes_244 ?_
                    refine z_top (y := e2 i) (mpF_at _ _ (Nat.le_refl i)) ?_
                    refine z_iload_n hF dX5_removes_245 rfl ?_
                    refine z_iload_n hF dX5_removes_246 rfl ?_
                    refine z_S (As := [.int (e2 i), .int (nI p), .int (nI k)]) (rest := [.int (nI i), .ref w13]) (ws' := [(w0, .inr (5, [.int th, .int (nI (n - k)), .ref w1, .int (nI v), .int (nI m), .ref w2, .ref w3, .ref w4, .ref w5, .ref w6, .ref w7, .ref w8, .ref w9, .ref w10, .ref w11, .int (nI j), .ref w12, .ref w13, .ref w14, .ref w15, .ref w16])), (w1, eI G 60 (va_cpy f f (p + k) p (n - (p + k)))), (w2, eI G 12 (mpF m (remB (nI p) (nI k) b e) b)), (w3, eI G 12 (mpF m (remE (nI p) (nI k) b e) e)), (w12, eI G 10 (mpF (i + 1) (slB (nI p) (nI k) b2) b2)), (w13, eI G 10 (mpF i (slB (nI p) (nI k) e2) e2)), (w16, eI G 10 (mpF i (slS (nI p) (nI k) own b2 e2 xs) xs))]) (st2 := [.int (behF (e2 i) (nI p) (nI k)), .int (nI i), .ref w13]) (c2 := 0) (s2 := 0) hF (c_X5_less G (e2 i) (nI p) (nI k)) gX5_removes_X5_less rfl rfl rfl hs_X5_less ⟨⟨Nat.le_of_ble_eq_true rfl, Nat.le_of_ble_eq_true rfl⟩, ⟨Nat.le_of_ble_eq_true rfl, Nat.le_of_ble_eq_true rfl⟩, Nat.le_of_ble_eq_true rfl⟩ [] rfl rfl rfl rfl rfl rfl rfl rfl rfl rfl dX5_removes_247 ?_
                    refine z_iast (k := i) (ws' := [(w0, .inr (5, [.int th, .int (nI (n - k)), .ref w1, .int (nI v), .int (nI m), .ref w2, .ref w3, .ref w4, .ref w5, .ref w6, .ref w7, .ref w8, .ref w9, .ref w10, .ref w11, .int (nI j), .ref w12, .ref w13, .ref w14, .ref w15, .ref w16])), (w1, eI G 60 (va_cpy f f (p + k) p (n - (p + k)))), (w2, eI G 12 (mpF m (remB (nI p) (nI k) b e) b)), (w3, eI G 12 (mpF m (remE (nI p) (nI k) b e) e)), (w12, eI G 10 (mpF (i + 1) (slB (nI p) (nI k) b2) b2)), (w13, eI G 10 (upd (mpF i (slB (nI p) (nI k) e2) e2) i (behF (e2 i) (nI p) (nI k)))), (w16, eI G 10 (mpF i (slS (nI p) (nI k) own b2 e2 xs) xs))]) hF 5 rfl (rfl) (by omega) rfl rfl dX5_removes_250 ?_
                    refine z_ws (ws' := [(w0, .inr (5, [.int th, .int (nI (n - k)), .ref w1, .int (nI v), .int (nI m), .ref w2, .ref w3, .ref w4, .ref w5, .ref w6, .ref w7, .ref w8, .ref w9, .ref w10, .ref w11, .int (nI j), .ref w12, .ref w13, .ref w14, .ref w15, .ref w16])), (w1, eI G 60 (va_cpy f f (p + k) p (n - (p + k)))), (w2, eI G 12 (mpF m (remB (nI p) (nI k) b e) b)), (w3, eI G 12 (mpF m (remE (nI p) (nI k) b e) e)), (w12, eI G 10 (mpF (i + 1) (slB (nI p) (nI k) b2) b2)), (w13, eI G 10 (mpF (i + 1) (slB (nI p) (nI k) e2) e2)), (w16, eI G 10 (mpF i (slS (nI p) (nI k) own b2 e2 xs) xs))]) (by rw [← mpF_up (slB (nI p) (nI k) e2)]; rfl) ?_
                    refine z_aload_n hF dX5_removes_251 rfl ?_
                    refine z_get (C := RX5) (T := TX5) (N := 21) (ci := 5) (v := .ref w16) hF k_0 20 (by decide) rfl k_7 rfl 0 rfl rfl dX5_removes_252 ?_
                    refine z_iload hF dX5_removes_255 rfl ?_
                    refine z_aload_n hF dX5_removes_257 rfl ?_
                    refine z_get (C := RX5) (T := TX5) (N := 21) (ci := 5) (v := .ref w16) hF k_0 20 (by decide) rfl k_7 rfl 0 rfl rfl dX5_removes_258 ?_
                    refine z_iload hF dX5_removes_261 rfl ?_
                    refine z_iald (k := i) hF 6 rfl (rfl) (by omega) rfl dX5_removes_263 ?_
                    refine z_top (y := xs i) (mpF_at _ _ (Nat.le_refl i)) ?_
                    refine z_if_ne (tgt := 294) hF dX5_removes_264 (by decide) (fun hx => ?_) (fun hx => ?_)
                    · refine z_aload_n hF dX5_removes_294 rfl ?_
                      refine z_get (C := RX5) (T := TX5) (N := 21) (ci := 5) (v := .ref w16) hF k_0 20 (by decide) rfl k_7 rfl 0 rfl rfl dX5_removes_295 ?_
                      refine z_iload hF dX5_removes_298 rfl ?_
                      refine z_iald (k := i) hF 6 rfl (rfl) (by omega) rfl dX5_removes_300 ?_
                      refine z_top (y := xs i) (mpF_at _ _ (Nat.le_refl i)) ?_
                      refine z_iast (k := i) (ws' := [(w0, .inr (5, [.int th, .int (nI (n - k)), .ref w1, .int (nI v), .int (nI m), .ref w2, .ref w3, .ref w4, .ref w5, .ref w6, .ref w7, .ref w8, .ref w9, .ref w10, .ref w11, .int (nI j), .ref w12, .ref w13, .ref w14, .ref w15, .ref w16])), (w1, eI G 60 (va_cpy f f (p + k) p (n - (p + k)))), (w2, eI G 12 (mpF m (remB (nI p) (nI k) b e) b)), (w3, eI G 12 (mpF m (remE (nI p) (nI k) b e) e)), (w12, eI G 10 (mpF (i + 1) (slB (nI p) (nI k) b2) b2)), (w13, eI G 10 (mpF (i + 1) (slB (nI p) (nI k) e2) e2)), (w16, eI G 10 (upd (mpF i (slS (nI p) (nI k) own b2 e2 xs) xs) i (xs i)))]) hF 6 rfl (rfl) (by omega) rfl rfl dX5_removes_301 ?_
                      refine z_ws (ws' := [(w0, .inr (5, [.int th, .int (nI (n - k)), .ref w1, .int (nI v), .int (nI m), .ref w2, .ref w3, .ref w4, .ref w5, .ref w6, .ref w7, .ref w8, .ref w9, .ref w10, .ref w11, .int (nI j), .ref w12, .ref w13, .ref w14, .ref w15, .ref w16])), (w1, eI G 60 (va_cpy f f (p + k) p (n - (p + k)))), (w2, eI G 12 (mpF m (remB (nI p) (nI k) b e) b)), (w3, eI G 12 (mpF m (remE (nI p) (nI k) b e) e)), (w12, eI G 10 (mpF (i + 1) (slB (nI p) (nI k) b2) b2)), (w13, eI G 10 (mpF (i + 1) (slB (nI p) (nI k) e2) e2)), (w16, eI G 10 (mpF (i + 1) (slS (nI p) (nI k) own b2 e2 xs) xs))]) (by rw [← mpF_up (slS (nI p) (nI k) own b2 e2 xs)]; simp [slS, hx]) ?_
                      refine z_iinc (v := nI (i + 1)) (lv' := [some (.ref w0), some (.int (nI p)), some (.int (nI k)), some (.int own), some (.int (nI (cntF (gonP (nI p) (nI k) b e) m))), some (.int (nI (i + 1))), none]) hF dX5_removes_302 rfl (nI_1 i) rfl rfl ?_
                      refine z_goto (tgt := 204) hF dX5_removes_305 (by decide) ?_
                      exact ih (i + 1) (by omega) (by omega)
                    · refine z_iload hF dX5_removes_267 rfl ?_
                      refine z_iload_n hF dX5_removes_269 rfl ?_
                      refine z_ic_eq (tgt := 294) hF dX5_removes_270 (by decide) (fun ho => ?_) (fun ho => ?_)
                      · refine z_aload_n hF dX5_removes_294 rfl ?_
                        refine z_get (C := RX5) (T := TX5) (N := 21) (ci := 5) (v := .ref w16) hF k_0 20 (by decide) rfl k_7 rfl 0 rfl rfl dX5_removes_295 ?_
                        refine z_iload hF dX5_removes_298 rfl ?_
                        refine z_iald (k := i) hF 6 rfl (rfl) (by omega) rfl dX5_removes_300 ?_
                        refine z_top (y := xs i) (mpF_at _ _ (Nat.le_refl i)) ?_
                        refine z_iast (k := i) (ws' := [(w0, .inr (5, [.int th, .int (nI (n - k)), .ref w1, .int (nI v), .int (nI m), .ref w2, .ref w3, .ref w4, .ref w5, .ref w6, .ref w7, .ref w8, .ref w9, .ref w10, .ref w11, .int (nI j), .ref w12, .ref w13, .ref w14, .ref w15, .ref w16])), (w1, eI G 60 (va_cpy f f (p + k) p (n - (p + k)))), (w2, eI G 12 (mpF m (remB (nI p) (nI k) b e) b)), (w3, eI G 12 (mpF m (remE (nI p) (nI k) b e) e)), (w12, eI G 10 (mpF (i + 1) (slB (nI p) (nI k) b2) b2)), (w13, eI G 10 (mpF (i + 1) (slB (nI p) (nI k) e2) e2)), (w16, eI G 10 (upd (mpF i (slS (nI p) (nI k) own b2 e2 xs) xs) i (xs i)))]) hF 6 rfl (rfl) (by omega) rfl rfl dX5_removes_301 ?_
                        refine z_ws (ws' := [(w0, .inr (5, [.int th, .int (nI (n - k)), .ref w1, .int (nI v), .int (nI m), .ref w2, .ref w3, .ref w4, .ref w5, .ref w6, .ref w7, .ref w8, .ref w9, .ref w10, .ref w11, .int (nI j), .ref w12, .ref w13, .ref w14, .ref w15, .ref w16])), (w1, eI G 60 (va_cpy f f (p + k) p (n - (p + k)))), (w2, eI G 12 (mpF m (remB (nI p) (nI k) b e) b)), (w3, eI G 12 (mpF m (remE (nI p) (nI k) b e) e)), (w12, eI G 10 (mpF (i + 1) (slB (nI p) (nI k) b2) b2)), (w13, eI G 10 (mpF (i + 1) (slB (nI p) (nI k) e2) e2)), (w16, eI G 10 (mpF (i + 1) (slS (nI p) (nI k) own b2 e2 xs) xs))]) (by rw [← mpF_up (slS (nI p) (nI k) own b2 e2 xs)]; simp [slS, hx, ho]) ?_
                        refine z_iinc (v := nI (i + 1)) (lv' := [some (.ref w0), some (.int (nI p)), some (.int (nI k)), some (.int own), some (.int (nI (cntF (gonP (nI p) (nI k) b e) m))), some (.int (nI (i + 1))), none]) hF dX5_removes_302 rfl (nI_1 i) rfl rfl ?_
                        refine z_goto (tgt := 204) hF dX5_removes_305 (by decide) ?_
                        exact ih (i + 1) (by omega) (by omega)
                      · refine z_aload_n hF dX5_removes_273 rfl ?_
                        refine z_get (C := RX5) (T := TX5) (N := 21) (ci := 5) (v := .ref w12) hF k_0 16 (by decide) rfl k_5 rfl 0 rfl rfl dX5_removes_274 ?_
                        refine z_iload hF dX5_removes_277 rfl ?_
                        refine z_iald (k := i) hF 4 rfl (rfl) (by omega) rfl dX5_removes_279 ?_
                        refine z_top (y := behF (b2 i) (nI p) (nI k)) (mpF_lt _ _ (Nat.lt_succ_self i)) ?_
                        refine z_aload_n hF dX5_removes_280 rfl ?_
                        refine z_get (C := RX5) (T := TX5) (N := 21) (ci := 5) (v := .ref w13) hF k_0 17 (by decide) rfl k_6 rfl 0 rfl rfl dX5_removes_281 ?_
                        refine z_iload hF dX5_removes_284 rfl ?_
                        refine z_iald (k := i) hF 5 rfl (rfl) (by omega) rfl dX5_removes_286 ?_
                        refine z_top (y := behF (e2 i) (nI p) (nI k)) (mpF_lt _ _ (Nat.lt_succ_self i)) ?_
                        refine z_ic_ne (tgt := 294) hF dX5_removes_287 (by decide) (fun he => ?_) (fun he => ?_)
                        · refine z_aload_n hF dX5_removes_294 rfl ?_
                          refine z_get (C := RX5) (T := TX5) (N := 21) (ci := 5) (v := .ref w16) hF k_0 20 (by decide) rfl k_7 rfl 0 rfl rfl dX5_removes_295 ?_
                          refine z_iload hF dX5_removes_298 rfl ?_
                          refine z_iald (k := i) hF 6 rfl (rfl) (by omega) rfl dX5_removes_300 ?_
                          refine z_top (y := xs i) (mpF_at _ _ (Nat.le_refl i)) ?_
                          refine z_iast (k := i) (ws' := [(w0, .inr (5, [.int th, .int (nI (n - k)), .ref w1, .int (nI v), .int (nI m), .ref w2, .ref w3, .ref w4, .ref w5, .ref w6, .ref w7, .ref w8, .ref w9, .ref w10, .ref w11, .int (nI j), .ref w12, .ref w13, .ref w14, .ref w15, .ref w16])), (w1, eI G 60 (va_cpy f f (p + k) p (n - (p + k)))), (w2, eI G 12 (mpF m (remB (nI p) (nI k) b e) b)), (w3, eI G 12 (mpF m (remE (nI p) (nI k) b e) e)), (w12, eI G 10 (mpF (i + 1) (slB (nI p) (nI k) b2) b2)), (w13, eI G 10 (mpF (i + 1) (slB (nI p) (nI k) e2) e2)), (w16, eI G 10 (upd (mpF i (slS (nI p) (nI k) own b2 e2 xs) xs) i (xs i)))]) hF 6 rfl (rfl) (by omega) rfl rfl dX5_removes_301 ?_
                          refine z_ws (ws' := [(w0, .inr (5, [.int th, .int (nI (n - k)), .ref w1, .int (nI v), .int (nI m), .ref w2, .ref w3, .ref w4, .ref w5, .ref w6, .ref w7, .ref w8, .ref w9, .ref w10, .ref w11, .int (nI j), .ref w12, .ref w13, .ref w14, .ref w15, .ref w16])), (w1, eI G 60 (va_cpy f f (p + k) p (n - (p + k)))), (w2, eI G 12 (mpF m (remB (nI p) (nI k) b e) b)), (w3, eI G 12 (mpF m (remE (nI p) (nI k) b e) e)), (w12, eI G 10 (mpF (i + 1) (slB (nI p) (nI k) b2) b2)), (w13, eI G 10 (mpF (i + 1) (slB (nI p) (nI k) e2) e2)), (w16, eI G 10 (mpF (i + 1) (slS (nI p) (nI k) own b2 e2 xs) xs))]) (by rw [← mpF_up (slS (nI p) (nI k) own b2 e2 xs)]; simp [slS, hx, ho, he]) ?_
                          refine z_iinc (v := nI (i + 1)) (lv' := [some (.ref w0), some (.int (nI p)), some (.int (nI k)), some (.int own), some (.int (nI (cntF (gonP (nI p) (nI k) b e) m))), some (.int (nI (i + 1))), none]) hF dX5_removes_302 rfl (nI_1 i) rfl rfl ?_
                          refine z_goto (tgt := 204) hF dX5_removes_305 (by decide) ?_
                          exact ih (i + 1) (by omega) (by omega)
                        · refine z_iconst (v := nI 3) hF dX5_removes_290 (by decide) ?_
                          refine z_goto (tgt := 301) hF dX5_removes_291 (by decide) ?_
                          refine z_iast (k := i) (ws' := [(w0, .inr (5, [.int th, .int (nI (n - k)), .ref w1, .int (nI v), .int (nI m), .ref w2, .ref w3, .ref w4, .ref w5, .ref w6, .ref w7, .ref w8, .ref w9, .ref w10, .ref w11, .int (nI j), .ref w12, .ref w13, .ref w14, .ref w15, .ref w16])), (w1, eI G 60 (va_cpy f f (p + k) p (n - (p + k)))), (w2, eI G 12 (mpF m (remB (nI p) (nI k) b e) b)), (w3, eI G 12 (mpF m (remE (nI p) (nI k) b e) e)), (w12, eI G 10 (mpF (i + 1) (slB (nI p) (nI k) b2) b2)), (w13, eI G 10 (mpF (i + 1) (slB (nI p) (nI k) e2) e2)), (w16, eI G 10 (upd (mpF i (slS (nI p) (nI k) own b2 e2 xs) xs) i (nI 3)))]) hF 6 rfl (rfl) (by omega) rfl rfl dX5_removes_301 ?_
                          refine z_ws (ws' := [(w0, .inr (5, [.int th, .int (nI (n - k)), .ref w1, .int (nI v), .int (nI m), .ref w2, .ref w3, .ref w4, .ref w5, .ref w6, .ref w7, .ref w8, .ref w9, .ref w10, .ref w11, .int (nI j), .ref w12, .ref w13, .ref w14, .ref w15, .ref w16])), (w1, eI G 60 (va_cpy f f (p + k) p (n - (p + k)))), (w2, eI G 12 (mpF m (remB (nI p) (nI k) b e) b)), (w3, eI G 12 (mpF m (remE (nI p) (nI k) b e) e)), (w12, eI G 10 (mpF (i + 1) (slB (nI p) (nI k) b2) b2)), (w13, eI G 10 (mpF (i + 1) (slB (nI p) (nI k) e2) e2)), (w16, eI G 10 (mpF (i + 1) (slS (nI p) (nI k) own b2 e2 xs) xs))]) (by rw [← mpF_up (slS (nI p) (nI k) own b2 e2 xs)]; simp [slS, hx, ho, he]) ?_
                          refine z_iinc (v := nI (i + 1)) (lv' := [some (.ref w0), some (.int (nI p)), some (.int (nI k)), some (.int own), some (.int (nI (cntF (gonP (nI p) (nI k) b e) m))), some (.int (nI (i + 1))), none]) hF dX5_removes_302 rfl (nI_1 i) rfl rfl ?_
                          refine z_goto (tgt := 204) hF dX5_removes_305 (by decide) ?_
                          exact ih (i + 1) (by omega) (by omega)
              exact J_204 ((j - 0) + 1) 0 (Nat.lt_succ_self _) (by omega)
            · refine z_aload_n hF dX5_removes_61 rfl ?_
              refine z_get (C := RX5) (T := TX5) (N := 21) (ci := 5) (v := .ref w2) hF k_0 5 (by decide) rfl k_8 rfl 0 rfl rfl dX5_removes_62 ?_
              refine z_iload hF dX5_removes_65 rfl ?_
              refine z_iald (k := i) hF 2 rfl (rfl) (by omega) rfl dX5_removes_67 ?_
              refine z_top (y := b i) (mpF_at _ _ (Nat.le_refl i)) ?_
              refine z_iconst (v := -1) hF dX5_removes_68 (by decide) ?_
              refine z_ic_eq (tgt := 195) hF dX5_removes_69 (by decide) (fun hc => ?_) (fun hc => ?_)
              · refine z_iinc (v := nI (i + 1)) (lv' := [some (.ref w0), some (.int (nI p)), some (.int (nI k)), some (.int own), some (.int (nI (cntF (gonP (nI p) (nI k) b e) i))), some (.int (nI (i + 1))), none]) hF dX5_removes_195 rfl (nI_1 i) rfl rfl ?_
                refine z_goto (tgt := 52) hF dX5_removes_198 (by decide) ?_
                refine z_ws (ws' := [(w0, .inr (5, [.int th, .int (nI (n - k)), .ref w1, .int (nI v), .int (nI m), .ref w2, .ref w3, .ref w4, .ref w5, .ref w6, .ref w7, .ref w8, .ref w9, .ref w10, .ref w11, .int (nI j), .ref w12, .ref w13, .ref w14, .ref w15, .ref w16])), (w1, eI G 60 (va_cpy f f (p + k) p (n - (p + k)))), (w2, eI G 12 (mpF (i + 1) (remB (nI p) (nI k) b e) b)), (w3, eI G 12 (mpF i (remE (nI p) (nI k) b e) e)), (w12, eI G 10 b2), (w13, eI G 10 e2), (w16, eI G 10 xs)]) (by rw [mpF_skip (remB (nI p) (nI k) b e) b (by simp [remB, hc])]) ?_
                refine z_ws (ws' := [(w0, .inr (5, [.int th, .int (nI (n - k)), .ref w1, .int (nI v), .int (nI m), .ref w2, .ref w3, .ref w4, .ref w5, .ref w6, .ref w7, .ref w8, .ref w9, .ref w10, .ref w11, .int (nI j), .ref w12, .ref w13, .ref w14, .ref w15, .ref w16])), (w1, eI G 60 (va_cpy f f (p + k) p (n - (p + k)))), (w2, eI G 12 (mpF (i + 1) (remB (nI p) (nI k) b e) b)), (w3, eI G 12 (mpF (i + 1) (remE (nI p) (nI k) b e) e)), (w12, eI G 10 b2), (w13, eI G 10 e2), (w16, eI G 10 xs)]) (by rw [mpF_skip (remE (nI p) (nI k) b e) e (by simp [remE, hc])]) ?_
                refine z_lv (lv' := [some (.ref w0), some (.int (nI p)), some (.int (nI k)), some (.int own), some (.int (nI (cntF (gonP (nI p) (nI k) b e) (i + 1)))), some (.int (nI (i + 1))), none]) (by rw [cntF_f (k := i) (by simp [gonP, hc])]) ?_
                exact ih (i + 1) (by omega) (by omega)
              · refine z_aload_n hF dX5_removes_72 rfl ?_
                refine z_get (C := RX5) (T := TX5) (N := 21) (ci := 5) (v := .ref w2) hF k_0 5 (by decide) rfl k_8 rfl 0 rfl rfl dX5_removes_73 ?_
                refine z_iload hF dX5_removes_76 rfl ?_
                refine z_aload_n hF dX5_removes_78 rfl ?_
                refine z_get (C := RX5) (T := TX5) (N := 21) (ci := 5) (v := .ref w2) hF k_0 5 (by decide) rfl k_8 rfl 0 rfl rfl dX5_removes_79 ?_
                refine z_iload hF dX5_removes_82 rfl ?_
                refine z_iald (k := i) hF 2 rfl (rfl) (by omega) rfl dX5_removes_84 ?_
                refine z_top (y := b i) (mpF_at _ _ (Nat.le_refl i)) ?_
                refine z_iload_n hF dX5_removes_85 rfl ?_
                refine z_iload_n hF dX5_removes_86 rfl ?_
                refine z_S (As := [.int (b i), .int (nI p), .int (nI k)]) (rest := [.int (nI i), .ref w2]) (ws' := [(w0, .inr (5, [.int th, .int (nI (n - k)), .ref w1, .int (nI v), .int (nI m), .ref w2, .ref w3, .ref w4, .ref w5, .ref w6, .ref w7, .ref w8, .ref w9, .ref w10, .ref w11, .int (nI j), .ref w12, .ref w13, .ref w14, .ref w15, .ref w16])), (w1, eI G 60 (va_cpy f f (p + k) p (n - (p + k)))), (w2, eI G 12 (mpF i (remB (nI p) (nI k) b e) b)), (w3, eI G 12 (mpF i (remE (nI p) (nI k) b e) e)), (w12, eI G 10 b2), (w13, eI G 10 e2), (w16, eI G 10 xs)]) (st2 := [.int (behF (b i) (nI p) (nI k)), .int (nI i), .ref w2]) (c2 := 0) (s2 := 0) hF (c_X5_less G (b i) (nI p) (nI k)) gX5_removes_X5_less rfl rfl rfl hs_X5_less ⟨⟨Nat.le_of_ble_eq_true rfl, Nat.le_of_ble_eq_true rfl⟩, ⟨Nat.le_of_ble_eq_true rfl, Nat.le_of_ble_eq_true rfl⟩, Nat.le_of_ble_eq_true rfl⟩ [] rfl rfl rfl rfl rfl rfl rfl rfl rfl rfl dX5_removes_87 ?_
                refine z_iast (k := i) (ws' := [(w0, .inr (5, [.int th, .int (nI (n - k)), .ref w1, .int (nI v), .int (nI m), .ref w2, .ref w3, .ref w4, .ref w5, .ref w6, .ref w7, .ref w8, .ref w9, .ref w10, .ref w11, .int (nI j), .ref w12, .ref w13, .ref w14, .ref w15, .ref w16])), (w1, eI G 60 (va_cpy f f (p + k) p (n - (p + k)))), (w2, eI G 12 (upd (mpF i (remB (nI p) (nI k) b e) b) i (behF (b i) (nI p) (nI k)))), (w3, eI G 12 (mpF i (remE (nI p) (nI k) b e) e)), (w12, eI G 10 b2), (w13, eI G 10 e2), (w16, eI G 10 xs)]) hF 2 rfl (rfl) (by omega) rfl rfl dX5_removes_90 ?_
                refine z_aload_n hF dX5_removes_91 rfl ?_
                refine z_get (C := RX5) (T := TX5) (N := 21) (ci := 5) (v := .ref w3) hF k_0 6 (by decide) rfl k_9 rfl 0 rfl rfl dX5_removes_92 ?_
                refine z_iload hF dX5_removes_95 rfl ?_
                refine z_aload_n hF dX5_removes_97 rfl ?_
                refine z_get (C := RX5) (T := TX5) (N := 21) (ci := 5) (v := .ref w3) hF k_0 6 (by decide) rfl k_9 rfl 0 rfl rfl dX5_removes_98 ?_
                refine z_iload hF dX5_removes_101 rfl ?_
                refine z_iald (k := i) hF 3 rfl (rfl) (by omega) rfl dX5_removes_103 ?_
                refine z_top (y := e i) (mpF_at _ _ (Nat.le_refl i)) ?_
                refine z_iload_n hF dX5_removes_104 rfl ?_
                refine z_iload_n hF dX5_removes_105 rfl ?_
                refine z_S (As := [.int (e i), .int (nI p), .int (nI k)]) (rest := [.int (nI i), .ref w3]) (ws' := [(w0, .inr (5, [.int th, .int (nI (n - k)), .ref w1, .int (nI v), .int (nI m), .ref w2, .ref w3, .ref w4, .ref w5, .ref w6, .ref w7, .ref w8, .ref w9, .ref w10, .ref w11, .int (nI j), .ref w12, .ref w13, .ref w14, .ref w15, .ref w16])), (w1, eI G 60 (va_cpy f f (p + k) p (n - (p + k)))), (w2, eI G 12 (upd (mpF i (remB (nI p) (nI k) b e) b) i (behF (b i) (nI p) (nI k)))), (w3, eI G 12 (mpF i (remE (nI p) (nI k) b e) e)), (w12, eI G 10 b2), (w13, eI G 10 e2), (w16, eI G 10 xs)]) (st2 := [.int (behF (e i) (nI p) (nI k)), .int (nI i), .ref w3]) (c2 := 0) (s2 := 0) hF (c_X5_less G (e i) (nI p) (nI k)) gX5_removes_X5_less rfl rfl rfl hs_X5_less ⟨⟨Nat.le_of_ble_eq_true rfl, Nat.le_of_ble_eq_true rfl⟩, ⟨Nat.le_of_ble_eq_true rfl, Nat.le_of_ble_eq_true rfl⟩, Nat.le_of_ble_eq_true rfl⟩ [] rfl rfl rfl rfl rfl rfl rfl rfl rfl rfl dX5_removes_106 ?_
                refine z_iast (k := i) (ws' := [(w0, .inr (5, [.int th, .int (nI (n - k)), .ref w1, .int (nI v), .int (nI m), .ref w2, .ref w3, .ref w4, .ref w5, .ref w6, .ref w7, .ref w8, .ref w9, .ref w10, .ref w11, .int (nI j), .ref w12, .ref w13, .ref w14, .ref w15, .ref w16])), (w1, eI G 60 (va_cpy f f (p + k) p (n - (p + k)))), (w2, eI G 12 (upd (mpF i (remB (nI p) (nI k) b e) b) i (behF (b i) (nI p) (nI k)))), (w3, eI G 12 (upd (mpF i (remE (nI p) (nI k) b e) e) i (behF (e i) (nI p) (nI k)))), (w12, eI G 10 b2), (w13, eI G 10 e2), (w16, eI G 10 xs)]) hF 3 rfl (rfl) (by omega) rfl rfl dX5_removes_109 ?_
                have J_132 : zJ G X 132 [(w0, .inr (5, [.int th, .int (nI (n - k)), .ref w1, .int (nI v), .int (nI m), .ref w2, .ref w3, .ref w4, .ref w5, .ref w6, .ref w7, .ref w8, .ref w9, .ref w10, .ref w11, .int (nI j), .ref w12, .ref w13, .ref w14, .ref w15, .ref w16])), (w1, eI G 60 (va_cpy f f (p + k) p (n - (p + k)))), (w2, eI G 12 (upd (mpF i (remB (nI p) (nI k) b e) b) i (behF (b i) (nI p) (nI k)))), (w3, eI G 12 (upd (mpF i (remE (nI p) (nI k) b e) e) i (behF (e i) (nI p) (nI k)))), (w12, eI G 10 b2), (w13, eI G 10 e2), (w16, eI G 10 xs)] [some (.ref w0), some (.int (nI p)), some (.int (nI k)), some (.int own), some (.int (nI (cntF (gonP (nI p) (nI k) b e) i))), some (.int (nI i)), none] [.int (zb (behF (b i) (nI p) (nI k) = behF (e i) (nI p) (nI k)))] 0 0 := by
                  refine z_istore (lv' := [some (.ref w0), some (.int (nI p)), some (.int (nI k)), some (.int own), some (.int (nI (cntF (gonP (nI p) (nI k) b e) i))), some (.int (nI i)), some (.int (zb (behF (b i) (nI p) (nI k) = behF (e i) (nI p) (nI k))))]) hF dX5_removes_132 rfl rfl ?_
                  refine z_iload hF dX5_removes_134 rfl ?_
                  refine z_iload hF dX5_removes_136 rfl ?_
                  refine z_if_eq_b (tgt := 145) hF dX5_removes_138 (by decide) (fun hg => ?_) (fun hg => ?_)
                  · refine z_iconst (v := nI 0) hF dX5_removes_145 (by decide) ?_
                    refine z_iadd hF dX5_removes_146 ?_
                    refine z_top (nI_add (cntF (gonP (nI p) (nI k) b e) i) 0) ?_
                    refine z_top (y := nI (cntF (gonP (nI p) (nI k) b e) (i + 1))) (by rw [Nat.add_zero, cntF_f (k := i) (by simp [gonP, hg])]) ?_
                    refine z_istore (lv' := [some (.ref w0), some (.int (nI p)), some (.int (nI k)), some (.int own), some (.int (nI (cntF (gonP (nI p) (nI k) b e) (i + 1)))), some (.int (nI i)), some (.int (zb (behF (b i) (nI p) (nI k) = behF (e i) (nI p) (nI k))))]) hF dX5_removes_147 rfl rfl ?_
                    refine z_aload_n hF dX5_removes_149 rfl ?_
                    refine z_get (C := RX5) (T := TX5) (N := 21) (ci := 5) (v := .ref w2) hF k_0 5 (by decide) rfl k_8 rfl 0 rfl rfl dX5_removes_150 ?_
                    refine z_iload hF dX5_removes_153 rfl ?_
                    refine z_iload hF dX5_removes_155 rfl ?_
                    refine z_if_eq_b (tgt := 164) hF dX5_removes_157 (by decide) (fun hg1 => ?_) (fun hg1 => ?_)
                    · refine z_aload_n hF dX5_removes_164 rfl ?_
                      refine z_get (C := RX5) (T := TX5) (N := 21) (ci := 5) (v := .ref w2) hF k_0 5 (by decide) rfl k_8 rfl 0 rfl rfl dX5_removes_165 ?_
                      refine z_iload hF dX5_removes_168 rfl ?_
                      refine z_iald (k := i) hF 2 rfl (rfl) (by omega) rfl dX5_removes_170 ?_
                      refine z_top (y := behF (b i) (nI p) (nI k)) (pk_us) ?_
                      refine z_iast (k := i) (ws' := [(w0, .inr (5, [.int th, .int (nI (n - k)), .ref w1, .int (nI v), .int (nI m), .ref w2, .ref w3, .ref w4, .ref w5, .ref w6, .ref w7, .ref w8, .ref w9, .ref w10, .ref w11, .int (nI j), .ref w12, .ref w13, .ref w14, .ref w15, .ref w16])), (w1, eI G 60 (va_cpy f f (p + k) p (n - (p + k)))), (w2, eI G 12 (upd (upd (mpF i (remB (nI p) (nI k) b e) b) i (behF (b i) (nI p) (nI k))) i (behF (b i) (nI p) (nI k)))), (w3, eI G 12 (upd (mpF i (remE (nI p) (nI k) b e) e) i (behF (e i) (nI p) (nI k)))), (w12, eI G 10 b2), (w13, eI G 10 e2), (w16, eI G 10 xs)]) hF 2 rfl (rfl) (by omega) rfl rfl dX5_removes_171 ?_
                      refine z_ws (ws' := [(w0, .inr (5, [.int th, .int (nI (n - k)), .ref w1, .int (nI v), .int (nI m), .ref w2, .ref w3, .ref w4, .ref w5, .ref w6, .ref w7, .ref w8, .ref w9, .ref w10, .ref w11, .int (nI j), .ref w12, .ref w13, .ref w14, .ref w15, .ref w16])), (w1, eI G 60 (va_cpy f f (p + k) p (n - (p + k)))), (w2, eI G 12 (mpF (i + 1) (remB (nI p) (nI k) b e) b)), (w3, eI G 12 (upd (mpF i (remE (nI p) (nI k) b e) e) i (behF (e i) (nI p) (nI k)))), (w12, eI G 10 b2), (w13, eI G 10 e2), (w16, eI G 10 xs)]) (by rw [upd_upd, ← mpF_up (remB (nI p) (nI k) b e)]; simp [remB, hc, hg1]) ?_
                      refine z_aload_n hF dX5_removes_172 rfl ?_
                      refine z_get (C := RX5) (T := TX5) (N := 21) (ci := 5) (v := .ref w3) hF k_0 6 (by decide) rfl k_9 rfl 0 rfl rfl dX5_removes_173 ?_
                      refine z_iload hF dX5_removes_176 rfl ?_
                      refine z_iload hF dX5_removes_178 rfl ?_
                      refine z_if_eq_b (tgt := 187) hF dX5_removes_180 (by decide) (fun hg2 => ?_) (fun hg2 => ?_)
                      · refine z_aload_n hF dX5_removes_187 rfl ?_
                        refine z_get (C := RX5) (T := TX5) (N := 21) (ci := 5) (v := .ref w3) hF k_0 6 (by decide) rfl k_9 rfl 0 rfl rfl dX5_removes_188 ?_
                        refine z_iload hF dX5_removes_191 rfl ?_
                        refine z_iald (k := i) hF 3 rfl (rfl) (by omega) rfl dX5_removes_193 ?_
                        refine z_top (y := behF (e i) (nI p) (nI k)) (pk_us) ?_
                        refine z_iast (k := i) (ws' := [(w0, .inr (5, [.int th, .int (nI (n - k)), .ref w1, .int (nI v), .int (nI m), .ref w2, .ref w3, .ref w4, .ref w5, .ref w6, .ref w7, .ref w8, .ref w9, .ref w10, .ref w11, .int (nI j), .ref w12, .ref w13, .ref w14, .ref w15, .ref w16])), (w1, eI G 60 (va_cpy f f (p + k) p (n - (p + k)))), (w2, eI G 12 (mpF (i + 1) (remB (nI p) (nI k) b e) b)), (w3, eI G 12 (upd (upd (mpF i (remE (nI p) (nI k) b e) e) i (behF (e i) (nI p) (nI k))) i (behF (e i) (nI p) (nI k)))), (w12, eI G 10 b2), (w13, eI G 10 e2), (w16, eI G 10 xs)]) hF 3 rfl (rfl) (by omega) rfl rfl dX5_removes_194 ?_
                        refine z_ws (ws' := [(w0, .inr (5, [.int th, .int (nI (n - k)), .ref w1, .int (nI v), .int (nI m), .ref w2, .ref w3, .ref w4, .ref w5, .ref w6, .ref w7, .ref w8, .ref w9, .ref w10, .ref w11, .int (nI j), .ref w12, .ref w13, .ref w14, .ref w15, .ref w16])), (w1, eI G 60 (va_cpy f f (p + k) p (n - (p + k)))), (w2, eI G 12 (mpF (i + 1) (remB (nI p) (nI k) b e) b)), (w3, eI G 12 (mpF (i + 1) (remE (nI p) (nI k) b e) e)), (w12, eI G 10 b2), (w13, eI G 10 e2), (w16, eI G 10 xs)]) (by rw [upd_upd, ← mpF_up (remE (nI p) (nI k) b e)]; simp [remE, hc, hg2]) ?_
                        refine z_iinc (v := nI (i + 1)) (lv' := [some (.ref w0), some (.int (nI p)), some (.int (nI k)), some (.int own), some (.int (nI (cntF (gonP (nI p) (nI k) b e) (i + 1)))), some (.int (nI (i + 1))), some (.int (zb (behF (b i) (nI p) (nI k) = behF (e i) (nI p) (nI k))))]) hF dX5_removes_195 rfl (nI_1 i) rfl rfl ?_
                        refine z_goto (tgt := 52) hF dX5_removes_198 (by decide) ?_
                        refine z_forget (lv' := [some (.ref w0), some (.int (nI p)), some (.int (nI k)), some (.int own), some (.int (nI (cntF (gonP (nI p) (nI k) b e) (i + 1)))), some (.int (nI (i + 1))), none]) ⟨rfl, ⟨rfl, ⟨rfl, ⟨rfl, ⟨rfl, ⟨rfl, trivial⟩⟩⟩⟩⟩⟩ ?_
                        exact ih (i + 1) (by omega) (by omega)
                      · refine z_iconst (v := -1) hF dX5_removes_183 (by decide) ?_
                        refine z_goto (tgt := 194) hF dX5_removes_184 (by decide) ?_
                        refine z_iast (k := i) (ws' := [(w0, .inr (5, [.int th, .int (nI (n - k)), .ref w1, .int (nI v), .int (nI m), .ref w2, .ref w3, .ref w4, .ref w5, .ref w6, .ref w7, .ref w8, .ref w9, .ref w10, .ref w11, .int (nI j), .ref w12, .ref w13, .ref w14, .ref w15, .ref w16])), (w1, eI G 60 (va_cpy f f (p + k) p (n - (p + k)))), (w2, eI G 12 (mpF (i + 1) (remB (nI p) (nI k) b e) b)), (w3, eI G 12 (upd (upd (mpF i (remE (nI p) (nI k) b e) e) i (behF (e i) (nI p) (nI k))) i (-1))), (w12, eI G 10 b2), (w13, eI G 10 e2), (w16, eI G 10 xs)]) hF 3 rfl (rfl) (by omega) rfl rfl dX5_removes_194 ?_
                        refine z_ws (ws' := [(w0, .inr (5, [.int th, .int (nI (n - k)), .ref w1, .int (nI v), .int (nI m), .ref w2, .ref w3, .ref w4, .ref w5, .ref w6, .ref w7, .ref w8, .ref w9, .ref w10, .ref w11, .int (nI j), .ref w12, .ref w13, .ref w14, .ref w15, .ref w16])), (w1, eI G 60 (va_cpy f f (p + k) p (n - (p + k)))), (w2, eI G 12 (mpF (i + 1) (remB (nI p) (nI k) b e) b)), (w3, eI G 12 (mpF (i + 1) (remE (nI p) (nI k) b e) e)), (w12, eI G 10 b2), (w13, eI G 10 e2), (w16, eI G 10 xs)]) (by rw [upd_upd, ← mpF_up (remE (nI p) (nI k) b e)]; simp [remE, hc, hg2]) ?_
                        refine z_iinc (v := nI (i + 1)) (lv' := [some (.ref w0), some (.int (nI p)), some (.int (nI k)), some (.int own), some (.int (nI (cntF (gonP (nI p) (nI k) b e) (i + 1)))), some (.int (nI (i + 1))), some (.int (zb (behF (b i) (nI p) (nI k) = behF (e i) (nI p) (nI k))))]) hF dX5_removes_195 rfl (nI_1 i) rfl rfl ?_
                        refine z_goto (tgt := 52) hF dX5_removes_198 (by decide) ?_
                        refine z_forget (lv' := [some (.ref w0), some (.int (nI p)), some (.int (nI k)), some (.int own), some (.int (nI (cntF (gonP (nI p) (nI k) b e) (i + 1)))), some (.int (nI (i + 1))), none]) ⟨rfl, ⟨rfl, ⟨rfl, ⟨rfl, ⟨rfl, ⟨rfl, trivial⟩⟩⟩⟩⟩⟩ ?_
                        exact ih (i + 1) (by omega) (by omega)
                    · refine z_iconst (v := -1) hF dX5_removes_160 (by decide) ?_
                      refine z_goto (tgt := 171) hF dX5_removes_161 (by decide) ?_
                      refine z_iast (k := i) (ws' := [(w0, .inr (5, [.int th, .int (nI (n - k)), .ref w1, .int (nI v), .int (nI m), .ref w2, .ref w3, .ref w4, .ref w5, .ref w6, .ref w7, .ref w8, .ref w9, .ref w10, .ref w11, .int (nI j), .ref w12, .ref w13, .ref w14, .ref w15, .ref w16])), (w1, eI G 60 (va_cpy f f (p + k) p (n - (p + k)))), (w2, eI G 12 (upd (upd (mpF i (remB (nI p) (nI k) b e) b) i (behF (b i) (nI p) (nI k))) i (-1))), (w3, eI G 12 (upd (mpF i (remE (nI p) (nI k) b e) e) i (behF (e i) (nI p) (nI k)))), (w12, eI G 10 b2), (w13, eI G 10 e2), (w16, eI G 10 xs)]) hF 2 rfl (rfl) (by omega) rfl rfl dX5_removes_171 ?_
                      refine z_ws (ws' := [(w0, .inr (5, [.int th, .int (nI (n - k)), .ref w1, .int (nI v), .int (nI m), .ref w2, .ref w3, .ref w4, .ref w5, .ref w6, .ref w7, .ref w8, .ref w9, .ref w10, .ref w11, .int (nI j), .ref w12, .ref w13, .ref w14, .ref w15, .ref w16])), (w1, eI G 60 (va_cpy f f (p + k) p (n - (p + k)))), (w2, eI G 12 (mpF (i + 1) (remB (nI p) (nI k) b e) b)), (w3, eI G 12 (upd (mpF i (remE (nI p) (nI k) b e) e) i (behF (e i) (nI p) (nI k)))), (w12, eI G 10 b2), (w13, eI G 10 e2), (w16, eI G 10 xs)]) (by rw [upd_upd, ← mpF_up (remB (nI p) (nI k) b e)]; simp [remB, hc, hg1]) ?_
                      refine z_aload_n hF dX5_removes_172 rfl ?_
                      refine z_get (C := RX5) (T := TX5) (N := 21) (ci := 5) (v := .ref w3) hF k_0 6 (by decide) rfl k_9 rfl 0 rfl rfl dX5_removes_173 ?_
                      refine z_iload hF dX5_removes_176 rfl ?_
                      refine z_iload hF dX5_removes_178 rfl ?_
                      refine z_if_eq_b (tgt := 187) hF dX5_removes_180 (by decide) (fun hg2 => ?_) (fun hg2 => ?_)
                      · refine z_aload_n hF dX5_removes_187 rfl ?_
                        refine z_get (C := RX5) (T := TX5) (N := 21) (ci := 5) (v := .ref w3) hF k_0 6 (by decide) rfl k_9 rfl 0 rfl rfl dX5_removes_188 ?_
                        refine z_iload hF dX5_removes_191 rfl ?_
                        refine z_iald (k := i) hF 3 rfl (rfl) (by omega) rfl dX5_removes_193 ?_
                        refine z_top (y := behF (e i) (nI p) (nI k)) (pk_us) ?_
                        refine z_iast (k := i) (ws' := [(w0, .inr (5, [.int th, .int (nI (n - k)), .ref w1, .int (nI v), .int (nI m), .ref w2, .ref w3, .ref w4, .ref w5, .ref w6, .ref w7, .ref w8, .ref w9, .ref w10, .ref w11, .int (nI j), .ref w12, .ref w13, .ref w14, .ref w15, .ref w16])), (w1, eI G 60 (va_cpy f f (p + k) p (n - (p + k)))), (w2, eI G 12 (mpF (i + 1) (remB (nI p) (nI k) b e) b)), (w3, eI G 12 (upd (upd (mpF i (remE (nI p) (nI k) b e) e) i (behF (e i) (nI p) (nI k))) i (behF (e i) (nI p) (nI k)))), (w12, eI G 10 b2), (w13, eI G 10 e2), (w16, eI G 10 xs)]) hF 3 rfl (rfl) (by omega) rfl rfl dX5_removes_194 ?_
                        refine z_ws (ws' := [(w0, .inr (5, [.int th, .int (nI (n - k)), .ref w1, .int (nI v), .int (nI m), .ref w2, .ref w3, .ref w4, .ref w5, .ref w6, .ref w7, .ref w8, .ref w9, .ref w10, .ref w11, .int (nI j), .ref w12, .ref w13, .ref w14, .ref w15, .ref w16])), (w1, eI G 60 (va_cpy f f (p + k) p (n - (p + k)))), (w2, eI G 12 (mpF (i + 1) (remB (nI p) (nI k) b e) b)), (w3, eI G 12 (mpF (i + 1) (remE (nI p) (nI k) b e) e)), (w12, eI G 10 b2), (w13, eI G 10 e2), (w16, eI G 10 xs)]) (by rw [upd_upd, ← mpF_up (remE (nI p) (nI k) b e)]; simp [remE, hc, hg2]) ?_
                        refine z_iinc (v := nI (i + 1)) (lv' := [some (.ref w0), some (.int (nI p)), some (.int (nI k)), some (.int own), some (.int (nI (cntF (gonP (nI p) (nI k) b e) (i + 1)))), some (.int (nI (i + 1))), some (.int (zb (behF (b i) (nI p) (nI k) = behF (e i) (nI p) (nI k))))]) hF dX5_removes_195 rfl (nI_1 i) rfl rfl ?_
                        refine z_goto (tgt := 52) hF dX5_removes_198 (by decide) ?_
                        refine z_forget (lv' := [some (.ref w0), some (.int (nI p)), some (.int (nI k)), some (.int own), some (.int (nI (cntF (gonP (nI p) (nI k) b e) (i + 1)))), some (.int (nI (i + 1))), none]) ⟨rfl, ⟨rfl, ⟨rfl, ⟨rfl, ⟨rfl, ⟨rfl, trivial⟩⟩⟩⟩⟩⟩ ?_
                        exact ih (i + 1) (by omega) (by omega)
                      · refine z_iconst (v := -1) hF dX5_removes_183 (by decide) ?_
                        refine z_goto (tgt := 194) hF dX5_removes_184 (by decide) ?_
                        refine z_iast (k := i) (ws' := [(w0, .inr (5, [.int th, .int (nI (n - k)), .ref w1, .int (nI v), .int (nI m), .ref w2, .ref w3, .ref w4, .ref w5, .ref w6, .ref w7, .ref w8, .ref w9, .ref w10, .ref w11, .int (nI j), .ref w12, .ref w13, .ref w14, .ref w15, .ref w16])), (w1, eI G 60 (va_cpy f f (p + k) p (n - (p + k)))), (w2, eI G 12 (mpF (i + 1) (remB (nI p) (nI k) b e) b)), (w3, eI G 12 (upd (upd (mpF i (remE (nI p) (nI k) b e) e) i (behF (e i) (nI p) (nI k))) i (-1))), (w12, eI G 10 b2), (w13, eI G 10 e2), (w16, eI G 10 xs)]) hF 3 rfl (rfl) (by omega) rfl rfl dX5_removes_194 ?_
                        refine z_ws (ws' := [(w0, .inr (5, [.int th, .int (nI (n - k)), .ref w1, .int (nI v), .int (nI m), .ref w2, .ref w3, .ref w4, .ref w5, .ref w6, .ref w7, .ref w8, .ref w9, .ref w10, .ref w11, .int (nI j), .ref w12, .ref w13, .ref w14, .ref w15, .ref w16])), (w1, eI G 60 (va_cpy f f (p + k) p (n - (p + k)))), (w2, eI G 12 (mpF (i + 1) (remB (nI p) (nI k) b e) b)), (w3, eI G 12 (mpF (i + 1) (remE (nI p) (nI k) b e) e)), (w12, eI G 10 b2), (w13, eI G 10 e2), (w16, eI G 10 xs)]) (by rw [upd_upd, ← mpF_up (remE (nI p) (nI k) b e)]; simp [remE, hc, hg2]) ?_
                        refine z_iinc (v := nI (i + 1)) (lv' := [some (.ref w0), some (.int (nI p)), some (.int (nI k)), some (.int own), some (.int (nI (cntF (gonP (nI p) (nI k) b e) (i + 1)))), some (.int (nI (i + 1))), some (.int (zb (behF (b i) (nI p) (nI k) = behF (e i) (nI p) (nI k))))]) hF dX5_removes_195 rfl (nI_1 i) rfl rfl ?_
                        refine z_goto (tgt := 52) hF dX5_removes_198 (by decide) ?_
                        refine z_forget (lv' := [some (.ref w0), some (.int (nI p)), some (.int (nI k)), some (.int own), some (.int (nI (cntF (gonP (nI p) (nI k) b e) (i + 1)))), some (.int (nI (i + 1))), none]) ⟨rfl, ⟨rfl, ⟨rfl, ⟨rfl, ⟨rfl, ⟨rfl, trivial⟩⟩⟩⟩⟩⟩ ?_
                        exact ih (i + 1) (by omega) (by omega)
                  · refine z_iconst (v := nI 1) hF dX5_removes_141 (by decide) ?_
                    refine z_goto (tgt := 146) hF dX5_removes_142 (by decide) ?_
                    refine z_iadd hF dX5_removes_146 ?_
                    refine z_top (nI_add (cntF (gonP (nI p) (nI k) b e) i) 1) ?_
                    refine z_top (y := nI (cntF (gonP (nI p) (nI k) b e) (i + 1))) (by rw [cntF_t (k := i) ⟨hc, hg⟩]) ?_
                    refine z_istore (lv' := [some (.ref w0), some (.int (nI p)), some (.int (nI k)), some (.int own), some (.int (nI (cntF (gonP (nI p) (nI k) b e) (i + 1)))), some (.int (nI i)), some (.int (zb (behF (b i) (nI p) (nI k) = behF (e i) (nI p) (nI k))))]) hF dX5_removes_147 rfl rfl ?_
                    refine z_aload_n hF dX5_removes_149 rfl ?_
                    refine z_get (C := RX5) (T := TX5) (N := 21) (ci := 5) (v := .ref w2) hF k_0 5 (by decide) rfl k_8 rfl 0 rfl rfl dX5_removes_150 ?_
                    refine z_iload hF dX5_removes_153 rfl ?_
                    refine z_iload hF dX5_removes_155 rfl ?_
                    refine z_if_eq_b (tgt := 164) hF dX5_removes_157 (by decide) (fun hg1 => ?_) (fun hg1 => ?_)
                    · refine z_aload_n hF dX5_removes_164 rfl ?_
                      refine z_get (C := RX5) (T := TX5) (N := 21) (ci := 5) (v := .ref w2) hF k_0 5 (by decide) rfl k_8 rfl 0 rfl rfl dX5_removes_165 ?_
                      refine z_iload hF dX5_removes_168 rfl ?_
                      refine z_iald (k := i) hF 2 rfl (rfl) (by omega) rfl dX5_removes_170 ?_
                      refine z_top (y := behF (b i) (nI p) (nI k)) (pk_us) ?_
                      refine z_iast (k := i) (ws' := [(w0, .inr (5, [.int th, .int (nI (n - k)), .ref w1, .int (nI v), .int (nI m), .ref w2, .ref w3, .ref w4, .ref w5, .ref w6, .ref w7, .ref w8, .ref w9, .ref w10, .ref w11, .int (nI j), .ref w12, .ref w13, .ref w14, .ref w15, .ref w16])), (w1, eI G 60 (va_cpy f f (p + k) p (n - (p + k)))), (w2, eI G 12 (upd (upd (mpF i (remB (nI p) (nI k) b e) b) i (behF (b i) (nI p) (nI k))) i (behF (b i) (nI p) (nI k)))), (w3, eI G 12 (upd (mpF i (remE (nI p) (nI k) b e) e) i (behF (e i) (nI p) (nI k)))), (w12, eI G 10 b2), (w13, eI G 10 e2), (w16, eI G 10 xs)]) hF 2 rfl (rfl) (by omega) rfl rfl dX5_removes_171 ?_
                      refine z_ws (ws' := [(w0, .inr (5, [.int th, .int (nI (n - k)), .ref w1, .int (nI v), .int (nI m), .ref w2, .ref w3, .ref w4, .ref w5, .ref w6, .ref w7, .ref w8, .ref w9, .ref w10, .ref w11, .int (nI j), .ref w12, .ref w13, .ref w14, .ref w15, .ref w16])), (w1, eI G 60 (va_cpy f f (p + k) p (n - (p + k)))), (w2, eI G 12 (mpF (i + 1) (remB (nI p) (nI k) b e) b)), (w3, eI G 12 (upd (mpF i (remE (nI p) (nI k) b e) e) i (behF (e i) (nI p) (nI k)))), (w12, eI G 10 b2), (w13, eI G 10 e2), (w16, eI G 10 xs)]) (by rw [upd_upd, ← mpF_up (remB (nI p) (nI k) b e)]; simp [remB, hc, hg1]) ?_
                      refine z_aload_n hF dX5_removes_172 rfl ?_
                      refine z_get (C := RX5) (T := TX5) (N := 21) (ci := 5) (v := .ref w3) hF k_0 6 (by decide) rfl k_9 rfl 0 rfl rfl dX5_removes_173 ?_
                      refine z_iload hF dX5_removes_176 rfl ?_
                      refine z_iload hF dX5_removes_178 rfl ?_
                      refine z_if_eq_b (tgt := 187) hF dX5_removes_180 (by decide) (fun hg2 => ?_) (fun hg2 => ?_)
                      · refine z_aload_n hF dX5_removes_187 rfl ?_
                        refine z_get (C := RX5) (T := TX5) (N := 21) (ci := 5) (v := .ref w3) hF k_0 6 (by decide) rfl k_9 rfl 0 rfl rfl dX5_removes_188 ?_
                        refine z_iload hF dX5_removes_191 rfl ?_
                        refine z_iald (k := i) hF 3 rfl (rfl) (by omega) rfl dX5_removes_193 ?_
                        refine z_top (y := behF (e i) (nI p) (nI k)) (pk_us) ?_
                        refine z_iast (k := i) (ws' := [(w0, .inr (5, [.int th, .int (nI (n - k)), .ref w1, .int (nI v), .int (nI m), .ref w2, .ref w3, .ref w4, .ref w5, .ref w6, .ref w7, .ref w8, .ref w9, .ref w10, .ref w11, .int (nI j), .ref w12, .ref w13, .ref w14, .ref w15, .ref w16])), (w1, eI G 60 (va_cpy f f (p + k) p (n - (p + k)))), (w2, eI G 12 (mpF (i + 1) (remB (nI p) (nI k) b e) b)), (w3, eI G 12 (upd (upd (mpF i (remE (nI p) (nI k) b e) e) i (behF (e i) (nI p) (nI k))) i (behF (e i) (nI p) (nI k)))), (w12, eI G 10 b2), (w13, eI G 10 e2), (w16, eI G 10 xs)]) hF 3 rfl (rfl) (by omega) rfl rfl dX5_removes_194 ?_
                        refine z_ws (ws' := [(w0, .inr (5, [.int th, .int (nI (n - k)), .ref w1, .int (nI v), .int (nI m), .ref w2, .ref w3, .ref w4, .ref w5, .ref w6, .ref w7, .ref w8, .ref w9, .ref w10, .ref w11, .int (nI j), .ref w12, .ref w13, .ref w14, .ref w15, .ref w16])), (w1, eI G 60 (va_cpy f f (p + k) p (n - (p + k)))), (w2, eI G 12 (mpF (i + 1) (remB (nI p) (nI k) b e) b)), (w3, eI G 12 (mpF (i + 1) (remE (nI p) (nI k) b e) e)), (w12, eI G 10 b2), (w13, eI G 10 e2), (w16, eI G 10 xs)]) (by rw [upd_upd, ← mpF_up (remE (nI p) (nI k) b e)]; simp [remE, hc, hg2]) ?_
                        refine z_iinc (v := nI (i + 1)) (lv' := [some (.ref w0), some (.int (nI p)), some (.int (nI k)), some (.int own), some (.int (nI (cntF (gonP (nI p) (nI k) b e) (i + 1)))), some (.int (nI (i + 1))), some (.int (zb (behF (b i) (nI p) (nI k) = behF (e i) (nI p) (nI k))))]) hF dX5_removes_195 rfl (nI_1 i) rfl rfl ?_
                        refine z_goto (tgt := 52) hF dX5_removes_198 (by decide) ?_
                        refine z_forget (lv' := [some (.ref w0), some (.int (nI p)), some (.int (nI k)), some (.int own), some (.int (nI (cntF (gonP (nI p) (nI k) b e) (i + 1)))), some (.int (nI (i + 1))), none]) ⟨rfl, ⟨rfl, ⟨rfl, ⟨rfl, ⟨rfl, ⟨rfl, trivial⟩⟩⟩⟩⟩⟩ ?_
                        exact ih (i + 1) (by omega) (by omega)
                      · refine z_iconst (v := -1) hF dX5_removes_183 (by decide) ?_
                        refine z_goto (tgt := 194) hF dX5_removes_184 (by decide) ?_
                        refine z_iast (k := i) (ws' := [(w0, .inr (5, [.int th, .int (nI (n - k)), .ref w1, .int (nI v), .int (nI m), .ref w2, .ref w3, .ref w4, .ref w5, .ref w6, .ref w7, .ref w8, .ref w9, .ref w10, .ref w11, .int (nI j), .ref w12, .ref w13, .ref w14, .ref w15, .ref w16])), (w1, eI G 60 (va_cpy f f (p + k) p (n - (p + k)))), (w2, eI G 12 (mpF (i + 1) (remB (nI p) (nI k) b e) b)), (w3, eI G 12 (upd (upd (mpF i (remE (nI p) (nI k) b e) e) i (behF (e i) (nI p) (nI k))) i (-1))), (w12, eI G 10 b2), (w13, eI G 10 e2), (w16, eI G 10 xs)]) hF 3 rfl (rfl) (by omega) rfl rfl dX5_removes_194 ?_
                        refine z_ws (ws' := [(w0, .inr (5, [.int th, .int (nI (n - k)), .ref w1, .int (nI v), .int (nI m), .ref w2, .ref w3, .ref w4, .ref w5, .ref w6, .ref w7, .ref w8, .ref w9, .ref w10, .ref w11, .int (nI j), .ref w12, .ref w13, .ref w14, .ref w15, .ref w16])), (w1, eI G 60 (va_cpy f f (p + k) p (n - (p + k)))), (w2, eI G 12 (mpF (i + 1) (remB (nI p) (nI k) b e) b)), (w3, eI G 12 (mpF (i + 1) (remE (nI p) (nI k) b e) e)), (w12, eI G 10 b2), (w13, eI G 10 e2), (w16, eI G 10 xs)]) (by rw [upd_upd, ← mpF_up (remE (nI p) (nI k) b e)]; simp [remE, hc, hg2]) ?_
                        refine z_iinc (v := nI (i + 1)) (lv' := [some (.ref w0), some (.int (nI p)), some (.int (nI k)), some (.int own), some (.int (nI (cntF (gonP (nI p) (nI k) b e) (i + 1)))), some (.int (nI (i + 1))), some (.int (zb (behF (b i) (nI p) (nI k) = behF (e i) (nI p) (nI k))))]) hF dX5_removes_195 rfl (nI_1 i) rfl rfl ?_
                        refine z_goto (tgt := 52) hF dX5_removes_198 (by decide) ?_
                        refine z_forget (lv' := [some (.ref w0), some (.int (nI p)), some (.int (nI k)), some (.int own), some (.int (nI (cntF (gonP (nI p) (nI k) b e) (i + 1)))), some (.int (nI (i + 1))), none]) ⟨rfl, ⟨rfl, ⟨rfl, ⟨rfl, ⟨rfl, ⟨rfl, trivial⟩⟩⟩⟩⟩⟩ ?_
                        exact ih (i + 1) (by omega) (by omega)
                    · refine z_iconst (v := -1) hF dX5_removes_160 (by decide) ?_
                      refine z_goto (tgt := 171) hF dX5_removes_161 (by decide) ?_
                      refine z_iast (k := i) (ws' := [(w0, .inr (5, [.int th, .int (nI (n - k)), .ref w1, .int (nI v), .int (nI m), .ref w2, .ref w3, .ref w4, .ref w5, .ref w6, .ref w7, .ref w8, .ref w9, .ref w10, .ref w11, .int (nI j), .ref w12, .ref w13, .ref w14, .ref w15, .ref w16])), (w1, eI G 60 (va_cpy f f (p + k) p (n - (p + k)))), (w2, eI G 12 (upd (upd (mpF i (remB (nI p) (nI k) b e) b) i (behF (b i) (nI p) (nI k))) i (-1))), (w3, eI G 12 (upd (mpF i (remE (nI p) (nI k) b e) e) i (behF (e i) (nI p) (nI k)))), (w12, eI G 10 b2), (w13, eI G 10 e2), (w16, eI G 10 xs)]) hF 2 rfl (rfl) (by omega) rfl rfl dX5_removes_171 ?_
                      refine z_ws (ws' := [(w0, .inr (5, [.int th, .int (nI (n - k)), .ref w1, .int (nI v), .int (nI m), .ref w2, .ref w3, .ref w4, .ref w5, .ref w6, .ref w7, .ref w8, .ref w9, .ref w10, .ref w11, .int (nI j), .ref w12, .ref w13, .ref w14, .ref w15, .ref w16])), (w1, eI G 60 (va_cpy f f (p + k) p (n - (p + k)))), (w2, eI G 12 (mpF (i + 1) (remB (nI p) (nI k) b e) b)), (w3, eI G 12 (upd (mpF i (remE (nI p) (nI k) b e) e) i (behF (e i) (nI p) (nI k)))), (w12, eI G 10 b2), (w13, eI G 10 e2), (w16, eI G 10 xs)]) (by rw [upd_upd, ← mpF_up (remB (nI p) (nI k) b e)]; simp [remB, hc, hg1]) ?_
                      refine z_aload_n hF dX5_removes_172 rfl ?_
                      refine z_get (C := RX5) (T := TX5) (N := 21) (ci := 5) (v := .ref w3) hF k_0 6 (by decide) rfl k_9 rfl 0 rfl rfl dX5_removes_173 ?_
                      refine z_iload hF dX5_removes_176 rfl ?_
                      refine z_iload hF dX5_removes_178 rfl ?_
                      refine z_if_eq_b (tgt := 187) hF dX5_removes_180 (by decide) (fun hg2 => ?_) (fun hg2 => ?_)
                      · refine z_aload_n hF dX5_removes_187 rfl ?_
                        refine z_get (C := RX5) (T := TX5) (N := 21) (ci := 5) (v := .ref w3) hF k_0 6 (by decide) rfl k_9 rfl 0 rfl rfl dX5_removes_188 ?_
                        refine z_iload hF dX5_removes_191 rfl ?_
                        refine z_iald (k := i) hF 3 rfl (rfl) (by omega) rfl dX5_removes_193 ?_
                        refine z_top (y := behF (e i) (nI p) (nI k)) (pk_us) ?_
                        refine z_iast (k := i) (ws' := [(w0, .inr (5, [.int th, .int (nI (n - k)), .ref w1, .int (nI v), .int (nI m), .ref w2, .ref w3, .ref w4, .ref w5, .ref w6, .ref w7, .ref w8, .ref w9, .ref w10, .ref w11, .int (nI j), .ref w12, .ref w13, .ref w14, .ref w15, .ref w16])), (w1, eI G 60 (va_cpy f f (p + k) p (n - (p + k)))), (w2, eI G 12 (mpF (i + 1) (remB (nI p) (nI k) b e) b)), (w3, eI G 12 (upd (upd (mpF i (remE (nI p) (nI k) b e) e) i (behF (e i) (nI p) (nI k))) i (behF (e i) (nI p) (nI k)))), (w12, eI G 10 b2), (w13, eI G 10 e2), (w16, eI G 10 xs)]) hF 3 rfl (rfl) (by omega) rfl rfl dX5_removes_194 ?_
                        refine z_ws (ws' := [(w0, .inr (5, [.int th, .int (nI (n - k)), .ref w1, .int (nI v), .int (nI m), .ref w2, .ref w3, .ref w4, .ref w5, .ref w6, .ref w7, .ref w8, .ref w9, .ref w10, .ref w11, .int (nI j), .ref w12, .ref w13, .ref w14, .ref w15, .ref w16])), (w1, eI G 60 (va_cpy f f (p + k) p (n - (p + k)))), (w2, eI G 12 (mpF (i + 1) (remB (nI p) (nI k) b e) b)), (w3, eI G 12 (mpF (i + 1) (remE (nI p) (nI k) b e) e)), (w12, eI G 10 b2), (w13, eI G 10 e2), (w16, eI G 10 xs)]) (by rw [upd_upd, ← mpF_up (remE (nI p) (nI k) b e)]; simp [remE, hc, hg2]) ?_
                        refine z_iinc (v := nI (i + 1)) (lv' := [some (.ref w0), some (.int (nI p)), some (.int (nI k)), some (.int own), some (.int (nI (cntF (gonP (nI p) (nI k) b e) (i + 1)))), some (.int (nI (i + 1))), some (.int (zb (behF (b i) (nI p) (nI k) = behF (e i) (nI p) (nI k))))]) hF dX5_removes_195 rfl (nI_1 i) rfl rfl ?_
                        refine z_goto (tgt := 52) hF dX5_removes_198 (by decide) ?_
                        refine z_forget (lv' := [some (.ref w0), some (.int (nI p)), some (.int (nI k)), some (.int own), some (.int (nI (cntF (gonP (nI p) (nI k) b e) (i + 1)))), some (.int (nI (i + 1))), none]) ⟨rfl, ⟨rfl, ⟨rfl, ⟨rfl, ⟨rfl, ⟨rfl, trivial⟩⟩⟩⟩⟩⟩ ?_
                        exact ih (i + 1) (by omega) (by omega)
                      · refine z_iconst (v := -1) hF dX5_removes_183 (by decide) ?_
                        refine z_goto (tgt := 194) hF dX5_removes_184 (by decide) ?_
                        refine z_iast (k := i) (ws' := [(w0, .inr (5, [.int th, .int (nI (n - k)), .ref w1, .int (nI v), .int (nI m), .ref w2, .ref w3, .ref w4, .ref w5, .ref w6, .ref w7, .ref w8, .ref w9, .ref w10, .ref w11, .int (nI j), .ref w12, .ref w13, .ref w14, .ref w15, .ref w16])), (w1, eI G 60 (va_cpy f f (p + k) p (n - (p + k)))), (w2, eI G 12 (mpF (i + 1) (remB (nI p) (nI k) b e) b)), (w3, eI G 12 (upd (upd (mpF i (remE (nI p) (nI k) b e) e) i (behF (e i) (nI p) (nI k))) i (-1))), (w12, eI G 10 b2), (w13, eI G 10 e2), (w16, eI G 10 xs)]) hF 3 rfl (rfl) (by omega) rfl rfl dX5_removes_194 ?_
                        refine z_ws (ws' := [(w0, .inr (5, [.int th, .int (nI (n - k)), .ref w1, .int (nI v), .int (nI m), .ref w2, .ref w3, .ref w4, .ref w5, .ref w6, .ref w7, .ref w8, .ref w9, .ref w10, .ref w11, .int (nI j), .ref w12, .ref w13, .ref w14, .ref w15, .ref w16])), (w1, eI G 60 (va_cpy f f (p + k) p (n - (p + k)))), (w2, eI G 12 (mpF (i + 1) (remB (nI p) (nI k) b e) b)), (w3, eI G 12 (mpF (i + 1) (remE (nI p) (nI k) b e) e)), (w12, eI G 10 b2), (w13, eI G 10 e2), (w16, eI G 10 xs)]) (by rw [upd_upd, ← mpF_up (remE (nI p) (nI k) b e)]; simp [remE, hc, hg2]) ?_
                        refine z_iinc (v := nI (i + 1)) (lv' := [some (.ref w0), some (.int (nI p)), some (.int (nI k)), some (.int own), some (.int (nI (cntF (gonP (nI p) (nI k) b e) (i + 1)))), some (.int (nI (i + 1))), some (.int (zb (behF (b i) (nI p) (nI k) = behF (e i) (nI p) (nI k))))]) hF dX5_removes_195 rfl (nI_1 i) rfl rfl ?_
                        refine z_goto (tgt := 52) hF dX5_removes_198 (by decide) ?_
                        refine z_forget (lv' := [some (.ref w0), some (.int (nI p)), some (.int (nI k)), some (.int own), some (.int (nI (cntF (gonP (nI p) (nI k) b e) (i + 1)))), some (.int (nI (i + 1))), none]) ⟨rfl, ⟨rfl, ⟨rfl, ⟨rfl, ⟨rfl, ⟨rfl, trivial⟩⟩⟩⟩⟩⟩ ?_
                        exact ih (i + 1) (by omega) (by omega)
                refine z_aload_n hF dX5_removes_110 rfl ?_
                refine z_get (C := RX5) (T := TX5) (N := 21) (ci := 5) (v := .ref w2) hF k_0 5 (by decide) rfl k_8 rfl 0 rfl rfl dX5_removes_111 ?_
                refine z_iload hF dX5_removes_114 rfl ?_
                refine z_iald (k := i) hF 2 rfl (rfl) (by omega) rfl dX5_removes_116 ?_
                refine z_top (y := behF (b i) (nI p) (nI k)) (pk_us) ?_
                refine z_aload_n hF dX5_removes_117 rfl ?_
                refine z_get (C := RX5) (T := TX5) (N := 21) (ci := 5) (v := .ref w3) hF k_0 6 (by decide) rfl k_9 rfl 0 rfl rfl dX5_removes_118 ?_
                refine z_iload hF dX5_removes_121 rfl ?_
                refine z_iald (k := i) hF 3 rfl (rfl) (by omega) rfl dX5_removes_123 ?_
                refine z_top (y := behF (e i) (nI p) (nI k)) (pk_us) ?_
                refine z_ic_ne (tgt := 131) hF dX5_removes_124 (by decide) (fun c_4 => ?_) (fun c_4 => ?_)
                · refine z_iconst (v := nI 0) hF dX5_removes_131 (by decide) ?_
                  refine z_top (y := zb (behF (b i) (nI p) (nI k) = behF (e i) (nI p) (nI k))) (zb0 (by first | assumption | grind)) ?_
                  exact J_132  
                · refine z_iconst (v := nI 1) hF dX5_removes_127 (by decide) ?_
                  refine z_goto (tgt := 132) hF dX5_removes_128 (by decide) ?_
                  refine z_top (y := zb (behF (b i) (nI p) (nI k) = behF (e i) (nI p) (nI k))) (zb1 (by first | assumption | grind)) ?_
                  exact J_132  
        exact J_52 ((m - 0) + 1) 0 (Nat.lt_succ_self _) (by omega)
      · refine z_aload_n hF dX5_removes_14 rfl ?_
        refine z_get (C := RX5) (T := TX5) (N := 21) (ci := 5) (v := .ref w1) hF k_0 2 (by decide) rfl k_10 rfl 0 rfl rfl dX5_removes_15 ?_
        refine z_iload hF dX5_removes_18 rfl ?_
        refine z_iload_n hF dX5_removes_20 rfl ?_
        refine z_isub hF dX5_removes_21 ?_
        refine z_top (pk_sub (by omega)) ?_
        refine z_aload_n hF dX5_removes_22 rfl ?_
        refine z_get (C := RX5) (T := TX5) (N := 21) (ci := 5) (v := .ref w1) hF k_0 2 (by decide) rfl k_10 rfl 0 rfl rfl dX5_removes_23 ?_
        refine z_iload hF dX5_removes_26 rfl ?_
        refine z_iald (k := i) hF 1 rfl (rfl) (by omega) rfl dX5_removes_28 ?_
        refine z_top (y := f i) (cpy_uat f h1 (by omega)) ?_
        refine z_iast (k := p + (i - (p + k))) (ws' := [(w0, .inr (5, [.int th, .int (nI n), .ref w1, .int (nI v), .int (nI m), .ref w2, .ref w3, .ref w4, .ref w5, .ref w6, .ref w7, .ref w8, .ref w9, .ref w10, .ref w11, .int (nI j), .ref w12, .ref w13, .ref w14, .ref w15, .ref w16])), (w1, eI G 60 (upd (va_cpy f f (p + k) p (i - (p + k))) (p + (i - (p + k))) (f i))), (w2, eI G 12 b), (w3, eI G 12 e), (w12, eI G 10 b2), (w13, eI G 10 e2), (w16, eI G 10 xs)]) hF 1 rfl (by rw [show p + (i - (p + k)) = i - k by omega]) (by omega) rfl rfl dX5_removes_29 ?_
        refine z_ws (ws' := [(w0, .inr (5, [.int th, .int (nI n), .ref w1, .int (nI v), .int (nI m), .ref w2, .ref w3, .ref w4, .ref w5, .ref w6, .ref w7, .ref w8, .ref w9, .ref w10, .ref w11, .int (nI j), .ref w12, .ref w13, .ref w14, .ref w15, .ref w16])), (w1, eI G 60 (va_cpy f f (p + k) p ((i + 1) - (p + k)))), (w2, eI G 12 b), (w3, eI G 12 e), (w12, eI G 10 b2), (w13, eI G 10 e2), (w16, eI G 10 xs)]) (by rw [cpy_up f h1]) ?_
        refine z_iinc (v := nI (i + 1)) (lv' := [some (.ref w0), some (.int (nI p)), some (.int (nI k)), some (.int own), some (.int (nI (i + 1))), none, none]) hF dX5_removes_30 rfl (nI_1 i) rfl rfl ?_
        refine z_goto (tgt := 5) hF dX5_removes_33 (by decide) ?_
        exact ih (i + 1) (by omega) (by omega) (by omega)
  exact J_5 ((n - (p + k)) + 1) (p + k) (Nat.lt_succ_self _) (by omega) (by omega)
