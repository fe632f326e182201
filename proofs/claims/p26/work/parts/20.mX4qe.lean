set_option maxHeartbeats 4000000 in
set_option maxRecDepth 100000 in
theorem c_X4_accept1 (G : zG) (d0 t0 r0 q0 y0 d1 u0 d2 d3 d4 v : Nat) (o : Int32) (t1 t2 n : Nat) (f : Nat → Int32) (g : Nat → Int32) (r1 r2 r3 m : Nat) (b : Nat → Int32) (e : Nat → Int32) (s : Nat → Int32) (y1 : Nat) (h : Nat → Int32) (u1 u2 u3 j : Nat) (b2 : Nat → Int32) (e2 : Nat → Int32) (s2 : Nat → Int32) (xl : Nat → Int32) (xc : Nat → Int32) (xs : Nat → Int32) (i p q : Nat) (z : Nat) (hn : n ≤ 60) (hm : m ≤ 12) (hj : j ≤ 10) (hv : v + 1 < 300) (hi : i < j) (h0 : xs i = 0) (hb : b2 i = nI p) (he : e2 i = nI q) (hpq : p < q) (hqn : q ≤ n) (ho : ovF b2 e2 xs i j = 0) (hz : xc i = nI z) (hr : n - (q - p) + z ≤ 60) (hz0 : 0 < z) (hz5 : z ≤ 5) : zM G yX4_accept wsX4_accept ({ frames := 5, cells := 0, slots := 0, locals := 121 }) [.ref d0, .int (nI i)] [(d0, .inr (4, [.ref t0, .ref r0, .ref q0, .ref y0, .ref d1, .int o, .int (nI v), .ref u0, .ref d2, .ref d3, .ref d4])), (y0, .inr (0, [.ref y1])), (y1, eI G 3600 h), (r0, .inr (2, [.ref r1, .ref r2, .ref r3, .int (nI m)])), (r1, eI G 12 b), (r2, eI G 12 e), (r3, eI G 12 s), (u0, .inr (2, [.ref u1, .ref u2, .ref u3, .int (nI j)])), (u1, eI G 12 b2), (u2, eI G 12 e2), (u3, eI G 12 s2), (t0, .inr (3, [.ref t1, .ref t2, .int (nI n)])), (t1, eI G 60 f), (t2, eI G 60 g), (d2, eI G 10 xl), (d3, eI G 10 xc), (d4, eI G 10 xs)] [(d0, .inr (4, [.ref t0, .ref r0, .ref q0, .ref y0, .ref d1, .int o, .int (nI ((v + 1) + 1)), .ref u0, .ref d2, .ref d3, .ref d4])), (y0, .inr (0, [.ref y1])), (y1, eI G 3600 (wrF (wrF h (v * 12) 12 (fun kk => if kk < m then numF (b kk) (e kk) else -1)) ((v + 1) * 12) 12 (fun kk => if kk < m then numF ((mpF m (remB (nI p) (nI (q - p)) b e) b) kk) ((mpF m (remE (nI p) (nI (q - p)) b e) e) kk) else -1))), (r0, .inr (2, [.ref r1, .ref r2, .ref r3, .int (nI m)])), (r1, eI G 12 (mpF m (insB (nI p) (nI z) (mpF m (remB (nI p) (nI (q - p)) b e) b) s) (mpF m (remB (nI p) (nI (q - p)) b e) b))), (r2, eI G 12 (mpF m (insE (nI p) (nI z) (mpF m (remB (nI p) (nI (q - p)) b e) b) (mpF m (remE (nI p) (nI (q - p)) b e) e) s) (mpF m (remE (nI p) (nI (q - p)) b e) e))), (r3, eI G 12 s), (u0, .inr (2, [.ref u1, .ref u2, .ref u3, .int (nI j)])), (u1, eI G 12 (mpF j (insB (nI p) (nI z) (mpF j (remB (nI p) (nI (q - p)) b2 e2) b2) s2) (mpF j (remB (nI p) (nI (q - p)) b2 e2) b2))), (u2, eI G 12 (mpF j (insE (nI p) (nI z) (mpF j (remB (nI p) (nI (q - p)) b2 e2) b2) (mpF j (remE (nI p) (nI (q - p)) b2 e2) e2) s2) (mpF j (remE (nI p) (nI (q - p)) b2 e2) e2))), (u3, eI G 12 s2), (t0, .inr (3, [.ref t1, .ref t2, .int (nI ((n - (q - p)) + z))])), (t1, eI G 60 (filF (va_cpy (va_cpy f f (p + (q - p)) p (n - (p + (q - p)))) (va_cpy f f (p + (q - p)) p (n - (p + (q - p)))) p (p + z) ((n - (q - p)) - p)) p (p + z) (xl i))), (t2, eI G 60 (mrkF (filF (va_cpy (va_cpy g g (p + (q - p)) p (n - (p + (q - p)))) (va_cpy g g (p + (q - p)) p (n - (p + (q - p)))) p (p + z) ((n - (q - p)) - p)) p (p + z) (nI 0)) p (p + z) (covF (mpF m (insB (nI p) (nI z) (mpF m (remB (nI p) (nI (q - p)) b e) b) s) (mpF m (remB (nI p) (nI (q - p)) b e) b)) (mpF m (insE (nI p) (nI z) (mpF m (remB (nI p) (nI (q - p)) b e) b) (mpF m (remE (nI p) (nI (q - p)) b e) e) s) (mpF m (remE (nI p) (nI (q - p)) b e) e)) m (nI p)))), (d2, eI G 10 xl), (d3, eI G 10 xc), (d4, eI G 10 (mpF j (lgF (gonF (nI p) (nI (q - p)) b2 e2 j) (upd xs i (nI 1))) (upd xs i (nI 1))))] (some (.int (nI ((n - (q - p)) + z)))) 0 0 := by
  refine zM.ofI (own := RX4) (cc := cX4_accept) (maxL := 5) rfl (by decide) rfl rfl (by simp [Value.category]) (Nat.le_of_ble_eq_true rfl) ?_
  intro X hF hR
  have k_0 : ∀ w ∈ wsX40, w ∈ wsX4_accept := by decide +kernel
  have k_1 : zH X (.fieldLink RX4 48 "MarginDesk" "suggestionRanges" "LMarginDesk$Ranges;") := hF.w (by decide +kernel)
  have k_2 : ∀ w ∈ wsX20, w ∈ wsX4_accept := by decide +kernel
  have k_3 : zH X (.fieldLinkNest RX4 170 "MarginDesk$Ranges" "begins" "[I" RX4) := hF.nf (List.mem_of_getElem? (i := 0) rfl)
  have k_4 : zH X (.fieldLinkNest RX4 173 "MarginDesk$Ranges" "ends" "[I" RX4) := hF.nf (List.mem_of_getElem? (i := 1) rfl)
  have k_5 : zH X (.fieldLink RX4 54 "MarginDesk" "suggestedCounts" "[I") := hF.w (by decide +kernel)
  have k_6 : zH X (.fieldLink RX4 57 "MarginDesk" "states" "[I") := hF.w (by decide +kernel)
  have k_7 : zH X (.fieldLink RX4 51 "MarginDesk" "suggestedLetters" "[I") := hF.w (by decide +kernel)
  have k_8 : zH X (.fieldLink RX4 10 "MarginDesk" "text" "LMarginDesk$Text;") := hF.w (by decide +kernel)
  have k_9 : ∀ w ∈ wsX30, w ∈ wsX4_accept := by decide +kernel
  have k_10 : zH X (.fieldLinkNest RX4 78 "MarginDesk$Text" "size" "I" RX4) := hF.nf (List.mem_of_getElem? (i := 2) rfl)
  refine z_lv (lv' := [some (.ref d0), some (.int (nI i)), none, none, none]) rfl ?_
  refine z_aload_n hF dX4_accept_0 rfl ?_
  refine z_iload_n hF dX4_accept_1 rfl ?_
  refine z_V (As := [.int (nI i)]) (rest := []) (ws' := [(d0, .inr (4, [.ref t0, .ref r0, .ref q0, .ref y0, .ref d1, .int o, .int (nI v), .ref u0, .ref d2, .ref d3, .ref d4])), (y0, .inr (0, [.ref y1])), (y1, eI G 3600 h), (r0, .inr (2, [.ref r1, .ref r2, .ref r3, .int (nI m)])), (r1, eI G 12 b), (r2, eI G 12 e), (r3, eI G 12 s), (u0, .inr (2, [.ref u1, .ref u2, .ref u3, .int (nI j)])), (u1, eI G 12 b2), (u2, eI G 12 e2), (u3, eI G 12 s2), (t0, .inr (3, [.ref t1, .ref t2, .int (nI n)])), (t1, eI G 60 f), (t2, eI G 60 g), (d2, eI G 10 xl), (d3, eI G 10 xc), (d4, eI G 10 xs)]) (st2 := []) (c2 := 0) (s2 := 0) hF (c_X4_checkSuggestion G d0 t0 r0 q0 y0 d1 u0 d2 d3 d4 v o u1 u2 u3 j i (by first | assumption | omega) (by first | assumption | omega)) gX4_accept_X4_checkSuggestion rfl rfl rfl hd_X4_checkSuggestion ⟨⟨Nat.le_of_ble_eq_true rfl, Nat.le_of_ble_eq_true rfl⟩, ⟨Nat.le_of_ble_eq_true rfl, Nat.le_of_ble_eq_true rfl⟩, Nat.le_of_ble_eq_true rfl⟩ [0, 7] rfl rfl 0 rfl rfl rfl rfl rfl rfl rfl rfl rfl rfl dX4_accept_2 ?_
  refine z_aload_n hF dX4_accept_5 rfl ?_
  refine z_iload_n hF dX4_accept_6 rfl ?_
  refine z_V (As := [.int (nI i)]) (rest := []) (ws' := [(d0, .inr (4, [.ref t0, .ref r0, .ref q0, .ref y0, .ref d1, .int o, .int (nI v), .ref u0, .ref d2, .ref d3, .ref d4])), (y0, .inr (0, [.ref y1])), (y1, eI G 3600 h), (r0, .inr (2, [.ref r1, .ref r2, .ref r3, .int (nI m)])), (r1, eI G 12 b), (r2, eI G 12 e), (r3, eI G 12 s), (u0, .inr (2, [.ref u1, .ref u2, .ref u3, .int (nI j)])), (u1, eI G 12 b2), (u2, eI G 12 e2), (u3, eI G 12 s2), (t0, .inr (3, [.ref t1, .ref t2, .int (nI n)])), (t1, eI G 60 f), (t2, eI G 60 g), (d2, eI G 10 xl), (d3, eI G 10 xc), (d4, eI G 10 xs)]) (st2 := []) (c2 := 0) (s2 := 0) hF (c_X4_checkWaiting G d0 t0 r0 q0 y0 d1 u0 d2 d3 d4 v o xs i (by first | assumption | omega) (by first | assumption | omega)) gX4_accept_X4_checkWaiting rfl rfl rfl hd_X4_checkWaiting ⟨⟨Nat.le_of_ble_eq_true rfl, Nat.le_of_ble_eq_true rfl⟩, ⟨Nat.le_of_ble_eq_true rfl, Nat.le_of_ble_eq_true rfl⟩, Nat.le_of_ble_eq_true rfl⟩ [0, 16] rfl rfl 0 rfl rfl rfl rfl rfl rfl rfl rfl rfl rfl dX4_accept_7 ?_
  refine z_aload_n hF dX4_accept_10 rfl ?_
  refine z_iload_n hF dX4_accept_11 rfl ?_
  refine z_V (As := [.int (nI i)]) (rest := []) (ws' := [(d0, .inr (4, [.ref t0, .ref r0, .ref q0, .ref y0, .ref d1, .int o, .int (nI v), .ref u0, .ref d2, .ref d3, .ref d4])), (y0, .inr (0, [.ref y1])), (y1, eI G 3600 h), (r0, .inr (2, [.ref r1, .ref r2, .ref r3, .int (nI m)])), (r1, eI G 12 b), (r2, eI G 12 e), (r3, eI G 12 s), (u0, .inr (2, [.ref u1, .ref u2, .ref u3, .int (nI j)])), (u1, eI G 12 b2), (u2, eI G 12 e2), (u3, eI G 12 s2), (t0, .inr (3, [.ref t1, .ref t2, .int (nI n)])), (t1, eI G 60 f), (t2, eI G 60 g), (d2, eI G 10 xl), (d3, eI G 10 xc), (d4, eI G 10 xs)]) (st2 := [.int (ovF b2 e2 xs i j)]) (c2 := 0) (s2 := 0) hF (c_X4_overlapping G d0 t0 r0 q0 y0 d1 u0 d2 d3 d4 v o u1 u2 u3 j b2 e2 xs i (by first | assumption | omega) (by first | assumption | omega)) gX4_accept_X4_overlapping rfl rfl rfl hd_X4_overlapping ⟨⟨Nat.le_of_ble_eq_true rfl, Nat.le_of_ble_eq_true rfl⟩, ⟨Nat.le_of_ble_eq_true rfl, Nat.le_of_ble_eq_true rfl⟩, Nat.le_of_ble_eq_true rfl⟩ [0, 7, 8, 9, 16] rfl rfl 0 rfl rfl rfl rfl rfl rfl rfl rfl rfl rfl dX4_accept_12 ?_
  refine z_if_eq (tgt := 28) hF dX4_accept_15 (by decide) (fun c_1 => ?_) (fun c_1 => absurd c_1 (not_not_intro ho))
  refine z_aload_n hF dX4_accept_28 rfl ?_
  refine z_get (C := RX4) (T := TX4) (N := 11) (ci := 4) (v := .ref u0) hF k_0 7 (by decide) rfl k_1 rfl 0 rfl rfl dX4_accept_29 ?_
  refine z_getN (C := RX2) (T := TX2) (N := 4) (ci := 2) (v := .ref u1) hF k_2 0 (by decide) rfl k_3 rfl 7 rfl rfl dX4_accept_32 ?_
  refine z_iload_n hF dX4_accept_35 rfl ?_
  refine z_iald (k := i) hF 8 rfl (rfl) (by omega) rfl dX4_accept_36 ?_
  refine z_top (y := nI p) (hb) ?_
  refine z_istore_n (lv' := [some (.ref d0), some (.int (nI i)), some (.int (nI p)), none, none]) hF dX4_accept_37 rfl rfl ?_
  refine z_aload_n hF dX4_accept_38 rfl ?_
  refine z_get (C := RX4) (T := TX4) (N := 11) (ci := 4) (v := .ref u0) hF k_0 7 (by decide) rfl k_1 rfl 0 rfl rfl dX4_accept_39 ?_
  refine z_getN (C := RX2) (T := TX2) (N := 4) (ci := 2) (v := .ref u2) hF k_2 1 (by decide) rfl k_4 rfl 7 rfl rfl dX4_accept_42 ?_
  refine z_iload_n hF dX4_accept_45 rfl ?_
  refine z_iald (k := i) hF 9 rfl (rfl) (by omega) rfl dX4_accept_46 ?_
  refine z_top (y := nI q) (he) ?_
  refine z_iload_n hF dX4_accept_47 rfl ?_
  refine z_isub hF dX4_accept_48 ?_
  refine z_top (pk_sub (by omega)) ?_
  refine z_istore_n (lv' := [some (.ref d0), some (.int (nI i)), some (.int (nI p)), some (.int (nI (q - p))), none]) hF dX4_accept_49 rfl rfl ?_
  refine z_aload_n hF dX4_accept_50 rfl ?_
  refine z_get (C := RX4) (T := TX4) (N := 11) (ci := 4) (v := .ref d3) hF k_0 9 (by decide) rfl k_5 rfl 0 rfl rfl dX4_accept_51 ?_
  refine z_iload_n hF dX4_accept_54 rfl ?_
  refine z_iald (k := i) hF 15 rfl (rfl) (by omega) rfl dX4_accept_55 ?_
  refine z_top (y := nI z) (hz) ?_
  refine z_istore (lv' := [some (.ref d0), some (.int (nI i)), some (.int (nI p)), some (.int (nI (q - p))), some (.int (nI z))]) hF dX4_accept_56 rfl rfl ?_
  refine z_aload_n hF dX4_accept_58 rfl ?_
  refine z_iload hF dX4_accept_59 rfl ?_
  refine z_iload_n hF dX4_accept_61 rfl ?_
  refine z_isub hF dX4_accept_62 ?_
  refine z_iload hF dX4_accept_63 rfl ?_
  refine z_ifn_ne (tgt := 72) hF (by omega) dX4_accept_65 (by decide) (fun c_2 => ?_) (fun c_2 => absurd c_2 (Nat.ne_of_gt hz0))
  refine z_iconst (v := nI 2) hF dX4_accept_72 (by decide) ?_
  refine z_V (As := [.int ((nI z) - (nI (q - p))), .int (nI 2)]) (rest := []) (ws' := [(d0, .inr (4, [.ref t0, .ref r0, .ref q0, .ref y0, .ref d1, .int o, .int (nI v), .ref u0, .ref d2, .ref d3, .ref d4])), (y0, .inr (0, [.ref y1])), (y1, eI G 3600 h), (r0, .inr (2, [.ref r1, .ref r2, .ref r3, .int (nI m)])), (r1, eI G 12 b), (r2, eI G 12 e), (r3, eI G 12 s), (u0, .inr (2, [.ref u1, .ref u2, .ref u3, .int (nI j)])), (u1, eI G 12 b2), (u2, eI G 12 e2), (u3, eI G 12 s2), (t0, .inr (3, [.ref t1, .ref t2, .int (nI n)])), (t1, eI G 60 f), (t2, eI G 60 g), (d2, eI G 10 xl), (d3, eI G 10 xc), (d4, eI G 10 xs)]) (st2 := []) (c2 := 0) (s2 := 0) hF (c_X4_checkRoom G d0 t0 r0 q0 y0 d1 u0 d2 d3 d4 v o t1 t2 n ((nI z) - (nI (q - p))) (nI 2) (room_s (n := n) (z := z) (t := q - p) hn (by omega) (by omega) hr) (by rw [nI_add]; exact (nI_leI (by omega) (by omega)).mpr (by omega))) gX4_accept_X4_checkRoom rfl rfl rfl hd_X4_checkRoom ⟨⟨Nat.le_of_ble_eq_true rfl, Nat.le_of_ble_eq_true rfl⟩, ⟨Nat.le_of_ble_eq_true rfl, Nat.le_of_ble_eq_true rfl⟩, Nat.le_of_ble_eq_true rfl⟩ [0, 11] rfl rfl 0 rfl rfl rfl rfl rfl rfl rfl rfl rfl rfl dX4_accept_73 ?_
  refine z_aload_n hF dX4_accept_76 rfl ?_
  refine z_get (C := RX4) (T := TX4) (N := 11) (ci := 4) (v := .ref d4) hF k_0 10 (by decide) rfl k_6 rfl 0 rfl rfl dX4_accept_77 ?_
  refine z_iload_n hF dX4_accept_80 rfl ?_
  refine z_iconst (v := nI 1) hF dX4_accept_81 (by decide) ?_
  refine z_iast (k := i) (ws' := [(d0, .inr (4, [.ref t0, .ref r0, .ref q0, .ref y0, .ref d1, .int o, .int (nI v), .ref u0, .ref d2, .ref d3, .ref d4])), (y0, .inr (0, [.ref y1])), (y1, eI G 3600 h), (r0, .inr (2, [.ref r1, .ref r2, .ref r3, .int (nI m)])), (r1, eI G 12 b), (r2, eI G 12 e), (r3, eI G 12 s), (u0, .inr (2, [.ref u1, .ref u2, .ref u3, .int (nI j)])), (u1, eI G 12 b2), (u2, eI G 12 e2), (u3, eI G 12 s2), (t0, .inr (3, [.ref t1, .ref t2, .int (nI n)])), (t1, eI G 60 f), (t2, eI G 60 g), (d2, eI G 10 xl), (d3, eI G 10 xc), (d4, eI G 10 (upd xs i (nI 1)))]) hF 16 rfl (rfl) (by omega) rfl rfl dX4_accept_82 ?_
  refine z_aload_n hF dX4_accept_83 rfl ?_
  refine z_iload_n hF dX4_accept_84 rfl ?_
  refine z_iload_n hF dX4_accept_85 rfl ?_
  refine z_V (As := [.int (nI p), .int (nI (q - p))]) (rest := []) (ws' := [(d0, .inr (4, [.ref t0, .ref r0, .ref q0, .ref y0, .ref d1, .int o, .int (nI (v + 1)), .ref u0, .ref d2, .ref d3, .ref d4])), (y0, .inr (0, [.ref y1])), (y1, eI G 3600 (wrF h (v * 12) 12 (fun kk => if kk < m then numF (b kk) (e kk) else -1))), (r0, .inr (2, [.ref r1, .ref r2, .ref r3, .int (nI m)])), (r1, eI G 12 (mpF m (remB (nI p) (nI (q - p)) b e) b)), (r2, eI G 12 (mpF m (remE (nI p) (nI (q - p)) b e) e)), (r3, eI G 12 s), (u0, .inr (2, [.ref u1, .ref u2, .ref u3, .int (nI j)])), (u1, eI G 12 (mpF j (remB (nI p) (nI (q - p)) b2 e2) b2)), (u2, eI G 12 (mpF j (remE (nI p) (nI (q - p)) b2 e2) e2)), (u3, eI G 12 s2), (t0, .inr (3, [.ref t1, .ref t2, .int (nI (n - (q - p)))])), (t1, eI G 60 (va_cpy f f (p + (q - p)) p (n - (p + (q - p))))), (t2, eI G 60 (va_cpy g g (p + (q - p)) p (n - (p + (q - p))))), (d2, eI G 10 xl), (d3, eI G 10 xc), (d4, eI G 10 (mpF j (lgF (gonF (nI p) (nI (q - p)) b2 e2 j) (upd xs i (nI 1))) (upd xs i (nI 1))))]) (st2 := [.int (bcF (gonF (nI p) (nI (q - p)) b e m))]) (c2 := 0) (s2 := 0) hF (c_X4_takeLettersOut G d0 t0 r0 q0 y0 d1 u0 d2 d3 d4 v o t1 t2 n f g r1 r2 r3 m b e y1 h u1 u2 u3 j b2 e2 (upd xs i (nI 1)) p (q - p) (by first | assumption | omega) (by first | assumption | omega) (by first | assumption | omega) (by first | assumption | omega) (by first | assumption | omega)) gX4_accept_X4_takeLettersOut rfl rfl rfl hd_X4_takeLettersOut ⟨⟨Nat.le_of_ble_eq_true rfl, Nat.le_of_ble_eq_true rfl⟩, ⟨Nat.le_of_ble_eq_true rfl, Nat.le_of_ble_eq_true rfl⟩, Nat.le_of_ble_eq_true rfl⟩ [0, 1, 2, 3, 4, 5, 7, 8, 9, 11, 12, 13, 16] rfl rfl 0 rfl rfl rfl rfl rfl rfl rfl rfl rfl rfl dX4_accept_86 ?_
  refine z_pop hF dX4_accept_89 rfl ?_
  refine z_iload hF dX4_accept_90 rfl ?_
  refine z_ifn_le (tgt := 108) hF (by omega) dX4_accept_92 (by decide) (fun c_3 => absurd c_3 (Nat.ne_of_gt hz0)) (fun c_3 => ?_)
  refine z_aload_n hF dX4_accept_95 rfl ?_
  refine z_iload_n hF dX4_accept_96 rfl ?_
  refine z_aload_n hF dX4_accept_97 rfl ?_
  refine z_get (C := RX4) (T := TX4) (N := 11) (ci := 4) (v := .ref d2) hF k_0 8 (by decide) rfl k_7 rfl 0 rfl rfl dX4_accept_98 ?_
  refine z_iload_n hF dX4_accept_101 rfl ?_
  refine z_iald (k := i) hF 14 rfl (rfl) (by omega) rfl dX4_accept_102 ?_
  refine z_iload hF dX4_accept_103 rfl ?_
  refine z_V (As := [.int (nI p), .int (xl i), .int (nI z)]) (rest := []) (ws' := [(d0, .inr (4, [.ref t0, .ref r0, .ref q0, .ref y0, .ref d1, .int o, .int (nI ((v + 1) + 1)), .ref u0, .ref d2, .ref d3, .ref d4])), (y0, .inr (0, [.ref y1])), (y1, eI G 3600 (wrF (wrF h (v * 12) 12 (fun kk => if kk < m then numF (b kk) (e kk) else -1)) ((v + 1) * 12) 12 (fun kk => if kk < m then numF ((mpF m (remB (nI p) (nI (q - p)) b e) b) kk) ((mpF m (remE (nI p) (nI (q - p)) b e) e) kk) else -1))), (r0, .inr (2, [.ref r1, .ref r2, .ref r3, .int (nI m)])), (r1, eI G 12 (mpF m (insB (nI p) (nI z) (mpF m (remB (nI p) (nI (q - p)) b e) b) s) (mpF m (remB (nI p) (nI (q - p)) b e) b))), (r2, eI G 12 (mpF m (insE (nI p) (nI z) (mpF m (remB (nI p) (nI (q - p)) b e) b) (mpF m (remE (nI p) (nI (q - p)) b e) e) s) (mpF m (remE (nI p) (nI (q - p)) b e) e))), (r3, eI G 12 s), (u0, .inr (2, [.ref u1, .ref u2, .ref u3, .int (nI j)])), (u1, eI G 12 (mpF j (insB (nI p) (nI z) (mpF j (remB (nI p) (nI (q - p)) b2 e2) b2) s2) (mpF j (remB (nI p) (nI (q - p)) b2 e2) b2))), (u2, eI G 12 (mpF j (insE (nI p) (nI z) (mpF j (remB (nI p) (nI (q - p)) b2 e2) b2) (mpF j (remE (nI p) (nI (q - p)) b2 e2) e2) s2) (mpF j (remE (nI p) (nI (q - p)) b2 e2) e2))), (u3, eI G 12 s2), (t0, .inr (3, [.ref t1, .ref t2, .int (nI ((n - (q - p)) + z))])), (t1, eI G 60 (filF (va_cpy (va_cpy f f (p + (q - p)) p (n - (p + (q - p)))) (va_cpy f f (p + (q - p)) p (n - (p + (q - p)))) p (p + z) ((n - (q - p)) - p)) p (p + z) (xl i))), (t2, eI G 60 (mrkF (filF (va_cpy (va_cpy g g (p + (q - p)) p (n - (p + (q - p)))) (va_cpy g g (p + (q - p)) p (n - (p + (q - p)))) p (p + z) ((n - (q - p)) - p)) p (p + z) (nI 0)) p (p + z) (covF (mpF m (insB (nI p) (nI z) (mpF m (remB (nI p) (nI (q - p)) b e) b) s) (mpF m (remB (nI p) (nI (q - p)) b e) b)) (mpF m (insE (nI p) (nI z) (mpF m (remB (nI p) (nI (q - p)) b e) b) (mpF m (remE (nI p) (nI (q - p)) b e) e) s) (mpF m (remE (nI p) (nI (q - p)) b e) e)) m (nI p)))), (d2, eI G 10 xl), (d3, eI G 10 xc), (d4, eI G 10 (mpF j (lgF (gonF (nI p) (nI (q - p)) b2 e2 j) (upd xs i (nI 1))) (upd xs i (nI 1))))]) (st2 := []) (c2 := 0) (s2 := 0) hF (c_X4_putLettersIn G d0 t0 r0 q0 y0 d1 u0 d2 d3 d4 (v + 1) o t1 t2 (n - (q - p)) (va_cpy f f (p + (q - p)) p (n - (p + (q - p)))) (va_cpy g g (p + (q - p)) p (n - (p + (q - p)))) r1 r2 r3 m (mpF m (remB (nI p) (nI (q - p)) b e) b) (mpF m (remE (nI p) (nI (q - p)) b e) e) s y1 (wrF h (v * 12) 12 (fun kk => if kk < m then numF (b kk) (e kk) else -1)) u1 u2 u3 j (mpF j (remB (nI p) (nI (q - p)) b2 e2) b2) (mpF j (remE (nI p) (nI (q - p)) b2 e2) e2) s2 p z (xl i) (by first | assumption | omega) (by first | assumption | omega) (by first | assumption | omega) (by first | assumption | omega) (by first | assumption | omega)) gX4_accept_X4_putLettersIn rfl rfl rfl hd_X4_putLettersIn ⟨⟨Nat.le_of_ble_eq_true rfl, Nat.le_of_ble_eq_true rfl⟩, ⟨Nat.le_of_ble_eq_true rfl, Nat.le_of_ble_eq_true rfl⟩, Nat.le_of_ble_eq_true rfl⟩ [0, 1, 2, 3, 4, 5, 6, 7, 8, 9, 10, 11, 12, 13] rfl rfl 0 rfl rfl rfl rfl rfl rfl rfl rfl rfl rfl dX4_accept_105 ?_
  refine z_aload_n hF dX4_accept_108 rfl ?_
  refine z_get (C := RX4) (T := TX4) (N := 11) (ci := 4) (v := .ref t0) hF k_0 0 (by decide) rfl k_8 rfl 0 rfl rfl dX4_accept_109 ?_
  refine z_getN (C := RX3) (T := TX3) (N := 3) (ci := 3) (v := .int (nI ((n - (q - p)) + z))) hF k_9 2 (by decide) rfl k_10 rfl 11 rfl rfl dX4_accept_112 ?_
  exact hR.i dX4_accept_115 (Nat.le_of_ble_eq_true rfl) (Nat.le_of_ble_eq_true rfl) (rfl) (rfl)
set_option maxHeartbeats 4000000 in
set_option maxRecDepth 100000 in
theorem c_X4_accept_w (G : zG) (d0 t0 r0 q0 y0 d1 u0 d2 d3 d4 v : Nat) (o : Int32) (u1 u2 u3 j : Nat) (xs : Nat → Int32) (i : Nat) (hj : j ≤ 10) (hi : i < j) (h0 : ¬ xs i = 0) : zX G yX4_accept wsX4_accept ({ frames := 7, cells := 1, slots := 6, locals := 111 }) [.ref d0, .int (nI i)] [(d0, .inr (4, [.ref t0, .ref r0, .ref q0, .ref y0, .ref d1, .int o, .int (nI v), .ref u0, .ref d2, .ref d3, .ref d4])), (u0, .inr (2, [.ref u1, .ref u2, .ref u3, .int (nI j)])), (d4, eI G 10 xs)] [(d0, .inr (4, [.ref t0, .ref r0, .ref q0, .ref y0, .ref d1, .int o, .int (nI v), .ref u0, .ref d2, .ref d3, .ref d4])), (u0, .inr (2, [.ref u1, .ref u2, .ref u3, .int (nI j)])), (d4, eI G 10 xs)] 3 (some (.int (nI 0))) 1 6 := by
  refine zX.ofI (own := RX4) (cc := cX4_accept) (maxL := 5) rfl (by decide) rfl rfl (by simp [Value.category]) (Nat.le_of_ble_eq_true rfl) ?_
  intro X hF hZ hR
  refine z_lv (lv' := [some (.ref d0), some (.int (nI i)), none, none, none]) rfl ?_
  refine z_aload_n hF dX4_accept_0 rfl ?_
  refine z_iload_n hF dX4_accept_1 rfl ?_
  refine z_V (As := [.int (nI i)]) (rest := []) (ws' := [(d0, .inr (4, [.ref t0, .ref r0, .ref q0, .ref y0, .ref d1, .int o, .int (nI v), .ref u0, .ref d2, .ref d3, .ref d4])), (u0, .inr (2, [.ref u1, .ref u2, .ref u3, .int (nI j)])), (d4, eI G 10 xs)]) (st2 := []) (c2 := 0) (s2 := 0) hF (c_X4_checkSuggestion G d0 t0 r0 q0 y0 d1 u0 d2 d3 d4 v o u1 u2 u3 j i (by first | assumption | omega) (by first | assumption | omega)) gX4_accept_X4_checkSuggestion rfl rfl rfl hd_X4_checkSuggestion ⟨⟨Nat.le_of_ble_eq_true rfl, Nat.le_of_ble_eq_true rfl⟩, ⟨Nat.le_of_ble_eq_true rfl, Nat.le_of_ble_eq_true rfl⟩, Nat.le_of_ble_eq_true rfl⟩ [0, 1] rfl rfl 0 rfl rfl rfl rfl rfl rfl rfl rfl rfl rfl dX4_accept_2 ?_
  refine z_aload_n hF dX4_accept_5 rfl ?_
  refine z_iload_n hF dX4_accept_6 rfl ?_
  refine z_Vx (As := [.int (nI i)]) (rest := []) (ws' := [(d0, .inr (4, [.ref t0, .ref r0, .ref q0, .ref y0, .ref d1, .int o, .int (nI v), .ref u0, .ref d2, .ref d3, .ref d4])), (u0, .inr (2, [.ref u1, .ref u2, .ref u3, .int (nI j)])), (d4, eI G 10 xs)]) (st2 := []) (c2 := 1) (s2 := 6) hF (c_X4_checkWaiting_3 G d0 t0 r0 q0 y0 d1 u0 d2 d3 d4 v o xs i (by first | assumption | omega) (by first | assumption | omega)) gX4_accept_X4_checkWaiting rfl rfl rfl hd_X4_checkWaiting ⟨⟨Nat.le_of_ble_eq_true rfl, Nat.le_of_ble_eq_true rfl⟩, ⟨Nat.le_of_ble_eq_true rfl, Nat.le_of_ble_eq_true rfl⟩, Nat.le_of_ble_eq_true rfl⟩ [0, 2] rfl rfl 0 rfl rfl rfl rfl rfl rfl rfl rfl rfl rfl rfl rfl dX4_accept_7 (fun h3 => hZ.x (Nat.le_of_ble_eq_true rfl) (Nat.le_of_ble_eq_true rfl) (fun _ => rfl) h3 rfl) (fun h3 => ?_)
  exact absurd h3 (by decide)
set_option maxHeartbeats 4000000 in
set_option maxRecDepth 100000 in
theorem c_X4_accept_o (G : zG) (d0 t0 r0 q0 y0 d1 u0 d2 d3 d4 v : Nat) (o : Int32) (u1 u2 u3 j : Nat) (b2 : Nat → Int32) (e2 : Nat → Int32) (xs : Nat → Int32) (i : Nat) (hj : j ≤ 10) (hi : i < j) (h0 : xs i = 0) (ho : ¬ ovF b2 e2 xs i j = 0) : zX G yX4_accept wsX4_accept ({ frames := 6, cells := 1, slots := 6, locals := 90 }) [.ref d0, .int (nI i)] [(d0, .inr (4, [.ref t0, .ref r0, .ref q0, .ref y0, .ref d1, .int o, .int (nI v), .ref u0, .ref d2, .ref d3, .ref d4])), (u0, .inr (2, [.ref u1, .ref u2, .ref u3, .int (nI j)])), (u1, eI G 12 b2), (u2, eI G 12 e2), (d4, eI G 10 xs)] [(d0, .inr (4, [.ref t0, .ref r0, .ref q0, .ref y0, .ref d1, .int o, .int (nI v), .ref u0, .ref d2, .ref d3, .ref d4])), (u0, .inr (2, [.ref u1, .ref u2, .ref u3, .int (nI j)])), (u1, eI G 12 b2), (u2, eI G 12 e2), (d4, eI G 10 xs)] 3 (some (.int (nI 0))) 1 6 := by
  refine zX.ofI (own := RX4) (cc := cX4_accept) (maxL := 5) rfl (by decide) rfl rfl (by simp [Value.category]) (Nat.le_of_ble_eq_true rfl) ?_
  intro X hF hZ hR
  have k_0 : zH X (.classLink RX4 95 "java/lang/IllegalStateException") := hF.w (by decide +kernel)
  have k_1 : zH X (.initialized "java/lang/IllegalStateException") := hF.w (by decide +kernel)
  have k_2 : ∀ w ∈ (vx_atS RX4 99 (zEx 3) [zRun, zExc]).filter goodWord, w ∈ wsX4_accept := by first | exact fun _ h => List.mem_cons_of_mem _ (List.mem_append_right _ h) | exact fun _ h => List.mem_cons_of_mem _ (List.mem_append_left _ (List.mem_append_right _ h)) | exact fun _ h => List.mem_cons_of_mem _ (List.mem_append_left _ (List.mem_append_left _ (List.mem_append_right _ h))) | exact fun _ h => List.mem_cons_of_mem _ (List.mem_append_left _ (List.mem_append_left _ (List.mem_append_left _ (List.mem_append_right _ h)))) | exact fun _ h => List.mem_cons_of_mem _ (List.mem_append_left _ (List.mem_append_left _ (List.mem_append_left _ (List.mem_append_left _ (List.mem_append_right _ h))))) | decide +kernel
  refine z_lv (lv' := [some (.ref d0), some (.int (nI i)), none, none, none]) rfl ?_
  refine z_aload_n hF dX4_accept_0 rfl ?_
  refine z_iload_n hF dX4_accept_1 rfl ?_
  refine z_V (As := [.int (nI i)]) (rest := []) (ws' := [(d0, .inr (4, [.ref t0, .ref r0, .ref q0, .ref y0, .ref d1, .int o, .int (nI v), .ref u0, .ref d2, .ref d3, .ref d4])), (u0, .inr (2, [.ref u1, .ref u2, .ref u3, .int (nI j)])), (u1, eI G 12 b2), (u2, eI G 12 e2), (d4, eI G 10 xs)]) (st2 := []) (c2 := 0) (s2 := 0) hF (c_X4_checkSuggestion G d0 t0 r0 q0 y0 d1 u0 d2 d3 d4 v o u1 u2 u3 j i (by first | assumption | omega) (by first | assumption | omega)) gX4_accept_X4_checkSuggestion rfl rfl rfl hd_X4_checkSuggestion ⟨⟨Nat.le_of_ble_eq_true rfl, Nat.le_of_ble_eq_true rfl⟩, ⟨Nat.le_of_ble_eq_true rfl, Nat.le_of_ble_eq_true rfl⟩, Nat.le_of_ble_eq_true rfl⟩ [0, 1] rfl rfl 0 rfl rfl rfl rfl rfl rfl rfl rfl rfl rfl dX4_accept_2 ?_
  refine z_aload_n hF dX4_accept_5 rfl ?_
  refine z_iload_n hF dX4_accept_6 rfl ?_
  refine z_V (As := [.int (nI i)]) (rest := []) (ws' := [(d0, .inr (4, [.ref t0, .ref r0, .ref q0, .ref y0, .ref d1, .int o, .int (nI v), .ref u0, .ref d2, .ref d3, .ref d4])), (u0, .inr (2, [.ref u1, .ref u2, .ref u3, .int (nI j)])), (u1, eI G 12 b2), (u2, eI G 12 e2), (d4, eI G 10 xs)]) (st2 := []) (c2 := 0) (s2 := 0) hF (c_X4_checkWaiting G d0 t0 r0 q0 y0 d1 u0 d2 d3 d4 v o xs i (by first | assumption | omega) (by first | assumption | omega)) gX4_accept_X4_checkWaiting rfl rfl rfl hd_X4_checkWaiting ⟨⟨Nat.le_of_ble_eq_true rfl, Nat.le_of_ble_eq_true rfl⟩, ⟨Nat.le_of_ble_eq_true rfl, Nat.le_of_ble_eq_true rfl⟩, Nat.le_of_ble_eq_true rfl⟩ [0, 4] rfl rfl 0 rfl rfl rfl rfl rfl rfl rfl rfl rfl rfl dX4_accept_7 ?_
  refine z_aload_n hF dX4_accept_10 rfl ?_
  refine z_iload_n hF dX4_accept_11 rfl ?_
  refine z_V (As := [.int (nI i)]) (rest := []) (ws' := [(d0, .inr (4, [.ref t0, .ref r0, .ref q0, .ref y0, .ref d1, .int o, .int (nI v), .ref u0, .ref d2, .ref d3, .ref d4])), (u0, .inr (2, [.ref u1, .ref u2, .ref u3, .int (nI j)])), (u1, eI G 12 b2), (u2, eI G 12 e2), (d4, eI G 10 xs)]) (st2 := [.int (ovF b2 e2 xs i j)]) (c2 := 0) (s2 := 0) hF (c_X4_overlapping G d0 t0 r0 q0 y0 d1 u0 d2 d3 d4 v o u1 u2 u3 j b2 e2 xs i (by first | assumption | omega) (by first | assumption | omega)) gX4_accept_X4_overlapping rfl rfl rfl hd_X4_overlapping ⟨⟨Nat.le_of_ble_eq_true rfl, Nat.le_of_ble_eq_true rfl⟩, ⟨Nat.le_of_ble_eq_true rfl, Nat.le_of_ble_eq_true rfl⟩, Nat.le_of_ble_eq_true rfl⟩ [0, 1, 2, 3, 4] rfl rfl 0 rfl rfl rfl rfl rfl rfl rfl rfl rfl rfl dX4_accept_12 ?_
  refine z_if_eq (tgt := 28) hF dX4_accept_15 (by decide) (fun c_1 => absurd c_1 (ho)) (fun c_1 => ?_)
  exact z_throw (k := 3) hF hZ k_0 k_1 (List.mem_of_getElem? (i := 4) rfl) k_2 zfit3 zbad3 znc3 zgood3 dX4_accept_18 dX4_accept_21 dX4_accept_22 dX4_accept_24 dX4_accept_27 ⟨Nat.le_of_ble_eq_true rfl, Nat.le_of_ble_eq_true rfl, Nat.le_of_ble_eq_true rfl, Nat.le_of_ble_eq_true rfl⟩ (Nat.le_of_ble_eq_true rfl) (Nat.le_of_ble_eq_true rfl) (by decide) (rfl) rfl
set_option maxHeartbeats 4000000 in
set_option maxRecDepth 100000 in
theorem c_X4_accept_r (G : zG) (d0 t0 r0 q0 y0 d1 u0 d2 d3 d4 v : Nat) (o : Int32) (t1 t2 n : Nat) (u1 u2 u3 j : Nat) (b2 : Nat → Int32) (e2 : Nat → Int32) (xc : Nat → Int32) (xs : Nat → Int32) (i p q z : Nat) (hn : n ≤ 60) (hj : j ≤ 10) (hi : i < j) (h0 : xs i = 0) (hb : b2 i = nI p) (he : e2 i = nI q) (hpq : p < q) (hqn : q ≤ n) (ho : ovF b2 e2 xs i j = 0) (hz : xc i = nI z) (hz5 : z ≤ 5) (hr : 60 < n - (q - p) + z) : zX G yX4_accept wsX4_accept ({ frames := 7, cells := 1, slots := 6, locals := 112 }) [.ref d0, .int (nI i)] [(d0, .inr (4, [.ref t0, .ref r0, .ref q0, .ref y0, .ref d1, .int o, .int (nI v), .ref u0, .ref d2, .ref d3, .ref d4])), (u0, .inr (2, [.ref u1, .ref u2, .ref u3, .int (nI j)])), (u1, eI G 12 b2), (u2, eI G 12 e2), (t0, .inr (3, [.ref t1, .ref t2, .int (nI n)])), (d3, eI G 10 xc), (d4, eI G 10 xs)] [(d0, .inr (4, [.ref t0, .ref r0, .ref q0, .ref y0, .ref d1, .int o, .int (nI v), .ref u0, .ref d2, .ref d3, .ref d4])), (u0, .inr (2, [.ref u1, .ref u2, .ref u3, .int (nI j)])), (u1, eI G 12 b2), (u2, eI G 12 e2), (t0, .inr (3, [.ref t1, .ref t2, .int (nI n)])), (d3, eI G 10 xc), (d4, eI G 10 xs)] 3 (some (.int (nI 0))) 1 6 := by
  refine zX.ofI (own := RX4) (cc := cX4_accept) (maxL := 5) rfl (by decide) rfl rfl (by simp [Value.category]) (Nat.le_of_ble_eq_true rfl) ?_
  intro X hF hZ hR
  have k_0 : ∀ w ∈ wsX40, w ∈ wsX4_accept := by decide +kernel
  have k_1 : zH X (.fieldLink RX4 48 "MarginDesk" "suggestionRanges" "LMarginDesk$Ranges;") := hF.w (by decide +kernel)
  have k_2 : ∀ w ∈ wsX20, w ∈ wsX4_accept := by decide +kernel
  have k_3 : zH X (.fieldLinkNest RX4 170 "MarginDesk$Ranges" "begins" "[I" RX4) := hF.nf (List.mem_of_getElem? (i := 0) rfl)
  have k_4 : zH X (.fieldLinkNest RX4 173 "MarginDesk$Ranges" "ends" "[I" RX4) := hF.nf (List.mem_of_getElem? (i := 1) rfl)
  have k_5 : zH X (.fieldLink RX4 54 "MarginDesk" "suggestedCounts" "[I") := hF.w (by decide +kernel)
  refine z_lv (lv' := [some (.ref d0), some (.int (nI i)), none, none, none]) rfl ?_
  refine z_aload_n hF dX4_accept_0 rfl ?_
  refine z_iload_n hF dX4_accept_1 rfl ?_
  refine z_V (As := [.int (nI i)]) (rest := []) (ws' := [(d0, .inr (4, [.ref t0, .ref r0, .ref q0, .ref y0, .ref d1, .int o, .int (nI v), .ref u0, .ref d2, .ref d3, .ref d4])), (u0, .inr (2, [.ref u1, .ref u2, .ref u3, .int (nI j)])), (u1, eI G 12 b2), (u2, eI G 12 e2), (t0, .inr (3, [.ref t1, .ref t2, .int (nI n)])), (d3, eI G 10 xc), (d4, eI G 10 xs)]) (st2 := []) (c2 := 0) (s2 := 0) hF (c_X4_checkSuggestion G d0 t0 r0 q0 y0 d1 u0 d2 d3 d4 v o u1 u2 u3 j i (by first | assumption | omega) (by first | assumption | omega)) gX4_accept_X4_checkSuggestion rfl rfl rfl hd_X4_checkSuggestion ⟨⟨Nat.le_of_ble_eq_true rfl, Nat.le_of_ble_eq_true rfl⟩, ⟨Nat.le_of_ble_eq_true rfl, Nat.le_of_ble_eq_true rfl⟩, Nat.le_of_ble_eq_true rfl⟩ [0, 1] rfl rfl 0 rfl rfl rfl rfl rfl rfl rfl rfl rfl rfl dX4_accept_2 ?_
  refine z_aload_n hF dX4_accept_5 rfl ?_
  refine z_iload_n hF dX4_accept_6 rfl ?_
  refine z_V (As := [.int (nI i)]) (rest := []) (ws' := [(d0, .inr (4, [.ref t0, .ref r0, .ref q0, .ref y0, .ref d1, .int o, .int (nI v), .ref u0, .ref d2, .ref d3, .ref d4])), (u0, .inr (2, [.ref u1, .ref u2, .ref u3, .int (nI j)])), (u1, eI G 12 b2), (u2, eI G 12 e2), (t0, .inr (3, [.ref t1, .ref t2, .int (nI n)])), (d3, eI G 10 xc), (d4, eI G 10 xs)]) (st2 := []) (c2 := 0) (s2 := 0) hF (c_X4_checkWaiting G d0 t0 r0 q0 y0 d1 u0 d2 d3 d4 v o xs i (by first | assumption | omega) (by first | assumption | omega)) gX4_accept_X4_checkWaiting rfl rfl rfl hd_X4_checkWaiting ⟨⟨Nat.le_of_ble_eq_true rfl, Nat.le_of_ble_eq_true rfl⟩, ⟨Nat.le_of_ble_eq_true rfl, Nat.le_of_ble_eq_true rfl⟩, Nat.le_of_ble_eq_true rfl⟩ [0, 6] rfl rfl 0 rfl rfl rfl rfl rfl rfl rfl rfl rfl rfl dX4_accept_7 ?_
  refine z_aload_n hF dX4_accept_10 rfl ?_
  refine z_iload_n hF dX4_accept_11 rfl ?_
  refine z_V (As := [.int (nI i)]) (rest := []) (ws' := [(d0, .inr (4, [.ref t0, .ref r0, .ref q0, .ref y0, .ref d1, .int o, .int (nI v), .ref u0, .ref d2, .ref d3, .ref d4])), (u0, .inr (2, [.ref u1, .ref u2, .ref u3, .int (nI j)])), (u1, eI G 12 b2), (u2, eI G 12 e2), (t0, .inr (3, [.ref t1, .ref t2, .int (nI n)])), (d3, eI G 10 xc), (d4, eI G 10 xs)]) (st2 := [.int (ovF b2 e2 xs i j)]) (c2 := 0) (s2 := 0) hF (c_X4_overlapping G d0 t0 r0 q0 y0 d1 u0 d2 d3 d4 v o u1 u2 u3 j b2 e2 xs i (by first | assumption | omega) (by first | assumption | omega)) gX4_accept_X4_overlapping rfl rfl rfl hd_X4_overlapping ⟨⟨Nat.le_of_ble_eq_true rfl, Nat.le_of_ble_eq_true rfl⟩, ⟨Nat.le_of_ble_eq_true rfl, Nat.le_of_ble_eq_true rfl⟩, Nat.le_of_ble_eq_true rfl⟩ [0, 1, 2, 3, 6] rfl rfl 0 rfl rfl rfl rfl rfl rfl rfl rfl rfl rfl dX4_accept_12 ?_
  refine z_if_eq (tgt := 28) hF dX4_accept_15 (by decide) (fun c_1 => ?_) (fun c_1 => absurd c_1 (not_not_intro ho))
  refine z_aload_n hF dX4_accept_28 rfl ?_
  refine z_get (C := RX4) (T := TX4) (N := 11) (ci := 4) (v := .ref u0) hF k_0 7 (by decide) rfl k_1 rfl 0 rfl rfl dX4_accept_29 ?_
  refine z_getN (C := RX2) (T := TX2) (N := 4) (ci := 2) (v := .ref u1) hF k_2 0 (by decide) rfl k_3 rfl 1 rfl rfl dX4_accept_32 ?_
  refine z_iload_n hF dX4_accept_35 rfl ?_
  refine z_iald (k := i) hF 2 rfl (rfl) (by omega) rfl dX4_accept_36 ?_
  refine z_top (y := nI p) (hb) ?_
  refine z_istore_n (lv' := [some (.ref d0), some (.int (nI i)), some (.int (nI p)), none, none]) hF dX4_accept_37 rfl rfl ?_
  refine z_aload_n hF dX4_accept_38 rfl ?_
  refine z_get (C := RX4) (T := TX4) (N := 11) (ci := 4) (v := .ref u0) hF k_0 7 (by decide) rfl k_1 rfl 0 rfl rfl dX4_accept_39 ?_
  refine z_getN (C := RX2) (T := TX2) (N := 4) (ci := 2) (v := .ref u2) hF k_2 1 (by decide) rfl k_4 rfl 1 rfl rfl dX4_accept_42 ?_
  refine z_iload_n hF dX4_accept_45 rfl ?_
  refine z_iald (k := i) hF 3 rfl (rfl) (by omega) rfl dX4_accept_46 ?_
  refine z_top (y := nI q) (he) ?_
  refine z_iload_n hF dX4_accept_47 rfl ?_
  refine z_isub hF dX4_accept_48 ?_
  refine z_top (pk_sub (by omega)) ?_
  refine z_istore_n (lv' := [some (.ref d0), some (.int (nI i)), some (.int (nI p)), some (.int (nI (q - p))), none]) hF dX4_accept_49 rfl rfl ?_
  refine z_aload_n hF dX4_accept_50 rfl ?_
  refine z_get (C := RX4) (T := TX4) (N := 11) (ci := 4) (v := .ref d3) hF k_0 9 (by decide) rfl k_5 rfl 0 rfl rfl dX4_accept_51 ?_
  refine z_iload_n hF dX4_accept_54 rfl ?_
  refine z_iald (k := i) hF 5 rfl (rfl) (by omega) rfl dX4_accept_55 ?_
  refine z_top (y := nI z) (hz) ?_
  refine z_istore (lv' := [some (.ref d0), some (.int (nI i)), some (.int (nI p)), some (.int (nI (q - p))), some (.int (nI z))]) hF dX4_accept_56 rfl rfl ?_
  refine z_aload_n hF dX4_accept_58 rfl ?_
  refine z_iload hF dX4_accept_59 rfl ?_
  refine z_iload_n hF dX4_accept_61 rfl ?_
  refine z_isub hF dX4_accept_62 ?_
  have J_73 : ∀ (l : Int32), zJ G X 73 [(d0, .inr (4, [.ref t0, .ref r0, .ref q0, .ref y0, .ref d1, .int o, .int (nI v), .ref u0, .ref d2, .ref d3, .ref d4])), (u0, .inr (2, [.ref u1, .ref u2, .ref u3, .int (nI j)])), (u1, eI G 12 b2), (u2, eI G 12 e2), (t0, .inr (3, [.ref t1, .ref t2, .int (nI n)])), (d3, eI G 10 xc), (d4, eI G 10 xs)] [some (.ref d0), some (.int (nI i)), some (.int (nI p)), some (.int (nI (q - p))), some (.int (nI z))] [.int l, .int ((nI z) - (nI (q - p))), .ref d0] 0 0 := by
    intro l 
    refine z_Vx (As := [.int ((nI z) - (nI (q - p))), .int l]) (rest := []) (ws' := [(d0, .inr (4, [.ref t0, .ref r0, .ref q0, .ref y0, .ref d1, .int o, .int (nI v), .ref u0, .ref d2, .ref d3, .ref d4])), (u0, .inr (2, [.ref u1, .ref u2, .ref u3, .int (nI j)])), (u1, eI G 12 b2), (u2, eI G 12 e2), (t0, .inr (3, [.ref t1, .ref t2, .int (nI n)])), (d3, eI G 10 xc), (d4, eI G 10 xs)]) (st2 := []) (c2 := 1) (s2 := 6) hF (c_X4_checkRoom_3 G d0 t0 r0 q0 y0 d1 u0 d2 d3 d4 v o t1 t2 n ((nI z) - (nI (q - p))) l (room_r (n := n) (z := z) (t := q - p) hn (by omega) (by omega) hr)) gX4_accept_X4_checkRoom rfl rfl rfl hd_X4_checkRoom ⟨⟨Nat.le_of_ble_eq_true rfl, Nat.le_of_ble_eq_true rfl⟩, ⟨Nat.le_of_ble_eq_true rfl, Nat.le_of_ble_eq_true rfl⟩, Nat.le_of_ble_eq_true rfl⟩ [0, 4] rfl rfl 0 rfl rfl rfl rfl rfl rfl rfl rfl rfl rfl rfl rfl dX4_accept_73 (fun h3 => hZ.x (Nat.le_of_ble_eq_true rfl) (Nat.le_of_ble_eq_true rfl) (fun _ => rfl) h3 rfl) (fun h3 => ?_)
    exact absurd h3 (by decide)
  refine z_iload hF dX4_accept_63 rfl ?_
  refine z_ifn_ne (tgt := 72) hF (by omega) dX4_accept_65 (by decide) (fun c_2 => ?_) (fun c_2 => ?_)
  · refine z_iconst (v := nI 2) hF dX4_accept_72 (by decide) ?_
    exact J_73 (nI 2) 
  · refine z_iconst (v := nI 1) hF dX4_accept_68 (by decide) ?_
    refine z_goto (tgt := 73) hF dX4_accept_69 (by decide) ?_
    exact J_73 (nI 1) 
set_option maxHeartbeats 4000000 in
set_option maxRecDepth 100000 in
theorem c_X4_reject (G : zG) (d0 t0 r0 q0 y0 d1 u0 d2 d3 d4 v : Nat) (o : Int32) (u1 u2 u3 j : Nat) (xs : Nat → Int32) (i : Nat) (hj : j ≤ 10) (hi : i < j) (h0 : xs i = 0) : zM G yX4_reject wsX4_reject ({ frames := 1, cells := 0, slots := 0, locals := 34 }) [.ref d0, .int (nI i)] [(d0, .inr (4, [.ref t0, .ref r0, .ref q0, .ref y0, .ref d1, .int o, .int (nI v), .ref u0, .ref d2, .ref d3, .ref d4])), (u0, .inr (2, [.ref u1, .ref u2, .ref u3, .int (nI j)])), (d4, eI G 10 xs)] [(d0, .inr (4, [.ref t0, .ref r0, .ref q0, .ref y0, .ref d1, .int o, .int (nI v), .ref u0, .ref d2, .ref d3, .ref d4])), (u0, .inr (2, [.ref u1, .ref u2, .ref u3, .int (nI j)])), (d4, eI G 10 (upd xs i (nI 2)))] (some (.int (nI (cntF (fun kk => upd xs i (nI 2) kk = 0) j)))) 0 0 := by
  refine zM.ofI (own := RX4) (cc := cX4_reject) (maxL := 2) rfl (by decide) rfl rfl (by simp [Value.category]) (Nat.le_of_ble_eq_true rfl) ?_
  intro X hF hR
  have k_0 : ∀ w ∈ wsX40, w ∈ wsX4_reject := by decide +kernel
  have k_1 : zH X (.fieldLink RX4 57 "MarginDesk" "states" "[I") := hF.w (by decide +kernel)
  refine z_lv (lv' := [some (.ref d0), some (.int (nI i))]) rfl ?_
  refine z_aload_n hF dX4_reject_0 rfl ?_
  refine z_iload_n hF dX4_reject_1 rfl ?_
  refine z_V (As := [.int (nI i)]) (rest := []) (ws' := [(d0, .inr (4, [.ref t0, .ref r0, .ref q0, .ref y0, .ref d1, .int o, .int (nI v), .ref u0, .ref d2, .ref d3, .ref d4])), (u0, .inr (2, [.ref u1, .ref u2, .ref u3, .int (nI j)])), (d4, eI G 10 xs)]) (st2 := []) (c2 := 0) (s2 := 0) hF (c_X4_checkSuggestion G d0 t0 r0 q0 y0 d1 u0 d2 d3 d4 v o u1 u2 u3 j i (by first | assumption | omega) (by first | assumption | omega)) gX4_reject_X4_checkSuggestion rfl rfl rfl hd_X4_checkSuggestion ⟨⟨Nat.le_of_ble_eq_true rfl, Nat.le_of_ble_eq_true rfl⟩, ⟨Nat.le_of_ble_eq_true rfl, Nat.le_of_ble_eq_true rfl⟩, Nat.le_of_ble_eq_true rfl⟩ [0, 1] rfl rfl 0 rfl rfl rfl rfl rfl rfl rfl rfl rfl rfl dX4_reject_2 ?_
  refine z_aload_n hF dX4_reject_5 rfl ?_
  refine z_iload_n hF dX4_reject_6 rfl ?_
  refine z_V (As := [.int (nI i)]) (rest := []) (ws' := [(d0, .inr (4, [.ref t0, .ref r0, .ref q0, .ref y0, .ref d1, .int o, .int (nI v), .ref u0, .ref d2, .ref d3, .ref d4])), (u0, .inr (2, [.ref u1, .ref u2, .ref u3, .int (nI j)])), (d4, eI G 10 xs)]) (st2 := []) (c2 := 0) (s2 := 0) hF (c_X4_checkWaiting G d0 t0 r0 q0 y0 d1 u0 d2 d3 d4 v o xs i (by first | assumption | omega) (by first | assumption | omega)) gX4_reject_X4_checkWaiting rfl rfl rfl hd_X4_checkWaiting ⟨⟨Nat.le_of_ble_eq_true rfl, Nat.le_of_ble_eq_true rfl⟩, ⟨Nat.le_of_ble_eq_true rfl, Nat.le_of_ble_eq_true rfl⟩, Nat.le_of_ble_eq_true rfl⟩ [0, 2] rfl rfl 0 rfl rfl rfl rfl rfl rfl rfl rfl rfl rfl dX4_reject_7 ?_
  refine z_aload_n hF dX4_reject_10 rfl ?_
  refine z_get (C := RX4) (T := TX4) (N := 11) (ci := 4) (v := .ref d4) hF k_0 10 (by decide) rfl k_1 rfl 0 rfl rfl dX4_reject_11 ?_
  refine z_iload_n hF dX4_reject_14 rfl ?_
  refine z_iconst (v := nI 2) hF dX4_reject_15 (by decide) ?_
  refine z_iast (k := i) (ws' := [(d0, .inr (4, [.ref t0, .ref r0, .ref q0, .ref y0, .ref d1, .int o, .int (nI v), .ref u0, .ref d2, .ref d3, .ref d4])), (u0, .inr (2, [.ref u1, .ref u2, .ref u3, .int (nI j)])), (d4, eI G 10 (upd xs i (nI 2)))]) hF 2 rfl (rfl) (by omega) rfl rfl dX4_reject_16 ?_
  refine z_aload_n hF dX4_reject_17 rfl ?_
  refine z_V (As := []) (rest := []) (ws' := [(d0, .inr (4, [.ref t0, .ref r0, .ref q0, .ref y0, .ref d1, .int o, .int (nI v), .ref u0, .ref d2, .ref d3, .ref d4])), (u0, .inr (2, [.ref u1, .ref u2, .ref u3, .int (nI j)])), (d4, eI G 10 (upd xs i (nI 2)))]) (st2 := [.int (nI (cntF (fun kk => (upd xs i (nI 2)) kk = 0) j))]) (c2 := 0) (s2 := 0) hF (c_X4_countWaiting G d0 t0 r0 q0 y0 d1 u0 d2 d3 d4 v o u1 u2 u3 j (upd xs i (nI 2)) (by first | assumption | omega)) gX4_reject_X4_countWaiting rfl rfl rfl hd_X4_countWaiting ⟨⟨Nat.le_of_ble_eq_true rfl, Nat.le_of_ble_eq_true rfl⟩, ⟨Nat.le_of_ble_eq_true rfl, Nat.le_of_ble_eq_true rfl⟩, Nat.le_of_ble_eq_true rfl⟩ [0, 1, 2] rfl rfl 0 rfl rfl rfl rfl rfl rfl rfl rfl rfl rfl dX4_reject_18 ?_
  exact hR.i dX4_reject_21 (Nat.le_of_ble_eq_true rfl) (Nat.le_of_ble_eq_true rfl) (rfl) (rfl)
set_option maxHeartbeats 4000000 in
set_option maxRecDepth 100000 in
theorem c_X4_reject_3 (G : zG) (d0 t0 r0 q0 y0 d1 u0 d2 d3 d4 v : Nat) (o : Int32) (u1 u2 u3 j : Nat) (xs : Nat → Int32) (i : Nat) (hj : j ≤ 10) (hi : i < j) (h0 : ¬ xs i = 0) : zX G yX4_reject wsX4_reject ({ frames := 7, cells := 1, slots := 6, locals := 111 }) [.ref d0, .int (nI i)] [(d0, .inr (4, [.ref t0, .ref r0, .ref q0, .ref y0, .ref d1, .int o, .int (nI v), .ref u0, .ref d2, .ref d3, .ref d4])), (u0, .inr (2, [.ref u1, .ref u2, .ref u3, .int (nI j)])), (d4, eI G 10 xs)] [(d0, .inr (4, [.ref t0, .ref r0, .ref q0, .ref y0, .ref d1, .int o, .int (nI v), .ref u0, .ref d2, .ref d3, .ref d4])), (u0, .inr (2, [.ref u1, .ref u2, .ref u3, .int (nI j)])), (d4, eI G 10 xs)] 3 (some (.int (nI 0))) 1 6 := by
  refine zX.ofI (own := RX4) (cc := cX4_reject) (maxL := 2) rfl (by decide) rfl rfl (by simp [Value.category]) (Nat.le_of_ble_eq_true rfl) ?_
  intro X hF hZ hR
  refine z_lv (lv' := [some (.ref d0), some (.int (nI i))]) rfl ?_
  refine z_aload_n hF dX4_reject_0 rfl ?_
  refine z_iload_n hF dX4_reject_1 rfl ?_
  refine z_V (As := [.int (nI i)]) (rest := []) (ws' := [(d0, .inr (4, [.ref t0, .ref r0, .ref q0, .ref y0, .ref d1, .int o, .int (nI v), .ref u0, .ref d2, .ref d3, .ref d4])), (u0, .inr (2, [.ref u1, .ref u2, .ref u3, .int (nI j)])), (d4, eI G 10 xs)]) (st2 := []) (c2 := 0) (s2 := 0) hF (c_X4_checkSuggestion G d0 t0 r0 q0 y0 d1 u0 d2 d3 d4 v o u1 u2 u3 j i (by first | assumption | omega) (by first | assumption | omega)) gX4_reject_X4_checkSuggestion rfl rfl rfl hd_X4_checkSuggestion ⟨⟨Nat.le_of_ble_eq_true rfl, Nat.le_of_ble_eq_true rfl⟩, ⟨Nat.le_of_ble_eq_true rfl, Nat.le_of_ble_eq_true rfl⟩, Nat.le_of_ble_eq_true rfl⟩ [0, 1] rfl rfl 0 rfl rfl rfl rfl rfl rfl rfl rfl rfl rfl dX4_reject_2 ?_
  refine z_aload_n hF dX4_reject_5 rfl ?_
  refine z_iload_n hF dX4_reject_6 rfl ?_
  refine z_Vx (As := [.int (nI i)]) (rest := []) (ws' := [(d0, .inr (4, [.ref t0, .ref r0, .ref q0, .ref y0, .ref d1, .int o, .int (nI v), .ref u0, .ref d2, .ref d3, .ref d4])), (u0, .inr (2, [.ref u1, .ref u2, .ref u3, .int (nI j)])), (d4, eI G 10 xs)]) (st2 := []) (c2 := 1) (s2 := 6) hF (c_X4_checkWaiting_3 G d0 t0 r0 q0 y0 d1 u0 d2 d3 d4 v o xs i (by first | assumption | omega) (by first | assumption | omega)) gX4_reject_X4_checkWaiting rfl rfl rfl hd_X4_checkWaiting ⟨⟨Nat.le_of_ble_eq_true rfl, Nat.le_of_ble_eq_true rfl⟩, ⟨Nat.le_of_ble_eq_true rfl, Nat.le_of_ble_eq_true rfl⟩, Nat.le_of_ble_eq_true rfl⟩ [0, 2] rfl rfl 0 rfl rfl rfl rfl rfl rfl rfl rfl rfl rfl rfl rfl dX4_reject_7 (fun h3 => hZ.x (Nat.le_of_ble_eq_true rfl) (Nat.le_of_ble_eq_true rfl) (fun _ => rfl) h3 rfl) (fun h3 => ?_)
  exact absurd h3 (by decide)
set_option maxHeartbeats 4000000 in
set_option maxRecDepth 100000 in
theorem c_X4_stateOf (G : zG) (d0 t0 r0 q0 y0 d1 u0 d2 d3 d4 v : Nat) (o : Int32) (u1 u2 u3 j : Nat) (xs : Nat → Int32) (i : Nat) (hj : j ≤ 10) (hi : i < j) : zM G yX4_stateOf wsX4_stateOf ({ frames := 1, cells := 0, slots := 0, locals := 33 }) [.ref d0, .int (nI i)] [(d0, .inr (4, [.ref t0, .ref r0, .ref q0, .ref y0, .ref d1, .int o, .int (nI v), .ref u0, .ref d2, .ref d3, .ref d4])), (u0, .inr (2, [.ref u1, .ref u2, .ref u3, .int (nI j)])), (d4, eI G 10 xs)] [(d0, .inr (4, [.ref t0, .ref r0, .ref q0, .ref y0, .ref d1, .int o, .int (nI v), .ref u0, .ref d2, .ref d3, .ref d4])), (u0, .inr (2, [.ref u1, .ref u2, .ref u3, .int (nI j)])), (d4, eI G 10 xs)] (some (.int (xs i))) 0 0 := by
  refine zM.ofI (own := RX4) (cc := cX4_stateOf) (maxL := 2) rfl (by decide) rfl rfl (by simp [Value.category]) (Nat.le_of_ble_eq_true rfl) ?_
  intro X hF hR
  have k_0 : ∀ w ∈ wsX40, w ∈ wsX4_stateOf := by decide +kernel
  have k_1 : zH X (.fieldLink RX4 57 "MarginDesk" "states" "[I") := hF.w (by decide +kernel)
  refine z_lv (lv' := [some (.ref d0), some (.int (nI i))]) rfl ?_
  refine z_aload_n hF dX4_stateOf_0 rfl ?_
  refine z_iload_n hF dX4_stateOf_1 rfl ?_
  refine z_V (As := [.int (nI i)]) (rest := []) (ws' := [(d0, .inr (4, [.ref t0, .ref r0, .ref q0, .ref y0, .ref d1, .int o, .int (nI v), .ref u0, .ref d2, .ref d3, .ref d4])), (u0, .inr (2, [.ref u1, .ref u2, .ref u3, .int (nI j)])), (d4, eI G 10 xs)]) (st2 := []) (c2 := 0) (s2 := 0) hF (c_X4_checkSuggestion G d0 t0 r0 q0 y0 d1 u0 d2 d3 d4 v o u1 u2 u3 j i (by first | assumption | omega) (by first | assumption | omega)) gX4_stateOf_X4_checkSuggestion rfl rfl rfl hd_X4_checkSuggestion ⟨⟨Nat.le_of_ble_eq_true rfl, Nat.le_of_ble_eq_true rfl⟩, ⟨Nat.le_of_ble_eq_true rfl, Nat.le_of_ble_eq_true rfl⟩, Nat.le_of_ble_eq_true rfl⟩ [0, 1] rfl rfl 0 rfl rfl rfl rfl rfl rfl rfl rfl rfl rfl dX4_stateOf_2 ?_
  refine z_aload_n hF dX4_stateOf_5 rfl ?_
  refine z_get (C := RX4) (T := TX4) (N := 11) (ci := 4) (v := .ref d4) hF k_0 10 (by decide) rfl k_1 rfl 0 rfl rfl dX4_stateOf_6 ?_
  refine z_iload_n hF dX4_stateOf_9 rfl ?_
  refine z_iald (k := i) hF 2 rfl (rfl) (by omega) rfl dX4_stateOf_10 ?_
  exact hR.i dX4_stateOf_11 (Nat.le_of_ble_eq_true rfl) (Nat.le_of_ble_eq_true rfl) (rfl) (rfl)
set_option maxHeartbeats 4000000 in
set_option maxRecDepth 100000 in
theorem c_X4_overlaps (G : zG) (d0 t0 r0 q0 y0 d1 u0 d2 d3 d4 v : Nat) (o : Int32) (u1 u2 u3 j : Nat) (b2 : Nat → Int32) (e2 : Nat → Int32) (xs : Nat → Int32) (i : Nat) (hj : j ≤ 10) (hi : i < j) : zM G yX4_overlaps wsX4_overlaps ({ frames := 3, cells := 0, slots := 0, locals := 65 }) [.ref d0, .int (nI i)] [(d0, .inr (4, [.ref t0, .ref r0, .ref q0, .ref y0, .ref d1, .int o, .int (nI v), .ref u0, .ref d2, .ref d3, .ref d4])), (u0, .inr (2, [.ref u1, .ref u2, .ref u3, .int (nI j)])), (u1, eI G 12 b2), (u2, eI G 12 e2), (d4, eI G 10 xs)] [(d0, .inr (4, [.ref t0, .ref r0, .ref q0, .ref y0, .ref d1, .int o, .int (nI v), .ref u0, .ref d2, .ref d3, .ref d4])), (u0, .inr (2, [.ref u1, .ref u2, .ref u3, .int (nI j)])), (u1, eI G 12 b2), (u2, eI G 12 e2), (d4, eI G 10 xs)] (some (.int (ovF b2 e2 xs i j))) 0 0 := by
  refine zM.ofI (own := RX4) (cc := cX4_overlaps) (maxL := 2) rfl (by decide) rfl rfl (by simp [Value.category]) (Nat.le_of_ble_eq_true rfl) ?_
  intro X hF hR
  refine z_lv (lv' := [some (.ref d0), some (.int (nI i))]) rfl ?_
  refine z_aload_n hF dX4_overlaps_0 rfl ?_
  refine z_iload_n hF dX4_overlaps_1 rfl ?_
  refine z_V (As := [.int (nI i)]) (rest := []) (ws' := [(d0, .inr (4, [.ref t0, .ref r0, .ref q0, .ref y0, .ref d1, .int o, .int (nI v), .ref u0, .ref d2, .ref d3, .ref d4])), (u0, .inr (2, [.ref u1, .ref u2, .ref u3, .int (nI j)])), (u1, eI G 12 b2), (u2, eI G 12 e2), (d4, eI G 10 xs)]) (st2 := []) (c2 := 0) (s2 := 0) hF (c_X4_checkSuggestion G d0 t0 r0 q0 y0 d1 u0 d2 d3 d4 v o u1 u2 u3 j i (by first | assumption | omega) (by first | assumption | omega)) gX4_overlaps_X4_checkSuggestion rfl rfl rfl hd_X4_checkSuggestion ⟨⟨Nat.le_of_ble_eq_true rfl, Nat.le_of_ble_eq_true rfl⟩, ⟨Nat.le_of_ble_eq_true rfl, Nat.le_of_ble_eq_true rfl⟩, Nat.le_of_ble_eq_true rfl⟩ [0, 1] rfl rfl 0 rfl rfl rfl rfl rfl rfl rfl rfl rfl rfl dX4_overlaps_2 ?_
  refine z_aload_n hF dX4_overlaps_5 rfl ?_
  refine z_iload_n hF dX4_overlaps_6 rfl ?_
  refine z_V (As := [.int (nI i)]) (rest := []) (ws' := [(d0, .inr (4, [.ref t0, .ref r0, .ref q0, .ref y0, .ref d1, .int o, .int (nI v), .ref u0, .ref d2, .ref d3, .ref d4])), (u0, .inr (2, [.ref u1, .ref u2, .ref u3, .int (nI j)])), (u1, eI G 12 b2), (u2, eI G 12 e2), (d4, eI G 10 xs)]) (st2 := [.int (ovF b2 e2 xs i j)]) (c2 := 0) (s2 := 0) hF (c_X4_overlapping G d0 t0 r0 q0 y0 d1 u0 d2 d3 d4 v o u1 u2 u3 j b2 e2 xs i (by first | assumption | omega) (by first | assumption | omega)) gX4_overlaps_X4_overlapping rfl rfl rfl hd_X4_overlapping ⟨⟨Nat.le_of_ble_eq_true rfl, Nat.le_of_ble_eq_true rfl⟩, ⟨Nat.le_of_ble_eq_true rfl, Nat.le_of_ble_eq_true rfl⟩, Nat.le_of_ble_eq_true rfl⟩ [0, 1, 2, 3, 4] rfl rfl 0 rfl rfl rfl rfl rfl rfl rfl rfl rfl rfl dX4_overlaps_7 ?_
  exact hR.i dX4_overlaps_10 (Nat.le_of_ble_eq_true rfl) (Nat.le_of_ble_eq_true rfl) (rfl) (rfl)
