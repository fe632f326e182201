set_option maxHeartbeats 4000000 in
set_option maxRecDepth 100000 in
theorem c_X4_remove (G : zG) (d0 t0 r0 q0 y0 d1 u0 d2 d3 d4 v : Nat) (o : Int32) (t1 t2 n : Nat) (f : Nat → Int32) (g : Nat → Int32) (r1 r2 r3 m : Nat) (b : Nat → Int32) (e : Nat → Int32) (y1 : Nat) (h : Nat → Int32) (u1 u2 u3 j : Nat) (b2 : Nat → Int32) (e2 : Nat → Int32) (xs : Nat → Int32) (p k : Nat) (hn : n ≤ 60) (hm : m ≤ 12) (hj : j ≤ 10) (hv : v < 300) (hk1 : 1 ≤ k) (hk : p + k ≤ n) : zM G yX4_remove wsX4_remove ({ frames := 5, cells := 0, slots := 0, locals := 121 }) [.ref d0, .int (nI p), .int (nI k)] [(d0, .inr (4, [.ref t0, .ref r0, .ref q0, .ref y0, .ref d1, .int o, .int (nI v), .ref u0, .ref d2, .ref d3, .ref d4])), (y0, .inr (0, [.ref y1])), (y1, eI G 3600 h), (r0, .inr (2, [.ref r1, .ref r2, .ref r3, .int (nI m)])), (r1, eI G 12 b), (r2, eI G 12 e), (u0, .inr (2, [.ref u1, .ref u2, .ref u3, .int (nI j)])), (u1, eI G 12 b2), (u2, eI G 12 e2), (t0, .inr (3, [.ref t1, .ref t2, .int (nI n)])), (t1, eI G 60 f), (t2, eI G 60 g), (d4, eI G 10 xs)] [(d0, .inr (4, [.ref t0, .ref r0, .ref q0, .ref y0, .ref d1, .int o, .int (nI (v + 1)), .ref u0, .ref d2, .ref d3, .ref d4])), (y0, .inr (0, [.ref y1])), (y1, eI G 3600 (wrF h (v * 12) 12 (fun kk => if kk < m then numF (b kk) (e kk) else -1))), (r0, .inr (2, [.ref r1, .ref r2, .ref r3, .int (nI m)])), (r1, eI G 12 (mpF m (remB (nI p) (nI k) b e) b)), (r2, eI G 12 (mpF m (remE (nI p) (nI k) b e) e)), (u0, .inr (2, [.ref u1, .ref u2, .ref u3, .int (nI j)])), (u1, eI G 12 (mpF j (remB (nI p) (nI k) b2 e2) b2)), (u2, eI G 12 (mpF j (remE (nI p) (nI k) b2 e2) e2)), (t0, .inr (3, [.ref t1, .ref t2, .int (nI (n - k))])), (t1, eI G 60 (va_cpy f f (p + k) p (n - (p + k)))), (t2, eI G 60 (va_cpy g g (p + k) p (n - (p + k)))), (d4, eI G 10 (mpF j (lgF (gonF (nI p) (nI k) b2 e2 j) xs) xs))] (some (.int (bcF (gonF (nI p) (nI k) b e m)))) 0 0 := by
  refine zM.ofI (own := RX4) (cc := cX4_remove) (maxL := 3) rfl (by decide) rfl rfl (by simp [Value.category]) (Nat.le_of_ble_eq_true rfl) ?_
  intro X hF hR
  have k_0 : ∀ w ∈ wsX40, w ∈ wsX4_remove := by decide +kernel
  have k_1 : zH X (.fieldLink RX4 10 "MarginDesk" "text" "LMarginDesk$Text;") := hF.w (by decide +kernel)
  have k_2 : ∀ w ∈ wsX30, w ∈ wsX4_remove := by decide +kernel
  have k_3 : zH X (.fieldLinkNest RX4 78 "MarginDesk$Text" "size" "I" RX4) := hF.nf (List.mem_of_getElem? (i := 2) rfl)
  refine z_lv (lv' := [some (.ref d0), some (.int (nI p)), some (.int (nI k))]) rfl ?_
  refine z_aload_n hF dX4_remove_0 rfl ?_
  refine z_iload_n hF dX4_remove_1 rfl ?_
  refine z_V (As := [.int (nI p)]) (rest := []) (ws' := [(d0, .inr (4, [.ref t0, .ref r0, .ref q0, .ref y0, .ref d1, .int o, .int (nI v), .ref u0, .ref d2, .ref d3, .ref d4])), (y0, .inr (0, [.ref y1])), (y1, eI G 3600 h), (r0, .inr (2, [.ref r1, .ref r2, .ref r3, .int (nI m)])), (r1, eI G 12 b), (r2, eI G 12 e), (u0, .inr (2, [.ref u1, .ref u2, .ref u3, .int (nI j)])), (u1, eI G 12 b2), (u2, eI G 12 e2), (t0, .inr (3, [.ref t1, .ref t2, .int (nI n)])), (t1, eI G 60 f), (t2, eI G 60 g), (d4, eI G 10 xs)]) (st2 := []) (c2 := 0) (s2 := 0) hF (c_X4_checkPlace G d0 t0 r0 q0 y0 d1 u0 d2 d3 d4 v o t1 t2 n p (by first | assumption | omega) (by first | assumption | omega)) gX4_remove_X4_checkPlace rfl rfl rfl hd_X4_checkPlace ⟨⟨Nat.le_of_ble_eq_true rfl, Nat.le_of_ble_eq_true rfl⟩, ⟨Nat.le_of_ble_eq_true rfl, Nat.le_of_ble_eq_true rfl⟩, Nat.le_of_ble_eq_true rfl⟩ [0, 9] rfl rfl 0 rfl rfl rfl rfl rfl rfl rfl rfl rfl rfl dX4_remove_2 ?_
  refine z_aload_n hF dX4_remove_5 rfl ?_
  refine z_iload_n hF dX4_remove_6 rfl ?_
  refine z_iconst (v := nI 1) hF dX4_remove_7 (by decide) ?_
  refine z_aload_n hF dX4_remove_8 rfl ?_
  refine z_get (C := RX4) (T := TX4) (N := 11) (ci := 4) (v := .ref t0) hF k_0 0 (by decide) rfl k_1 rfl 0 rfl rfl dX4_remove_9 ?_
  refine z_getN (C := RX3) (T := TX3) (N := 3) (ci := 3) (v := .int (nI n)) hF k_2 2 (by decide) rfl k_3 rfl 9 rfl rfl dX4_remove_12 ?_
  refine z_iload_n hF dX4_remove_15 rfl ?_
  refine z_isub hF dX4_remove_16 ?_
  refine z_top (pk_sub (by omega)) ?_
  refine z_V (As := [.int (nI k), .int (nI 1), .int (nI (n - p))]) (rest := []) (ws' := [(d0, .inr (4, [.ref t0, .ref r0, .ref q0, .ref y0, .ref d1, .int o, .int (nI v), .ref u0, .ref d2, .ref d3, .ref d4])), (y0, .inr (0, [.ref y1])), (y1, eI G 3600 h), (r0, .inr (2, [.ref r1, .ref r2, .ref r3, .int (nI m)])), (r1, eI G 12 b), (r2, eI G 12 e), (u0, .inr (2, [.ref u1, .ref u2, .ref u3, .int (nI j)])), (u1, eI G 12 b2), (u2, eI G 12 e2), (t0, .inr (3, [.ref t1, .ref t2, .int (nI n)])), (t1, eI G 60 f), (t2, eI G 60 g), (d4, eI G 10 xs)]) (st2 := []) (c2 := 0) (s2 := 0) hF (c_X4_checkAmong G d0 t0 r0 q0 y0 d1 u0 d2 d3 d4 v o k 1 (n - p) (by first | assumption | omega) (by first | assumption | omega) (by first | assumption | omega)) gX4_remove_X4_checkAmong rfl rfl rfl hd_X4_checkAmong ⟨⟨Nat.le_of_ble_eq_true rfl, Nat.le_of_ble_eq_true rfl⟩, ⟨Nat.le_of_ble_eq_true rfl, Nat.le_of_ble_eq_true rfl⟩, Nat.le_of_ble_eq_true rfl⟩ [0] rfl rfl 0 rfl rfl rfl rfl rfl rfl rfl rfl rfl rfl dX4_remove_17 ?_
  refine z_aload_n hF dX4_remove_20 rfl ?_
  refine z_iload_n hF dX4_remove_21 rfl ?_
  refine z_ineg hF dX4_remove_22 ?_
  refine z_iconst (v := nI 1) hF dX4_remove_23 (by decide) ?_
  refine z_V (As := [.int (-(nI k)), .int (nI 1)]) (rest := []) (ws' := [(d0, .inr (4, [.ref t0, .ref r0, .ref q0, .ref y0, .ref d1, .int o, .int (nI v), .ref u0, .ref d2, .ref d3, .ref d4])), (y0, .inr (0, [.ref y1])), (y1, eI G 3600 h), (r0, .inr (2, [.ref r1, .ref r2, .ref r3, .int (nI m)])), (r1, eI G 12 b), (r2, eI G 12 e), (u0, .inr (2, [.ref u1, .ref u2, .ref u3, .int (nI j)])), (u1, eI G 12 b2), (u2, eI G 12 e2), (t0, .inr (3, [.ref t1, .ref t2, .int (nI n)])), (t1, eI G 60 f), (t2, eI G 60 g), (d4, eI G 10 xs)]) (st2 := []) (c2 := 0) (s2 := 0) hF (c_X4_checkRoom G d0 t0 r0 q0 y0 d1 u0 d2 d3 d4 v o t1 t2 n (-(nI k)) (nI 1) (neg_room hn (by omega)) (by rw [nI_add]; exact (nI_leI (by omega) (by omega)).mpr (by omega))) gX4_remove_X4_checkRoom rfl rfl rfl hd_X4_checkRoom ⟨⟨Nat.le_of_ble_eq_true rfl, Nat.le_of_ble_eq_true rfl⟩, ⟨Nat.le_of_ble_eq_true rfl, Nat.le_of_ble_eq_true rfl⟩, Nat.le_of_ble_eq_true rfl⟩ [0, 9] rfl rfl 0 rfl rfl rfl rfl rfl rfl rfl rfl rfl rfl dX4_remove_24 ?_
  refine z_aload_n hF dX4_remove_27 rfl ?_
  refine z_iload_n hF dX4_remove_28 rfl ?_
  refine z_iload_n hF dX4_remove_29 rfl ?_
  refine z_V (As := [.int (nI p), .int (nI k)]) (rest := []) (ws' := [(d0, .inr (4, [.ref t0, .ref r0, .ref q0, .ref y0, .ref d1, .int o, .int (nI (v + 1)), .ref u0, .ref d2, .ref d3, .ref d4])), (y0, .inr (0, [.ref y1])), (y1, eI G 3600 (wrF h (v * 12) 12 (fun kk => if kk < m then numF (b kk) (e kk) else -1))), (r0, .inr (2, [.ref r1, .ref r2, .ref r3, .int (nI m)])), (r1, eI G 12 (mpF m (remB (nI p) (nI k) b e) b)), (r2, eI G 12 (mpF m (remE (nI p) (nI k) b e) e)), (u0, .inr (2, [.ref u1, .ref u2, .ref u3, .int (nI j)])), (u1, eI G 12 (mpF j (remB (nI p) (nI k) b2 e2) b2)), (u2, eI G 12 (mpF j (remE (nI p) (nI k) b2 e2) e2)), (t0, .inr (3, [.ref t1, .ref t2, .int (nI (n - k))])), (t1, eI G 60 (va_cpy f f (p + k) p (n - (p + k)))), (t2, eI G 60 (va_cpy g g (p + k) p (n - (p + k)))), (d4, eI G 10 (mpF j (lgF (gonF (nI p) (nI k) b2 e2 j) xs) xs))]) (st2 := [.int (bcF (gonF (nI p) (nI k) b e m))]) (c2 := 0) (s2 := 0) hF (c_X4_takeLettersOut G d0 t0 r0 q0 y0 d1 u0 d2 d3 d4 v o t1 t2 n f g r1 r2 r3 m b e y1 h u1 u2 u3 j b2 e2 xs p k (by first | assumption | omega) (by first | assumption | omega) (by first | assumption | omega) (by first | assumption | omega) (by first | assumption | omega)) gX4_remove_X4_takeLettersOut rfl rfl rfl hd_X4_takeLettersOut ⟨⟨Nat.le_of_ble_eq_true rfl, Nat.le_of_ble_eq_true rfl⟩, ⟨Nat.le_of_ble_eq_true rfl, Nat.le_of_ble_eq_true rfl⟩, Nat.le_of_ble_eq_true rfl⟩ [0, 1, 2, 3, 4, 5, 6, 7, 8, 9, 10, 11, 12] rfl rfl 0 rfl rfl rfl rfl rfl rfl rfl rfl rfl rfl dX4_remove_30 ?_
  exact hR.i dX4_remove_33 (Nat.le_of_ble_eq_true rfl) (Nat.le_of_ble_eq_true rfl) (rfl) (rfl)
set_option maxHeartbeats 4000000 in
set_option maxRecDepth 100000 in
theorem c_X4_length (G : zG) (d0 t0 r0 q0 y0 d1 u0 d2 d3 d4 v : Nat) (o : Int32) (t1 t2 n : Nat)  : zM G yX4_length wsX4_length ({ frames := 0, cells := 0, slots := 0, locals := 12 }) [.ref d0] [(d0, .inr (4, [.ref t0, .ref r0, .ref q0, .ref y0, .ref d1, .int o, .int (nI v), .ref u0, .ref d2, .ref d3, .ref d4])), (t0, .inr (3, [.ref t1, .ref t2, .int (nI n)]))] [(d0, .inr (4, [.ref t0, .ref r0, .ref q0, .ref y0, .ref d1, .int o, .int (nI v), .ref u0, .ref d2, .ref d3, .ref d4])), (t0, .inr (3, [.ref t1, .ref t2, .int (nI n)]))] (some (.int (nI n))) 0 0 := by
  refine zM.ofI (own := RX4) (cc := cX4_length) (maxL := 1) rfl (by decide) rfl rfl (by simp [Value.category]) (Nat.le_of_ble_eq_true rfl) ?_
  intro X hF hR
  have k_0 : ∀ w ∈ wsX40, w ∈ wsX4_length := by decide +kernel
  have k_1 : zH X (.fieldLink RX4 10 "MarginDesk" "text" "LMarginDesk$Text;") := hF.w (by decide +kernel)
  have k_2 : ∀ w ∈ wsX30, w ∈ wsX4_length := by decide +kernel
  have k_3 : zH X (.fieldLinkNest RX4 78 "MarginDesk$Text" "size" "I" RX4) := hF.nf (List.mem_of_getElem? (i := 2) rfl)
  refine z_lv (lv' := [some (.ref d0)]) rfl ?_
  refine z_aload_n hF dX4_length_0 rfl ?_
  refine z_get (C := RX4) (T := TX4) (N := 11) (ci := 4) (v := .ref t0) hF k_0 0 (by decide) rfl k_1 rfl 0 rfl rfl dX4_length_1 ?_
  refine z_getN (C := RX3) (T := TX3) (N := 3) (ci := 3) (v := .int (nI n)) hF k_2 2 (by decide) rfl k_3 rfl 1 rfl rfl dX4_length_4 ?_
  exact hR.i dX4_length_7 (Nat.le_of_ble_eq_true rfl) (Nat.le_of_ble_eq_true rfl) (rfl) (rfl)
set_option maxHeartbeats 4000000 in
set_option maxRecDepth 100000 in
theorem c_X4_letterAt (G : zG) (d0 t0 r0 q0 y0 d1 u0 d2 d3 d4 v : Nat) (o : Int32) (t1 t2 n : Nat) (f : Nat → Int32) (a : Nat) (hn : n ≤ 60) (ha : a ≤ n) : zM G yX4_letterAt wsX4_letterAt ({ frames := 2, cells := 0, slots := 0, locals := 54 }) [.ref d0, .int (nI a)] [(d0, .inr (4, [.ref t0, .ref r0, .ref q0, .ref y0, .ref d1, .int o, .int (nI v), .ref u0, .ref d2, .ref d3, .ref d4])), (t0, .inr (3, [.ref t1, .ref t2, .int (nI n)])), (t1, eI G 60 f)] [(d0, .inr (4, [.ref t0, .ref r0, .ref q0, .ref y0, .ref d1, .int o, .int (nI v), .ref u0, .ref d2, .ref d3, .ref d4])), (t0, .inr (3, [.ref t1, .ref t2, .int (nI n)])), (t1, eI G 60 f)] (some (.int (letF n f (nI a)))) 0 0 := by
  refine zM.ofI (own := RX4) (cc := cX4_letterAt) (maxL := 2) rfl (by decide) rfl rfl (by simp [Value.category]) (Nat.le_of_ble_eq_true rfl) ?_
  intro X hF hR
  have k_0 : ∀ w ∈ wsX40, w ∈ wsX4_letterAt := by decide +kernel
  have k_1 : zH X (.fieldLink RX4 10 "MarginDesk" "text" "LMarginDesk$Text;") := hF.w (by decide +kernel)
  have k_2 : zH X (.initialized RX3) := hF.w (by decide +kernel)
  have k_3 : zH X (.instanceMethod yX3_letterBehind) := hF.w (by decide +kernel)
  have k_4 : zH X (.selects RX3 yX3_letterBehind yX3_letterBehind) := hF.w (by decide +kernel)
  refine z_lv (lv' := [some (.ref d0), some (.int (nI a))]) rfl ?_
  refine z_aload_n hF dX4_letterAt_0 rfl ?_
  refine z_iload_n hF dX4_letterAt_1 rfl ?_
  refine z_V (As := [.int (nI a)]) (rest := []) (ws' := [(d0, .inr (4, [.ref t0, .ref r0, .ref q0, .ref y0, .ref d1, .int o, .int (nI v), .ref u0, .ref d2, .ref d3, .ref d4])), (t0, .inr (3, [.ref t1, .ref t2, .int (nI n)])), (t1, eI G 60 f)]) (st2 := []) (c2 := 0) (s2 := 0) hF (c_X4_checkPlace G d0 t0 r0 q0 y0 d1 u0 d2 d3 d4 v o t1 t2 n a (by first | assumption | omega) (by first | assumption | omega)) gX4_letterAt_X4_checkPlace rfl rfl rfl hd_X4_checkPlace ⟨⟨Nat.le_of_ble_eq_true rfl, Nat.le_of_ble_eq_true rfl⟩, ⟨Nat.le_of_ble_eq_true rfl, Nat.le_of_ble_eq_true rfl⟩, Nat.le_of_ble_eq_true rfl⟩ [0, 1] rfl rfl 0 rfl rfl rfl rfl rfl rfl rfl rfl rfl rfl dX4_letterAt_2 ?_
  refine z_aload_n hF dX4_letterAt_5 rfl ?_
  refine z_get (C := RX4) (T := TX4) (N := 11) (ci := 4) (v := .ref t0) hF k_0 0 (by decide) rfl k_1 rfl 0 rfl rfl dX4_letterAt_6 ?_
  refine z_iload_n hF dX4_letterAt_9 rfl ?_
  refine z_VN (As := [.int (nI a)]) (rest := []) (ws' := [(d0, .inr (4, [.ref t0, .ref r0, .ref q0, .ref y0, .ref d1, .int o, .int (nI v), .ref u0, .ref d2, .ref d3, .ref d4])), (t0, .inr (3, [.ref t1, .ref t2, .int (nI n)])), (t1, eI G 60 f)]) (st2 := [.int (letF n f (nI a))]) (c2 := 0) (s2 := 0) hF (c_X3_letterBehind G t0 t1 t2 n f (nI a) (by first | assumption | omega)) ggX4_letterAt_X3_letterBehind (List.mem_of_getElem? (i := 14) rfl) k_2 k_3 k_4 rfl rfl rfl hs_X3_letterBehind ⟨⟨Nat.le_of_ble_eq_true rfl, Nat.le_of_ble_eq_true rfl⟩, ⟨Nat.le_of_ble_eq_true rfl, Nat.le_of_ble_eq_true rfl⟩, Nat.le_of_ble_eq_true rfl⟩ [1, 2] rfl rfl 0 rfl rfl rfl rfl rfl rfl rfl rfl rfl rfl dX4_letterAt_10 ?_
  exact hR.i dX4_letterAt_13 (Nat.le_of_ble_eq_true rfl) (Nat.le_of_ble_eq_true rfl) (rfl) (rfl)
set_option maxHeartbeats 4000000 in
set_option maxRecDepth 100000 in
theorem c_X4_version (G : zG) (d0 t0 r0 q0 y0 d1 u0 d2 d3 d4 v : Nat) (o : Int32)  : zM G yX4_version wsX4_version ({ frames := 0, cells := 0, slots := 0, locals := 12 }) [.ref d0] [(d0, .inr (4, [.ref t0, .ref r0, .ref q0, .ref y0, .ref d1, .int o, .int (nI v), .ref u0, .ref d2, .ref d3, .ref d4]))] [(d0, .inr (4, [.ref t0, .ref r0, .ref q0, .ref y0, .ref d1, .int o, .int (nI v), .ref u0, .ref d2, .ref d3, .ref d4]))] (some (.int (nI v))) 0 0 := by
  refine zM.ofI (own := RX4) (cc := cX4_version) (maxL := 1) rfl (by decide) rfl rfl (by simp [Value.category]) (Nat.le_of_ble_eq_true rfl) ?_
  intro X hF hR
  have k_0 : ∀ w ∈ wsX40, w ∈ wsX4_version := by decide +kernel
  have k_1 : zH X (.fieldLink RX4 45 "MarginDesk" "edits" "I") := hF.w (by decide +kernel)
  refine z_lv (lv' := [some (.ref d0)]) rfl ?_
  refine z_aload_n hF dX4_version_0 rfl ?_
  refine z_get (C := RX4) (T := TX4) (N := 11) (ci := 4) (v := .int (nI v)) hF k_0 6 (by decide) rfl k_1 rfl 0 rfl rfl dX4_version_1 ?_
  exact hR.i dX4_version_4 (Nat.le_of_ble_eq_true rfl) (Nat.le_of_ble_eq_true rfl) (rfl) (rfl)
set_option maxHeartbeats 4000000 in
set_option maxRecDepth 100000 in
theorem c_X4_comment (G : zG) (d0 t0 r0 q0 y0 d1 u0 d2 d3 d4 v : Nat) (o : Int32) (t1 t2 n : Nat) (f : Nat → Int32) (g : Nat → Int32) (r1 r2 r3 m : Nat) (b : Nat → Int32) (e : Nat → Int32) (s : Nat → Int32) (q1 q2 q3 q4 : Nat) (ql : Nat → Int32) (qs : Nat → Int32) (qa : Nat → Int32) (qb : Nat → Int32) (a k : Nat) (l : Int32) (l0 : Nat) (hn : n ≤ 60) (hm : m < 12) (ha : a < k) (hk : k ≤ n) (hl : l = nI l0) (hl3 : l0 ≤ 3) : zM G yX4_comment wsX4_comment ({ frames := 3, cells := 0, slots := 0, locals := 78 }) [.ref d0, .int (nI a), .int (nI k), .int l] [(d0, .inr (4, [.ref t0, .ref r0, .ref q0, .ref y0, .ref d1, .int o, .int (nI v), .ref u0, .ref d2, .ref d3, .ref d4])), (t0, .inr (3, [.ref t1, .ref t2, .int (nI n)])), (t1, eI G 60 f), (t2, eI G 60 g), (r0, .inr (2, [.ref r1, .ref r2, .ref r3, .int (nI m)])), (r1, eI G 12 b), (r2, eI G 12 e), (r3, eI G 12 s), (q0, .inr (1, [.ref q1, .ref q2, .ref q3, .ref q4])), (q1, eI G 720 ql), (q2, eI G 12 qs), (q3, eI G 12 qa), (q4, eI G 12 qb)] [(d0, .inr (4, [.ref t0, .ref r0, .ref q0, .ref y0, .ref d1, .int (o ||| bitF (nI m)), .int (nI v), .ref u0, .ref d2, .ref d3, .ref d4])), (t0, .inr (3, [.ref t1, .ref t2, .int (nI n)])), (t1, eI G 60 f), (t2, eI G 60 (mrkF g a k (bitF (nI m)))), (r0, .inr (2, [.ref r1, .ref r2, .ref r3, .int (nI (m + 1))])), (r1, eI G 12 (upd b m (nI a))), (r2, eI G 12 (upd e m (nI k))), (r3, eI G 12 (upd s m l)), (q0, .inr (1, [.ref q1, .ref q2, .ref q3, .ref q4])), (q1, eI G 720 (va_cpy f ql a (m * 60) (k - a))), (q2, eI G 12 (upd qs m (nI (k - a)))), (q3, eI G 12 (upd qa m (letF n f (nI a - nI 1)))), (q4, eI G 12 (upd qb m (letF n f (nI k))))] (some (.int (nI m))) 0 0 := by
  refine zM.ofI (own := RX4) (cc := cX4_comment) (maxL := 5) rfl (by decide) rfl rfl (by simp [Value.category]) (Nat.le_of_ble_eq_true rfl) ?_
  intro X hF hR
  have k_0 : ∀ w ∈ wsX40, w ∈ wsX4_comment := by decide +kernel
  have k_1 : zH X (.fieldLink RX4 19 "MarginDesk" "commentRanges" "LMarginDesk$Ranges;") := hF.w (by decide +kernel)
  have k_2 : ∀ w ∈ wsX20, w ∈ wsX4_comment := by decide +kernel
  have k_3 : zH X (.fieldLinkNest RX4 92 "MarginDesk$Ranges" "count" "I" RX4) := hF.nf (List.mem_of_getElem? (i := 3) rfl)
  have k_4 : zH X (.initialized RX2) := hF.w (by decide +kernel)
  have k_5 : zH X (.instanceMethod yX2_add) := hF.w (by decide +kernel)
  have k_6 : zH X (.selects RX2 yX2_add yX2_add) := hF.w (by decide +kernel)
  have k_7 : zH X (.fieldLink RX4 26 "MarginDesk" "quotes" "LMarginDesk$Quotes;") := hF.w (by decide +kernel)
  have k_8 : zH X (.fieldLink RX4 10 "MarginDesk" "text" "LMarginDesk$Text;") := hF.w (by decide +kernel)
  have k_9 : zH X (.initialized RX1) := hF.w (by decide +kernel)
  have k_10 : zH X (.instanceMethod yX1_keep) := hF.w (by decide +kernel)
  have k_11 : zH X (.selects RX1 yX1_keep yX1_keep) := hF.w (by decide +kernel)
  have k_12 : zH X (.initialized RX3) := hF.w (by decide +kernel)
  have k_13 : zH X (.instanceMethod yX3_mark) := hF.w (by decide +kernel)
  have k_14 : zH X (.selects RX3 yX3_mark yX3_mark) := hF.w (by decide +kernel)
  have k_15 : zH X (.fieldLink RX4 41 "MarginDesk" "openSet" "I") := hF.w (by decide +kernel)
  refine z_lv (lv' := [some (.ref d0), some (.int (nI a)), some (.int (nI k)), some (.int l), none]) rfl ?_
  refine z_aload_n hF dX4_comment_0 rfl ?_
  refine z_iload_n hF dX4_comment_1 rfl ?_
  refine z_iload_n hF dX4_comment_2 rfl ?_
  refine z_V (As := [.int (nI a), .int (nI k)]) (rest := []) (ws' := [(d0, .inr (4, [.ref t0, .ref r0, .ref q0, .ref y0, .ref d1, .int o, .int (nI v), .ref u0, .ref d2, .ref d3, .ref d4])), (t0, .inr (3, [.ref t1, .ref t2, .int (nI n)])), (t1, eI G 60 f), (t2, eI G 60 g), (r0, .inr (2, [.ref r1, .ref r2, .ref r3, .int (nI m)])), (r1, eI G 12 b), (r2, eI G 12 e), (r3, eI G 12 s), (q0, .inr (1, [.ref q1, .ref q2, .ref q3, .ref q4])), (q1, eI G 720 ql), (q2, eI G 12 qs), (q3, eI G 12 qa), (q4, eI G 12 qb)]) (st2 := []) (c2 := 0) (s2 := 0) hF (c_X4_checkRange G d0 t0 r0 q0 y0 d1 u0 d2 d3 d4 v o t1 t2 n a k (by first | assumption | omega) (by first | assumption | omega) (by first | assumption | omega)) gX4_comment_X4_checkRange rfl rfl rfl hd_X4_checkRange ⟨⟨Nat.le_of_ble_eq_true rfl, Nat.le_of_ble_eq_true rfl⟩, ⟨Nat.le_of_ble_eq_true rfl, Nat.le_of_ble_eq_true rfl⟩, Nat.le_of_ble_eq_true rfl⟩ [0, 1] rfl rfl 0 rfl rfl rfl rfl rfl rfl rfl rfl rfl rfl dX4_comment_3 ?_
  refine z_aload_n hF dX4_comment_6 rfl ?_
  refine z_iload_n hF dX4_comment_7 rfl ?_
  refine z_top (y := nI l0) hl ?_
  refine z_iconst (v := nI 0) hF dX4_comment_8 (by decide) ?_
  refine z_iconst (v := nI 3) hF dX4_comment_9 (by decide) ?_
  refine z_V (As := [.int (nI l0), .int (nI 0), .int (nI 3)]) (rest := []) (ws' := [(d0, .inr (4, [.ref t0, .ref r0, .ref q0, .ref y0, .ref d1, .int o, .int (nI v), .ref u0, .ref d2, .ref d3, .ref d4])), (t0, .inr (3, [.ref t1, .ref t2, .int (nI n)])), (t1, eI G 60 f), (t2, eI G 60 g), (r0, .inr (2, [.ref r1, .ref r2, .ref r3, .int (nI m)])), (r1, eI G 12 b), (r2, eI G 12 e), (r3, eI G 12 s), (q0, .inr (1, [.ref q1, .ref q2, .ref q3, .ref q4])), (q1, eI G 720 ql), (q2, eI G 12 qs), (q3, eI G 12 qa), (q4, eI G 12 qb)]) (st2 := []) (c2 := 0) (s2 := 0) hF (c_X4_checkAmong G d0 t0 r0 q0 y0 d1 u0 d2 d3 d4 v o l0 0 3 (by first | assumption | omega) (by first | assumption | omega) (by first | assumption | omega)) gX4_comment_X4_checkAmong rfl rfl rfl hd_X4_checkAmong ⟨⟨Nat.le_of_ble_eq_true rfl, Nat.le_of_ble_eq_true rfl⟩, ⟨Nat.le_of_ble_eq_true rfl, Nat.le_of_ble_eq_true rfl⟩, Nat.le_of_ble_eq_true rfl⟩ [0] rfl rfl 0 rfl rfl rfl rfl rfl rfl rfl rfl rfl rfl dX4_comment_10 ?_
  refine z_aload_n hF dX4_comment_13 rfl ?_
  refine z_get (C := RX4) (T := TX4) (N := 11) (ci := 4) (v := .ref r0) hF k_0 1 (by decide) rfl k_1 rfl 0 rfl rfl dX4_comment_14 ?_
  refine z_getN (C := RX2) (T := TX2) (N := 4) (ci := 2) (v := .int (nI m)) hF k_2 3 (by decide) rfl k_3 rfl 4 rfl rfl dX4_comment_17 ?_
  refine z_bipush (v := nI 12) hF dX4_comment_20 (by decide) ?_
  refine z_icn_lt (tgt := 35) hF (by omega) (by omega) dX4_comment_22 (by decide) (fun c_1 => ?_) (fun c_1 => absurd c_1 (by omega))
  refine z_aload_n hF dX4_comment_35 rfl ?_
  refine z_get (C := RX4) (T := TX4) (N := 11) (ci := 4) (v := .ref r0) hF k_0 1 (by decide) rfl k_1 rfl 0 rfl rfl dX4_comment_36 ?_
  refine z_iload_n hF dX4_comment_39 rfl ?_
  refine z_iload_n hF dX4_comment_40 rfl ?_
  refine z_iload_n hF dX4_comment_41 rfl ?_
  refine z_VN (As := [.int (nI a), .int (nI k), .int l]) (rest := []) (ws' := [(d0, .inr (4, [.ref t0, .ref r0, .ref q0, .ref y0, .ref d1, .int o, .int (nI v), .ref u0, .ref d2, .ref d3, .ref d4])), (t0, .inr (3, [.ref t1, .ref t2, .int (nI n)])), (t1, eI G 60 f), (t2, eI G 60 g), (r0, .inr (2, [.ref r1, .ref r2, .ref r3, .int (nI (m + 1))])), (r1, eI G 12 (upd b m (nI a))), (r2, eI G 12 (upd e m (nI k))), (r3, eI G 12 (upd s m l)), (q0, .inr (1, [.ref q1, .ref q2, .ref q3, .ref q4])), (q1, eI G 720 ql), (q2, eI G 12 qs), (q3, eI G 12 qa), (q4, eI G 12 qb)]) (st2 := [.int (nI m)]) (c2 := 0) (s2 := 0) hF (c_X2_add G r0 r1 r2 r3 m (nI a) (nI k) l b e s (by first | assumption | omega)) ggX4_comment_X2_add (List.mem_of_getElem? (i := 15) rfl) k_4 k_5 k_6 rfl rfl rfl hs_X2_add ⟨⟨Nat.le_of_ble_eq_true rfl, Nat.le_of_ble_eq_true rfl⟩, ⟨Nat.le_of_ble_eq_true rfl, Nat.le_of_ble_eq_true rfl⟩, Nat.le_of_ble_eq_true rfl⟩ [4, 5, 6, 7] rfl rfl 0 rfl rfl rfl rfl rfl rfl rfl rfl rfl rfl dX4_comment_42 ?_
  refine z_istore (lv' := [some (.ref d0), some (.int (nI a)), some (.int (nI k)), some (.int l), some (.int (nI m))]) hF dX4_comment_45 rfl rfl ?_
  refine z_aload_n hF dX4_comment_47 rfl ?_
  refine z_get (C := RX4) (T := TX4) (N := 11) (ci := 4) (v := .ref q0) hF k_0 2 (by decide) rfl k_7 rfl 0 rfl rfl dX4_comment_48 ?_
  refine z_iload hF dX4_comment_51 rfl ?_
  refine z_aload_n hF dX4_comment_53 rfl ?_
  refine z_get (C := RX4) (T := TX4) (N := 11) (ci := 4) (v := .ref t0) hF k_0 0 (by decide) rfl k_8 rfl 0 rfl rfl dX4_comment_54 ?_
  refine z_iload_n hF dX4_comment_57 rfl ?_
  refine z_iload_n hF dX4_comment_58 rfl ?_
  refine z_VN (As := [.int (nI m), .ref t0, .int (nI a), .int (nI k)]) (rest := []) (ws' := [(d0, .inr (4, [.ref t0, .ref r0, .ref q0, .ref y0, .ref d1, .int o, .int (nI v), .ref u0, .ref d2, .ref d3, .ref d4])), (t0, .inr (3, [.ref t1, .ref t2, .int (nI n)])), (t1, eI G 60 f), (t2, eI G 60 g), (r0, .inr (2, [.ref r1, .ref r2, .ref r3, .int (nI (m + 1))])), (r1, eI G 12 (upd b m (nI a))), (r2, eI G 12 (upd e m (nI k))), (r3, eI G 12 (upd s m l)), (q0, .inr (1, [.ref q1, .ref q2, .ref q3, .ref q4])), (q1, eI G 720 (va_cpy f ql a (m * 60) (k - a))), (q2, eI G 12 (upd qs m (nI (k - a)))), (q3, eI G 12 (upd qa m (letF n f (nI a - nI 1)))), (q4, eI G 12 (upd qb m (letF n f (nI k))))]) (st2 := []) (c2 := 0) (s2 := 0) hF (c_X1_keep G q0 q1 q2 q3 q4 t0 t1 t2 n m a k ql qs qa qb f (by first | assumption | omega) (by first | assumption | omega) (by first | assumption | omega) (by first | assumption | omega)) ggX4_comment_X1_keep (List.mem_of_getElem? (i := 16) rfl) k_9 k_10 k_11 rfl rfl rfl hs_X1_keep ⟨⟨Nat.le_of_ble_eq_true rfl, Nat.le_of_ble_eq_true rfl⟩, ⟨Nat.le_of_ble_eq_true rfl, Nat.le_of_ble_eq_true rfl⟩, Nat.le_of_ble_eq_true rfl⟩ [8, 9, 10, 11, 12, 1, 2] rfl rfl 0 rfl rfl rfl rfl rfl rfl rfl rfl rfl rfl dX4_comment_59 ?_
  refine z_aload_n hF dX4_comment_62 rfl ?_
  refine z_get (C := RX4) (T := TX4) (N := 11) (ci := 4) (v := .ref t0) hF k_0 0 (by decide) rfl k_8 rfl 0 rfl rfl dX4_comment_63 ?_
  refine z_iload_n hF dX4_comment_66 rfl ?_
  refine z_iload_n hF dX4_comment_67 rfl ?_
  refine z_iload hF dX4_comment_68 rfl ?_
  refine z_S (As := [.int (nI m)]) (rest := [.int (nI k), .int (nI a), .ref t0]) (ws' := [(d0, .inr (4, [.ref t0, .ref r0, .ref q0, .ref y0, .ref d1, .int o, .int (nI v), .ref u0, .ref d2, .ref d3, .ref d4])), (t0, .inr (3, [.ref t1, .ref t2, .int (nI n)])), (t1, eI G 60 f), (t2, eI G 60 g), (r0, .inr (2, [.ref r1, .ref r2, .ref r3, .int (nI (m + 1))])), (r1, eI G 12 (upd b m (nI a))), (r2, eI G 12 (upd e m (nI k))), (r3, eI G 12 (upd s m l)), (q0, .inr (1, [.ref q1, .ref q2, .ref q3, .ref q4])), (q1, eI G 720 (va_cpy f ql a (m * 60) (k - a))), (q2, eI G 12 (upd qs m (nI (k - a)))), (q3, eI G 12 (upd qa m (letF n f (nI a - nI 1)))), (q4, eI G 12 (upd qb m (letF n f (nI k))))]) (st2 := [.int (bitF (nI m)), .int (nI k), .int (nI a), .ref t0]) (c2 := 0) (s2 := 0) hF (c_X4_bit G (nI m)) gX4_comment_X4_bit rfl rfl rfl hs_X4_bit ⟨⟨Nat.le_of_ble_eq_true rfl, Nat.le_of_ble_eq_true rfl⟩, ⟨Nat.le_of_ble_eq_true rfl, Nat.le_of_ble_eq_true rfl⟩, Nat.le_of_ble_eq_true rfl⟩ [] rfl rfl rfl rfl rfl rfl rfl rfl rfl rfl dX4_comment_70 ?_
  refine z_VN (As := [.int (nI a), .int (nI k), .int (bitF (nI m))]) (rest := []) (ws' := [(d0, .inr (4, [.ref t0, .ref r0, .ref q0, .ref y0, .ref d1, .int o, .int (nI v), .ref u0, .ref d2, .ref d3, .ref d4])), (t0, .inr (3, [.ref t1, .ref t2, .int (nI n)])), (t1, eI G 60 f), (t2, eI G 60 (mrkF g a k (bitF (nI m)))), (r0, .inr (2, [.ref r1, .ref r2, .ref r3, .int (nI (m + 1))])), (r1, eI G 12 (upd b m (nI a))), (r2, eI G 12 (upd e m (nI k))), (r3, eI G 12 (upd s m l)), (q0, .inr (1, [.ref q1, .ref q2, .ref q3, .ref q4])), (q1, eI G 720 (va_cpy f ql a (m * 60) (k - a))), (q2, eI G 12 (upd qs m (nI (k - a)))), (q3, eI G 12 (upd qa m (letF n f (nI a - nI 1)))), (q4, eI G 12 (upd qb m (letF n f (nI k))))]) (st2 := []) (c2 := 0) (s2 := 0) hF (c_X3_mark G t0 t1 t2 n a k g (bitF (nI m)) (by first | assumption | omega) (by first | assumption | omega)) ggX4_comment_X3_mark (List.mem_of_getElem? (i := 11) rfl) k_12 k_13 k_14 rfl rfl rfl hs_X3_mark ⟨⟨Nat.le_of_ble_eq_true rfl, Nat.le_of_ble_eq_true rfl⟩, ⟨Nat.le_of_ble_eq_true rfl, Nat.le_of_ble_eq_true rfl⟩, Nat.le_of_ble_eq_true rfl⟩ [1, 3] rfl rfl 0 rfl rfl rfl rfl rfl rfl rfl rfl rfl rfl dX4_comment_73 ?_
  refine z_aload_n hF dX4_comment_76 rfl ?_
  refine z_dup hF dX4_comment_77 rfl ?_
  refine z_get (C := RX4) (T := TX4) (N := 11) (ci := 4) (v := .int o) hF k_0 5 (by decide) rfl k_15 rfl 0 rfl rfl dX4_comment_78 ?_
  refine z_iload hF dX4_comment_81 rfl ?_
  refine z_S (As := [.int (nI m)]) (rest := [.int o, .ref d0]) (ws' := [(d0, .inr (4, [.ref t0, .ref r0, .ref q0, .ref y0, .ref d1, .int o, .int (nI v), .ref u0, .ref d2, .ref d3, .ref d4])), (t0, .inr (3, [.ref t1, .ref t2, .int (nI n)])), (t1, eI G 60 f), (t2, eI G 60 (mrkF g a k (bitF (nI m)))), (r0, .inr (2, [.ref r1, .ref r2, .ref r3, .int (nI (m + 1))])), (r1, eI G 12 (upd b m (nI a))), (r2, eI G 12 (upd e m (nI k))), (r3, eI G 12 (upd s m l)), (q0, .inr (1, [.ref q1, .ref q2, .ref q3, .ref q4])), (q1, eI G 720 (va_cpy f ql a (m * 60) (k - a))), (q2, eI G 12 (upd qs m (nI (k - a)))), (q3, eI G 12 (upd qa m (letF n f (nI a - nI 1)))), (q4, eI G 12 (upd qb m (letF n f (nI k))))]) (st2 := [.int (bitF (nI m)), .int o, .ref d0]) (c2 := 0) (s2 := 0) hF (c_X4_bit G (nI m)) gX4_comment_X4_bit rfl rfl rfl hs_X4_bit ⟨⟨Nat.le_of_ble_eq_true rfl, Nat.le_of_ble_eq_true rfl⟩, ⟨Nat.le_of_ble_eq_true rfl, Nat.le_of_ble_eq_true rfl⟩, Nat.le_of_ble_eq_true rfl⟩ [] rfl rfl rfl rfl rfl rfl rfl rfl rfl rfl dX4_comment_83 ?_
  refine z_ior hF dX4_comment_86 ?_
  refine z_put (C := RX4) (T := TX4) (N := 11) (ci := 4) (ws' := [(d0, .inr (4, [.ref t0, .ref r0, .ref q0, .ref y0, .ref d1, .int (o ||| (bitF (nI m))), .int (nI v), .ref u0, .ref d2, .ref d3, .ref d4])), (t0, .inr (3, [.ref t1, .ref t2, .int (nI n)])), (t1, eI G 60 f), (t2, eI G 60 (mrkF g a k (bitF (nI m)))), (r0, .inr (2, [.ref r1, .ref r2, .ref r3, .int (nI (m + 1))])), (r1, eI G 12 (upd b m (nI a))), (r2, eI G 12 (upd e m (nI k))), (r3, eI G 12 (upd s m l)), (q0, .inr (1, [.ref q1, .ref q2, .ref q3, .ref q4])), (q1, eI G 720 (va_cpy f ql a (m * 60) (k - a))), (q2, eI G 12 (upd qs m (nI (k - a)))), (q3, eI G 12 (upd qa m (letF n f (nI a - nI 1)))), (q4, eI G 12 (upd qb m (letF n f (nI k))))]) hF k_0 tyX4 tyX4_ok nmX4 5 (by decide) rfl k_15 rfl rfl rfl rfl 0 rfl rfl rfl dX4_comment_87 ?_
  refine z_iload hF dX4_comment_90 rfl ?_
  exact hR.i dX4_comment_92 (Nat.le_of_ble_eq_true rfl) (Nat.le_of_ble_eq_true rfl) (rfl) (rfl)
set_option maxHeartbeats 4000000 in
set_option maxRecDepth 100000 in
theorem c_X4_answer (G : zG) (d0 t0 r0 q0 y0 d1 u0 d2 d3 d4 v : Nat) (o : Int32) (r1 r2 r3 m : Nat) (an : Nat → Int32) (i : Nat) (hm : m ≤ 12) (hi : i < m) : zM G yX4_answer wsX4_answer ({ frames := 1, cells := 0, slots := 0, locals := 33 }) [.ref d0, .int (nI i)] [(d0, .inr (4, [.ref t0, .ref r0, .ref q0, .ref y0, .ref d1, .int o, .int (nI v), .ref u0, .ref d2, .ref d3, .ref d4])), (r0, .inr (2, [.ref r1, .ref r2, .ref r3, .int (nI m)])), (d1, eI G 12 an)] [(d0, .inr (4, [.ref t0, .ref r0, .ref q0, .ref y0, .ref d1, .int (o ||| bitF (nI i)), .int (nI v), .ref u0, .ref d2, .ref d3, .ref d4])), (r0, .inr (2, [.ref r1, .ref r2, .ref r3, .int (nI m)])), (d1, eI G 12 (upd an i (an i + nI 1)))] (some (.int (an i + nI 1))) 0 0 := by
  refine zM.ofI (own := RX4) (cc := cX4_answer) (maxL := 2) rfl (by decide) rfl rfl (by simp [Value.category]) (Nat.le_of_ble_eq_true rfl) ?_
  intro X hF hR
  have k_0 : ∀ w ∈ wsX40, w ∈ wsX4_answer := by decide +kernel
  have k_1 : zH X (.fieldLink RX4 41 "MarginDesk" "openSet" "I") := hF.w (by decide +kernel)
  have k_2 : zH X (.fieldLink RX4 37 "MarginDesk" "answerCounts" "[I") := hF.w (by decide +kernel)
  refine z_lv (lv' := [some (.ref d0), some (.int (nI i))]) rfl ?_
  refine z_aload_n hF dX4_answer_0 rfl ?_
  refine z_iload_n hF dX4_answer_1 rfl ?_
  refine z_V (As := [.int (nI i)]) (rest := []) (ws' := [(d0, .inr (4, [.ref t0, .ref r0, .ref q0, .ref y0, .ref d1, .int o, .int (nI v), .ref u0, .ref d2, .ref d3, .ref d4])), (r0, .inr (2, [.ref r1, .ref r2, .ref r3, .int (nI m)])), (d1, eI G 12 an)]) (st2 := []) (c2 := 0) (s2 := 0) hF (c_X4_checkComment G d0 t0 r0 q0 y0 d1 u0 d2 d3 d4 v o r1 r2 r3 m i (by first | assumption | omega) (by first | assumption | omega)) gX4_answer_X4_checkComment rfl rfl rfl hd_X4_checkComment ⟨⟨Nat.le_of_ble_eq_true rfl, Nat.le_of_ble_eq_true rfl⟩, ⟨Nat.le_of_ble_eq_true rfl, Nat.le_of_ble_eq_true rfl⟩, Nat.le_of_ble_eq_true rfl⟩ [0, 1] rfl rfl 0 rfl rfl rfl rfl rfl rfl rfl rfl rfl rfl dX4_answer_2 ?_
  refine z_aload_n hF dX4_answer_5 rfl ?_
  refine z_dup hF dX4_answer_6 rfl ?_
  refine z_get (C := RX4) (T := TX4) (N := 11) (ci := 4) (v := .int o) hF k_0 5 (by decide) rfl k_1 rfl 0 rfl rfl dX4_answer_7 ?_
  refine z_iload_n hF dX4_answer_10 rfl ?_
  refine z_S (As := [.int (nI i)]) (rest := [.int o, .ref d0]) (ws' := [(d0, .inr (4, [.ref t0, .ref r0, .ref q0, .ref y0, .ref d1, .int o, .int (nI v), .ref u0, .ref d2, .ref d3, .ref d4])), (r0, .inr (2, [.ref r1, .ref r2, .ref r3, .int (nI m)])), (d1, eI G 12 an)]) (st2 := [.int (bitF (nI i)), .int o, .ref d0]) (c2 := 0) (s2 := 0) hF (c_X4_bit G (nI i)) gX4_answer_X4_bit rfl rfl rfl hs_X4_bit ⟨⟨Nat.le_of_ble_eq_true rfl, Nat.le_of_ble_eq_true rfl⟩, ⟨Nat.le_of_ble_eq_true rfl, Nat.le_of_ble_eq_true rfl⟩, Nat.le_of_ble_eq_true rfl⟩ [] rfl rfl rfl rfl rfl rfl rfl rfl rfl rfl dX4_answer_11 ?_
  refine z_ior hF dX4_answer_14 ?_
  refine z_put (C := RX4) (T := TX4) (N := 11) (ci := 4) (ws' := [(d0, .inr (4, [.ref t0, .ref r0, .ref q0, .ref y0, .ref d1, .int (o ||| (bitF (nI i))), .int (nI v), .ref u0, .ref d2, .ref d3, .ref d4])), (r0, .inr (2, [.ref r1, .ref r2, .ref r3, .int (nI m)])), (d1, eI G 12 an)]) hF k_0 tyX4 tyX4_ok nmX4 5 (by decide) rfl k_1 rfl rfl rfl rfl 0 rfl rfl rfl dX4_answer_15 ?_
  refine z_aload_n hF dX4_answer_18 rfl ?_
  refine z_get (C := RX4) (T := TX4) (N := 11) (ci := 4) (v := .ref d1) hF k_0 4 (by decide) rfl k_2 rfl 0 rfl rfl dX4_answer_19 ?_
  refine z_iload_n hF dX4_answer_22 rfl ?_
  refine z_dup2 hF dX4_answer_23 rfl rfl ?_
  refine z_iald (k := i) hF 2 rfl (rfl) (by omega) rfl dX4_answer_24 ?_
  refine z_iconst (v := nI 1) hF dX4_answer_25 (by decide) ?_
  refine z_iadd hF dX4_answer_26 ?_
  refine z_iast (k := i) (ws' := [(d0, .inr (4, [.ref t0, .ref r0, .ref q0, .ref y0, .ref d1, .int (o ||| (bitF (nI i))), .int (nI v), .ref u0, .ref d2, .ref d3, .ref d4])), (r0, .inr (2, [.ref r1, .ref r2, .ref r3, .int (nI m)])), (d1, eI G 12 (upd an i ((an i) + (nI 1))))]) hF 2 rfl (rfl) (by omega) rfl rfl dX4_answer_27 ?_
  refine z_aload_n hF dX4_answer_28 rfl ?_
  refine z_get (C := RX4) (T := TX4) (N := 11) (ci := 4) (v := .ref d1) hF k_0 4 (by decide) rfl k_2 rfl 0 rfl rfl dX4_answer_29 ?_
  refine z_iload_n hF dX4_answer_32 rfl ?_
  refine z_iald (k := i) hF 2 rfl (rfl) (by omega) rfl dX4_answer_33 ?_
  refine z_top (y := an i + nI 1) (pk_us) ?_
  exact hR.i dX4_answer_34 (Nat.le_of_ble_eq_true rfl) (Nat.le_of_ble_eq_true rfl) (rfl) (rfl)
set_option maxHeartbeats 4000000 in
set_option maxRecDepth 100000 in
theorem c_X4_resolve (G : zG) (d0 t0 r0 q0 y0 d1 u0 d2 d3 d4 v : Nat) (o : Int32) (r1 r2 r3 m : Nat) (i : Nat) (hm : m ≤ 12) (hi : i < m) : zM G yX4_resolve wsX4_resolve ({ frames := 1, cells := 0, slots := 0, locals := 33 }) [.ref d0, .int (nI i)] [(d0, .inr (4, [.ref t0, .ref r0, .ref q0, .ref y0, .ref d1, .int o, .int (nI v), .ref u0, .ref d2, .ref d3, .ref d4])), (r0, .inr (2, [.ref r1, .ref r2, .ref r3, .int (nI m)]))] [(d0, .inr (4, [.ref t0, .ref r0, .ref q0, .ref y0, .ref d1, .int (o &&& ((bitF (nI i)) ^^^ (-1))), .int (nI v), .ref u0, .ref d2, .ref d3, .ref d4])), (r0, .inr (2, [.ref r1, .ref r2, .ref r3, .int (nI m)]))] (some (.int (zb (¬ o &&& bitF (nI i) = 0)))) 0 0 := by
  refine zM.ofI (own := RX4) (cc := cX4_resolve) (maxL := 3) rfl (by decide) rfl zb_nar (by simp [Value.category]) (Nat.le_of_ble_eq_true rfl) ?_
  intro X hF hR
  have k_0 : ∀ w ∈ wsX40, w ∈ wsX4_resolve := by decide +kernel
  have k_1 : zH X (.fieldLink RX4 41 "MarginDesk" "openSet" "I") := hF.w (by decide +kernel)
  refine z_lv (lv' := [some (.ref d0), some (.int (nI i)), none]) rfl ?_
  refine z_aload_n hF dX4_resolve_0 rfl ?_
  refine z_iload_n hF dX4_resolve_1 rfl ?_
  refine z_V (As := [.int (nI i)]) (rest := []) (ws' := [(d0, .inr (4, [.ref t0, .ref r0, .ref q0, .ref y0, .ref d1, .int o, .int (nI v), .ref u0, .ref d2, .ref d3, .ref d4])), (r0, .inr (2, [.ref r1, .ref r2, .ref r3, .int (nI m)]))]) (st2 := []) (c2 := 0) (s2 := 0) hF (c_X4_checkComment G d0 t0 r0 q0 y0 d1 u0 d2 d3 d4 v o r1 r2 r3 m i (by first | assumption | omega) (by first | assumption | omega)) gX4_resolve_X4_checkComment rfl rfl rfl hd_X4_checkComment ⟨⟨Nat.le_of_ble_eq_true rfl, Nat.le_of_ble_eq_true rfl⟩, ⟨Nat.le_of_ble_eq_true rfl, Nat.le_of_ble_eq_true rfl⟩, Nat.le_of_ble_eq_true rfl⟩ [0, 1] rfl rfl 0 rfl rfl rfl rfl rfl rfl rfl rfl rfl rfl dX4_resolve_2 ?_
  have J_22 : zJ G X 22 [(d0, .inr (4, [.ref t0, .ref r0, .ref q0, .ref y0, .ref d1, .int o, .int (nI v), .ref u0, .ref d2, .ref d3, .ref d4])), (r0, .inr (2, [.ref r1, .ref r2, .ref r3, .int (nI m)]))] [some (.ref d0), some (.int (nI i)), none] [.int (zb (¬ o &&& bitF (nI i) = 0))] 0 0 := by
    refine z_istore_n (lv' := [some (.ref d0), some (.int (nI i)), some (.int (zb (¬ o &&& bitF (nI i) = 0)))]) hF dX4_resolve_22 rfl rfl ?_
    refine z_aload_n hF dX4_resolve_23 rfl ?_
    refine z_dup hF dX4_resolve_24 rfl ?_
    refine z_get (C := RX4) (T := TX4) (N := 11) (ci := 4) (v := .int o) hF k_0 5 (by decide) rfl k_1 rfl 0 rfl rfl dX4_resolve_25 ?_
    refine z_iload_n hF dX4_resolve_28 rfl ?_
    refine z_S (As := [.int (nI i)]) (rest := [.int o, .ref d0]) (ws' := [(d0, .inr (4, [.ref t0, .ref r0, .ref q0, .ref y0, .ref d1, .int o, .int (nI v), .ref u0, .ref d2, .ref d3, .ref d4])), (r0, .inr (2, [.ref r1, .ref r2, .ref r3, .int (nI m)]))]) (st2 := [.int (bitF (nI i)), .int o, .ref d0]) (c2 := 0) (s2 := 0) hF (c_X4_bit G (nI i)) gX4_resolve_X4_bit rfl rfl rfl hs_X4_bit ⟨⟨Nat.le_of_ble_eq_true rfl, Nat.le_of_ble_eq_true rfl⟩, ⟨Nat.le_of_ble_eq_true rfl, Nat.le_of_ble_eq_true rfl⟩, Nat.le_of_ble_eq_true rfl⟩ [] rfl rfl rfl rfl rfl rfl rfl rfl rfl rfl dX4_resolve_29 ?_
    refine z_iconst (v := -1) hF dX4_resolve_32 (by decide) ?_
    refine z_ixor hF dX4_resolve_33 ?_
    refine z_iand hF dX4_resolve_34 ?_
    refine z_put (C := RX4) (T := TX4) (N := 11) (ci := 4) (ws' := [(d0, .inr (4, [.ref t0, .ref r0, .ref q0, .ref y0, .ref d1, .int (o &&& ((bitF (nI i)) ^^^ (-1))), .int (nI v), .ref u0, .ref d2, .ref d3, .ref d4])), (r0, .inr (2, [.ref r1, .ref r2, .ref r3, .int (nI m)]))]) hF k_0 tyX4 tyX4_ok nmX4 5 (by decide) rfl k_1 rfl rfl rfl rfl 0 rfl rfl rfl dX4_resolve_35 ?_
    refine z_iload_n hF dX4_resolve_38 rfl ?_
    exact hR.i dX4_resolve_39 (Nat.le_of_ble_eq_true rfl) (Nat.le_of_ble_eq_true rfl) (rfl) (rfl)
  refine z_aload_n hF dX4_resolve_5 rfl ?_
  refine z_get (C := RX4) (T := TX4) (N := 11) (ci := 4) (v := .int o) hF k_0 5 (by decide) rfl k_1 rfl 0 rfl rfl dX4_resolve_6 ?_
  refine z_iload_n hF dX4_resolve_9 rfl ?_
  refine z_S (As := [.int (nI i)]) (rest := [.int o]) (ws' := [(d0, .inr (4, [.ref t0, .ref r0, .ref q0, .ref y0, .ref d1, .int o, .int (nI v), .ref u0, .ref d2, .ref d3, .ref d4])), (r0, .inr (2, [.ref r1, .ref r2, .ref r3, .int (nI m)]))]) (st2 := [.int (bitF (nI i)), .int o]) (c2 := 0) (s2 := 0) hF (c_X4_bit G (nI i)) gX4_resolve_X4_bit rfl rfl rfl hs_X4_bit ⟨⟨Nat.le_of_ble_eq_true rfl, Nat.le_of_ble_eq_true rfl⟩, ⟨Nat.le_of_ble_eq_true rfl, Nat.le_of_ble_eq_true rfl⟩, Nat.le_of_ble_eq_true rfl⟩ [] rfl rfl rfl rfl rfl rfl rfl rfl rfl rfl dX4_resolve_10 ?_
  refine z_iand hF dX4_resolve_13 ?_
  refine z_if_eq (tgt := 21) hF dX4_resolve_14 (by decide) (fun c_1 => ?_) (fun c_1 => ?_)
  · refine z_iconst (v := nI 0) hF dX4_resolve_21 (by decide) ?_
    refine z_top (y := zb (¬ o &&& bitF (nI i) = 0)) (zb0 (by first | assumption | grind)) ?_
    exact J_22  
  · refine z_iconst (v := nI 1) hF dX4_resolve_17 (by decide) ?_
    refine z_goto (tgt := 22) hF dX4_resolve_18 (by decide) ?_
    refine z_top (y := zb (¬ o &&& bitF (nI i) = 0)) (zb1 (by first | assumption | grind)) ?_
    exact J_22  
set_option maxHeartbeats 4000000 in
set_option maxRecDepth 100000 in
theorem c_X4_find0 (G : zG) (d0 t0 r0 q0 y0 d1 u0 d2 d3 d4 v : Nat) (o : Int32) (t1 t2 n : Nat) (f : Nat → Int32) (g : Nat → Int32) (r1 r2 r3 m : Nat) (b : Nat → Int32) (e : Nat → Int32) (q1 q2 q3 q4 : Nat) (ql : Nat → Int32) (qs : Nat → Int32) (qa : Nat → Int32) (qb : Nat → Int32) (i z : Nat) (hn : n ≤ 60) (hm : m ≤ 12) (hi : i < m) (hb : b i = -1) (hz : qs i = nI z) (hz2 : z ≤ 60) (h0 : bfF n z i ql qa qb f = -1) : zM G yX4_find wsX4_find ({ frames := 4, cells := 0, slots := 0, locals := 105 }) [.ref d0, .int (nI i)] [(d0, .inr (4, [.ref t0, .ref r0, .ref q0, .ref y0, .ref d1, .int o, .int (nI v), .ref u0, .ref d2, .ref d3, .ref d4])), (r0, .inr (2, [.ref r1, .ref r2, .ref r3, .int (nI m)])), (r1, eI G 12 b), (r2, eI G 12 e), (q0, .inr (1, [.ref q1, .ref q2, .ref q3, .ref q4])), (q1, eI G 720 ql), (q2, eI G 12 qs), (q3, eI G 12 qa), (q4, eI G 12 qb), (t0, .inr (3, [.ref t1, .ref t2, .int (nI n)])), (t1, eI G 60 f), (t2, eI G 60 g)] [(d0, .inr (4, [.ref t0, .ref r0, .ref q0, .ref y0, .ref d1, .int o, .int (nI v), .ref u0, .ref d2, .ref d3, .ref d4])), (r0, .inr (2, [.ref r1, .ref r2, .ref r3, .int (nI m)])), (r1, eI G 12 b), (r2, eI G 12 e), (q0, .inr (1, [.ref q1, .ref q2, .ref q3, .ref q4])), (q1, eI G 720 ql), (q2, eI G 12 qs), (q3, eI G 12 qa), (q4, eI G 12 qb), (t0, .inr (3, [.ref t1, .ref t2, .int (nI n)])), (t1, eI G 60 f), (t2, eI G 60 g)] (some (.int (bfF n z i ql qa qb f))) 0 0 := by
  refine zM.ofI (own := RX4) (cc := cX4_find) (maxL := 4) rfl (by decide) rfl rfl (by simp [Value.category]) (Nat.le_of_ble_eq_true rfl) ?_
  intro X hF hR
  have k_0 : ∀ w ∈ wsX40, w ∈ wsX4_find := by decide +kernel
  have k_1 : zH X (.fieldLink RX4 19 "MarginDesk" "commentRanges" "LMarginDesk$Ranges;") := hF.w (by decide +kernel)
  have k_2 : zH X (.initialized RX2) := hF.w (by decide +kernel)
  have k_3 : zH X (.instanceMethod yX2_isGone) := hF.w (by decide +kernel)
  have k_4 : zH X (.selects RX2 yX2_isGone yX2_isGone) := hF.w (by decide +kernel)
  have k_5 : zH X (.fieldLink RX4 26 "MarginDesk" "quotes" "LMarginDesk$Quotes;") := hF.w (by decide +kernel)
  have k_6 : zH X (.fieldLink RX4 10 "MarginDesk" "text" "LMarginDesk$Text;") := hF.w (by decide +kernel)
  have k_7 : zH X (.initialized RX1) := hF.w (by decide +kernel)
  have k_8 : zH X (.instanceMethod yX1_bestPlace) := hF.w (by decide +kernel)
  have k_9 : zH X (.selects RX1 yX1_bestPlace yX1_bestPlace) := hF.w (by decide +kernel)
  refine z_lv (lv' := [some (.ref d0), some (.int (nI i)), none, none]) rfl ?_
  refine z_aload_n hF dX4_find_0 rfl ?_
  refine z_iload_n hF dX4_find_1 rfl ?_
  refine z_V (As := [.int (nI i)]) (rest := []) (ws' := [(d0, .inr (4, [.ref t0, .ref r0, .ref q0, .ref y0, .ref d1, .int o, .int (nI v), .ref u0, .ref d2, .ref d3, .ref d4])), (r0, .inr (2, [.ref r1, .ref r2, .ref r3, .int (nI m)])), (r1, eI G 12 b), (r2, eI G 12 e), (q0, .inr (1, [.ref q1, .ref q2, .ref q3, .ref q4])), (q1, eI G 720 ql), (q2, eI G 12 qs), (q3, eI G 12 qa), (q4, eI G 12 qb), (t0, .inr (3, [.ref t1, .ref t2, .int (nI n)])), (t1, eI G 60 f), (t2, eI G 60 g)]) (st2 := []) (c2 := 0) (s2 := 0) hF (c_X4_checkComment G d0 t0 r0 q0 y0 d1 u0 d2 d3 d4 v o r1 r2 r3 m i (by first | assumption | omega) (by first | assumption | omega)) gX4_find_X4_checkComment rfl rfl rfl hd_X4_checkComment ⟨⟨Nat.le_of_ble_eq_true rfl, Nat.le_of_ble_eq_true rfl⟩, ⟨Nat.le_of_ble_eq_true rfl, Nat.le_of_ble_eq_true rfl⟩, Nat.le_of_ble_eq_true rfl⟩ [0, 1] rfl rfl 0 rfl rfl rfl rfl rfl rfl rfl rfl rfl rfl dX4_find_2 ?_
  refine z_aload_n hF dX4_find_5 rfl ?_
  refine z_get (C := RX4) (T := TX4) (N := 11) (ci := 4) (v := .ref r0) hF k_0 1 (by decide) rfl k_1 rfl 0 rfl rfl dX4_find_6 ?_
  refine z_iload_n hF dX4_find_9 rfl ?_
  refine z_VN (As := [.int (nI i)]) (rest := []) (ws' := [(d0, .inr (4, [.ref t0, .ref r0, .ref q0, .ref y0, .ref d1, .int o, .int (nI v), .ref u0, .ref d2, .ref d3, .ref d4])), (r0, .inr (2, [.ref r1, .ref r2, .ref r3, .int (nI m)])), (r1, eI G 12 b), (r2, eI G 12 e), (q0, .inr (1, [.ref q1, .ref q2, .ref q3, .ref q4])), (q1, eI G 720 ql), (q2, eI G 12 qs), (q3, eI G 12 qa), (q4, eI G 12 qb), (t0, .inr (3, [.ref t1, .ref t2, .int (nI n)])), (t1, eI G 60 f), (t2, eI G 60 g)]) (st2 := [.int (zb (b i = -1))]) (c2 := 0) (s2 := 0) hF (c_X2_isGone G r0 r1 r2 r3 m i b (by first | assumption | omega)) ggX4_find_X2_isGone (List.mem_of_getElem? (i := 4) rfl) k_2 k_3 k_4 rfl rfl rfl hs_X2_isGone ⟨⟨Nat.le_of_ble_eq_true rfl, Nat.le_of_ble_eq_true rfl⟩, ⟨Nat.le_of_ble_eq_true rfl, Nat.le_of_ble_eq_true rfl⟩, Nat.le_of_ble_eq_true rfl⟩ [1, 2] rfl rfl 0 rfl rfl rfl rfl rfl rfl rfl rfl rfl rfl dX4_find_10 ?_
  refine z_if_ne_b (tgt := 26) hF dX4_find_13 (by decide) (fun c_1 => ?_) (fun c_1 => absurd c_1 (not_not_intro hb))
  refine z_aload_n hF dX4_find_26 rfl ?_
  refine z_get (C := RX4) (T := TX4) (N := 11) (ci := 4) (v := .ref q0) hF k_0 2 (by decide) rfl k_5 rfl 0 rfl rfl dX4_find_27 ?_
  refine z_iload_n hF dX4_find_30 rfl ?_
  refine z_aload_n hF dX4_find_31 rfl ?_
  refine z_get (C := RX4) (T := TX4) (N := 11) (ci := 4) (v := .ref t0) hF k_0 0 (by decide) rfl k_6 rfl 0 rfl rfl dX4_find_32 ?_
  refine z_VN (As := [.int (nI i), .ref t0]) (rest := []) (ws' := [(d0, .inr (4, [.ref t0, .ref r0, .ref q0, .ref y0, .ref d1, .int o, .int (nI v), .ref u0, .ref d2, .ref d3, .ref d4])), (r0, .inr (2, [.ref r1, .ref r2, .ref r3, .int (nI m)])), (r1, eI G 12 b), (r2, eI G 12 e), (q0, .inr (1, [.ref q1, .ref q2, .ref q3, .ref q4])), (q1, eI G 720 ql), (q2, eI G 12 qs), (q3, eI G 12 qa), (q4, eI G 12 qb), (t0, .inr (3, [.ref t1, .ref t2, .int (nI n)])), (t1, eI G 60 f), (t2, eI G 60 g)]) (st2 := [.int (bfF n z i ql qa qb f)]) (c2 := 0) (s2 := 0) hF (c_X1_bestPlace G q0 q1 q2 q3 q4 t0 t1 t2 n i z ql qs qa qb f (by first | assumption | omega) (hz) (by first | assumption | omega) (by first | assumption | omega)) ggX4_find_X1_bestPlace (List.mem_of_getElem? (i := 18) rfl) k_7 k_8 k_9 rfl rfl rfl hs_X1_bestPlace ⟨⟨Nat.le_of_ble_eq_true rfl, Nat.le_of_ble_eq_true rfl⟩, ⟨Nat.le_of_ble_eq_true rfl, Nat.le_of_ble_eq_true rfl⟩, Nat.le_of_ble_eq_true rfl⟩ [4, 5, 6, 7, 8, 9, 10] rfl rfl 0 rfl rfl rfl rfl rfl rfl rfl rfl rfl rfl dX4_find_35 ?_
  refine z_istore_n (lv' := [some (.ref d0), some (.int (nI i)), some (.int (bfF n z i ql qa qb f)), none]) hF dX4_find_38 rfl rfl ?_
  refine z_iload_n hF dX4_find_39 rfl ?_
  refine z_iconst (v := -1) hF dX4_find_40 (by decide) ?_
  refine z_ic_eq (tgt := 78) hF dX4_find_41 (by decide) (fun c_2 => ?_) (fun c_2 => absurd c_2 (not_not_intro h0))
  refine z_iload_n hF dX4_find_78 rfl ?_
  exact hR.i dX4_find_79 (Nat.le_of_ble_eq_true rfl) (Nat.le_of_ble_eq_true rfl) (rfl) (rfl)
