set_option maxHeartbeats 4000000 in
set_option maxRecDepth 100000 in
theorem c_X4_insert (G : zG) (d0 t0 r0 q0 y0 d1 u0 d2 d3 d4 v : Nat) (o : Int32) (t1 t2 n : Nat) (f : Nat → Int32) (g : Nat → Int32) (r1 r2 r3 m : Nat) (b : Nat → Int32) (e : Nat → Int32) (s : Nat → Int32) (y1 : Nat) (h : Nat → Int32) (u1 u2 u3 j : Nat) (b2 : Nat → Int32) (e2 : Nat → Int32) (s2 : Nat → Int32) (a x k : Int32) (hn : n ≤ 60) (hm : m ≤ 12) (hj : j ≤ 10) (hv : v ≤ 300) : zX G yX4_insert wsX4_insert ({ frames := 8, cells := 4, slots := 24, locals := 134 }) [.ref d0, .int a, .int x, .int k] [(d0, .inr (4, [.ref t0, .ref r0, .ref q0, .ref y0, .ref d1, .int o, .int (nI v), .ref u0, .ref d2, .ref d3, .ref d4])), (y0, .inr (0, [.ref y1])), (y1, eI G 3600 h), (r0, .inr (2, [.ref r1, .ref r2, .ref r3, .int (nI m)])), (r1, eI G 12 b), (r2, eI G 12 e), (r3, eI G 12 s), (u0, .inr (2, [.ref u1, .ref u2, .ref u3, .int (nI j)])), (u1, eI G 12 b2), (u2, eI G 12 e2), (u3, eI G 12 s2), (t0, .inr (3, [.ref t1, .ref t2, .int (nI n)])), (t1, eI G 60 f), (t2, eI G 60 g)] [(d0, .inr (4, [.ref t0, .ref r0, .ref q0, .ref y0, .ref d1, .int o, .int (nI (v + 1)), .ref u0, .ref d2, .ref d3, .ref d4])), (y0, .inr (0, [.ref y1])), (y1, eI G 3600 (wrF h (v * 12) 12 (fun kk => if kk < m then numF (b kk) (e kk) else -1))), (r0, .inr (2, [.ref r1, .ref r2, .ref r3, .int (nI m)])), (r1, eI G 12 (mpF m (insB (nI a.toNatClampNeg) (nI k.toNatClampNeg) b s) b)), (r2, eI G 12 (mpF m (insE (nI a.toNatClampNeg) (nI k.toNatClampNeg) b e s) e)), (r3, eI G 12 s), (u0, .inr (2, [.ref u1, .ref u2, .ref u3, .int (nI j)])), (u1, eI G 12 (mpF j (insB (nI a.toNatClampNeg) (nI k.toNatClampNeg) b2 s2) b2)), (u2, eI G 12 (mpF j (insE (nI a.toNatClampNeg) (nI k.toNatClampNeg) b2 e2 s2) e2)), (u3, eI G 12 s2), (t0, .inr (3, [.ref t1, .ref t2, .int (nI (n + k.toNatClampNeg))])), (t1, eI G 60 (filF (va_cpy f f a.toNatClampNeg (a.toNatClampNeg + k.toNatClampNeg) (n - a.toNatClampNeg)) a.toNatClampNeg (a.toNatClampNeg + k.toNatClampNeg) x)), (t2, eI G 60 (mrkF (filF (va_cpy g g a.toNatClampNeg (a.toNatClampNeg + k.toNatClampNeg) (n - a.toNatClampNeg)) a.toNatClampNeg (a.toNatClampNeg + k.toNatClampNeg) (nI 0)) a.toNatClampNeg (a.toNatClampNeg + k.toNatClampNeg) (covF (mpF m (insB (nI a.toNatClampNeg) (nI k.toNatClampNeg) b s) b) (mpF m (insE (nI a.toNatClampNeg) (nI k.toNatClampNeg) b e s) e) m (nI a.toNatClampNeg))))] (fz (plC n a) (fz (amC x (nI 0) (nI 25)) (fz (amC k (nI 1) (nI 10)) (roC n v k (nI 1))))) (some (.int (nI (n + k.toNatClampNeg)))) 4 24 := by
  refine zX.ofI (own := RX4) (cc := cX4_insert) (maxL := 4) rfl (by decide) rfl rfl (by simp [Value.category]) (Nat.le_of_ble_eq_true rfl) ?_
  intro X hF hZ hR
  have k_0 : ∀ w ∈ wsX40, w ∈ wsX4_insert := by decide +kernel
  have k_1 : zH X (.fieldLink RX4 10 "MarginDesk" "text" "LMarginDesk$Text;") := hF.w (by decide +kernel)
  have k_2 : ∀ w ∈ wsX30, w ∈ wsX4_insert := by decide +kernel
  have k_3 : zH X (.fieldLinkNest RX4 78 "MarginDesk$Text" "size" "I" RX4) := hF.nf (List.mem_of_getElem? (i := 2) rfl)
  refine z_lv (lv' := [some (.ref d0), some (.int a), some (.int x), some (.int k)]) rfl ?_
  refine z_aload_n hF dX4_insert_0 rfl ?_
  refine z_iload_n hF dX4_insert_1 rfl ?_
  refine z_Vx (As := [.int a]) (rest := []) (ws' := [(d0, .inr (4, [.ref t0, .ref r0, .ref q0, .ref y0, .ref d1, .int o, .int (nI v), .ref u0, .ref d2, .ref d3, .ref d4])), (y0, .inr (0, [.ref y1])), (y1, eI G 3600 h), (r0, .inr (2, [.ref r1, .ref r2, .ref r3, .int (nI m)])), (r1, eI G 12 b), (r2, eI G 12 e), (r3, eI G 12 s), (u0, .inr (2, [.ref u1, .ref u2, .ref u3, .int (nI j)])), (u1, eI G 12 b2), (u2, eI G 12 e2), (u3, eI G 12 s2), (t0, .inr (3, [.ref t1, .ref t2, .int (nI n)])), (t1, eI G 60 f), (t2, eI G 60 g)]) (st2 := []) (c2 := 1) (s2 := 6) hF (c_X4_checkPlace G d0 t0 r0 q0 y0 d1 u0 d2 d3 d4 v o t1 t2 n a) gX4_insert_X4_checkPlace rfl rfl rfl hd_X4_checkPlace ⟨⟨Nat.le_of_ble_eq_true rfl, Nat.le_of_ble_eq_true rfl⟩, ⟨Nat.le_of_ble_eq_true rfl, Nat.le_of_ble_eq_true rfl⟩, Nat.le_of_ble_eq_true rfl⟩ [0, 11] rfl rfl 0 rfl rfl rfl rfl rfl rfl rfl rfl rfl rfl rfl rfl dX4_insert_2 (fun h1 => hZ.x (Nat.le_of_ble_eq_true rfl) (Nat.le_of_ble_eq_true rfl) (fun _ => by simp [fz, *]) h1 rfl) (fun h1 => ?_)
  refine z_aload_n hF dX4_insert_5 rfl ?_
  refine z_iload_n hF dX4_insert_6 rfl ?_
  refine z_Vx (As := [.int x]) (rest := []) (ws' := [(d0, .inr (4, [.ref t0, .ref r0, .ref q0, .ref y0, .ref d1, .int o, .int (nI v), .ref u0, .ref d2, .ref d3, .ref d4])), (y0, .inr (0, [.ref y1])), (y1, eI G 3600 h), (r0, .inr (2, [.ref r1, .ref r2, .ref r3, .int (nI m)])), (r1, eI G 12 b), (r2, eI G 12 e), (r3, eI G 12 s), (u0, .inr (2, [.ref u1, .ref u2, .ref u3, .int (nI j)])), (u1, eI G 12 b2), (u2, eI G 12 e2), (u3, eI G 12 s2), (t0, .inr (3, [.ref t1, .ref t2, .int (nI n)])), (t1, eI G 60 f), (t2, eI G 60 g)]) (st2 := []) (c2 := 2) (s2 := 12) hF (c_X4_checkLetter G d0 t0 r0 q0 y0 d1 u0 d2 d3 d4 v o x) gX4_insert_X4_checkLetter rfl rfl rfl hd_X4_checkLetter ⟨⟨Nat.le_of_ble_eq_true rfl, Nat.le_of_ble_eq_true rfl⟩, ⟨Nat.le_of_ble_eq_true rfl, Nat.le_of_ble_eq_true rfl⟩, Nat.le_of_ble_eq_true rfl⟩ [0] rfl rfl 0 rfl rfl rfl rfl rfl rfl rfl rfl rfl rfl rfl rfl dX4_insert_7 (fun h2 => hZ.x (Nat.le_of_ble_eq_true rfl) (Nat.le_of_ble_eq_true rfl) (fun _ => by simp [fz, *]) h2 rfl) (fun h2 => ?_)
  refine z_aload_n hF dX4_insert_10 rfl ?_
  refine z_iload_n hF dX4_insert_11 rfl ?_
  refine z_iconst (v := nI 1) hF dX4_insert_12 (by decide) ?_
  refine z_bipush (v := nI 10) hF dX4_insert_13 (by decide) ?_
  refine z_Vx (As := [.int k, .int (nI 1), .int (nI 10)]) (rest := []) (ws' := [(d0, .inr (4, [.ref t0, .ref r0, .ref q0, .ref y0, .ref d1, .int o, .int (nI v), .ref u0, .ref d2, .ref d3, .ref d4])), (y0, .inr (0, [.ref y1])), (y1, eI G 3600 h), (r0, .inr (2, [.ref r1, .ref r2, .ref r3, .int (nI m)])), (r1, eI G 12 b), (r2, eI G 12 e), (r3, eI G 12 s), (u0, .inr (2, [.ref u1, .ref u2, .ref u3, .int (nI j)])), (u1, eI G 12 b2), (u2, eI G 12 e2), (u3, eI G 12 s2), (t0, .inr (3, [.ref t1, .ref t2, .int (nI n)])), (t1, eI G 60 f), (t2, eI G 60 g)]) (st2 := []) (c2 := 3) (s2 := 18) hF (c_X4_checkAmong G d0 t0 r0 q0 y0 d1 u0 d2 d3 d4 v o k (nI 1) (nI 10)) gX4_insert_X4_checkAmong rfl rfl rfl hd_X4_checkAmong ⟨⟨Nat.le_of_ble_eq_true rfl, Nat.le_of_ble_eq_true rfl⟩, ⟨Nat.le_of_ble_eq_true rfl, Nat.le_of_ble_eq_true rfl⟩, Nat.le_of_ble_eq_true rfl⟩ [0] rfl rfl 0 rfl rfl rfl rfl rfl rfl rfl rfl rfl rfl rfl rfl dX4_insert_15 (fun h3 => hZ.x (Nat.le_of_ble_eq_true rfl) (Nat.le_of_ble_eq_true rfl) (fun _ => by simp [fz, *]) h3 rfl) (fun h3 => ?_)
  refine z_aload_n hF dX4_insert_18 rfl ?_
  refine z_iload_n hF dX4_insert_19 rfl ?_
  refine z_iconst (v := nI 1) hF dX4_insert_20 (by decide) ?_
  refine z_Vx (As := [.int k, .int (nI 1)]) (rest := []) (ws' := [(d0, .inr (4, [.ref t0, .ref r0, .ref q0, .ref y0, .ref d1, .int o, .int (nI v), .ref u0, .ref d2, .ref d3, .ref d4])), (y0, .inr (0, [.ref y1])), (y1, eI G 3600 h), (r0, .inr (2, [.ref r1, .ref r2, .ref r3, .int (nI m)])), (r1, eI G 12 b), (r2, eI G 12 e), (r3, eI G 12 s), (u0, .inr (2, [.ref u1, .ref u2, .ref u3, .int (nI j)])), (u1, eI G 12 b2), (u2, eI G 12 e2), (u3, eI G 12 s2), (t0, .inr (3, [.ref t1, .ref t2, .int (nI n)])), (t1, eI G 60 f), (t2, eI G 60 g)]) (st2 := []) (c2 := 4) (s2 := 24) hF (c_X4_checkRoom G d0 t0 r0 q0 y0 d1 u0 d2 d3 d4 v o t1 t2 n k (nI 1)) gX4_insert_X4_checkRoom rfl rfl rfl hd_X4_checkRoom ⟨⟨Nat.le_of_ble_eq_true rfl, Nat.le_of_ble_eq_true rfl⟩, ⟨Nat.le_of_ble_eq_true rfl, Nat.le_of_ble_eq_true rfl⟩, Nat.le_of_ble_eq_true rfl⟩ [0, 11] rfl rfl 0 rfl rfl rfl rfl rfl rfl rfl rfl rfl rfl rfl rfl dX4_insert_21 (fun h4 => hZ.x (Nat.le_of_ble_eq_true rfl) (Nat.le_of_ble_eq_true rfl) (fun _ => by simp [fz, *]) h4 rfl) (fun h4 => ?_)
  have ha := plC_0 (by omega) h1
  have hk := amC_0 (a := 1) (b := 10) (by omega) (by omega) h3
  have hr := roC_0 (n := n) (v := v) (k := k.toNatClampNeg) (d := 1) (by omega) (by omega) (by omega) (by omega) (by rw [← hk.1]; exact h4)
  refine z_lv (lv' := [some (.ref d0), some (.int (nI a.toNatClampNeg)), some (.int x), some (.int k)]) (by rw [← ha.1]) ?_
  refine z_lv (lv' := [some (.ref d0), some (.int (nI a.toNatClampNeg)), some (.int x), some (.int (nI k.toNatClampNeg))]) (by rw [← hk.1]) ?_
  refine z_aload_n hF dX4_insert_24 rfl ?_
  refine z_iload_n hF dX4_insert_25 rfl ?_
  refine z_iload_n hF dX4_insert_26 rfl ?_
  refine z_iload_n hF dX4_insert_27 rfl ?_
  refine z_V (As := [.int (nI a.toNatClampNeg), .int x, .int (nI k.toNatClampNeg)]) (rest := []) (ws' := [(d0, .inr (4, [.ref t0, .ref r0, .ref q0, .ref y0, .ref d1, .int o, .int (nI (v + 1)), .ref u0, .ref d2, .ref d3, .ref d4])), (y0, .inr (0, [.ref y1])), (y1, eI G 3600 (wrF h (v * 12) 12 (fun kk => if kk < m then numF (b kk) (e kk) else -1))), (r0, .inr (2, [.ref r1, .ref r2, .ref r3, .int (nI m)])), (r1, eI G 12 (mpF m (insB (nI a.toNatClampNeg) (nI k.toNatClampNeg) b s) b)), (r2, eI G 12 (mpF m (insE (nI a.toNatClampNeg) (nI k.toNatClampNeg) b e s) e)), (r3, eI G 12 s), (u0, .inr (2, [.ref u1, .ref u2, .ref u3, .int (nI j)])), (u1, eI G 12 (mpF j (insB (nI a.toNatClampNeg) (nI k.toNatClampNeg) b2 s2) b2)), (u2, eI G 12 (mpF j (insE (nI a.toNatClampNeg) (nI k.toNatClampNeg) b2 e2 s2) e2)), (u3, eI G 12 s2), (t0, .inr (3, [.ref t1, .ref t2, .int (nI (n + k.toNatClampNeg))])), (t1, eI G 60 (filF (va_cpy f f a.toNatClampNeg (a.toNatClampNeg + k.toNatClampNeg) (n - a.toNatClampNeg)) a.toNatClampNeg (a.toNatClampNeg + k.toNatClampNeg) x)), (t2, eI G 60 (mrkF (filF (va_cpy g g a.toNatClampNeg (a.toNatClampNeg + k.toNatClampNeg) (n - a.toNatClampNeg)) a.toNatClampNeg (a.toNatClampNeg + k.toNatClampNeg) (nI 0)) a.toNatClampNeg (a.toNatClampNeg + k.toNatClampNeg) (covF (mpF m (insB (nI a.toNatClampNeg) (nI k.toNatClampNeg) b s) b) (mpF m (insE (nI a.toNatClampNeg) (nI k.toNatClampNeg) b e s) e) m (nI a.toNatClampNeg))))]) (st2 := []) (c2 := 4) (s2 := 24) hF (c_X4_putLettersIn G d0 t0 r0 q0 y0 d1 u0 d2 d3 d4 v o t1 t2 n f g r1 r2 r3 m b e s y1 h u1 u2 u3 j b2 e2 s2 a.toNatClampNeg k.toNatClampNeg x (by first | assumption | omega) (by first | assumption | omega) (by first | assumption | omega) (by first | assumption | omega) (by first | assumption | omega)) gX4_insert_X4_putLettersIn rfl rfl rfl hd_X4_putLettersIn ⟨⟨Nat.le_of_ble_eq_true rfl, Nat.le_of_ble_eq_true rfl⟩, ⟨Nat.le_of_ble_eq_true rfl, Nat.le_of_ble_eq_true rfl⟩, Nat.le_of_ble_eq_true rfl⟩ [0, 1, 2, 3, 4, 5, 6, 7, 8, 9, 10, 11, 12, 13] rfl rfl 0 rfl rfl rfl rfl rfl rfl rfl rfl rfl rfl dX4_insert_28 ?_
  refine z_aload_n hF dX4_insert_31 rfl ?_
  refine z_get (C := RX4) (T := TX4) (N := 11) (ci := 4) (v := .ref t0) hF k_0 0 (by decide) rfl k_1 rfl 0 rfl rfl dX4_insert_32 ?_
  refine z_getN (C := RX3) (T := TX3) (N := 3) (ci := 3) (v := .int (nI (n + k.toNatClampNeg))) hF k_2 2 (by decide) rfl k_3 rfl 11 rfl rfl dX4_insert_35 ?_
  exact (hR (by simp [fz, *])).i dX4_insert_38 (Nat.le_of_ble_eq_true rfl) (Nat.le_of_ble_eq_true rfl) (rfl) (rfl)
set_option maxHeartbeats 4000000 in
set_option maxRecDepth 100000 in
theorem c_X4_remove (G : zG) (d0 t0 r0 q0 y0 d1 u0 d2 d3 d4 v : Nat) (o : Int32) (t1 t2 n : Nat) (f : Nat → Int32) (g : Nat → Int32) (r1 r2 r3 m : Nat) (b : Nat → Int32) (e : Nat → Int32) (y1 : Nat) (h : Nat → Int32) (u1 u2 u3 j : Nat) (b2 : Nat → Int32) (e2 : Nat → Int32) (xs : Nat → Int32) (a k : Int32) (hn : n ≤ 60) (hm : m ≤ 12) (hj : j ≤ 10) (hv : v ≤ 300) : zX G yX4_remove wsX4_remove ({ frames := 7, cells := 3, slots := 18, locals := 121 }) [.ref d0, .int a, .int k] [(d0, .inr (4, [.ref t0, .ref r0, .ref q0, .ref y0, .ref d1, .int o, .int (nI v), .ref u0, .ref d2, .ref d3, .ref d4])), (y0, .inr (0, [.ref y1])), (y1, eI G 3600 h), (r0, .inr (2, [.ref r1, .ref r2, .ref r3, .int (nI m)])), (r1, eI G 12 b), (r2, eI G 12 e), (u0, .inr (2, [.ref u1, .ref u2, .ref u3, .int (nI j)])), (u1, eI G 12 b2), (u2, eI G 12 e2), (t0, .inr (3, [.ref t1, .ref t2, .int (nI n)])), (t1, eI G 60 f), (t2, eI G 60 g), (d4, eI G 10 xs)] [(d0, .inr (4, [.ref t0, .ref r0, .ref q0, .ref y0, .ref d1, .int o, .int (nI (v + 1)), .ref u0, .ref d2, .ref d3, .ref d4])), (y0, .inr (0, [.ref y1])), (y1, eI G 3600 (wrF h (v * 12) 12 (fun kk => if kk < m then numF (b kk) (e kk) else -1))), (r0, .inr (2, [.ref r1, .ref r2, .ref r3, .int (nI m)])), (r1, eI G 12 (mpF m (remB (nI a.toNatClampNeg) (nI k.toNatClampNeg) b e) b)), (r2, eI G 12 (mpF m (remE (nI a.toNatClampNeg) (nI k.toNatClampNeg) b e) e)), (u0, .inr (2, [.ref u1, .ref u2, .ref u3, .int (nI j)])), (u1, eI G 12 (mpF j (remB (nI a.toNatClampNeg) (nI k.toNatClampNeg) b2 e2) b2)), (u2, eI G 12 (mpF j (remE (nI a.toNatClampNeg) (nI k.toNatClampNeg) b2 e2) e2)), (t0, .inr (3, [.ref t1, .ref t2, .int (nI (n - k.toNatClampNeg))])), (t1, eI G 60 (va_cpy f f (a.toNatClampNeg + k.toNatClampNeg) a.toNatClampNeg (n - (a.toNatClampNeg + k.toNatClampNeg)))), (t2, eI G 60 (va_cpy g g (a.toNatClampNeg + k.toNatClampNeg) a.toNatClampNeg (n - (a.toNatClampNeg + k.toNatClampNeg)))), (d4, eI G 10 (mpF j (lgF (gonF (nI a.toNatClampNeg) (nI k.toNatClampNeg) b2 e2 j) xs) xs))] (fz (plC n a) (fz (amC k (nI 1) (nI n - a)) (roC n v (-k) (nI 1)))) (some (.int (bcF (gonF (nI a.toNatClampNeg) (nI k.toNatClampNeg) b e m)))) 3 18 := by
  refine zX.ofI (own := RX4) (cc := cX4_remove) (maxL := 3) rfl (by decide) rfl rfl (by simp [Value.category]) (Nat.le_of_ble_eq_true rfl) ?_
  intro X hF hZ hR
  have k_0 : ∀ w ∈ wsX40, w ∈ wsX4_remove := by decide +kernel
  have k_1 : zH X (.fieldLink RX4 10 "MarginDesk" "text" "LMarginDesk$Text;") := hF.w (by decide +kernel)
  have k_2 : ∀ w ∈ wsX30, w ∈ wsX4_remove := by decide +kernel
  have k_3 : zH X (.fieldLinkNest RX4 78 "MarginDesk$Text" "size" "I" RX4) := hF.nf (List.mem_of_getElem? (i := 2) rfl)
  refine z_lv (lv' := [some (.ref d0), some (.int a), some (.int k)]) rfl ?_
  refine z_aload_n hF dX4_remove_0 rfl ?_
  refine z_iload_n hF dX4_remove_1 rfl ?_
  refine z_Vx (As := [.int a]) (rest := []) (ws' := [(d0, .inr (4, [.ref t0, .ref r0, .ref q0, .ref y0, .ref d1, .int o, .int (nI v), .ref u0, .ref d2, .ref d3, .ref d4])), (y0, .inr (0, [.ref y1])), (y1, eI G 3600 h), (r0, .inr (2, [.ref r1, .ref r2, .ref r3, .int (nI m)])), (r1, eI G 12 b), (r2, eI G 12 e), (u0, .inr (2, [.ref u1, .ref u2, .ref u3, .int (nI j)])), (u1, eI G 12 b2), (u2, eI G 12 e2), (t0, .inr (3, [.ref t1, .ref t2, .int (nI n)])), (t1, eI G 60 f), (t2, eI G 60 g), (d4, eI G 10 xs)]) (st2 := []) (c2 := 1) (s2 := 6) hF (c_X4_checkPlace G d0 t0 r0 q0 y0 d1 u0 d2 d3 d4 v o t1 t2 n a) gX4_remove_X4_checkPlace rfl rfl rfl hd_X4_checkPlace ⟨⟨Nat.le_of_ble_eq_true rfl, Nat.le_of_ble_eq_true rfl⟩, ⟨Nat.le_of_ble_eq_true rfl, Nat.le_of_ble_eq_true rfl⟩, Nat.le_of_ble_eq_true rfl⟩ [0, 9] rfl rfl 0 rfl rfl rfl rfl rfl rfl rfl rfl rfl rfl rfl rfl dX4_remove_2 (fun h1 => hZ.x (Nat.le_of_ble_eq_true rfl) (Nat.le_of_ble_eq_true rfl) (fun _ => by simp [fz, *]) h1 rfl) (fun h1 => ?_)
  refine z_aload_n hF dX4_remove_5 rfl ?_
  refine z_iload_n hF dX4_remove_6 rfl ?_
  refine z_iconst (v := nI 1) hF dX4_remove_7 (by decide) ?_
  refine z_aload_n hF dX4_remove_8 rfl ?_
  refine z_get (C := RX4) (T := TX4) (N := 11) (ci := 4) (v := .ref t0) hF k_0 0 (by decide) rfl k_1 rfl 0 rfl rfl dX4_remove_9 ?_
  refine z_getN (C := RX3) (T := TX3) (N := 3) (ci := 3) (v := .int (nI n)) hF k_2 2 (by decide) rfl k_3 rfl 9 rfl rfl dX4_remove_12 ?_
  refine z_iload_n hF dX4_remove_15 rfl ?_
  refine z_isub hF dX4_remove_16 ?_
  refine z_Vx (As := [.int k, .int (nI 1), .int ((nI n) - a)]) (rest := []) (ws' := [(d0, .inr (4, [.ref t0, .ref r0, .ref q0, .ref y0, .ref d1, .int o, .int (nI v), .ref u0, .ref d2, .ref d3, .ref d4])), (y0, .inr (0, [.ref y1])), (y1, eI G 3600 h), (r0, .inr (2, [.ref r1, .ref r2, .ref r3, .int (nI m)])), (r1, eI G 12 b), (r2, eI G 12 e), (u0, .inr (2, [.ref u1, .ref u2, .ref u3, .int (nI j)])), (u1, eI G 12 b2), (u2, eI G 12 e2), (t0, .inr (3, [.ref t1, .ref t2, .int (nI n)])), (t1, eI G 60 f), (t2, eI G 60 g), (d4, eI G 10 xs)]) (st2 := []) (c2 := 2) (s2 := 12) hF (c_X4_checkAmong G d0 t0 r0 q0 y0 d1 u0 d2 d3 d4 v o k (nI 1) ((nI n) - a)) gX4_remove_X4_checkAmong rfl rfl rfl hd_X4_checkAmong ⟨⟨Nat.le_of_ble_eq_true rfl, Nat.le_of_ble_eq_true rfl⟩, ⟨Nat.le_of_ble_eq_true rfl, Nat.le_of_ble_eq_true rfl⟩, Nat.le_of_ble_eq_true rfl⟩ [0] rfl rfl 0 rfl rfl rfl rfl rfl rfl rfl rfl rfl rfl rfl rfl dX4_remove_17 (fun h2 => hZ.x (Nat.le_of_ble_eq_true rfl) (Nat.le_of_ble_eq_true rfl) (fun _ => by simp [fz, *]) h2 rfl) (fun h2 => ?_)
  refine z_aload_n hF dX4_remove_20 rfl ?_
  refine z_iload_n hF dX4_remove_21 rfl ?_
  refine z_ineg hF dX4_remove_22 ?_
  refine z_iconst (v := nI 1) hF dX4_remove_23 (by decide) ?_
  refine z_Vx (As := [.int (-k), .int (nI 1)]) (rest := []) (ws' := [(d0, .inr (4, [.ref t0, .ref r0, .ref q0, .ref y0, .ref d1, .int o, .int (nI v), .ref u0, .ref d2, .ref d3, .ref d4])), (y0, .inr (0, [.ref y1])), (y1, eI G 3600 h), (r0, .inr (2, [.ref r1, .ref r2, .ref r3, .int (nI m)])), (r1, eI G 12 b), (r2, eI G 12 e), (u0, .inr (2, [.ref u1, .ref u2, .ref u3, .int (nI j)])), (u1, eI G 12 b2), (u2, eI G 12 e2), (t0, .inr (3, [.ref t1, .ref t2, .int (nI n)])), (t1, eI G 60 f), (t2, eI G 60 g), (d4, eI G 10 xs)]) (st2 := []) (c2 := 3) (s2 := 18) hF (c_X4_checkRoom G d0 t0 r0 q0 y0 d1 u0 d2 d3 d4 v o t1 t2 n (-k) (nI 1)) gX4_remove_X4_checkRoom rfl rfl rfl hd_X4_checkRoom ⟨⟨Nat.le_of_ble_eq_true rfl, Nat.le_of_ble_eq_true rfl⟩, ⟨Nat.le_of_ble_eq_true rfl, Nat.le_of_ble_eq_true rfl⟩, Nat.le_of_ble_eq_true rfl⟩ [0, 9] rfl rfl 0 rfl rfl rfl rfl rfl rfl rfl rfl rfl rfl rfl rfl dX4_remove_24 (fun h3 => hZ.x (Nat.le_of_ble_eq_true rfl) (Nat.le_of_ble_eq_true rfl) (fun _ => by simp [fz, *]) h3 rfl) (fun h3 => ?_)
  have ha := plC_0 (by omega) h1
  have hk := amC_0 (a := 1) (b := n - a.toNatClampNeg) (by omega) (by omega) (by rw [← nsubA ha]; exact h2)
  have hr := roC_v (by omega) (by omega) h3
  refine z_lv (lv' := [some (.ref d0), some (.int (nI a.toNatClampNeg)), some (.int k)]) (by rw [← ha.1]) ?_
  refine z_lv (lv' := [some (.ref d0), some (.int (nI a.toNatClampNeg)), some (.int (nI k.toNatClampNeg))]) (by rw [← hk.1]) ?_
  refine z_aload_n hF dX4_remove_27 rfl ?_
  refine z_iload_n hF dX4_remove_28 rfl ?_
  refine z_iload_n hF dX4_remove_29 rfl ?_
  refine z_V (As := [.int (nI a.toNatClampNeg), .int (nI k.toNatClampNeg)]) (rest := []) (ws' := [(d0, .inr (4, [.ref t0, .ref r0, .ref q0, .ref y0, .ref d1, .int o, .int (nI (v + 1)), .ref u0, .ref d2, .ref d3, .ref d4])), (y0, .inr (0, [.ref y1])), (y1, eI G 3600 (wrF h (v * 12) 12 (fun kk => if kk < m then numF (b kk) (e kk) else -1))), (r0, .inr (2, [.ref r1, .ref r2, .ref r3, .int (nI m)])), (r1, eI G 12 (mpF m (remB (nI a.toNatClampNeg) (nI k.toNatClampNeg) b e) b)), (r2, eI G 12 (mpF m (remE (nI a.toNatClampNeg) (nI k.toNatClampNeg) b e) e)), (u0, .inr (2, [.ref u1, .ref u2, .ref u3, .int (nI j)])), (u1, eI G 12 (mpF j (remB (nI a.toNatClampNeg) (nI k.toNatClampNeg) b2 e2) b2)), (u2, eI G 12 (mpF j (remE (nI a.toNatClampNeg) (nI k.toNatClampNeg) b2 e2) e2)), (t0, .inr (3, [.ref t1, .ref t2, .int (nI (n - k.toNatClampNeg))])), (t1, eI G 60 (va_cpy f f (a.toNatClampNeg + k.toNatClampNeg) a.toNatClampNeg (n - (a.toNatClampNeg + k.toNatClampNeg)))), (t2, eI G 60 (va_cpy g g (a.toNatClampNeg + k.toNatClampNeg) a.toNatClampNeg (n - (a.toNatClampNeg + k.toNatClampNeg)))), (d4, eI G 10 (mpF j (lgF (gonF (nI a.toNatClampNeg) (nI k.toNatClampNeg) b2 e2 j) xs) xs))]) (st2 := [.int (bcF (gonF (nI a.toNatClampNeg) (nI k.toNatClampNeg) b e m))]) (c2 := 3) (s2 := 18) hF (c_X4_takeLettersOut G d0 t0 r0 q0 y0 d1 u0 d2 d3 d4 v o t1 t2 n f g r1 r2 r3 m b e y1 h u1 u2 u3 j b2 e2 xs a.toNatClampNeg k.toNatClampNeg (by first | assumption | omega) (by first | assumption | omega) (by first | assumption | omega) (by first | assumption | omega) (by first | assumption | omega)) gX4_remove_X4_takeLettersOut rfl rfl rfl hd_X4_takeLettersOut ⟨⟨Nat.le_of_ble_eq_true rfl, Nat.le_of_ble_eq_true rfl⟩, ⟨Nat.le_of_ble_eq_true rfl, Nat.le_of_ble_eq_true rfl⟩, Nat.le_of_ble_eq_true rfl⟩ [0, 1, 2, 3, 4, 5, 6, 7, 8, 9, 10, 11, 12] rfl rfl 0 rfl rfl rfl rfl rfl rfl rfl rfl rfl rfl dX4_remove_30 ?_
  exact (hR (by simp [fz, *])).i dX4_remove_33 (Nat.le_of_ble_eq_true rfl) (Nat.le_of_ble_eq_true rfl) (rfl) (rfl)
set_option maxHeartbeats 4000000 in
set_option maxRecDepth 100000 in
theorem c_X4_length (G : zG) (d0 t0 r0 q0 y0 d1 u0 d2 d3 d4 v : Nat) (o : Int32) (t1 t2 n : Nat)  : zM G yX4_length wsX4_length ({ frames := 0, cells := 0, slots := 0, locals := 12 }) [.ref d0] [(d0, .inr (4, [.ref t0, .ref r0, .ref q0, .ref y0, .ref d1, .int o, .int (nI v), .ref u0, .ref d2, .ref d3, .ref d4])), (t0, .inr (3, [.ref t1, .ref t2, .int (nI n)]))] [(d0, .inr (4, [.ref t0, .ref r0, .ref q0, .ref y0, .ref d1, .int o, .int (nI v), .ref u0, .ref d2, .ref d3, .ref d4])), (t0, .inr (3, [.ref t1, .ref t2, .int (nI n)]))] (some (.int (nI n))) 0 0 := by
  refine zM.ofI (own := RX4) (cc := cX4_length) (maxL := 1) rfl (by decide) rfl rfl (by simp [Value.category]) (Nat.le_of_ble_eq_true rfl) ?_
  intro X hF hR
  have k_0 : ∀ w ∈ wsX40, w ∈ wsX4_length := by decide +kernel
  have k_1 : zH X (.fieldLink RX4 10 "MarginDesk" "text" "LMarginDesk$Text;") := hF.w (by decide +kernel)
  have k_2 : ∀ w ∈ wsX30, w ∈ wsX4_length := by decide +kernel
  have k_3 : zH X (.fieldLinkNest RX4 78 "MarginDesk$Text" "size" "I" RX4) := hF.nf (List.mem_of_getElem? (i := 2) rfl)
  refine z_lv (lv' := [some (.ref d0)]) rfl ?_
  refine z_aload_n hF dX4_length_0 rfl ?_
  refine z_get (C := RX4) (T := TX4) (N := 11) (ci := 4) (v := .ref t0) hF k_0 0 (by decide) rfl k_1 rfl 0 rfl rfl dX4_length_1 ?_
  refine z_getN (C := RX3) (T := TX3) (N := 3) (ci := 3) (v := .int (nI n)) hF k_2 2 (by decide) rfl k_3 rfl 1 rfl rfl dX4_length_4 ?_
  exact hR.i dX4_length_7 (Nat.le_of_ble_eq_true rfl) (Nat.le_of_ble_eq_true rfl) (rfl) (rfl)
set_option maxHeartbeats 4000000 in
set_option maxRecDepth 100000 in
theorem c_X4_letterAt (G : zG) (d0 t0 r0 q0 y0 d1 u0 d2 d3 d4 v : Nat) (o : Int32) (t1 t2 n : Nat) (f : Nat → Int32) (a : Int32) (hn : n ≤ 60) : zX G yX4_letterAt wsX4_letterAt ({ frames := 7, cells := 1, slots := 6, locals := 111 }) [.ref d0, .int a] [(d0, .inr (4, [.ref t0, .ref r0, .ref q0, .ref y0, .ref d1, .int o, .int (nI v), .ref u0, .ref d2, .ref d3, .ref d4])), (t0, .inr (3, [.ref t1, .ref t2, .int (nI n)])), (t1, eI G 60 f)] [(d0, .inr (4, [.ref t0, .ref r0, .ref q0, .ref y0, .ref d1, .int o, .int (nI v), .ref u0, .ref d2, .ref d3, .ref d4])), (t0, .inr (3, [.ref t1, .ref t2, .int (nI n)])), (t1, eI G 60 f)] (plC n a) (some (.int (letF n f a))) 1 6 := by
  refine zX.ofI (own := RX4) (cc := cX4_letterAt) (maxL := 2) rfl (by decide) rfl rfl (by simp [Value.category]) (Nat.le_of_ble_eq_true rfl) ?_
  intro X hF hZ hR
  have k_0 : ∀ w ∈ wsX40, w ∈ wsX4_letterAt := by decide +kernel
  have k_1 : zH X (.fieldLink RX4 10 "MarginDesk" "text" "LMarginDesk$Text;") := hF.w (by decide +kernel)
  have k_2 : zH X (.initialized RX3) := hF.w (by decide +kernel)
  have k_3 : zH X (.instanceMethod yX3_letterBehind) := hF.w (by decide +kernel)
  have k_4 : zH X (.selects RX3 yX3_letterBehind yX3_letterBehind) := hF.w (by decide +kernel)
  refine z_lv (lv' := [some (.ref d0), some (.int a)]) rfl ?_
  refine z_aload_n hF dX4_letterAt_0 rfl ?_
  refine z_iload_n hF dX4_letterAt_1 rfl ?_
  refine z_Vx (As := [.int a]) (rest := []) (ws' := [(d0, .inr (4, [.ref t0, .ref r0, .ref q0, .ref y0, .ref d1, .int o, .int (nI v), .ref u0, .ref d2, .ref d3, .ref d4])), (t0, .inr (3, [.ref t1, .ref t2, .int (nI n)])), (t1, eI G 60 f)]) (st2 := []) (c2 := 1) (s2 := 6) hF (c_X4_checkPlace G d0 t0 r0 q0 y0 d1 u0 d2 d3 d4 v o t1 t2 n a) gX4_letterAt_X4_checkPlace rfl rfl rfl hd_X4_checkPlace ⟨⟨Nat.le_of_ble_eq_true rfl, Nat.le_of_ble_eq_true rfl⟩, ⟨Nat.le_of_ble_eq_true rfl, Nat.le_of_ble_eq_true rfl⟩, Nat.le_of_ble_eq_true rfl⟩ [0, 1] rfl rfl 0 rfl rfl rfl rfl rfl rfl rfl rfl rfl rfl rfl rfl dX4_letterAt_2 (fun c_1 => hZ.x (Nat.le_of_ble_eq_true rfl) (Nat.le_of_ble_eq_true rfl) (fun _ => by simp [fz, *]) c_1 rfl) (fun c_1 => ?_)
  refine z_aload_n hF dX4_letterAt_5 rfl ?_
  refine z_get (C := RX4) (T := TX4) (N := 11) (ci := 4) (v := .ref t0) hF k_0 0 (by decide) rfl k_1 rfl 0 rfl rfl dX4_letterAt_6 ?_
  refine z_iload_n hF dX4_letterAt_9 rfl ?_
  refine z_VN (As := [.int a]) (rest := []) (ws' := [(d0, .inr (4, [.ref t0, .ref r0, .ref q0, .ref y0, .ref d1, .int o, .int (nI v), .ref u0, .ref d2, .ref d3, .ref d4])), (t0, .inr (3, [.ref t1, .ref t2, .int (nI n)])), (t1, eI G 60 f)]) (st2 := [.int (letF n f a)]) (c2 := 1) (s2 := 6) hF (c_X3_letterBehind G t0 t1 t2 n f a (by first | assumption | omega)) ggX4_letterAt_X3_letterBehind (List.mem_of_getElem? (i := 14) rfl) k_2 k_3 k_4 rfl rfl rfl hs_X3_letterBehind ⟨⟨Nat.le_of_ble_eq_true rfl, Nat.le_of_ble_eq_true rfl⟩, ⟨Nat.le_of_ble_eq_true rfl, Nat.le_of_ble_eq_true rfl⟩, Nat.le_of_ble_eq_true rfl⟩ [1, 2] rfl rfl 0 rfl rfl rfl rfl rfl rfl rfl rfl rfl rfl dX4_letterAt_10 ?_
  exact (hR (by simp [fz, *])).i dX4_letterAt_13 (Nat.le_of_ble_eq_true rfl) (Nat.le_of_ble_eq_true rfl) (rfl) (rfl)
set_option maxHeartbeats 4000000 in
set_option maxRecDepth 100000 in
theorem c_X4_version (G : zG) (d0 t0 r0 q0 y0 d1 u0 d2 d3 d4 v : Nat) (o : Int32)  : zM G yX4_version wsX4_version ({ frames := 0, cells := 0, slots := 0, locals := 12 }) [.ref d0] [(d0, .inr (4, [.ref t0, .ref r0, .ref q0, .ref y0, .ref d1, .int o, .int (nI v), .ref u0, .ref d2, .ref d3, .ref d4]))] [(d0, .inr (4, [.ref t0, .ref r0, .ref q0, .ref y0, .ref d1, .int o, .int (nI v), .ref u0, .ref d2, .ref d3, .ref d4]))] (some (.int (nI v))) 0 0 := by
  refine zM.ofI (own := RX4) (cc := cX4_version) (maxL := 1) rfl (by decide) rfl rfl (by simp [Value.category]) (Nat.le_of_ble_eq_true rfl) ?_
  intro X hF hR
  have k_0 : ∀ w ∈ wsX40, w ∈ wsX4_version := by decide +kernel
  have k_1 : zH X (.fieldLink RX4 45 "MarginDesk" "edits" "I") := hF.w (by decide +kernel)
  refine z_lv (lv' := [some (.ref d0)]) rfl ?_
  refine z_aload_n hF dX4_version_0 rfl ?_
  refine z_get (C := RX4) (T := TX4) (N := 11) (ci := 4) (v := .int (nI v)) hF k_0 6 (by decide) rfl k_1 rfl 0 rfl rfl dX4_version_1 ?_
  exact hR.i dX4_version_4 (Nat.le_of_ble_eq_true rfl) (Nat.le_of_ble_eq_true rfl) (rfl) (rfl)
set_option maxHeartbeats 4000000 in
set_option maxRecDepth 100000 in
theorem c_X4_comment (G : zG) (d0 t0 r0 q0 y0 d1 u0 d2 d3 d4 v : Nat) (o : Int32) (t1 t2 n : Nat) (f : Nat → Int32) (g : Nat → Int32) (r1 r2 r3 m : Nat) (b : Nat → Int32) (e : Nat → Int32) (s : Nat → Int32) (q1 q2 q3 q4 : Nat) (ql : Nat → Int32) (qs : Nat → Int32) (qa : Nat → Int32) (qb : Nat → Int32) (a k l : Int32) (hn : n ≤ 60) (hm : m ≤ 12) : zX G yX4_comment wsX4_comment ({ frames := 8, cells := 5, slots := 30, locals := 133 }) [.ref d0, .int a, .int k, .int l] [(d0, .inr (4, [.ref t0, .ref r0, .ref q0, .ref y0, .ref d1, .int o, .int (nI v), .ref u0, .ref d2, .ref d3, .ref d4])), (t0, .inr (3, [.ref t1, .ref t2, .int (nI n)])), (t1, eI G 60 f), (t2, eI G 60 g), (r0, .inr (2, [.ref r1, .ref r2, .ref r3, .int (nI m)])), (r1, eI G 12 b), (r2, eI G 12 e), (r3, eI G 12 s), (q0, .inr (1, [.ref q1, .ref q2, .ref q3, .ref q4])), (q1, eI G 720 ql), (q2, eI G 12 qs), (q3, eI G 12 qa), (q4, eI G 12 qb)] [(d0, .inr (4, [.ref t0, .ref r0, .ref q0, .ref y0, .ref d1, .int (o ||| bitF (nI m)), .int (nI v), .ref u0, .ref d2, .ref d3, .ref d4])), (t0, .inr (3, [.ref t1, .ref t2, .int (nI n)])), (t1, eI G 60 f), (t2, eI G 60 (mrkF g a.toNatClampNeg k.toNatClampNeg (bitF (nI m)))), (r0, .inr (2, [.ref r1, .ref r2, .ref r3, .int (nI (m + 1))])), (r1, eI G 12 (upd b m a)), (r2, eI G 12 (upd e m k)), (r3, eI G 12 (upd s m l)), (q0, .inr (1, [.ref q1, .ref q2, .ref q3, .ref q4])), (q1, eI G 720 (va_cpy f ql a.toNatClampNeg (m * 60) (k.toNatClampNeg - a.toNatClampNeg))), (q2, eI G 12 (upd qs m (nI (k.toNatClampNeg - a.toNatClampNeg)))), (q3, eI G 12 (upd qa m (letF n f (nI a.toNatClampNeg - nI 1)))), (q4, eI G 12 (upd qb m (letF n f (nI k.toNatClampNeg))))] (fz (rgC n a k) (fz (amC l (nI 0) (nI 3)) (if m < 12 then 0 else 3))) (some (.int (nI m))) 5 30 := by
  refine zX.ofI (own := RX4) (cc := cX4_comment) (maxL := 5) rfl (by decide) rfl rfl (by simp [Value.category]) (Nat.le_of_ble_eq_true rfl) ?_
  intro X hF hZ hR
  have k_0 : ∀ w ∈ wsX40, w ∈ wsX4_comment := by decide +kernel
  have k_1 : zH X (.fieldLink RX4 19 "MarginDesk" "commentRanges" "LMarginDesk$Ranges;") := hF.w (by decide +kernel)
  have k_2 : ∀ w ∈ wsX20, w ∈ wsX4_comment := by decide +kernel
  have k_3 : zH X (.fieldLinkNest RX4 92 "MarginDesk$Ranges" "count" "I" RX4) := hF.nf (List.mem_of_getElem? (i := 3) rfl)
  have k_4 : zH X (.initialized RX2) := hF.w (by decide +kernel)
  have k_5 : zH X (.instanceMethod yX2_add) := hF.w (by decide +kernel)
  have k_6 : zH X (.selects RX2 yX2_add yX2_add) := hF.w (by decide +kernel)
  have k_7 : zH X (.fieldLink RX4 26 "MarginDesk" "quotes" "LMarginDesk$Quotes;") := hF.w (by decide +kernel)
  have k_8 : zH X (.fieldLink RX4 10 "MarginDesk" "text" "LMarginDesk$Text;") := hF.w (by decide +kernel)
  have k_9 : zH X (.initialized RX1) := hF.w (by decide +kernel)
  have k_10 : zH X (.instanceMethod yX1_keep) := hF.w (by decide +kernel)
  have k_11 : zH X (.selects RX1 yX1_keep yX1_keep) := hF.w (by decide +kernel)
  have k_12 : zH X (.initialized RX3) := hF.w (by decide +kernel)
  have k_13 : zH X (.instanceMethod yX3_mark) := hF.w (by decide +kernel)
  have k_14 : zH X (.selects RX3 yX3_mark yX3_mark) := hF.w (by decide +kernel)
  have k_15 : zH X (.fieldLink RX4 41 "MarginDesk" "openSet" "I") := hF.w (by decide +kernel)
  have k_16 : zH X (.classLink RX4 95 "java/lang/IllegalStateException") := hF.w (by decide +kernel)
  have k_17 : zH X (.initialized "java/lang/IllegalStateException") := hF.w (by decide +kernel)
  have k_18 : ∀ w ∈ (vx_atS RX4 99 (zEx 3) [zRun, zExc]).filter goodWord, w ∈ wsX4_comment := by first | exact fun _ h => List.mem_cons_of_mem _ (List.mem_append_right _ h) | exact fun _ h => List.mem_cons_of_mem _ (List.mem_append_left _ (List.mem_append_right _ h)) | exact fun _ h => List.mem_cons_of_mem _ (List.mem_append_left _ (List.mem_append_left _ (List.mem_append_right _ h))) | exact fun _ h => List.mem_cons_of_mem _ (List.mem_append_left _ (List.mem_append_left _ (List.mem_append_left _ (List.mem_append_right _ h)))) | exact fun _ h => List.mem_cons_of_mem _ (List.mem_append_left _ (List.mem_append_left _ (List.mem_append_left _ (List.mem_append_left _ (List.mem_append_right _ h))))) | decide +kernel
  refine z_lv (lv' := [some (.ref d0), some (.int a), some (.int k), some (.int l), none]) rfl ?_
  refine z_aload_n hF dX4_comment_0 rfl ?_
  refine z_iload_n hF dX4_comment_1 rfl ?_
  refine z_iload_n hF dX4_comment_2 rfl ?_
  refine z_Vx (As := [.int a, .int k]) (rest := []) (ws' := [(d0, .inr (4, [.ref t0, .ref r0, .ref q0, .ref y0, .ref d1, .int o, .int (nI v), .ref u0, .ref d2, .ref d3, .ref d4])), (t0, .inr (3, [.ref t1, .ref t2, .int (nI n)])), (t1, eI G 60 f), (t2, eI G 60 g), (r0, .inr (2, [.ref r1, .ref r2, .ref r3, .int (nI m)])), (r1, eI G 12 b), (r2, eI G 12 e), (r3, eI G 12 s), (q0, .inr (1, [.ref q1, .ref q2, .ref q3, .ref q4])), (q1, eI G 720 ql), (q2, eI G 12 qs), (q3, eI G 12 qa), (q4, eI G 12 qb)]) (st2 := []) (c2 := 3) (s2 := 18) hF (c_X4_checkRange G d0 t0 r0 q0 y0 d1 u0 d2 d3 d4 v o t1 t2 n a k) gX4_comment_X4_checkRange rfl rfl rfl hd_X4_checkRange ⟨⟨Nat.le_of_ble_eq_true rfl, Nat.le_of_ble_eq_true rfl⟩, ⟨Nat.le_of_ble_eq_true rfl, Nat.le_of_ble_eq_true rfl⟩, Nat.le_of_ble_eq_true rfl⟩ [0, 1] rfl rfl 0 rfl rfl rfl rfl rfl rfl rfl rfl rfl rfl rfl rfl dX4_comment_3 (fun h1 => hZ.x (Nat.le_of_ble_eq_true rfl) (Nat.le_of_ble_eq_true rfl) (fun _ => by simp [fz, *]) h1 rfl) (fun h1 => ?_)
  refine z_aload_n hF dX4_comment_6 rfl ?_
  refine z_iload_n hF dX4_comment_7 rfl ?_
  refine z_iconst (v := nI 0) hF dX4_comment_8 (by decide) ?_
  refine z_iconst (v := nI 3) hF dX4_comment_9 (by decide) ?_
  refine z_Vx (As := [.int l, .int (nI 0), .int (nI 3)]) (rest := []) (ws' := [(d0, .inr (4, [.ref t0, .ref r0, .ref q0, .ref y0, .ref d1, .int o, .int (nI v), .ref u0, .ref d2, .ref d3, .ref d4])), (t0, .inr (3, [.ref t1, .ref t2, .int (nI n)])), (t1, eI G 60 f), (t2, eI G 60 g), (r0, .inr (2, [.ref r1, .ref r2, .ref r3, .int (nI m)])), (r1, eI G 12 b), (r2, eI G 12 e), (r3, eI G 12 s), (q0, .inr (1, [.ref q1, .ref q2, .ref q3, .ref q4])), (q1, eI G 720 ql), (q2, eI G 12 qs), (q3, eI G 12 qa), (q4, eI G 12 qb)]) (st2 := []) (c2 := 4) (s2 := 24) hF (c_X4_checkAmong G d0 t0 r0 q0 y0 d1 u0 d2 d3 d4 v o l (nI 0) (nI 3)) gX4_comment_X4_checkAmong rfl rfl rfl hd_X4_checkAmong ⟨⟨Nat.le_of_ble_eq_true rfl, Nat.le_of_ble_eq_true rfl⟩, ⟨Nat.le_of_ble_eq_true rfl, Nat.le_of_ble_eq_true rfl⟩, Nat.le_of_ble_eq_true rfl⟩ [0] rfl rfl 0 rfl rfl rfl rfl rfl rfl rfl rfl rfl rfl rfl rfl dX4_comment_10 (fun h2 => hZ.x (Nat.le_of_ble_eq_true rfl) (Nat.le_of_ble_eq_true rfl) (fun _ => by simp [fz, *]) h2 rfl) (fun h2 => ?_)
  refine z_aload_n hF dX4_comment_13 rfl ?_
  refine z_get (C := RX4) (T := TX4) (N := 11) (ci := 4) (v := .ref r0) hF k_0 1 (by decide) rfl k_1 rfl 0 rfl rfl dX4_comment_14 ?_
  refine z_getN (C := RX2) (T := TX2) (N := 4) (ci := 2) (v := .int (nI m)) hF k_2 3 (by decide) rfl k_3 rfl 4 rfl rfl dX4_comment_17 ?_
  refine z_bipush (v := nI 12) hF dX4_comment_20 (by decide) ?_
  refine z_icn_lt (tgt := 35) hF (by omega) (by omega) dX4_comment_22 (by decide) (fun h3 => ?_) (fun h3 => ?_)
  · refine z_aload_n hF dX4_comment_35 rfl ?_
    refine z_get (C := RX4) (T := TX4) (N := 11) (ci := 4) (v := .ref r0) hF k_0 1 (by decide) rfl k_1 rfl 0 rfl rfl dX4_comment_36 ?_
    refine z_iload_n hF dX4_comment_39 rfl ?_
    refine z_iload_n hF dX4_comment_40 rfl ?_
    refine z_iload_n hF dX4_comment_41 rfl ?_
    refine z_VN (As := [.int a, .int k, .int l]) (rest := []) (ws' := [(d0, .inr (4, [.ref t0, .ref r0, .ref q0, .ref y0, .ref d1, .int o, .int (nI v), .ref u0, .ref d2, .ref d3, .ref d4])), (t0, .inr (3, [.ref t1, .ref t2, .int (nI n)])), (t1, eI G 60 f), (t2, eI G 60 g), (r0, .inr (2, [.ref r1, .ref r2, .ref r3, .int (nI (m + 1))])), (r1, eI G 12 (upd b m a)), (r2, eI G 12 (upd e m k)), (r3, eI G 12 (upd s m l)), (q0, .inr (1, [.ref q1, .ref q2, .ref q3, .ref q4])), (q1, eI G 720 ql), (q2, eI G 12 qs), (q3, eI G 12 qa), (q4, eI G 12 qb)]) (st2 := [.int (nI m)]) (c2 := 4) (s2 := 24) hF (c_X2_add G r0 r1 r2 r3 m a k l b e s (by first | assumption | omega)) ggX4_comment_X2_add (List.mem_of_getElem? (i := 15) rfl) k_4 k_5 k_6 rfl rfl rfl hs_X2_add ⟨⟨Nat.le_of_ble_eq_true rfl, Nat.le_of_ble_eq_true rfl⟩, ⟨Nat.le_of_ble_eq_true rfl, Nat.le_of_ble_eq_true rfl⟩, Nat.le_of_ble_eq_true rfl⟩ [4, 5, 6, 7] rfl rfl 0 rfl rfl rfl rfl rfl rfl rfl rfl rfl rfl dX4_comment_42 ?_
    refine z_istore (lv' := [some (.ref d0), some (.int a), some (.int k), some (.int l), some (.int (nI m))]) hF dX4_comment_45 rfl rfl ?_
    have hab := rgC_0 (by omega) h1
    refine z_lv (lv' := [some (.ref d0), some (.int (nI a.toNatClampNeg)), some (.int k), some (.int l), some (.int (nI m))]) (by rw [← hab.1.1]) ?_
    refine z_lv (lv' := [some (.ref d0), some (.int (nI a.toNatClampNeg)), some (.int (nI k.toNatClampNeg)), some (.int l), some (.int (nI m))]) (by rw [← hab.2.1.1]) ?_
    refine z_aload_n hF dX4_comment_47 rfl ?_
    refine z_get (C := RX4) (T := TX4) (N := 11) (ci := 4) (v := .ref q0) hF k_0 2 (by decide) rfl k_7 rfl 0 rfl rfl dX4_comment_48 ?_
    refine z_iload hF dX4_comment_51 rfl ?_
    refine z_aload_n hF dX4_comment_53 rfl ?_
    refine z_get (C := RX4) (T := TX4) (N := 11) (ci := 4) (v := .ref t0) hF k_0 0 (by decide) rfl k_8 rfl 0 rfl rfl dX4_comment_54 ?_
    refine z_iload_n hF dX4_comment_57 rfl ?_
    refine z_iload_n hF dX4_comment_58 rfl ?_
    refine z_VN (As := [.int (nI m), .ref t0, .int (nI a.toNatClampNeg), .int (nI k.toNatClampNeg)]) (rest := []) (ws' := [(d0, .inr (4, [.ref t0, .ref r0, .ref q0, .ref y0, .ref d1, .int o, .int (nI v), .ref u0, .ref d2, .ref d3, .ref d4])), (t0, .inr (3, [.ref t1, .ref t2, .int (nI n)])), (t1, eI G 60 f), (t2, eI G 60 g), (r0, .inr (2, [.ref r1, .ref r2, .ref r3, .int (nI (m + 1))])), (r1, eI G 12 (upd b m a)), (r2, eI G 12 (upd e m k)), (r3, eI G 12 (upd s m l)), (q0, .inr (1, [.ref q1, .ref q2, .ref q3, .ref q4])), (q1, eI G 720 (va_cpy f ql a.toNatClampNeg (m * 60) (k.toNatClampNeg - a.toNatClampNeg))), (q2, eI G 12 (upd qs m (nI (k.toNatClampNeg - a.toNatClampNeg)))), (q3, eI G 12 (upd qa m (letF n f (nI a.toNatClampNeg - nI 1)))), (q4, eI G 12 (upd qb m (letF n f (nI k.toNatClampNeg))))]) (st2 := []) (c2 := 4) (s2 := 24) hF (c_X1_keep G q0 q1 q2 q3 q4 t0 t1 t2 n m a.toNatClampNeg k.toNatClampNeg ql qs qa qb f (by first | assumption | omega) (by first | assumption | omega) (by first | assumption | omega) (by first | assumption | omega)) ggX4_comment_X1_keep (List.mem_of_getElem? (i := 16) rfl) k_9 k_10 k_11 rfl rfl rfl hs_X1_keep ⟨⟨Nat.le_of_ble_eq_true rfl, Nat.le_of_ble_eq_true rfl⟩, ⟨Nat.le_of_ble_eq_true rfl, Nat.le_of_ble_eq_true rfl⟩, Nat.le_of_ble_eq_true rfl⟩ [8, 9, 10, 11, 12, 1, 2] rfl rfl 0 rfl rfl rfl rfl rfl rfl rfl rfl rfl rfl dX4_comment_59 ?_
    refine z_aload_n hF dX4_comment_62 rfl ?_
    refine z_get (C := RX4) (T := TX4) (N := 11) (ci := 4) (v := .ref t0) hF k_0 0 (by decide) rfl k_8 rfl 0 rfl rfl dX4_comment_63 ?_
    refine z_iload_n hF dX4_comment_66 rfl ?_
    refine z_iload_n hF dX4_comment_67 rfl ?_
    refine z_iload hF dX4_comment_68 rfl ?_
    refine z_S (As := [.int (nI m)]) (rest := [.int (nI k.toNatClampNeg), .int (nI a.toNatClampNeg), .ref t0]) (ws' := [(d0, .inr (4, [.ref t0, .ref r0, .ref q0, .ref y0, .ref d1, .int o, .int (nI v), .ref u0, .ref d2, .ref d3, .ref d4])), (t0, .inr (3, [.ref t1, .ref t2, .int (nI n)])), (t1, eI G 60 f), (t2, eI G 60 g), (r0, .inr (2, [.ref r1, .ref r2, .ref r3, .int (nI (m + 1))])), (r1, eI G 12 (upd b m a)), (r2, eI G 12 (upd e m k)), (r3, eI G 12 (upd s m l)), (q0, .inr (1, [.ref q1, .ref q2, .ref q3, .ref q4])), (q1, eI G 720 (va_cpy f ql a.toNatClampNeg (m * 60) (k.toNatClampNeg - a.toNatClampNeg))), (q2, eI G 12 (upd qs m (nI (k.toNatClampNeg - a.toNatClampNeg)))), (q3, eI G 12 (upd qa m (letF n f (nI a.toNatClampNeg - nI 1)))), (q4, eI G 12 (upd qb m (letF n f (nI k.toNatClampNeg))))]) (st2 := [.int (bitF (nI m)), .int (nI k.toNatClampNeg), .int (nI a.toNatClampNeg), .ref t0]) (c2 := 4) (s2 := 24) hF (c_X4_bit G (nI m)) gX4_comment_X4_bit rfl rfl rfl hs_X4_bit ⟨⟨Nat.le_of_ble_eq_true rfl, Nat.le_of_ble_eq_true rfl⟩, ⟨Nat.le_of_ble_eq_true rfl, Nat.le_of_ble_eq_true rfl⟩, Nat.le_of_ble_eq_true rfl⟩ [] rfl rfl rfl rfl rfl rfl rfl rfl rfl rfl dX4_comment_70 ?_
    refine z_VN (As := [.int (nI a.toNatClampNeg), .int (nI k.toNatClampNeg), .int (bitF (nI m))]) (rest := []) (ws' := [(d0, .inr (4, [.ref t0, .ref r0, .ref q0, .ref y0, .ref d1, .int o, .int (nI v), .ref u0, .ref d2, .ref d3, .ref d4])), (t0, .inr (3, [.ref t1, .ref t2, .int (nI n)])), (t1, eI G 60 f), (t2, eI G 60 (mrkF g a.toNatClampNeg k.toNatClampNeg (bitF (nI m)))), (r0, .inr (2, [.ref r1, .ref r2, .ref r3, .int (nI (m + 1))])), (r1, eI G 12 (upd b m a)), (r2, eI G 12 (upd e m k)), (r3, eI G 12 (upd s m l)), (q0, .inr (1, [.ref q1, .ref q2, .ref q3, .ref q4])), (q1, eI G 720 (va_cpy f ql a.toNatClampNeg (m * 60) (k.toNatClampNeg - a.toNatClampNeg))), (q2, eI G 12 (upd qs m (nI (k.toNatClampNeg - a.toNatClampNeg)))), (q3, eI G 12 (upd qa m (letF n f (nI a.toNatClampNeg - nI 1)))), (q4, eI G 12 (upd qb m (letF n f (nI k.toNatClampNeg))))]) (st2 := []) (c2 := 4) (s2 := 24) hF (c_X3_mark G t0 t1 t2 n a.toNatClampNeg k.toNatClampNeg g (bitF (nI m)) (by first | assumption | omega) (by first | assumption | omega)) ggX4_comment_X3_mark (List.mem_of_getElem? (i := 11) rfl) k_12 k_13 k_14 rfl rfl rfl hs_X3_mark ⟨⟨Nat.le_of_ble_eq_true rfl, Nat.le_of_ble_eq_true rfl⟩, ⟨Nat.le_of_ble_eq_true rfl, Nat.le_of_ble_eq_true rfl⟩, Nat.le_of_ble_eq_true rfl⟩ [1, 3] rfl rfl 0 rfl rfl rfl rfl rfl rfl rfl rfl rfl rfl dX4_comment_73 ?_
    refine z_aload_n hF dX4_comment_76 rfl ?_
    refine z_dup hF dX4_comment_77 rfl ?_
    refine z_get (C := RX4) (T := TX4) (N := 11) (ci := 4) (v := .int o) hF k_0 5 (by decide) rfl k_15 rfl 0 rfl rfl dX4_comment_78 ?_
    refine z_iload hF dX4_comment_81 rfl ?_
    refine z_S (As := [.int (nI m)]) (rest := [.int o, .ref d0]) (ws' := [(d0, .inr (4, [.ref t0, .ref r0, .ref q0, .ref y0, .ref d1, .int o, .int (nI v), .ref u0, .ref d2, .ref d3, .ref d4])), (t0, .inr (3, [.ref t1, .ref t2, .int (nI n)])), (t1, eI G 60 f), (t2, eI G 60 (mrkF g a.toNatClampNeg k.toNatClampNeg (bitF (nI m)))), (r0, .inr (2, [.ref r1, .ref r2, .ref r3, .int (nI (m + 1))])), (r1, eI G 12 (upd b m a)), (r2, eI G 12 (upd e m k)), (r3, eI G 12 (upd s m l)), (q0, .inr (1, [.ref q1, .ref q2, .ref q3, .ref q4])), (q1, eI G 720 (va_cpy f ql a.toNatClampNeg (m * 60) (k.toNatClampNeg - a.toNatClampNeg))), (q2, eI G 12 (upd qs m (nI (k.toNatClampNeg - a.toNatClampNeg)))), (q3, eI G 12 (upd qa m (letF n f (nI a.toNatClampNeg - nI 1)))), (q4, eI G 12 (upd qb m (letF n f (nI k.toNatClampNeg))))]) (st2 := [.int (bitF (nI m)), .int o, .ref d0]) (c2 := 4) (s2 := 24) hF (c_X4_bit G (nI m)) gX4_comment_X4_bit rfl rfl rfl hs_X4_bit ⟨⟨Nat.le_of_ble_eq_true rfl, Nat.le_of_ble_eq_true rfl⟩, ⟨Nat.le_of_ble_eq_true rfl, Nat.le_of_ble_eq_true rfl⟩, Nat.le_of_ble_eq_true rfl⟩ [] rfl rfl rfl rfl rfl rfl rfl rfl rfl rfl dX4_comment_83 ?_
    refine z_ior hF dX4_comment_86 ?_
    refine z_put (C := RX4) (T := TX4) (N := 11) (ci := 4) (ws' := [(d0, .inr (4, [.ref t0, .ref r0, .ref q0, .ref y0, .ref d1, .int (o ||| (bitF (nI m))), .int (nI v), .ref u0, .ref d2, .ref d3, .ref d4])), (t0, .inr (3, [.ref t1, .ref t2, .int (nI n)])), (t1, eI G 60 f), (t2, eI G 60 (mrkF g a.toNatClampNeg k.toNatClampNeg (bitF (nI m)))), (r0, .inr (2, [.ref r1, .ref r2, .ref r3, .int (nI (m + 1))])), (r1, eI G 12 (upd b m a)), (r2, eI G 12 (upd e m k)), (r3, eI G 12 (upd s m l)), (q0, .inr (1, [.ref q1, .ref q2, .ref q3, .ref q4])), (q1, eI G 720 (va_cpy f ql a.toNatClampNeg (m * 60) (k.toNatClampNeg - a.toNatClampNeg))), (q2, eI G 12 (upd qs m (nI (k.toNatClampNeg - a.toNatClampNeg)))), (q3, eI G 12 (upd qa m (letF n f (nI a.toNatClampNeg - nI 1)))), (q4, eI G 12 (upd qb m (letF n f (nI k.toNatClampNeg))))]) hF k_0 tyX4 tyX4_ok nmX4 5 (by decide) rfl k_15 rfl rfl rfl rfl 0 rfl rfl rfl dX4_comment_87 ?_
    refine z_iload hF dX4_comment_90 rfl ?_
    exact (hR (by simp [fz, *])).i dX4_comment_92 (Nat.le_of_ble_eq_true rfl) (Nat.le_of_ble_eq_true rfl) (rfl) (rfl)
  · have h9 := Nat.not_lt.mpr h3
    exact z_throw (k := 3) hF hZ k_16 k_17 (List.mem_of_getElem? (i := 13) rfl) k_18 zfit3 zbad3 znc3 zgood3 dX4_comment_25 dX4_comment_28 dX4_comment_29 dX4_comment_31 dX4_comment_34 ⟨Nat.le_of_ble_eq_true rfl, Nat.le_of_ble_eq_true rfl, Nat.le_of_ble_eq_true rfl, Nat.le_of_ble_eq_true rfl⟩ (Nat.le_of_ble_eq_true rfl) (Nat.le_of_ble_eq_true rfl) (by decide) (by simp [fz, *]) rfl
set_option maxHeartbeats 4000000 in
set_option maxRecDepth 100000 in
theorem c_X4_answer (G : zG) (d0 t0 r0 q0 y0 d1 u0 d2 d3 d4 v : Nat) (o : Int32) (r1 r2 r3 m : Nat) (an : Nat → Int32) (a : Int32) (hm : m ≤ 12) : zX G yX4_answer wsX4_answer ({ frames := 7, cells := 1, slots := 6, locals := 111 }) [.ref d0, .int a] [(d0, .inr (4, [.ref t0, .ref r0, .ref q0, .ref y0, .ref d1, .int o, .int (nI v), .ref u0, .ref d2, .ref d3, .ref d4])), (r0, .inr (2, [.ref r1, .ref r2, .ref r3, .int (nI m)])), (d1, eI G 12 an)] [(d0, .inr (4, [.ref t0, .ref r0, .ref q0, .ref y0, .ref d1, .int (o ||| bitF (nI a.toNatClampNeg)), .int (nI v), .ref u0, .ref d2, .ref d3, .ref d4])), (r0, .inr (2, [.ref r1, .ref r2, .ref r3, .int (nI m)])), (d1, eI G 12 (upd an a.toNatClampNeg (an a.toNatClampNeg + nI 1)))] (cmC m a) (some (.int (an a.toNatClampNeg + nI 1))) 1 6 := by
  refine zX.ofI (own := RX4) (cc := cX4_answer) (maxL := 2) rfl (by decide) rfl rfl (by simp [Value.category]) (Nat.le_of_ble_eq_true rfl) ?_
  intro X hF hZ hR
  have k_0 : ∀ w ∈ wsX40, w ∈ wsX4_answer := by decide +kernel
  have k_1 : zH X (.fieldLink RX4 41 "MarginDesk" "openSet" "I") := hF.w (by decide +kernel)
  have k_2 : zH X (.fieldLink RX4 37 "MarginDesk" "answerCounts" "[I") := hF.w (by decide +kernel)
  refine z_lv (lv' := [some (.ref d0), some (.int a)]) rfl ?_
  refine z_aload_n hF dX4_answer_0 rfl ?_
  refine z_iload_n hF dX4_answer_1 rfl ?_
  refine z_Vx (As := [.int a]) (rest := []) (ws' := [(d0, .inr (4, [.ref t0, .ref r0, .ref q0, .ref y0, .ref d1, .int o, .int (nI v), .ref u0, .ref d2, .ref d3, .ref d4])), (r0, .inr (2, [.ref r1, .ref r2, .ref r3, .int (nI m)])), (d1, eI G 12 an)]) (st2 := []) (c2 := 1) (s2 := 6) hF (c_X4_checkComment G d0 t0 r0 q0 y0 d1 u0 d2 d3 d4 v o r1 r2 r3 m a) gX4_answer_X4_checkComment rfl rfl rfl hd_X4_checkComment ⟨⟨Nat.le_of_ble_eq_true rfl, Nat.le_of_ble_eq_true rfl⟩, ⟨Nat.le_of_ble_eq_true rfl, Nat.le_of_ble_eq_true rfl⟩, Nat.le_of_ble_eq_true rfl⟩ [0, 1] rfl rfl 0 rfl rfl rfl rfl rfl rfl rfl rfl rfl rfl rfl rfl dX4_answer_2 (fun h1 => hZ.x (Nat.le_of_ble_eq_true rfl) (Nat.le_of_ble_eq_true rfl) (fun _ => by simp [fz, *]) h1 rfl) (fun h1 => ?_)
  have ha := cmC_0 (by omega) h1
  refine z_lv (lv' := [some (.ref d0), some (.int (nI a.toNatClampNeg))]) (by rw [← ha.1]) ?_
  refine z_aload_n hF dX4_answer_5 rfl ?_
  refine z_dup hF dX4_answer_6 rfl ?_
  refine z_get (C := RX4) (T := TX4) (N := 11) (ci := 4) (v := .int o) hF k_0 5 (by decide) rfl k_1 rfl 0 rfl rfl dX4_answer_7 ?_
  refine z_iload_n hF dX4_answer_10 rfl ?_
  refine z_S (As := [.int (nI a.toNatClampNeg)]) (rest := [.int o, .ref d0]) (ws' := [(d0, .inr (4, [.ref t0, .ref r0, .ref q0, .ref y0, .ref d1, .int o, .int (nI v), .ref u0, .ref d2, .ref d3, .ref d4])), (r0, .inr (2, [.ref r1, .ref r2, .ref r3, .int (nI m)])), (d1, eI G 12 an)]) (st2 := [.int (bitF (nI a.toNatClampNeg)), .int o, .ref d0]) (c2 := 1) (s2 := 6) hF (c_X4_bit G (nI a.toNatClampNeg)) gX4_answer_X4_bit rfl rfl rfl hs_X4_bit ⟨⟨Nat.le_of_ble_eq_true rfl, Nat.le_of_ble_eq_true rfl⟩, ⟨Nat.le_of_ble_eq_true rfl, Nat.le_of_ble_eq_true rfl⟩, Nat.le_of_ble_eq_true rfl⟩ [] rfl rfl rfl rfl rfl rfl rfl rfl rfl rfl dX4_answer_11 ?_
  refine z_ior hF dX4_answer_14 ?_
  refine z_put (C := RX4) (T := TX4) (N := 11) (ci := 4) (ws' := [(d0, .inr (4, [.ref t0, .ref r0, .ref q0, .ref y0, .ref d1, .int (o ||| (bitF (nI a.toNatClampNeg))), .int (nI v), .ref u0, .ref d2, .ref d3, .ref d4])), (r0, .inr (2, [.ref r1, .ref r2, .ref r3, .int (nI m)])), (d1, eI G 12 an)]) hF k_0 tyX4 tyX4_ok nmX4 5 (by decide) rfl k_1 rfl rfl rfl rfl 0 rfl rfl rfl dX4_answer_15 ?_
  refine z_aload_n hF dX4_answer_18 rfl ?_
  refine z_get (C := RX4) (T := TX4) (N := 11) (ci := 4) (v := .ref d1) hF k_0 4 (by decide) rfl k_2 rfl 0 rfl rfl dX4_answer_19 ?_
  refine z_iload_n hF dX4_answer_22 rfl ?_
  refine z_dup2 hF dX4_answer_23 rfl rfl ?_
  refine z_iald (k := a.toNatClampNeg) hF 2 rfl (rfl) (by omega) rfl dX4_answer_24 ?_
  refine z_iconst (v := nI 1) hF dX4_answer_25 (by decide) ?_
  refine z_iadd hF dX4_answer_26 ?_
  refine z_iast (k := a.toNatClampNeg) (ws' := [(d0, .inr (4, [.ref t0, .ref r0, .ref q0, .ref y0, .ref d1, .int (o ||| (bitF (nI a.toNatClampNeg))), .int (nI v), .ref u0, .ref d2, .ref d3, .ref d4])), (r0, .inr (2, [.ref r1, .ref r2, .ref r3, .int (nI m)])), (d1, eI G 12 (upd an a.toNatClampNeg ((an a.toNatClampNeg) + (nI 1))))]) hF 2 rfl (rfl) (by omega) rfl rfl dX4_answer_27 ?_
  refine z_aload_n hF dX4_answer_28 rfl ?_
  refine z_get (C := RX4) (T := TX4) (N := 11) (ci := 4) (v := .ref d1) hF k_0 4 (by decide) rfl k_2 rfl 0 rfl rfl dX4_answer_29 ?_
  refine z_iload_n hF dX4_answer_32 rfl ?_
  refine z_iald (k := a.toNatClampNeg) hF 2 rfl (rfl) (by omega) rfl dX4_answer_33 ?_
  refine z_top (y := an a.toNatClampNeg + nI 1) (pk_us) ?_
  exact (hR (by simp [fz, *])).i dX4_answer_34 (Nat.le_of_ble_eq_true rfl) (Nat.le_of_ble_eq_true rfl) (rfl) (rfl)
set_option maxHeartbeats 4000000 in
set_option maxRecDepth 100000 in
theorem c_X4_resolve (G : zG) (d0 t0 r0 q0 y0 d1 u0 d2 d3 d4 v : Nat) (o : Int32) (r1 r2 r3 m : Nat) (a : Int32) (hm : m ≤ 12) : zX G yX4_resolve wsX4_resolve ({ frames := 7, cells := 1, slots := 6, locals := 111 }) [.ref d0, .int a] [(d0, .inr (4, [.ref t0, .ref r0, .ref q0, .ref y0, .ref d1, .int o, .int (nI v), .ref u0, .ref d2, .ref d3, .ref d4])), (r0, .inr (2, [.ref r1, .ref r2, .ref r3, .int (nI m)]))] [(d0, .inr (4, [.ref t0, .ref r0, .ref q0, .ref y0, .ref d1, .int (o &&& ((bitF (nI a.toNatClampNeg)) ^^^ (-1))), .int (nI v), .ref u0, .ref d2, .ref d3, .ref d4])), (r0, .inr (2, [.ref r1, .ref r2, .ref r3, .int (nI m)]))] (cmC m a) (some (.int (zb (¬ o &&& bitF (nI a.toNatClampNeg) = 0)))) 1 6 := by
  refine zX.ofI (own := RX4) (cc := cX4_resolve) (maxL := 3) rfl (by decide) rfl zb_nar (by simp [Value.category]) (Nat.le_of_ble_eq_true rfl) ?_
  intro X hF hZ hR
  have k_0 : ∀ w ∈ wsX40, w ∈ wsX4_resolve := by decide +kernel
  have k_1 : zH X (.fieldLink RX4 41 "MarginDesk" "openSet" "I") := hF.w (by decide +kernel)
  refine z_lv (lv' := [some (.ref d0), some (.int a), none]) rfl ?_
  refine z_aload_n hF dX4_resolve_0 rfl ?_
  refine z_iload_n hF dX4_resolve_1 rfl ?_
  refine z_Vx (As := [.int a]) (rest := []) (ws' := [(d0, .inr (4, [.ref t0, .ref r0, .ref q0, .ref y0, .ref d1, .int o, .int (nI v), .ref u0, .ref d2, .ref d3, .ref d4])), (r0, .inr (2, [.ref r1, .ref r2, .ref r3, .int (nI m)]))]) (st2 := []) (c2 := 1) (s2 := 6) hF (c_X4_checkComment G d0 t0 r0 q0 y0 d1 u0 d2 d3 d4 v o r1 r2 r3 m a) gX4_resolve_X4_checkComment rfl rfl rfl hd_X4_checkComment ⟨⟨Nat.le_of_ble_eq_true rfl, Nat.le_of_ble_eq_true rfl⟩, ⟨Nat.le_of_ble_eq_true rfl, Nat.le_of_ble_eq_true rfl⟩, Nat.le_of_ble_eq_true rfl⟩ [0, 1] rfl rfl 0 rfl rfl rfl rfl rfl rfl rfl rfl rfl rfl rfl rfl dX4_resolve_2 (fun h1 => hZ.x (Nat.le_of_ble_eq_true rfl) (Nat.le_of_ble_eq_true rfl) (fun _ => by simp [fz, *]) h1 rfl) (fun h1 => ?_)
  have ha := cmC_0 (by omega) h1
  refine z_lv (lv' := [some (.ref d0), some (.int (nI a.toNatClampNeg)), none]) (by rw [← ha.1]) ?_
  have J_22 : zJ G X 22 [(d0, .inr (4, [.ref t0, .ref r0, .ref q0, .ref y0, .ref d1, .int o, .int (nI v), .ref u0, .ref d2, .ref d3, .ref d4])), (r0, .inr (2, [.ref r1, .ref r2, .ref r3, .int (nI m)]))] [some (.ref d0), some (.int (nI a.toNatClampNeg)), none] [.int (zb (¬ o &&& bitF (nI a.toNatClampNeg) = 0))] 1 6 := by
    refine z_istore_n (lv' := [some (.ref d0), some (.int (nI a.toNatClampNeg)), some (.int (zb (¬ o &&& bitF (nI a.toNatClampNeg) = 0)))]) hF dX4_resolve_22 rfl rfl ?_
    refine z_aload_n hF dX4_resolve_23 rfl ?_
    refine z_dup hF dX4_resolve_24 rfl ?_
    refine z_get (C := RX4) (T := TX4) (N := 11) (ci := 4) (v := .int o) hF k_0 5 (by decide) rfl k_1 rfl 0 rfl rfl dX4_resolve_25 ?_
    refine z_iload_n hF dX4_resolve_28 rfl ?_
    refine z_S (As := [.int (nI a.toNatClampNeg)]) (rest := [.int o, .ref d0]) (ws' := [(d0, .inr (4, [.ref t0, .ref r0, .ref q0, .ref y0, .ref d1, .int o, .int (nI v), .ref u0, .ref d2, .ref d3, .ref d4])), (r0, .inr (2, [.ref r1, .ref r2, .ref r3, .int (nI m)]))]) (st2 := [.int (bitF (nI a.toNatClampNeg)), .int o, .ref d0]) (c2 := 1) (s2 := 6) hF (c_X4_bit G (nI a.toNatClampNeg)) gX4_resolve_X4_bit rfl rfl rfl hs_X4_bit ⟨⟨Nat.le_of_ble_eq_true rfl, Nat.le_of_ble_eq_true rfl⟩, ⟨Nat.le_of_ble_eq_true rfl, Nat.le_of_ble_eq_true rfl⟩, Nat.le_of_ble_eq_true rfl⟩ [] rfl rfl rfl rfl rfl rfl rfl rfl rfl rfl dX4_resolve_29 ?_
    refine z_iconst (v := -1) hF dX4_resolve_32 (by decide) ?_
    refine z_ixor hF dX4_resolve_33 ?_
    refine z_iand hF dX4_resolve_34 ?_
    refine z_put (C := RX4) (T := TX4) (N := 11) (ci := 4) (ws' := [(d0, .inr (4, [.ref t0, .ref r0, .ref q0, .ref y0, .ref d1, .int (o &&& ((bitF (nI a.toNatClampNeg)) ^^^ (-1))), .int (nI v), .ref u0, .ref d2, .ref d3, .ref d4])), (r0, .inr (2, [.ref r1, .ref r2, .ref r3, .int (nI m)]))]) hF k_0 tyX4 tyX4_ok nmX4 5 (by decide) rfl k_1 rfl rfl rfl rfl 0 rfl rfl rfl dX4_resolve_35 ?_
    refine z_iload_n hF dX4_resolve_38 rfl ?_
    exact (hR (by simp [fz, *])).i dX4_resolve_39 (Nat.le_of_ble_eq_true rfl) (Nat.le_of_ble_eq_true rfl) (rfl) (rfl)
  refine z_aload_n hF dX4_resolve_5 rfl ?_
  refine z_get (C := RX4) (T := TX4) (N := 11) (ci := 4) (v := .int o) hF k_0 5 (by decide) rfl k_1 rfl 0 rfl rfl dX4_resolve_6 ?_
  refine z_iload_n hF dX4_resolve_9 rfl ?_
  refine z_S (As := [.int (nI a.toNatClampNeg)]) (rest := [.int o]) (ws' := [(d0, .inr (4, [.ref t0, .ref r0, .ref q0, .ref y0, .ref d1, .int o, .int (nI v), .ref u0, .ref d2, .ref d3, .ref d4])), (r0, .inr (2, [.ref r1, .ref r2, .ref r3, .int (nI m)]))]) (st2 := [.int (bitF (nI a.toNatClampNeg)), .int o]) (c2 := 1) (s2 := 6) hF (c_X4_bit G (nI a.toNatClampNeg)) gX4_resolve_X4_bit rfl rfl rfl hs_X4_bit ⟨⟨Nat.le_of_ble_eq_true rfl, Nat.le_of_ble_eq_true rfl⟩, ⟨Nat.le_of_ble_eq_true rfl, Nat.le_of_ble_eq_true rfl⟩, Nat.le_of_ble_eq_true rfl⟩ [] rfl rfl rfl rfl rfl rfl rfl rfl rfl rfl dX4_resolve_10 ?_
  refine z_iand hF dX4_resolve_13 ?_
  refine z_if_eq (tgt := 21) hF dX4_resolve_14 (by decide) (fun c_1 => ?_) (fun c_1 => ?_)
  · refine z_iconst (v := nI 0) hF dX4_resolve_21 (by decide) ?_
    refine z_top (y := zb (¬ o &&& bitF (nI a.toNatClampNeg) = 0)) (zb0 (by first | assumption | grind)) ?_
    exact J_22  
  · refine z_iconst (v := nI 1) hF dX4_resolve_17 (by decide) ?_
    refine z_goto (tgt := 22) hF dX4_resolve_18 (by decide) ?_
    refine z_top (y := zb (¬ o &&& bitF (nI a.toNatClampNeg) = 0)) (zb1 (by first | assumption | grind)) ?_
    exact J_22  
set_option maxHeartbeats 4000000 in
set_option maxRecDepth 100000 in
theorem c_X4_find0 (G : zG) (d0 t0 r0 q0 y0 d1 u0 d2 d3 d4 v : Nat) (o : Int32) (t1 t2 n : Nat) (f : Nat → Int32) (g : Nat → Int32) (r1 r2 r3 m : Nat) (b : Nat → Int32) (e : Nat → Int32) (q1 q2 q3 q4 : Nat) (ql : Nat → Int32) (qs : Nat → Int32) (qa : Nat → Int32) (qb : Nat → Int32) (a : Int32) (z : Nat) (hn : n ≤ 60) (hm : m ≤ 12) (hz : cmC m a = 0 → qs a.toNatClampNeg = nI z) (hz2 : z ≤ 60) (h0 : bfF n z a.toNatClampNeg ql qa qb f = -1) : zX G yX4_find wsX4_find ({ frames := 7, cells := 2, slots := 12, locals := 111 }) [.ref d0, .int a] [(d0, .inr (4, [.ref t0, .ref r0, .ref q0, .ref y0, .ref d1, .int o, .int (nI v), .ref u0, .ref d2, .ref d3, .ref d4])), (r0, .inr (2, [.ref r1, .ref r2, .ref r3, .int (nI m)])), (r1, eI G 12 b), (r2, eI G 12 e), (q0, .inr (1, [.ref q1, .ref q2, .ref q3, .ref q4])), (q1, eI G 720 ql), (q2, eI G 12 qs), (q3, eI G 12 qa), (q4, eI G 12 qb), (t0, .inr (3, [.ref t1, .ref t2, .int (nI n)])), (t1, eI G 60 f), (t2, eI G 60 g)] [(d0, .inr (4, [.ref t0, .ref r0, .ref q0, .ref y0, .ref d1, .int o, .int (nI v), .ref u0, .ref d2, .ref d3, .ref d4])), (r0, .inr (2, [.ref r1, .ref r2, .ref r3, .int (nI m)])), (r1, eI G 12 b), (r2, eI G 12 e), (q0, .inr (1, [.ref q1, .ref q2, .ref q3, .ref q4])), (q1, eI G 720 ql), (q2, eI G 12 qs), (q3, eI G 12 qa), (q4, eI G 12 qb), (t0, .inr (3, [.ref t1, .ref t2, .int (nI n)])), (t1, eI G 60 f), (t2, eI G 60 g)] (fz (cmC m a) (if b a.toNatClampNeg = -1 then 0 else 3)) (some (.int (bfF n z a.toNatClampNeg ql qa qb f))) 2 12 := by
  refine zX.ofI (own := RX4) (cc := cX4_find) (maxL := 4) rfl (by decide) rfl rfl (by simp [Value.category]) (Nat.le_of_ble_eq_true rfl) ?_
  intro X hF hZ hR
  have k_0 : ∀ w ∈ wsX40, w ∈ wsX4_find := by decide +kernel
  have k_1 : zH X (.fieldLink RX4 19 "MarginDesk" "commentRanges" "LMarginDesk$Ranges;") := hF.w (by decide +kernel)
  have k_2 : zH X (.initialized RX2) := hF.w (by decide +kernel)
  have k_3 : zH X (.instanceMethod yX2_isGone) := hF.w (by decide +kernel)
  have k_4 : zH X (.selects RX2 yX2_isGone yX2_isGone) := hF.w (by decide +kernel)
  have k_5 : zH X (.fieldLink RX4 26 "MarginDesk" "quotes" "LMarginDesk$Quotes;") := hF.w (by decide +kernel)
  have k_6 : zH X (.fieldLink RX4 10 "MarginDesk" "text" "LMarginDesk$Text;") := hF.w (by decide +kernel)
  have k_7 : zH X (.initialized RX1) := hF.w (by decide +kernel)
  have k_8 : zH X (.instanceMethod yX1_bestPlace) := hF.w (by decide +kernel)
  have k_9 : zH X (.selects RX1 yX1_bestPlace yX1_bestPlace) := hF.w (by decide +kernel)
  have k_10 : zH X (.classLink RX4 95 "java/lang/IllegalStateException") := hF.w (by decide +kernel)
  have k_11 : zH X (.initialized "java/lang/IllegalStateException") := hF.w (by decide +kernel)
  have k_12 : ∀ w ∈ (vx_atS RX4 99 (zEx 3) [zRun, zExc]).filter goodWord, w ∈ wsX4_find := by first | exact fun _ h => List.mem_cons_of_mem _ (List.mem_append_right _ h) | exact fun _ h => List.mem_cons_of_mem _ (List.mem_append_left _ (List.mem_append_right _ h)) | exact fun _ h => List.mem_cons_of_mem _ (List.mem_append_left _ (List.mem_append_left _ (List.mem_append_right _ h))) | exact fun _ h => List.mem_cons_of_mem _ (List.mem_append_left _ (List.mem_append_left _ (List.mem_append_left _ (List.mem_append_right _ h)))) | exact fun _ h => List.mem_cons_of_mem _ (List.mem_append_left _ (List.mem_append_left _ (List.mem_append_left _ (List.mem_append_left _ (List.mem_append_right _ h))))) | decide +kernel
  refine z_lv (lv' := [some (.ref d0), some (.int a), none, none]) rfl ?_
  refine z_aload_n hF dX4_find_0 rfl ?_
  refine z_iload_n hF dX4_find_1 rfl ?_
  refine z_Vx (As := [.int a]) (rest := []) (ws' := [(d0, .inr (4, [.ref t0, .ref r0, .ref q0, .ref y0, .ref d1, .int o, .int (nI v), .ref u0, .ref d2, .ref d3, .ref d4])), (r0, .inr (2, [.ref r1, .ref r2, .ref r3, .int (nI m)])), (r1, eI G 12 b), (r2, eI G 12 e), (q0, .inr (1, [.ref q1, .ref q2, .ref q3, .ref q4])), (q1, eI G 720 ql), (q2, eI G 12 qs), (q3, eI G 12 qa), (q4, eI G 12 qb), (t0, .inr (3, [.ref t1, .ref t2, .int (nI n)])), (t1, eI G 60 f), (t2, eI G 60 g)]) (st2 := []) (c2 := 1) (s2 := 6) hF (c_X4_checkComment G d0 t0 r0 q0 y0 d1 u0 d2 d3 d4 v o r1 r2 r3 m a) gX4_find_X4_checkComment rfl rfl rfl hd_X4_checkComment ⟨⟨Nat.le_of_ble_eq_true rfl, Nat.le_of_ble_eq_true rfl⟩, ⟨Nat.le_of_ble_eq_true rfl, Nat.le_of_ble_eq_true rfl⟩, Nat.le_of_ble_eq_true rfl⟩ [0, 1] rfl rfl 0 rfl rfl rfl rfl rfl rfl rfl rfl rfl rfl rfl rfl dX4_find_2 (fun h1 => hZ.x (Nat.le_of_ble_eq_true rfl) (Nat.le_of_ble_eq_true rfl) (fun _ => by simp [fz, *]) h1 rfl) (fun h1 => ?_)
  have ha := cmC_0 (by omega) h1
  refine z_lv (lv' := [some (.ref d0), some (.int (nI a.toNatClampNeg)), none, none]) (by rw [← ha.1]) ?_
  have hz9 := hz h1
  refine z_aload_n hF dX4_find_5 rfl ?_
  refine z_get (C := RX4) (T := TX4) (N := 11) (ci := 4) (v := .ref r0) hF k_0 1 (by decide) rfl k_1 rfl 0 rfl rfl dX4_find_6 ?_
  refine z_iload_n hF dX4_find_9 rfl ?_
  refine z_VN (As := [.int (nI a.toNatClampNeg)]) (rest := []) (ws' := [(d0, .inr (4, [.ref t0, .ref r0, .ref q0, .ref y0, .ref d1, .int o, .int (nI v), .ref u0, .ref d2, .ref d3, .ref d4])), (r0, .inr (2, [.ref r1, .ref r2, .ref r3, .int (nI m)])), (r1, eI G 12 b), (r2, eI G 12 e), (q0, .inr (1, [.ref q1, .ref q2, .ref q3, .ref q4])), (q1, eI G 720 ql), (q2, eI G 12 qs), (q3, eI G 12 qa), (q4, eI G 12 qb), (t0, .inr (3, [.ref t1, .ref t2, .int (nI n)])), (t1, eI G 60 f), (t2, eI G 60 g)]) (st2 := [.int (zb (b a.toNatClampNeg = -1))]) (c2 := 1) (s2 := 6) hF (c_X2_isGone G r0 r1 r2 r3 m a.toNatClampNeg b (by first | assumption | omega)) ggX4_find_X2_isGone (List.mem_of_getElem? (i := 4) rfl) k_2 k_3 k_4 rfl rfl rfl hs_X2_isGone ⟨⟨Nat.le_of_ble_eq_true rfl, Nat.le_of_ble_eq_true rfl⟩, ⟨Nat.le_of_ble_eq_true rfl, Nat.le_of_ble_eq_true rfl⟩, Nat.le_of_ble_eq_true rfl⟩ [1, 2] rfl rfl 0 rfl rfl rfl rfl rfl rfl rfl rfl rfl rfl dX4_find_10 ?_
  refine z_if_ne_b (tgt := 26) hF dX4_find_13 (by decide) (fun h2 => ?_) (fun h2 => ?_)
  · refine z_aload_n hF dX4_find_26 rfl ?_
    refine z_get (C := RX4) (T := TX4) (N := 11) (ci := 4) (v := .ref q0) hF k_0 2 (by decide) rfl k_5 rfl 0 rfl rfl dX4_find_27 ?_
    refine z_iload_n hF dX4_find_30 rfl ?_
    refine z_aload_n hF dX4_find_31 rfl ?_
    refine z_get (C := RX4) (T := TX4) (N := 11) (ci := 4) (v := .ref t0) hF k_0 0 (by decide) rfl k_6 rfl 0 rfl rfl dX4_find_32 ?_
    refine z_VN (As := [.int (nI a.toNatClampNeg), .ref t0]) (rest := []) (ws' := [(d0, .inr (4, [.ref t0, .ref r0, .ref q0, .ref y0, .ref d1, .int o, .int (nI v), .ref u0, .ref d2, .ref d3, .ref d4])), (r0, .inr (2, [.ref r1, .ref r2, .ref r3, .int (nI m)])), (r1, eI G 12 b), (r2, eI G 12 e), (q0, .inr (1, [.ref q1, .ref q2, .ref q3, .ref q4])), (q1, eI G 720 ql), (q2, eI G 12 qs), (q3, eI G 12 qa), (q4, eI G 12 qb), (t0, .inr (3, [.ref t1, .ref t2, .int (nI n)])), (t1, eI G 60 f), (t2, eI G 60 g)]) (st2 := [.int (bfF n z a.toNatClampNeg ql qa qb f)]) (c2 := 1) (s2 := 6) hF (c_X1_bestPlace G q0 q1 q2 q3 q4 t0 t1 t2 n a.toNatClampNeg z ql qs qa qb f (by first | assumption | omega) (hz9) (by first | assumption | omega) (by first | assumption | omega)) ggX4_find_X1_bestPlace (List.mem_of_getElem? (i := 18) rfl) k_7 k_8 k_9 rfl rfl rfl hs_X1_bestPlace ⟨⟨Nat.le_of_ble_eq_true rfl, Nat.le_of_ble_eq_true rfl⟩, ⟨Nat.le_of_ble_eq_true rfl, Nat.le_of_ble_eq_true rfl⟩, Nat.le_of_ble_eq_true rfl⟩ [4, 5, 6, 7, 8, 9, 10] rfl rfl 0 rfl rfl rfl rfl rfl rfl rfl rfl rfl rfl dX4_find_35 ?_
    refine z_istore_n (lv' := [some (.ref d0), some (.int (nI a.toNatClampNeg)), some (.int (bfF n z a.toNatClampNeg ql qa qb f)), none]) hF dX4_find_38 rfl rfl ?_
    refine z_iload_n hF dX4_find_39 rfl ?_
    refine z_iconst (v := -1) hF dX4_find_40 (by decide) ?_
    refine z_ic_eq (tgt := 78) hF dX4_find_41 (by decide) (fun c_1 => ?_) (fun c_1 => absurd c_1 (not_not_intro h0))
    refine z_iload_n hF dX4_find_78 rfl ?_
    exact (hR (by simp [fz, *])).i dX4_find_79 (Nat.le_of_ble_eq_true rfl) (Nat.le_of_ble_eq_true rfl) (rfl) (rfl)
  · exact z_throw (k := 3) hF hZ k_10 k_11 (List.mem_of_getElem? (i := 0) rfl) k_12 zfit3 zbad3 znc3 zgood3 dX4_find_16 dX4_find_19 dX4_find_20 dX4_find_22 dX4_find_25 ⟨Nat.le_of_ble_eq_true rfl, Nat.le_of_ble_eq_true rfl, Nat.le_of_ble_eq_true rfl, Nat.le_of_ble_eq_true rfl⟩ (Nat.le_of_ble_eq_true rfl) (Nat.le_of_ble_eq_true rfl) (by decide) (by simp [fz, *]) rfl
set_option maxHeartbeats 4000000 in
set_option maxRecDepth 100000 in
theorem c_X4_find1 (G : zG) (d0 t0 r0 q0 y0 d1 u0 d2 d3 d4 v : Nat) (o : Int32) (t1 t2 n : Nat) (f : Nat → Int32) (g : Nat → Int32) (r1 r2 r3 m : Nat) (b : Nat → Int32) (e : Nat → Int32) (q1 q2 q3 q4 : Nat) (ql : Nat → Int32) (qs : Nat → Int32) (qa : Nat → Int32) (qb : Nat → Int32) (a : Int32) (z : Nat) (hn : n ≤ 60) (hm : m ≤ 12) (hz : cmC m a = 0 → qs a.toNatClampNeg = nI z) (hz2 : z ≤ 60) (h0 : ¬ bfF n z a.toNatClampNeg ql qa qb f = -1) : zX G yX4_find wsX4_find ({ frames := 7, cells := 2, slots := 12, locals := 111 }) [.ref d0, .int a] [(d0, .inr (4, [.ref t0, .ref r0, .ref q0, .ref y0, .ref d1, .int o, .int (nI v), .ref u0, .ref d2, .ref d3, .ref d4])), (r0, .inr (2, [.ref r1, .ref r2, .ref r3, .int (nI m)])), (r1, eI G 12 b), (r2, eI G 12 e), (q0, .inr (1, [.ref q1, .ref q2, .ref q3, .ref q4])), (q1, eI G 720 ql), (q2, eI G 12 qs), (q3, eI G 12 qa), (q4, eI G 12 qb), (t0, .inr (3, [.ref t1, .ref t2, .int (nI n)])), (t1, eI G 60 f), (t2, eI G 60 g)] [(d0, .inr (4, [.ref t0, .ref r0, .ref q0, .ref y0, .ref d1, .int o, .int (nI v), .ref u0, .ref d2, .ref d3, .ref d4])), (r0, .inr (2, [.ref r1, .ref r2, .ref r3, .int (nI m)])), (r1, eI G 12 (upd b a.toNatClampNeg (nI (bfF n z a.toNatClampNeg ql qa qb f).toNatClampNeg))), (r2, eI G 12 (upd e a.toNatClampNeg (nI ((bfF n z a.toNatClampNeg ql qa qb f).toNatClampNeg + z)))), (q0, .inr (1, [.ref q1, .ref q2, .ref q3, .ref q4])), (q1, eI G 720 ql), (q2, eI G 12 qs), (q3, eI G 12 qa), (q4, eI G 12 qb), (t0, .inr (3, [.ref t1, .ref t2, .int (nI n)])), (t1, eI G 60 f), (t2, eI G 60 (mrkF g (bfF n z a.toNatClampNeg ql qa qb f).toNatClampNeg ((bfF n z a.toNatClampNeg ql qa qb f).toNatClampNeg + z) (bitF (nI a.toNatClampNeg))))] (fz (cmC m a) (if b a.toNatClampNeg = -1 then 0 else 3)) (some (.int (bfF n z a.toNatClampNeg ql qa qb f))) 2 12 := by
  refine zX.ofI (own := RX4) (cc := cX4_find) (maxL := 4) rfl (by decide) rfl rfl (by simp [Value.category]) (Nat.le_of_ble_eq_true rfl) ?_
  intro X hF hZ hR
  have k_0 : ∀ w ∈ wsX40, w ∈ wsX4_find := by decide +kernel
  have k_1 : zH X (.fieldLink RX4 19 "MarginDesk" "commentRanges" "LMarginDesk$Ranges;") := hF.w (by decide +kernel)
  have k_2 : zH X (.initialized RX2) := hF.w (by decide +kernel)
  have k_3 : zH X (.instanceMethod yX2_isGone) := hF.w (by decide +kernel)
  have k_4 : zH X (.selects RX2 yX2_isGone yX2_isGone) := hF.w (by decide +kernel)
  have k_5 : zH X (.fieldLink RX4 26 "MarginDesk" "quotes" "LMarginDesk$Quotes;") := hF.w (by decide +kernel)
  have k_6 : zH X (.fieldLink RX4 10 "MarginDesk" "text" "LMarginDesk$Text;") := hF.w (by decide +kernel)
  have k_7 : zH X (.initialized RX1) := hF.w (by decide +kernel)
  have k_8 : zH X (.instanceMethod yX1_bestPlace) := hF.w (by decide +kernel)
  have k_9 : zH X (.selects RX1 yX1_bestPlace yX1_bestPlace) := hF.w (by decide +kernel)
  have k_10 : zH X (.instanceMethod yX1_sizeOf) := hF.w (by decide +kernel)
  have k_11 : zH X (.selects RX1 yX1_sizeOf yX1_sizeOf) := hF.w (by decide +kernel)
  have k_12 : zH X (.instanceMethod yX2_bringBack) := hF.w (by decide +kernel)
  have k_13 : zH X (.selects RX2 yX2_bringBack yX2_bringBack) := hF.w (by decide +kernel)
  have k_14 : zH X (.initialized RX3) := hF.w (by decide +kernel)
  have k_15 : zH X (.instanceMethod yX3_mark) := hF.w (by decide +kernel)
  have k_16 : zH X (.selects RX3 yX3_mark yX3_mark) := hF.w (by decide +kernel)
  have k_17 : zH X (.classLink RX4 95 "java/lang/IllegalStateException") := hF.w (by decide +kernel)
  have k_18 : zH X (.initialized "java/lang/IllegalStateException") := hF.w (by decide +kernel)
  have k_19 : ∀ w ∈ (vx_atS RX4 99 (zEx 3) [zRun, zExc]).filter goodWord, w ∈ wsX4_find := by first | exact fun _ h => List.mem_cons_of_mem _ (List.mem_append_right _ h) | exact fun _ h => List.mem_cons_of_mem _ (List.mem_append_left _ (List.mem_append_right _ h)) | exact fun _ h => List.mem_cons_of_mem _ (List.mem_append_left _ (List.mem_append_left _ (List.mem_append_right _ h))) | exact fun _ h => List.mem_cons_of_mem _ (List.mem_append_left _ (List.mem_append_left _ (List.mem_append_left _ (List.mem_append_right _ h)))) | exact fun _ h => List.mem_cons_of_mem _ (List.mem_append_left _ (List.mem_append_left _ (List.mem_append_left _ (List.mem_append_left _ (List.mem_append_right _ h))))) | decide +kernel
  refine z_lv (lv' := [some (.ref d0), some (.int a), none, none]) rfl ?_
  refine z_aload_n hF dX4_find_0 rfl ?_
  refine z_iload_n hF dX4_find_1 rfl ?_
  refine z_Vx (As := [.int a]) (rest := []) (ws' := [(d0, .inr (4, [.ref t0, .ref r0, .ref q0, .ref y0, .ref d1, .int o, .int (nI v), .ref u0, .ref d2, .ref d3, .ref d4])), (r0, .inr (2, [.ref r1, .ref r2, .ref r3, .int (nI m)])), (r1, eI G 12 b), (r2, eI G 12 e), (q0, .inr (1, [.ref q1, .ref q2, .ref q3, .ref q4])), (q1, eI G 720 ql), (q2, eI G 12 qs), (q3, eI G 12 qa), (q4, eI G 12 qb), (t0, .inr (3, [.ref t1, .ref t2, .int (nI n)])), (t1, eI G 60 f), (t2, eI G 60 g)]) (st2 := []) (c2 := 1) (s2 := 6) hF (c_X4_checkComment G d0 t0 r0 q0 y0 d1 u0 d2 d3 d4 v o r1 r2 r3 m a) gX4_find_X4_checkComment rfl rfl rfl hd_X4_checkComment ⟨⟨Nat.le_of_ble_eq_true rfl, Nat.le_of_ble_eq_true rfl⟩, ⟨Nat.le_of_ble_eq_true rfl, Nat.le_of_ble_eq_true rfl⟩, Nat.le_of_ble_eq_true rfl⟩ [0, 1] rfl rfl 0 rfl rfl rfl rfl rfl rfl rfl rfl rfl rfl rfl rfl dX4_find_2 (fun h1 => hZ.x (Nat.le_of_ble_eq_true rfl) (Nat.le_of_ble_eq_true rfl) (fun _ => by simp [fz, *]) h1 rfl) (fun h1 => ?_)
  have ha := cmC_0 (by omega) h1
  refine z_lv (lv' := [some (.ref d0), some (.int (nI a.toNatClampNeg)), none, none]) (by rw [← ha.1]) ?_
  have hz9 := hz h1
  refine z_aload_n hF dX4_find_5 rfl ?_
  refine z_get (C := RX4) (T := TX4) (N := 11) (ci := 4) (v := .ref r0) hF k_0 1 (by decide) rfl k_1 rfl 0 rfl rfl dX4_find_6 ?_
  refine z_iload_n hF dX4_find_9 rfl ?_
  refine z_VN (As := [.int (nI a.toNatClampNeg)]) (rest := []) (ws' := [(d0, .inr (4, [.ref t0, .ref r0, .ref q0, .ref y0, .ref d1, .int o, .int (nI v), .ref u0, .ref d2, .ref d3, .ref d4])), (r0, .inr (2, [.ref r1, .ref r2, .ref r3, .int (nI m)])), (r1, eI G 12 b), (r2, eI G 12 e), (q0, .inr (1, [.ref q1, .ref q2, .ref q3, .ref q4])), (q1, eI G 720 ql), (q2, eI G 12 qs), (q3, eI G 12 qa), (q4, eI G 12 qb), (t0, .inr (3, [.ref t1, .ref t2, .int (nI n)])), (t1, eI G 60 f), (t2, eI G 60 g)]) (st2 := [.int (zb (b a.toNatClampNeg = -1))]) (c2 := 1) (s2 := 6) hF (c_X2_isGone G r0 r1 r2 r3 m a.toNatClampNeg b (by first | assumption | omega)) ggX4_find_X2_isGone (List.mem_of_getElem? (i := 4) rfl) k_2 k_3 k_4 rfl rfl rfl hs_X2_isGone ⟨⟨Nat.le_of_ble_eq_true rfl, Nat.le_of_ble_eq_true rfl⟩, ⟨Nat.le_of_ble_eq_true rfl, Nat.le_of_ble_eq_true rfl⟩, Nat.le_of_ble_eq_true rfl⟩ [1, 2] rfl rfl 0 rfl rfl rfl rfl rfl rfl rfl rfl rfl rfl dX4_find_10 ?_
  refine z_if_ne_b (tgt := 26) hF dX4_find_13 (by decide) (fun h2 => ?_) (fun h2 => ?_)
  · refine z_aload_n hF dX4_find_26 rfl ?_
    refine z_get (C := RX4) (T := TX4) (N := 11) (ci := 4) (v := .ref q0) hF k_0 2 (by decide) rfl k_5 rfl 0 rfl rfl dX4_find_27 ?_
    refine z_iload_n hF dX4_find_30 rfl ?_
    refine z_aload_n hF dX4_find_31 rfl ?_
    refine z_get (C := RX4) (T := TX4) (N := 11) (ci := 4) (v := .ref t0) hF k_0 0 (by decide) rfl k_6 rfl 0 rfl rfl dX4_find_32 ?_
    refine z_VN (As := [.int (nI a.toNatClampNeg), .ref t0]) (rest := []) (ws' := [(d0, .inr (4, [.ref t0, .ref r0, .ref q0, .ref y0, .ref d1, .int o, .int (nI v), .ref u0, .ref d2, .ref d3, .ref d4])), (r0, .inr (2, [.ref r1, .ref r2, .ref r3, .int (nI m)])), (r1, eI G 12 b), (r2, eI G 12 e), (q0, .inr (1, [.ref q1, .ref q2, .ref q3, .ref q4])), (q1, eI G 720 ql), (q2, eI G 12 qs), (q3, eI G 12 qa), (q4, eI G 12 qb), (t0, .inr (3, [.ref t1, .ref t2, .int (nI n)])), (t1, eI G 60 f), (t2, eI G 60 g)]) (st2 := [.int (bfF n z a.toNatClampNeg ql qa qb f)]) (c2 := 1) (s2 := 6) hF (c_X1_bestPlace G q0 q1 q2 q3 q4 t0 t1 t2 n a.toNatClampNeg z ql qs qa qb f (by first | assumption | omega) (hz9) (by first | assumption | omega) (by first | assumption | omega)) ggX4_find_X1_bestPlace (List.mem_of_getElem? (i := 18) rfl) k_7 k_8 k_9 rfl rfl rfl hs_X1_bestPlace ⟨⟨Nat.le_of_ble_eq_true rfl, Nat.le_of_ble_eq_true rfl⟩, ⟨Nat.le_of_ble_eq_true rfl, Nat.le_of_ble_eq_true rfl⟩, Nat.le_of_ble_eq_true rfl⟩ [4, 5, 6, 7, 8, 9, 10] rfl rfl 0 rfl rfl rfl rfl rfl rfl rfl rfl rfl rfl dX4_find_35 ?_
    refine z_istore_n (lv' := [some (.ref d0), some (.int (nI a.toNatClampNeg)), some (.int (bfF n z a.toNatClampNeg ql qa qb f)), none]) hF dX4_find_38 rfl rfl ?_
    refine z_iload_n hF dX4_find_39 rfl ?_
    refine z_iconst (v := -1) hF dX4_find_40 (by decide) ?_
    refine z_ic_eq (tgt := 78) hF dX4_find_41 (by decide) (fun c_1 => absurd c_1 (h0)) (fun c_1 => ?_)
    have hbf := bfF_nat hn h0
    refine z_lv (lv' := [some (.ref d0), some (.int (nI a.toNatClampNeg)), some (.int (nI ((bfF n z a.toNatClampNeg ql qa qb f).toNatClampNeg))), none]) (by rw [← hbf.1]) ?_
    refine z_iload_n hF dX4_find_44 rfl ?_
    refine z_aload_n hF dX4_find_45 rfl ?_
    refine z_get (C := RX4) (T := TX4) (N := 11) (ci := 4) (v := .ref q0) hF k_0 2 (by decide) rfl k_5 rfl 0 rfl rfl dX4_find_46 ?_
    refine z_iload_n hF dX4_find_49 rfl ?_
    refine z_VN (As := [.int (nI a.toNatClampNeg)]) (rest := [.int (nI ((bfF n z a.toNatClampNeg ql qa qb f).toNatClampNeg))]) (ws' := [(d0, .inr (4, [.ref t0, .ref r0, .ref q0, .ref y0, .ref d1, .int o, .int (nI v), .ref u0, .ref d2, .ref d3, .ref d4])), (r0, .inr (2, [.ref r1, .ref r2, .ref r3, .int (nI m)])), (r1, eI G 12 b), (r2, eI G 12 e), (q0, .inr (1, [.ref q1, .ref q2, .ref q3, .ref q4])), (q1, eI G 720 ql), (q2, eI G 12 qs), (q3, eI G 12 qa), (q4, eI G 12 qb), (t0, .inr (3, [.ref t1, .ref t2, .int (nI n)])), (t1, eI G 60 f), (t2, eI G 60 g)]) (st2 := [.int (qs a.toNatClampNeg), .int (nI ((bfF n z a.toNatClampNeg ql qa qb f).toNatClampNeg))]) (c2 := 1) (s2 := 6) hF (c_X1_sizeOf G q0 q1 q2 q3 q4 a.toNatClampNeg qs (by first | assumption | omega)) ggX4_find_X1_sizeOf (List.mem_of_getElem? (i := 19) rfl) k_7 k_10 k_11 rfl rfl rfl hs_X1_sizeOf ⟨⟨Nat.le_of_ble_eq_true rfl, Nat.le_of_ble_eq_true rfl⟩, ⟨Nat.le_of_ble_eq_true rfl, Nat.le_of_ble_eq_true rfl⟩, Nat.le_of_ble_eq_true rfl⟩ [4, 6] rfl rfl 0 rfl rfl rfl rfl rfl rfl rfl rfl rfl rfl dX4_find_50 ?_
    refine z_top (y := nI z) hz9 ?_
    refine z_iadd hF dX4_find_53 ?_
    refine z_top (nI_add ((bfF n z a.toNatClampNeg ql qa qb f).toNatClampNeg) z) ?_
    refine z_istore_n (lv' := [some (.ref d0), some (.int (nI a.toNatClampNeg)), some (.int (nI ((bfF n z a.toNatClampNeg ql qa qb f).toNatClampNeg))), some (.int (nI ((bfF n z a.toNatClampNeg ql qa qb f).toNatClampNeg + z)))]) hF dX4_find_54 rfl rfl ?_
    refine z_aload_n hF dX4_find_55 rfl ?_
    refine z_get (C := RX4) (T := TX4) (N := 11) (ci := 4) (v := .ref r0) hF k_0 1 (by decide) rfl k_1 rfl 0 rfl rfl dX4_find_56 ?_
    refine z_iload_n hF dX4_find_59 rfl ?_
    refine z_iload_n hF dX4_find_60 rfl ?_
    refine z_iload_n hF dX4_find_61 rfl ?_
    refine z_VN (As := [.int (nI a.toNatClampNeg), .int (nI ((bfF n z a.toNatClampNeg ql qa qb f).toNatClampNeg)), .int (nI ((bfF n z a.toNatClampNeg ql qa qb f).toNatClampNeg + z))]) (rest := []) (ws' := [(d0, .inr (4, [.ref t0, .ref r0, .ref q0, .ref y0, .ref d1, .int o, .int (nI v), .ref u0, .ref d2, .ref d3, .ref d4])), (r0, .inr (2, [.ref r1, .ref r2, .ref r3, .int (nI m)])), (r1, eI G 12 (upd b a.toNatClampNeg (nI ((bfF n z a.toNatClampNeg ql qa qb f).toNatClampNeg)))), (r2, eI G 12 (upd e a.toNatClampNeg (nI ((bfF n z a.toNatClampNeg ql qa qb f).toNatClampNeg + z)))), (q0, .inr (1, [.ref q1, .ref q2, .ref q3, .ref q4])), (q1, eI G 720 ql), (q2, eI G 12 qs), (q3, eI G 12 qa), (q4, eI G 12 qb), (t0, .inr (3, [.ref t1, .ref t2, .int (nI n)])), (t1, eI G 60 f), (t2, eI G 60 g)]) (st2 := []) (c2 := 1) (s2 := 6) hF (c_X2_bringBack G r0 r1 r2 r3 m a.toNatClampNeg (nI ((bfF n z a.toNatClampNeg ql qa qb f).toNatClampNeg)) (nI ((bfF n z a.toNatClampNeg ql qa qb f).toNatClampNeg + z)) b e (by first | assumption | omega)) ggX4_find_X2_bringBack (List.mem_of_getElem? (i := 20) rfl) k_2 k_12 k_13 rfl rfl rfl hs_X2_bringBack ⟨⟨Nat.le_of_ble_eq_true rfl, Nat.le_of_ble_eq_true rfl⟩, ⟨Nat.le_of_ble_eq_true rfl, Nat.le_of_ble_eq_true rfl⟩, Nat.le_of_ble_eq_true rfl⟩ [1, 2, 3] rfl rfl 0 rfl rfl rfl rfl rfl rfl rfl rfl rfl rfl dX4_find_62 ?_
    refine z_aload_n hF dX4_find_65 rfl ?_
    refine z_get (C := RX4) (T := TX4) (N := 11) (ci := 4) (v := .ref t0) hF k_0 0 (by decide) rfl k_6 rfl 0 rfl rfl dX4_find_66 ?_
    refine z_iload_n hF dX4_find_69 rfl ?_
    refine z_iload_n hF dX4_find_70 rfl ?_
    refine z_iload_n hF dX4_find_71 rfl ?_
    refine z_S (As := [.int (nI a.toNatClampNeg)]) (rest := [.int (nI ((bfF n z a.toNatClampNeg ql qa qb f).toNatClampNeg + z)), .int (nI ((bfF n z a.toNatClampNeg ql qa qb f).toNatClampNeg)), .ref t0]) (ws' := [(d0, .inr (4, [.ref t0, .ref r0, .ref q0, .ref y0, .ref d1, .int o, .int (nI v), .ref u0, .ref d2, .ref d3, .ref d4])), (r0, .inr (2, [.ref r1, .ref r2, .ref r3, .int (nI m)])), (r1, eI G 12 (upd b a.toNatClampNeg (nI ((bfF n z a.toNatClampNeg ql qa qb f).toNatClampNeg)))), (r2, eI G 12 (upd e a.toNatClampNeg (nI ((bfF n z a.toNatClampNeg ql qa qb f).toNatClampNeg + z)))), (q0, .inr (1, [.ref q1, .ref q2, .ref q3, .ref q4])), (q1, eI G 720 ql), (q2, eI G 12 qs), (q3, eI G 12 qa), (q4, eI G 12 qb), (t0, .inr (3, [.ref t1, .ref t2, .int (nI n)])), (t1, eI G 60 f), (t2, eI G 60 g)]) (st2 := [.int (bitF (nI a.toNatClampNeg)), .int (nI ((bfF n z a.toNatClampNeg ql qa qb f).toNatClampNeg + z)), .int (nI ((bfF n z a.toNatClampNeg ql qa qb f).toNatClampNeg)), .ref t0]) (c2 := 1) (s2 := 6) hF (c_X4_bit G (nI a.toNatClampNeg)) gX4_find_X4_bit rfl rfl rfl hs_X4_bit ⟨⟨Nat.le_of_ble_eq_true rfl, Nat.le_of_ble_eq_true rfl⟩, ⟨Nat.le_of_ble_eq_true rfl, Nat.le_of_ble_eq_true rfl⟩, Nat.le_of_ble_eq_true rfl⟩ [] rfl rfl rfl rfl rfl rfl rfl rfl rfl rfl dX4_find_72 ?_
    refine z_VN (As := [.int (nI ((bfF n z a.toNatClampNeg ql qa qb f).toNatClampNeg)), .int (nI ((bfF n z a.toNatClampNeg ql qa qb f).toNatClampNeg + z)), .int (bitF (nI a.toNatClampNeg))]) (rest := []) (ws' := [(d0, .inr (4, [.ref t0, .ref r0, .ref q0, .ref y0, .ref d1, .int o, .int (nI v), .ref u0, .ref d2, .ref d3, .ref d4])), (r0, .inr (2, [.ref r1, .ref r2, .ref r3, .int (nI m)])), (r1, eI G 12 (upd b a.toNatClampNeg (nI ((bfF n z a.toNatClampNeg ql qa qb f).toNatClampNeg)))), (r2, eI G 12 (upd e a.toNatClampNeg (nI ((bfF n z a.toNatClampNeg ql qa qb f).toNatClampNeg + z)))), (q0, .inr (1, [.ref q1, .ref q2, .ref q3, .ref q4])), (q1, eI G 720 ql), (q2, eI G 12 qs), (q3, eI G 12 qa), (q4, eI G 12 qb), (t0, .inr (3, [.ref t1, .ref t2, .int (nI n)])), (t1, eI G 60 f), (t2, eI G 60 (mrkF g ((bfF n z a.toNatClampNeg ql qa qb f).toNatClampNeg) ((bfF n z a.toNatClampNeg ql qa qb f).toNatClampNeg + z) (bitF (nI a.toNatClampNeg))))]) (st2 := []) (c2 := 1) (s2 := 6) hF (c_X3_mark G t0 t1 t2 n ((bfF n z a.toNatClampNeg ql qa qb f).toNatClampNeg) ((bfF n z a.toNatClampNeg ql qa qb f).toNatClampNeg + z) g (bitF (nI a.toNatClampNeg)) (by first | assumption | omega) (by first | assumption | omega)) ggX4_find_X3_mark (List.mem_of_getElem? (i := 11) rfl) k_14 k_15 k_16 rfl rfl rfl hs_X3_mark ⟨⟨Nat.le_of_ble_eq_true rfl, Nat.le_of_ble_eq_true rfl⟩, ⟨Nat.le_of_ble_eq_true rfl, Nat.le_of_ble_eq_true rfl⟩, Nat.le_of_ble_eq_true rfl⟩ [9, 11] rfl rfl 0 rfl rfl rfl rfl rfl rfl rfl rfl rfl rfl dX4_find_75 ?_
    refine z_iload_n hF dX4_find_78 rfl ?_
    exact (hR (by simp [fz, *])).i dX4_find_79 (Nat.le_of_ble_eq_true rfl) (Nat.le_of_ble_eq_true rfl) (rfl) (hbf.1.symm)
  · exact z_throw (k := 3) hF hZ k_17 k_18 (List.mem_of_getElem? (i := 0) rfl) k_19 zfit3 zbad3 znc3 zgood3 dX4_find_16 dX4_find_19 dX4_find_20 dX4_find_22 dX4_find_25 ⟨Nat.le_of_ble_eq_true rfl, Nat.le_of_ble_eq_true rfl, Nat.le_of_ble_eq_true rfl, Nat.le_of_ble_eq_true rfl⟩ (Nat.le_of_ble_eq_true rfl) (Nat.le_of_ble_eq_true rfl) (by decide) (by simp [fz, *]) rfl
set_option maxHeartbeats 4000000 in
set_option maxRecDepth 100000 in
theorem c_X4_comments (G : zG) (d0 t0 r0 q0 y0 d1 u0 d2 d3 d4 v : Nat) (o : Int32) (r1 r2 r3 m : Nat)  : zM G yX4_comments wsX4_comments ({ frames := 0, cells := 0, slots := 0, locals := 12 }) [.ref d0] [(d0, .inr (4, [.ref t0, .ref r0, .ref q0, .ref y0, .ref d1, .int o, .int (nI v), .ref u0, .ref d2, .ref d3, .ref d4])), (r0, .inr (2, [.ref r1, .ref r2, .ref r3, .int (nI m)]))] [(d0, .inr (4, [.ref t0, .ref r0, .ref q0, .ref y0, .ref d1, .int o, .int (nI v), .ref u0, .ref d2, .ref d3, .ref d4])), (r0, .inr (2, [.ref r1, .ref r2, .ref r3, .int (nI m)]))] (some (.int (nI m))) 0 0 := by
  refine zM.ofI (own := RX4) (cc := cX4_comments) (maxL := 1) rfl (by decide) rfl rfl (by simp [Value.category]) (Nat.le_of_ble_eq_true rfl) ?_
  intro X hF hR
  have k_0 : ∀ w ∈ wsX40, w ∈ wsX4_comments := by decide +kernel
  have k_1 : zH X (.fieldLink RX4 19 "MarginDesk" "commentRanges" "LMarginDesk$Ranges;") := hF.w (by decide +kernel)
  have k_2 : ∀ w ∈ wsX20, w ∈ wsX4_comments := by decide +kernel
  have k_3 : zH X (.fieldLinkNest RX4 92 "MarginDesk$Ranges" "count" "I" RX4) := hF.nf (List.mem_of_getElem? (i := 3) rfl)
  refine z_lv (lv' := [some (.ref d0)]) rfl ?_
  refine z_aload_n hF dX4_comments_0 rfl ?_
  refine z_get (C := RX4) (T := TX4) (N := 11) (ci := 4) (v := .ref r0) hF k_0 1 (by decide) rfl k_1 rfl 0 rfl rfl dX4_comments_1 ?_
  refine z_getN (C := RX2) (T := TX2) (N := 4) (ci := 2) (v := .int (nI m)) hF k_2 3 (by decide) rfl k_3 rfl 1 rfl rfl dX4_comments_4 ?_
  exact hR.i dX4_comments_7 (Nat.le_of_ble_eq_true rfl) (Nat.le_of_ble_eq_true rfl) (rfl) (rfl)
set_option maxHeartbeats 4000000 in
set_option maxRecDepth 100000 in
theorem c_X4_rangeOf (G : zG) (d0 t0 r0 q0 y0 d1 u0 d2 d3 d4 v : Nat) (o : Int32) (r1 r2 r3 m : Nat) (b : Nat → Int32) (e : Nat → Int32) (a : Int32) (hm : m ≤ 12) : zX G yX4_rangeOf wsX4_rangeOf ({ frames := 7, cells := 1, slots := 6, locals := 111 }) [.ref d0, .int a] [(d0, .inr (4, [.ref t0, .ref r0, .ref q0, .ref y0, .ref d1, .int o, .int (nI v), .ref u0, .ref d2, .ref d3, .ref d4])), (r0, .inr (2, [.ref r1, .ref r2, .ref r3, .int (nI m)])), (r1, eI G 12 b), (r2, eI G 12 e)] [(d0, .inr (4, [.ref t0, .ref r0, .ref q0, .ref y0, .ref d1, .int o, .int (nI v), .ref u0, .ref d2, .ref d3, .ref d4])), (r0, .inr (2, [.ref r1, .ref r2, .ref r3, .int (nI m)])), (r1, eI G 12 b), (r2, eI G 12 e)] (cmC m a) (some (.int (numF (b a.toNatClampNeg) (e a.toNatClampNeg)))) 1 6 := by
  refine zX.ofI (own := RX4) (cc := cX4_rangeOf) (maxL := 2) rfl (by decide) rfl rfl (by simp [Value.category]) (Nat.le_of_ble_eq_true rfl) ?_
  intro X hF hZ hR
  have k_0 : ∀ w ∈ wsX40, w ∈ wsX4_rangeOf := by decide +kernel
  have k_1 : zH X (.fieldLink RX4 19 "MarginDesk" "commentRanges" "LMarginDesk$Ranges;") := hF.w (by decide +kernel)
  have k_2 : zH X (.initialized RX2) := hF.w (by decide +kernel)
  have k_3 : zH X (.instanceMethod yX2_asNumber) := hF.w (by decide +kernel)
  have k_4 : zH X (.selects RX2 yX2_asNumber yX2_asNumber) := hF.w (by decide +kernel)
  refine z_lv (lv' := [some (.ref d0), some (.int a)]) rfl ?_
  refine z_aload_n hF dX4_rangeOf_0 rfl ?_
  refine z_iload_n hF dX4_rangeOf_1 rfl ?_
  refine z_Vx (As := [.int a]) (rest := []) (ws' := [(d0, .inr (4, [.ref t0, .ref r0, .ref q0, .ref y0, .ref d1, .int o, .int (nI v), .ref u0, .ref d2, .ref d3, .ref d4])), (r0, .inr (2, [.ref r1, .ref r2, .ref r3, .int (nI m)])), (r1, eI G 12 b), (r2, eI G 12 e)]) (st2 := []) (c2 := 1) (s2 := 6) hF (c_X4_checkComment G d0 t0 r0 q0 y0 d1 u0 d2 d3 d4 v o r1 r2 r3 m a) gX4_rangeOf_X4_checkComment rfl rfl rfl hd_X4_checkComment ⟨⟨Nat.le_of_ble_eq_true rfl, Nat.le_of_ble_eq_true rfl⟩, ⟨Nat.le_of_ble_eq_true rfl, Nat.le_of_ble_eq_true rfl⟩, Nat.le_of_ble_eq_true rfl⟩ [0, 1] rfl rfl 0 rfl rfl rfl rfl rfl rfl rfl rfl rfl rfl rfl rfl dX4_rangeOf_2 (fun h1 => hZ.x (Nat.le_of_ble_eq_true rfl) (Nat.le_of_ble_eq_true rfl) (fun _ => by simp [fz, *]) h1 rfl) (fun h1 => ?_)
  have ha := cmC_0 (by omega) h1
  refine z_lv (lv' := [some (.ref d0), some (.int (nI a.toNatClampNeg))]) (by rw [← ha.1]) ?_
  refine z_aload_n hF dX4_rangeOf_5 rfl ?_
  refine z_get (C := RX4) (T := TX4) (N := 11) (ci := 4) (v := .ref r0) hF k_0 1 (by decide) rfl k_1 rfl 0 rfl rfl dX4_rangeOf_6 ?_
  refine z_iload_n hF dX4_rangeOf_9 rfl ?_
  refine z_VN (As := [.int (nI a.toNatClampNeg)]) (rest := []) (ws' := [(d0, .inr (4, [.ref t0, .ref r0, .ref q0, .ref y0, .ref d1, .int o, .int (nI v), .ref u0, .ref d2, .ref d3, .ref d4])), (r0, .inr (2, [.ref r1, .ref r2, .ref r3, .int (nI m)])), (r1, eI G 12 b), (r2, eI G 12 e)]) (st2 := [.int (numF (b a.toNatClampNeg) (e a.toNatClampNeg))]) (c2 := 1) (s2 := 6) hF (c_X2_asNumber G r0 r1 r2 r3 m a.toNatClampNeg b e (by first | assumption | omega)) ggX4_rangeOf_X2_asNumber (List.mem_of_getElem? (i := 21) rfl) k_2 k_3 k_4 rfl rfl rfl hs_X2_asNumber ⟨⟨Nat.le_of_ble_eq_true rfl, Nat.le_of_ble_eq_true rfl⟩, ⟨Nat.le_of_ble_eq_true rfl, Nat.le_of_ble_eq_true rfl⟩, Nat.le_of_ble_eq_true rfl⟩ [1, 2, 3] rfl rfl 0 rfl rfl rfl rfl rfl rfl rfl rfl rfl rfl dX4_rangeOf_10 ?_
  exact (hR (by simp [fz, *])).i dX4_rangeOf_13 (Nat.le_of_ble_eq_true rfl) (Nat.le_of_ble_eq_true rfl) (rfl) (rfl)
set_option maxHeartbeats 4000000 in
set_option maxRecDepth 100000 in
theorem c_X4_rangeThen (G : zG) (d0 t0 r0 q0 y0 d1 u0 d2 d3 d4 v : Nat) (o : Int32) (r1 r2 r3 m : Nat) (b : Nat → Int32) (e : Nat → Int32) (y1 : Nat) (h : Nat → Int32) (a w : Int32) (hm : m ≤ 12) (hv : v ≤ 300) : zX G yX4_rangeThen wsX4_rangeThen ({ frames := 7, cells := 2, slots := 12, locals := 111 }) [.ref d0, .int a, .int w] [(d0, .inr (4, [.ref t0, .ref r0, .ref q0, .ref y0, .ref d1, .int o, .int (nI v), .ref u0, .ref d2, .ref d3, .ref d4])), (r0, .inr (2, [.ref r1, .ref r2, .ref r3, .int (nI m)])), (r1, eI G 12 b), (r2, eI G 12 e), (y0, .inr (0, [.ref y1])), (y1, eI G 3600 h)] [(d0, .inr (4, [.ref t0, .ref r0, .ref q0, .ref y0, .ref d1, .int o, .int (nI v), .ref u0, .ref d2, .ref d3, .ref d4])), (r0, .inr (2, [.ref r1, .ref r2, .ref r3, .int (nI m)])), (r1, eI G 12 b), (r2, eI G 12 e), (y0, .inr (0, [.ref y1])), (y1, eI G 3600 h)] (fz (cmC m a) (plC v w)) (some (.int (if w = nI v then numF (b a.toNatClampNeg) (e a.toNatClampNeg) else h (w.toNatClampNeg * 12 + a.toNatClampNeg)))) 2 12 := by
  refine zX.ofI (own := RX4) (cc := cX4_rangeThen) (maxL := 3) rfl (by decide) rfl rfl (by simp [Value.category]) (Nat.le_of_ble_eq_true rfl) ?_
  intro X hF hZ hR
  have k_0 : zH X (.classLink RX4 138 "java/lang/IndexOutOfBoundsException") := hF.w (by decide +kernel)
  have k_1 : zH X (.initialized "java/lang/IndexOutOfBoundsException") := hF.w (by decide +kernel)
  have k_2 : ∀ w ∈ (vx_atS RX4 142 (zEx 1) [zRun, zExc]).filter goodWord, w ∈ wsX4_rangeThen := by first | exact fun _ h => List.mem_cons_of_mem _ (List.mem_append_right _ h) | exact fun _ h => List.mem_cons_of_mem _ (List.mem_append_left _ (List.mem_append_right _ h)) | exact fun _ h => List.mem_cons_of_mem _ (List.mem_append_left _ (List.mem_append_left _ (List.mem_append_right _ h))) | exact fun _ h => List.mem_cons_of_mem _ (List.mem_append_left _ (List.mem_append_left _ (List.mem_append_left _ (List.mem_append_right _ h)))) | exact fun _ h => List.mem_cons_of_mem _ (List.mem_append_left _ (List.mem_append_left _ (List.mem_append_left _ (List.mem_append_left _ (List.mem_append_right _ h))))) | decide +kernel
  have k_3 : ∀ w ∈ wsX40, w ∈ wsX4_rangeThen := by decide +kernel
  have k_4 : zH X (.fieldLink RX4 45 "MarginDesk" "edits" "I") := hF.w (by decide +kernel)
  have k_5 : zH X (.fieldLink RX4 33 "MarginDesk" "history" "LMarginDesk$History;") := hF.w (by decide +kernel)
  have k_6 : zH X (.initialized RX0) := hF.w (by decide +kernel)
  have k_7 : zH X (.instanceMethod yX0_rangeAt) := hF.w (by decide +kernel)
  have k_8 : zH X (.selects RX0 yX0_rangeAt yX0_rangeAt) := hF.w (by decide +kernel)
  have k_9 : zH X (.fieldLink RX4 19 "MarginDesk" "commentRanges" "LMarginDesk$Ranges;") := hF.w (by decide +kernel)
  have k_10 : zH X (.initialized RX2) := hF.w (by decide +kernel)
  have k_11 : zH X (.instanceMethod yX2_asNumber) := hF.w (by decide +kernel)
  have k_12 : zH X (.selects RX2 yX2_asNumber yX2_asNumber) := hF.w (by decide +kernel)
  refine z_lv (lv' := [some (.ref d0), some (.int a), some (.int w)]) rfl ?_
  refine z_aload_n hF dX4_rangeThen_0 rfl ?_
  refine z_iload_n hF dX4_rangeThen_1 rfl ?_
  refine z_Vx (As := [.int a]) (rest := []) (ws' := [(d0, .inr (4, [.ref t0, .ref r0, .ref q0, .ref y0, .ref d1, .int o, .int (nI v), .ref u0, .ref d2, .ref d3, .ref d4])), (r0, .inr (2, [.ref r1, .ref r2, .ref r3, .int (nI m)])), (r1, eI G 12 b), (r2, eI G 12 e), (y0, .inr (0, [.ref y1])), (y1, eI G 3600 h)]) (st2 := []) (c2 := 1) (s2 := 6) hF (c_X4_checkComment G d0 t0 r0 q0 y0 d1 u0 d2 d3 d4 v o r1 r2 r3 m a) gX4_rangeThen_X4_checkComment rfl rfl rfl hd_X4_checkComment ⟨⟨Nat.le_of_ble_eq_true rfl, Nat.le_of_ble_eq_true rfl⟩, ⟨Nat.le_of_ble_eq_true rfl, Nat.le_of_ble_eq_true rfl⟩, Nat.le_of_ble_eq_true rfl⟩ [0, 1] rfl rfl 0 rfl rfl rfl rfl rfl rfl rfl rfl rfl rfl rfl rfl dX4_rangeThen_2 (fun h1 => hZ.x (Nat.le_of_ble_eq_true rfl) (Nat.le_of_ble_eq_true rfl) (fun _ => by simp [fz, *]) h1 rfl) (fun h1 => ?_)
  have ha := cmC_0 (by omega) h1
  refine z_lv (lv' := [some (.ref d0), some (.int (nI a.toNatClampNeg)), some (.int w)]) (by rw [← ha.1]) ?_
  refine z_iload_n hF dX4_rangeThen_5 rfl ?_
  refine z_if_lt (tgt := 17) hF dX4_rangeThen_6 (by decide) (fun c6 => ?_) (fun c6 => ?_)
  · exact z_throw (k := 1) hF hZ k_0 k_1 (List.mem_of_getElem? (i := 1) rfl) k_2 zfit1 zbad1 znc1 zgood1 dX4_rangeThen_17 dX4_rangeThen_20 dX4_rangeThen_21 dX4_rangeThen_23 dX4_rangeThen_26 ⟨Nat.le_of_ble_eq_true rfl, Nat.le_of_ble_eq_true rfl, Nat.le_of_ble_eq_true rfl, Nat.le_of_ble_eq_true rfl⟩ (Nat.le_of_ble_eq_true rfl) (Nat.le_of_ble_eq_true rfl) (by decide) (by simp [fz, h1, plC]; grind) rfl
  · refine z_iload_n hF dX4_rangeThen_9 rfl ?_
    refine z_aload_n hF dX4_rangeThen_10 rfl ?_
    refine z_get (C := RX4) (T := TX4) (N := 11) (ci := 4) (v := .int (nI v)) hF k_3 6 (by decide) rfl k_4 rfl 0 rfl rfl dX4_rangeThen_11 ?_
    refine z_ic_le (tgt := 27) hF dX4_rangeThen_14 (by decide) (fun c14 => ?_) (fun c14 => ?_)
    · have hp : plC v w = 0 := by unfold plC; grind
      have hw := plC_0 (by omega) hp
      refine z_iload_n hF dX4_rangeThen_27 rfl ?_
      refine z_aload_n hF dX4_rangeThen_28 rfl ?_
      refine z_get (C := RX4) (T := TX4) (N := 11) (ci := 4) (v := .int (nI v)) hF k_3 6 (by decide) rfl k_4 rfl 0 rfl rfl dX4_rangeThen_29 ?_
      refine z_ic_ne (tgt := 46) hF dX4_rangeThen_32 (by decide) (fun c32 => ?_) (fun c32 => ?_)
      · have hw2 : w.toNatClampNeg < v := Nat.lt_of_le_of_ne hw.2 (fun q => c32 (by rw [← q]; exact hw.1))
        refine z_lv (lv' := [some (.ref d0), some (.int (nI a.toNatClampNeg)), some (.int (nI w.toNatClampNeg))]) (by rw [← hw.1]) ?_
        refine z_aload_n hF dX4_rangeThen_46 rfl ?_
        refine z_get (C := RX4) (T := TX4) (N := 11) (ci := 4) (v := .ref y0) hF k_3 3 (by decide) rfl k_5 rfl 0 rfl rfl dX4_rangeThen_47 ?_
        refine z_iload_n hF dX4_rangeThen_50 rfl ?_
        refine z_iload_n hF dX4_rangeThen_51 rfl ?_
        refine z_VN (As := [.int (nI w.toNatClampNeg), .int (nI a.toNatClampNeg)]) (rest := []) (ws' := [(d0, .inr (4, [.ref t0, .ref r0, .ref q0, .ref y0, .ref d1, .int o, .int (nI v), .ref u0, .ref d2, .ref d3, .ref d4])), (r0, .inr (2, [.ref r1, .ref r2, .ref r3, .int (nI m)])), (r1, eI G 12 b), (r2, eI G 12 e), (y0, .inr (0, [.ref y1])), (y1, eI G 3600 h)]) (st2 := [.int (h (w.toNatClampNeg * 12 + a.toNatClampNeg))]) (c2 := 1) (s2 := 6) hF (c_X0_rangeAt G y0 y1 w.toNatClampNeg a.toNatClampNeg h (by first | assumption | omega) (by first | assumption | omega)) ggX4_rangeThen_X0_rangeAt (List.mem_of_getElem? (i := 22) rfl) k_6 k_7 k_8 rfl rfl rfl hs_X0_rangeAt ⟨⟨Nat.le_of_ble_eq_true rfl, Nat.le_of_ble_eq_true rfl⟩, ⟨Nat.le_of_ble_eq_true rfl, Nat.le_of_ble_eq_true rfl⟩, Nat.le_of_ble_eq_true rfl⟩ [4, 5] rfl rfl 0 rfl rfl rfl rfl rfl rfl rfl rfl rfl rfl dX4_rangeThen_52 ?_
        exact (hR (by simp [fz, *])).i dX4_rangeThen_55 (Nat.le_of_ble_eq_true rfl) (Nat.le_of_ble_eq_true rfl) (rfl) (by simp [c32])
      · refine z_aload_n hF dX4_rangeThen_35 rfl ?_
        refine z_get (C := RX4) (T := TX4) (N := 11) (ci := 4) (v := .ref r0) hF k_3 1 (by decide) rfl k_9 rfl 0 rfl rfl dX4_rangeThen_36 ?_
        refine z_iload_n hF dX4_rangeThen_39 rfl ?_
        refine z_VN (As := [.int (nI a.toNatClampNeg)]) (rest := []) (ws' := [(d0, .inr (4, [.ref t0, .ref r0, .ref q0, .ref y0, .ref d1, .int o, .int (nI v), .ref u0, .ref d2, .ref d3, .ref d4])), (r0, .inr (2, [.ref r1, .ref r2, .ref r3, .int (nI m)])), (r1, eI G 12 b), (r2, eI G 12 e), (y0, .inr (0, [.ref y1])), (y1, eI G 3600 h)]) (st2 := [.int (numF (b a.toNatClampNeg) (e a.toNatClampNeg))]) (c2 := 1) (s2 := 6) hF (c_X2_asNumber G r0 r1 r2 r3 m a.toNatClampNeg b e (by first | assumption | omega)) ggX4_rangeThen_X2_asNumber (List.mem_of_getElem? (i := 21) rfl) k_10 k_11 k_12 rfl rfl rfl hs_X2_asNumber ⟨⟨Nat.le_of_ble_eq_true rfl, Nat.le_of_ble_eq_true rfl⟩, ⟨Nat.le_of_ble_eq_true rfl, Nat.le_of_ble_eq_true rfl⟩, Nat.le_of_ble_eq_true rfl⟩ [1, 2, 3] rfl rfl 0 rfl rfl rfl rfl rfl rfl rfl rfl rfl rfl dX4_rangeThen_40 ?_
        refine z_goto (tgt := 55) hF dX4_rangeThen_43 (by decide) ?_
        exact (hR (by simp [fz, *])).i dX4_rangeThen_55 (Nat.le_of_ble_eq_true rfl) (Nat.le_of_ble_eq_true rfl) (rfl) (by simp [c32])
    · exact z_throw (k := 1) hF hZ k_0 k_1 (List.mem_of_getElem? (i := 1) rfl) k_2 zfit1 zbad1 znc1 zgood1 dX4_rangeThen_17 dX4_rangeThen_20 dX4_rangeThen_21 dX4_rangeThen_23 dX4_rangeThen_26 ⟨Nat.le_of_ble_eq_true rfl, Nat.le_of_ble_eq_true rfl, Nat.le_of_ble_eq_true rfl, Nat.le_of_ble_eq_true rfl⟩ (Nat.le_of_ble_eq_true rfl) (Nat.le_of_ble_eq_true rfl) (by decide) (by simp [fz, h1, plC]; grind) rfl
set_option maxHeartbeats 4000000 in
set_option maxRecDepth 100000 in
theorem c_X4_open (G : zG) (d0 t0 r0 q0 y0 d1 u0 d2 d3 d4 v : Nat) (o : Int32)  : zM G yX4_open wsX4_open ({ frames := 0, cells := 0, slots := 0, locals := 12 }) [.ref d0] [(d0, .inr (4, [.ref t0, .ref r0, .ref q0, .ref y0, .ref d1, .int o, .int (nI v), .ref u0, .ref d2, .ref d3, .ref d4]))] [(d0, .inr (4, [.ref t0, .ref r0, .ref q0, .ref y0, .ref d1, .int o, .int (nI v), .ref u0, .ref d2, .ref d3, .ref d4]))] (some (.int o)) 0 0 := by
  refine zM.ofI (own := RX4) (cc := cX4_open) (maxL := 1) rfl (by decide) rfl rfl (by simp [Value.category]) (Nat.le_of_ble_eq_true rfl) ?_
  intro X hF hR
  have k_0 : ∀ w ∈ wsX40, w ∈ wsX4_open := by decide +kernel
  have k_1 : zH X (.fieldLink RX4 41 "MarginDesk" "openSet" "I") := hF.w (by decide +kernel)
  refine z_lv (lv' := [some (.ref d0)]) rfl ?_
  refine z_aload_n hF dX4_open_0 rfl ?_
  refine z_get (C := RX4) (T := TX4) (N := 11) (ci := 4) (v := .int o) hF k_0 5 (by decide) rfl k_1 rfl 0 rfl rfl dX4_open_1 ?_
  exact hR.i dX4_open_4 (Nat.le_of_ble_eq_true rfl) (Nat.le_of_ble_eq_true rfl) (rfl) (rfl)
set_option maxHeartbeats 4000000 in
set_option maxRecDepth 100000 in
theorem c_X4_orphans (G : zG) (d0 t0 r0 q0 y0 d1 u0 d2 d3 d4 v : Nat) (o : Int32) (r1 r2 r3 m : Nat) (b : Nat → Int32) (hm : m ≤ 12) : zM G yX4_orphans wsX4_orphans ({ frames := 1, cells := 0, slots := 0, locals := 33 }) [.ref d0] [(d0, .inr (4, [.ref t0, .ref r0, .ref q0, .ref y0, .ref d1, .int o, .int (nI v), .ref u0, .ref d2, .ref d3, .ref d4])), (r0, .inr (2, [.ref r1, .ref r2, .ref r3, .int (nI m)])), (r1, eI G 12 b)] [(d0, .inr (4, [.ref t0, .ref r0, .ref q0, .ref y0, .ref d1, .int o, .int (nI v), .ref u0, .ref d2, .ref d3, .ref d4])), (r0, .inr (2, [.ref r1, .ref r2, .ref r3, .int (nI m)])), (r1, eI G 12 b)] (some (.int (cov (fun kk => b kk = -1) m))) 0 0 := by
  refine zM.ofI (own := RX4) (cc := cX4_orphans) (maxL := 3) rfl (by decide) rfl rfl (by simp [Value.category]) (Nat.le_of_ble_eq_true rfl) ?_
  intro X hF hR
  have k_0 : ∀ w ∈ wsX40, w ∈ wsX4_orphans := by decide +kernel
  have k_1 : zH X (.fieldLink RX4 19 "MarginDesk" "commentRanges" "LMarginDesk$Ranges;") := hF.w (by decide +kernel)
  have k_2 : ∀ w ∈ wsX20, w ∈ wsX4_orphans := by decide +kernel
  have k_3 : zH X (.fieldLinkNest RX4 92 "MarginDesk$Ranges" "count" "I" RX4) := hF.nf (List.mem_of_getElem? (i := 3) rfl)
  have k_4 : zH X (.initialized RX2) := hF.w (by decide +kernel)
  have k_5 : zH X (.instanceMethod yX2_isGone) := hF.w (by decide +kernel)
  have k_6 : zH X (.selects RX2 yX2_isGone yX2_isGone) := hF.w (by decide +kernel)
  refine z_lv (lv' := [some (.ref d0), none, none]) rfl ?_
  refine z_iconst (v := nI 0) hF dX4_orphans_0 (by decide) ?_
  refine z_istore_n (lv' := [some (.ref d0), some (.int (nI 0)), none]) hF dX4_orphans_1 rfl rfl ?_
  refine z_iconst (v := nI 0) hF dX4_orphans_2 (by decide) ?_
  refine z_istore_n (lv' := [some (.ref d0), some (.int (nI 0)), some (.int (nI 0))]) hF dX4_orphans_3 rfl rfl ?_
  refine z_lv (lv' := [some (.ref d0), some (.int (cov (fun kk => b kk = -1) 0)), some (.int (nI 0))]) (by rfl) ?_
  have J_4 : ∀ (n9 : Nat) (i : Nat), m - i < n9 → (i ≤ m) → zJ G X 4 [(d0, .inr (4, [.ref t0, .ref r0, .ref q0, .ref y0, .ref d1, .int o, .int (nI v), .ref u0, .ref d2, .ref d3, .ref d4])), (r0, .inr (2, [.ref r1, .ref r2, .ref r3, .int (nI m)])), (r1, eI G 12 b)] [some (.ref d0), some (.int (cov (fun kk => b kk = -1) i)), some (.int (nI i))] [] 0 0 := by
    intro n9
    induction n9 with
    | zero => intro i hmu; exact absurd hmu (Nat.not_lt_zero _)
    | succ n9 ih =>
      intro i hmu h2
      refine z_iload_n hF dX4_orphans_4 rfl ?_
      refine z_aload_n hF dX4_orphans_5 rfl ?_
      refine z_get (C := RX4) (T := TX4) (N := 11) (ci := 4) (v := .ref r0) hF k_0 1 (by decide) rfl k_1 rfl 0 rfl rfl dX4_orphans_6 ?_
      refine z_getN (C := RX2) (T := TX2) (N := 4) (ci := 2) (v := .int (nI m)) hF k_2 3 (by decide) rfl k_3 rfl 1 rfl rfl dX4_orphans_9 ?_
      refine z_icn_ge (tgt := 39) hF (by omega) (by omega) dX4_orphans_12 (by decide) (fun c_1 => ?_) (fun c_1 => ?_)
      · refine z_iload_n hF dX4_orphans_39 rfl ?_
        exact hR.i dX4_orphans_40 (Nat.le_of_ble_eq_true rfl) (Nat.le_of_ble_eq_true rfl) (rfl) (by rw [show i = m by omega])
      · refine z_aload_n hF dX4_orphans_15 rfl ?_
        refine z_get (C := RX4) (T := TX4) (N := 11) (ci := 4) (v := .ref r0) hF k_0 1 (by decide) rfl k_1 rfl 0 rfl rfl dX4_orphans_16 ?_
        refine z_iload_n hF dX4_orphans_19 rfl ?_
        refine z_VN (As := [.int (nI i)]) (rest := []) (ws' := [(d0, .inr (4, [.ref t0, .ref r0, .ref q0, .ref y0, .ref d1, .int o, .int (nI v), .ref u0, .ref d2, .ref d3, .ref d4])), (r0, .inr (2, [.ref r1, .ref r2, .ref r3, .int (nI m)])), (r1, eI G 12 b)]) (st2 := [.int (zb (b i = -1))]) (c2 := 0) (s2 := 0) hF (c_X2_isGone G r0 r1 r2 r3 m i b (by first | assumption | omega)) ggX4_orphans_X2_isGone (List.mem_of_getElem? (i := 4) rfl) k_4 k_5 k_6 rfl rfl rfl hs_X2_isGone ⟨⟨Nat.le_of_ble_eq_true rfl, Nat.le_of_ble_eq_true rfl⟩, ⟨Nat.le_of_ble_eq_true rfl, Nat.le_of_ble_eq_true rfl⟩, Nat.le_of_ble_eq_true rfl⟩ [1, 2] rfl rfl 0 rfl rfl rfl rfl rfl rfl rfl rfl rfl rfl dX4_orphans_20 ?_
        refine z_if_eq_b (tgt := 33) hF dX4_orphans_23 (by decide) (fun hb => ?_) (fun hb => ?_)
        · refine z_iinc (v := nI (i + 1)) (lv' := [some (.ref d0), some (.int (cov (fun kk => b kk = -1) i)), some (.int (nI (i + 1)))]) hF dX4_orphans_33 rfl (nI_1 i) rfl rfl ?_
          refine z_goto (tgt := 4) hF dX4_orphans_36 (by decide) ?_
          refine z_lv (lv' := [some (.ref d0), some (.int (cov (fun kk => b kk = -1) (i + 1))), some (.int (nI (i + 1)))]) (by rw [cov_f (k := i) hb]) ?_
          exact ih (i + 1) (by omega) (by omega)
        · refine z_iload_n hF dX4_orphans_26 rfl ?_
          refine z_iload_n hF dX4_orphans_27 rfl ?_
          refine z_S (As := [.int (nI i)]) (rest := [.int (cov (fun kk => b kk = -1) i)]) (ws' := [(d0, .inr (4, [.ref t0, .ref r0, .ref q0, .ref y0, .ref d1, .int o, .int (nI v), .ref u0, .ref d2, .ref d3, .ref d4])), (r0, .inr (2, [.ref r1, .ref r2, .ref r3, .int (nI m)])), (r1, eI G 12 b)]) (st2 := [.int (bitF (nI i)), .int (cov (fun kk => b kk = -1) i)]) (c2 := 0) (s2 := 0) hF (c_X4_bit G (nI i)) gX4_orphans_X4_bit rfl rfl rfl hs_X4_bit ⟨⟨Nat.le_of_ble_eq_true rfl, Nat.le_of_ble_eq_true rfl⟩, ⟨Nat.le_of_ble_eq_true rfl, Nat.le_of_ble_eq_true rfl⟩, Nat.le_of_ble_eq_true rfl⟩ [] rfl rfl rfl rfl rfl rfl rfl rfl rfl rfl dX4_orphans_28 ?_
          refine z_ior hF dX4_orphans_31 ?_
          refine z_top (y := cov (fun kk => b kk = -1) (i + 1)) (cov_t (P := fun kk => b kk = -1) hb) ?_
          refine z_istore_n (lv' := [some (.ref d0), some (.int (cov (fun kk => b kk = -1) (i + 1))), some (.int (nI i))]) hF dX4_orphans_32 rfl rfl ?_
          refine z_iinc (v := nI (i + 1)) (lv' := [some (.ref d0), some (.int (cov (fun kk => b kk = -1) (i + 1))), some (.int (nI (i + 1)))]) hF dX4_orphans_33 rfl (nI_1 i) rfl rfl ?_
          refine z_goto (tgt := 4) hF dX4_orphans_36 (by decide) ?_
          exact ih (i + 1) (by omega) (by omega)
  exact J_4 ((m - 0) + 1) 0 (Nat.lt_succ_self _) (by omega)
set_option maxHeartbeats 4000000 in
set_option maxRecDepth 100000 in
theorem c_X4_cover (G : zG) (d0 t0 r0 q0 y0 d1 u0 d2 d3 d4 v : Nat) (o : Int32) (t1 t2 n : Nat) (r1 r2 r3 m : Nat) (b : Nat → Int32) (e : Nat → Int32) (a : Int32) (hm : m ≤ 12) : zX G yX4_cover wsX4_cover ({ frames := 7, cells := 1, slots := 6, locals := 111 }) [.ref d0, .int a] [(d0, .inr (4, [.ref t0, .ref r0, .ref q0, .ref y0, .ref d1, .int o, .int (nI v), .ref u0, .ref d2, .ref d3, .ref d4])), (t0, .inr (3, [.ref t1, .ref t2, .int (nI n)])), (r0, .inr (2, [.ref r1, .ref r2, .ref r3, .int (nI m)])), (r1, eI G 12 b), (r2, eI G 12 e)] [(d0, .inr (4, [.ref t0, .ref r0, .ref q0, .ref y0, .ref d1, .int o, .int (nI v), .ref u0, .ref d2, .ref d3, .ref d4])), (t0, .inr (3, [.ref t1, .ref t2, .int (nI n)])), (r0, .inr (2, [.ref r1, .ref r2, .ref r3, .int (nI m)])), (r1, eI G 12 b), (r2, eI G 12 e)] (plC n a) (some (.int (covF b e m a))) 1 6 := by
  refine zX.ofI (own := RX4) (cc := cX4_cover) (maxL := 2) rfl (by decide) rfl rfl (by simp [Value.category]) (Nat.le_of_ble_eq_true rfl) ?_
  intro X hF hZ hR
  have k_0 : ∀ w ∈ wsX40, w ∈ wsX4_cover := by decide +kernel
  have k_1 : zH X (.fieldLink RX4 19 "MarginDesk" "commentRanges" "LMarginDesk$Ranges;") := hF.w (by decide +kernel)
  have k_2 : zH X (.initialized RX2) := hF.w (by decide +kernel)
  have k_3 : zH X (.instanceMethod yX2_covering) := hF.w (by decide +kernel)
  have k_4 : zH X (.selects RX2 yX2_covering yX2_covering) := hF.w (by decide +kernel)
  refine z_lv (lv' := [some (.ref d0), some (.int a)]) rfl ?_
  refine z_aload_n hF dX4_cover_0 rfl ?_
  refine z_iload_n hF dX4_cover_1 rfl ?_
  refine z_Vx (As := [.int a]) (rest := []) (ws' := [(d0, .inr (4, [.ref t0, .ref r0, .ref q0, .ref y0, .ref d1, .int o, .int (nI v), .ref u0, .ref d2, .ref d3, .ref d4])), (t0, .inr (3, [.ref t1, .ref t2, .int (nI n)])), (r0, .inr (2, [.ref r1, .ref r2, .ref r3, .int (nI m)])), (r1, eI G 12 b), (r2, eI G 12 e)]) (st2 := []) (c2 := 1) (s2 := 6) hF (c_X4_checkPlace G d0 t0 r0 q0 y0 d1 u0 d2 d3 d4 v o t1 t2 n a) gX4_cover_X4_checkPlace rfl rfl rfl hd_X4_checkPlace ⟨⟨Nat.le_of_ble_eq_true rfl, Nat.le_of_ble_eq_true rfl⟩, ⟨Nat.le_of_ble_eq_true rfl, Nat.le_of_ble_eq_true rfl⟩, Nat.le_of_ble_eq_true rfl⟩ [0, 1] rfl rfl 0 rfl rfl rfl rfl rfl rfl rfl rfl rfl rfl rfl rfl dX4_cover_2 (fun c_1 => hZ.x (Nat.le_of_ble_eq_true rfl) (Nat.le_of_ble_eq_true rfl) (fun _ => by simp [fz, *]) c_1 rfl) (fun c_1 => ?_)
  refine z_aload_n hF dX4_cover_5 rfl ?_
  refine z_get (C := RX4) (T := TX4) (N := 11) (ci := 4) (v := .ref r0) hF k_0 1 (by decide) rfl k_1 rfl 0 rfl rfl dX4_cover_6 ?_
  refine z_iload_n hF dX4_cover_9 rfl ?_
  refine z_VN (As := [.int a]) (rest := []) (ws' := [(d0, .inr (4, [.ref t0, .ref r0, .ref q0, .ref y0, .ref d1, .int o, .int (nI v), .ref u0, .ref d2, .ref d3, .ref d4])), (t0, .inr (3, [.ref t1, .ref t2, .int (nI n)])), (r0, .inr (2, [.ref r1, .ref r2, .ref r3, .int (nI m)])), (r1, eI G 12 b), (r2, eI G 12 e)]) (st2 := [.int (covF b e m a)]) (c2 := 1) (s2 := 6) hF (c_X2_covering G r0 r1 r2 r3 m a b e (by first | assumption | omega)) ggX4_cover_X2_covering (List.mem_of_getElem? (i := 5) rfl) k_2 k_3 k_4 rfl rfl rfl hs_X2_covering ⟨⟨Nat.le_of_ble_eq_true rfl, Nat.le_of_ble_eq_true rfl⟩, ⟨Nat.le_of_ble_eq_true rfl, Nat.le_of_ble_eq_true rfl⟩, Nat.le_of_ble_eq_true rfl⟩ [2, 3, 4] rfl rfl 0 rfl rfl rfl rfl rfl rfl rfl rfl rfl rfl dX4_cover_10 ?_
  exact (hR (by simp [fz, *])).i dX4_cover_13 (Nat.le_of_ble_eq_true rfl) (Nat.le_of_ble_eq_true rfl) (rfl) (rfl)
set_option maxHeartbeats 4000000 in
set_option maxRecDepth 100000 in
theorem c_X4_coverByLetters (G : zG) (d0 t0 r0 q0 y0 d1 u0 d2 d3 d4 v : Nat) (o : Int32) (t1 t2 n : Nat) (g : Nat → Int32) (a : Int32) (hn : n ≤ 60) : zX G yX4_coverByLetters wsX4_coverByLetters ({ frames := 7, cells := 1, slots := 6, locals := 111 }) [.ref d0, .int a] [(d0, .inr (4, [.ref t0, .ref r0, .ref q0, .ref y0, .ref d1, .int o, .int (nI v), .ref u0, .ref d2, .ref d3, .ref d4])), (t0, .inr (3, [.ref t1, .ref t2, .int (nI n)])), (t2, eI G 60 g)] [(d0, .inr (4, [.ref t0, .ref r0, .ref q0, .ref y0, .ref d1, .int o, .int (nI v), .ref u0, .ref d2, .ref d3, .ref d4])), (t0, .inr (3, [.ref t1, .ref t2, .int (nI n)])), (t2, eI G 60 g)] (plC n a) (some (.int (marF n g a))) 1 6 := by
  refine zX.ofI (own := RX4) (cc := cX4_coverByLetters) (maxL := 2) rfl (by decide) rfl rfl (by simp [Value.category]) (Nat.le_of_ble_eq_true rfl) ?_
  intro X hF hZ hR
  have k_0 : ∀ w ∈ wsX40, w ∈ wsX4_coverByLetters := by decide +kernel
  have k_1 : zH X (.fieldLink RX4 10 "MarginDesk" "text" "LMarginDesk$Text;") := hF.w (by decide +kernel)
  have k_2 : zH X (.initialized RX3) := hF.w (by decide +kernel)
  have k_3 : zH X (.instanceMethod yX3_marksBehind) := hF.w (by decide +kernel)
  have k_4 : zH X (.selects RX3 yX3_marksBehind yX3_marksBehind) := hF.w (by decide +kernel)
  refine z_lv (lv' := [some (.ref d0), some (.int a)]) rfl ?_
  refine z_aload_n hF dX4_coverByLetters_0 rfl ?_
  refine z_iload_n hF dX4_coverByLetters_1 rfl ?_
  refine z_Vx (As := [.int a]) (rest := []) (ws' := [(d0, .inr (4, [.ref t0, .ref r0, .ref q0, .ref y0, .ref d1, .int o, .int (nI v), .ref u0, .ref d2, .ref d3, .ref d4])), (t0, .inr (3, [.ref t1, .ref t2, .int (nI n)])), (t2, eI G 60 g)]) (st2 := []) (c2 := 1) (s2 := 6) hF (c_X4_checkPlace G d0 t0 r0 q0 y0 d1 u0 d2 d3 d4 v o t1 t2 n a) gX4_coverByLetters_X4_checkPlace rfl rfl rfl hd_X4_checkPlace ⟨⟨Nat.le_of_ble_eq_true rfl, Nat.le_of_ble_eq_true rfl⟩, ⟨Nat.le_of_ble_eq_true rfl, Nat.le_of_ble_eq_true rfl⟩, Nat.le_of_ble_eq_true rfl⟩ [0, 1] rfl rfl 0 rfl rfl rfl rfl rfl rfl rfl rfl rfl rfl rfl rfl dX4_coverByLetters_2 (fun c_1 => hZ.x (Nat.le_of_ble_eq_true rfl) (Nat.le_of_ble_eq_true rfl) (fun _ => by simp [fz, *]) c_1 rfl) (fun c_1 => ?_)
  refine z_aload_n hF dX4_coverByLetters_5 rfl ?_
  refine z_get (C := RX4) (T := TX4) (N := 11) (ci := 4) (v := .ref t0) hF k_0 0 (by decide) rfl k_1 rfl 0 rfl rfl dX4_coverByLetters_6 ?_
  refine z_iload_n hF dX4_coverByLetters_9 rfl ?_
  refine z_VN (As := [.int a]) (rest := []) (ws' := [(d0, .inr (4, [.ref t0, .ref r0, .ref q0, .ref y0, .ref d1, .int o, .int (nI v), .ref u0, .ref d2, .ref d3, .ref d4])), (t0, .inr (3, [.ref t1, .ref t2, .int (nI n)])), (t2, eI G 60 g)]) (st2 := [.int (marF n g a)]) (c2 := 1) (s2 := 6) hF (c_X3_marksBehind G t0 t1 t2 n g a (by first | assumption | omega)) ggX4_coverByLetters_X3_marksBehind (List.mem_of_getElem? (i := 23) rfl) k_2 k_3 k_4 rfl rfl rfl hs_X3_marksBehind ⟨⟨Nat.le_of_ble_eq_true rfl, Nat.le_of_ble_eq_true rfl⟩, ⟨Nat.le_of_ble_eq_true rfl, Nat.le_of_ble_eq_true rfl⟩, Nat.le_of_ble_eq_true rfl⟩ [1, 2] rfl rfl 0 rfl rfl rfl rfl rfl rfl rfl rfl rfl rfl dX4_coverByLetters_10 ?_
  exact (hR (by simp [fz, *])).i dX4_coverByLetters_13 (Nat.le_of_ble_eq_true rfl) (Nat.le_of_ble_eq_true rfl) (rfl) (rfl)
set_option maxHeartbeats 4000000 in
set_option maxRecDepth 100000 in
theorem c_X4_pieces (G : zG) (d0 t0 r0 q0 y0 d1 u0 d2 d3 d4 v : Nat) (o : Int32) (t1 t2 n : Nat) (r1 r2 r3 m : Nat) (b : Nat → Int32) (e : Nat → Int32) (hm : m ≤ 12) (hn : n ≤ 60) : zM G yX4_pieces wsX4_pieces ({ frames := 3, cells := 0, slots := 0, locals := 76 }) [.ref d0] [(d0, .inr (4, [.ref t0, .ref r0, .ref q0, .ref y0, .ref d1, .int o, .int (nI v), .ref u0, .ref d2, .ref d3, .ref d4])), (t0, .inr (3, [.ref t1, .ref t2, .int (nI n)])), (r0, .inr (2, [.ref r1, .ref r2, .ref r3, .int (nI m)])), (r1, eI G 12 b), (r2, eI G 12 e)] [(d0, .inr (4, [.ref t0, .ref r0, .ref q0, .ref y0, .ref d1, .int o, .int (nI v), .ref u0, .ref d2, .ref d3, .ref d4])), (t0, .inr (3, [.ref t1, .ref t2, .int (nI n)])), (r0, .inr (2, [.ref r1, .ref r2, .ref r3, .int (nI m)])), (r1, eI G 12 b), (r2, eI G 12 e)] (some (.int (nI (cntF (pcP b e m) n)))) 0 0 := by
  refine zM.ofI (own := RX4) (cc := cX4_pieces) (maxL := 3) rfl (by decide) rfl rfl (by simp [Value.category]) (Nat.le_of_ble_eq_true rfl) ?_
  intro X hF hR
  have k_0 : ∀ w ∈ wsX40, w ∈ wsX4_pieces := by decide +kernel
  have k_1 : zH X (.fieldLink RX4 10 "MarginDesk" "text" "LMarginDesk$Text;") := hF.w (by decide +kernel)
  have k_2 : ∀ w ∈ wsX30, w ∈ wsX4_pieces := by decide +kernel
  have k_3 : zH X (.fieldLinkNest RX4 78 "MarginDesk$Text" "size" "I" RX4) := hF.nf (List.mem_of_getElem? (i := 2) rfl)
  refine z_lv (lv' := [some (.ref d0), none, none]) rfl ?_
  refine z_iconst (v := nI 0) hF dX4_pieces_0 (by decide) ?_
  refine z_istore_n (lv' := [some (.ref d0), some (.int (nI 0)), none]) hF dX4_pieces_1 rfl rfl ?_
  refine z_iconst (v := nI 0) hF dX4_pieces_2 (by decide) ?_
  refine z_istore_n (lv' := [some (.ref d0), some (.int (nI 0)), some (.int (nI 0))]) hF dX4_pieces_3 rfl rfl ?_
  refine z_lv (lv' := [some (.ref d0), some (.int (nI (cntF (pcP b e m) 0))), some (.int (nI 0))]) (by rfl) ?_
  have J_4 : ∀ (n9 : Nat) (i : Nat), n - i < n9 → (i ≤ n) → zJ G X 4 [(d0, .inr (4, [.ref t0, .ref r0, .ref q0, .ref y0, .ref d1, .int o, .int (nI v), .ref u0, .ref d2, .ref d3, .ref d4])), (t0, .inr (3, [.ref t1, .ref t2, .int (nI n)])), (r0, .inr (2, [.ref r1, .ref r2, .ref r3, .int (nI m)])), (r1, eI G 12 b), (r2, eI G 12 e)] [some (.ref d0), some (.int (nI (cntF (pcP b e m) i))), some (.int (nI i))] [] 0 0 := by
    intro n9
    induction n9 with
    | zero => intro i hmu; exact absurd hmu (Nat.not_lt_zero _)
    | succ n9 ih =>
      intro i hmu h2
      refine z_iload_n hF dX4_pieces_4 rfl ?_
      refine z_aload_n hF dX4_pieces_5 rfl ?_
      refine z_get (C := RX4) (T := TX4) (N := 11) (ci := 4) (v := .ref t0) hF k_0 0 (by decide) rfl k_1 rfl 0 rfl rfl dX4_pieces_6 ?_
      refine z_getN (C := RX3) (T := TX3) (N := 3) (ci := 3) (v := .int (nI n)) hF k_2 2 (by decide) rfl k_3 rfl 1 rfl rfl dX4_pieces_9 ?_
      refine z_icn_ge (tgt := 32) hF (by omega) (by omega) dX4_pieces_12 (by decide) (fun c_1 => ?_) (fun c_1 => ?_)
      · refine z_iload_n hF dX4_pieces_32 rfl ?_
        exact hR.i dX4_pieces_33 (Nat.le_of_ble_eq_true rfl) (Nat.le_of_ble_eq_true rfl) (rfl) (by rw [show i = n by omega])
      · refine z_aload_n hF dX4_pieces_15 rfl ?_
        refine z_iload_n hF dX4_pieces_16 rfl ?_
        refine z_V (As := [.int (nI i)]) (rest := []) (ws' := [(d0, .inr (4, [.ref t0, .ref r0, .ref q0, .ref y0, .ref d1, .int o, .int (nI v), .ref u0, .ref d2, .ref d3, .ref d4])), (t0, .inr (3, [.ref t1, .ref t2, .int (nI n)])), (r0, .inr (2, [.ref r1, .ref r2, .ref r3, .int (nI m)])), (r1, eI G 12 b), (r2, eI G 12 e)]) (st2 := [.int (zb (pcP b e m i))]) (c2 := 0) (s2 := 0) hF (c_X4_beginsPiece G d0 t0 r0 q0 y0 d1 u0 d2 d3 d4 v o r1 r2 r3 m b e i (by first | assumption | omega) (by first | assumption | omega)) gX4_pieces_X4_beginsPiece rfl rfl rfl hd_X4_beginsPiece ⟨⟨Nat.le_of_ble_eq_true rfl, Nat.le_of_ble_eq_true rfl⟩, ⟨Nat.le_of_ble_eq_true rfl, Nat.le_of_ble_eq_true rfl⟩, Nat.le_of_ble_eq_true rfl⟩ [0, 2, 3, 4] rfl rfl 0 rfl rfl rfl rfl rfl rfl rfl rfl rfl rfl dX4_pieces_17 ?_
        refine z_if_eq_b (tgt := 26) hF dX4_pieces_20 (by decide) (fun hb => ?_) (fun hb => ?_)
        · refine z_iinc (v := nI (i + 1)) (lv' := [some (.ref d0), some (.int (nI (cntF (pcP b e m) i))), some (.int (nI (i + 1)))]) hF dX4_pieces_26 rfl (nI_1 i) rfl rfl ?_
          refine z_goto (tgt := 4) hF dX4_pieces_29 (by decide) ?_
          refine z_lv (lv' := [some (.ref d0), some (.int (nI (cntF (pcP b e m) (i + 1)))), some (.int (nI (i + 1)))]) (by rw [cntF_f (k := i) hb]) ?_
          exact ih (i + 1) (by omega) (by omega)
        · refine z_iinc (v := nI (cntF (pcP b e m) i + 1)) (lv' := [some (.ref d0), some (.int (nI (cntF (pcP b e m) i + 1))), some (.int (nI i))]) hF dX4_pieces_23 rfl (nI_1 (cntF (pcP b e m) i)) rfl rfl ?_
          refine z_iinc (v := nI (i + 1)) (lv' := [some (.ref d0), some (.int (nI (cntF (pcP b e m) i + 1))), some (.int (nI (i + 1)))]) hF dX4_pieces_26 rfl (nI_1 i) rfl rfl ?_
          refine z_goto (tgt := 4) hF dX4_pieces_29 (by decide) ?_
          refine z_lv (lv' := [some (.ref d0), some (.int (nI (cntF (pcP b e m) (i + 1)))), some (.int (nI (i + 1)))]) (by rw [cntF_t (k := i) hb]) ?_
          exact ih (i + 1) (by omega) (by omega)
  exact J_4 ((n - 0) + 1) 0 (Nat.lt_succ_self _) (by omega)
set_option maxHeartbeats 4000000 in
set_option maxRecDepth 100000 in
theorem c_X4_pieceAt (G : zG) (d0 t0 r0 q0 y0 d1 u0 d2 d3 d4 v : Nat) (o : Int32) (t1 t2 n : Nat) (r1 r2 r3 m : Nat) (b : Nat → Int32) (e : Nat → Int32) (x : Int32) (hm : m ≤ 12) (hn : n ≤ 60) : zX G yX4_pieceAt wsX4_pieceAt ({ frames := 6, cells := 1, slots := 6, locals := 90 }) [.ref d0, .int x] [(d0, .inr (4, [.ref t0, .ref r0, .ref q0, .ref y0, .ref d1, .int o, .int (nI v), .ref u0, .ref d2, .ref d3, .ref d4])), (t0, .inr (3, [.ref t1, .ref t2, .int (nI n)])), (r0, .inr (2, [.ref r1, .ref r2, .ref r3, .int (nI m)])), (r1, eI G 12 b), (r2, eI G 12 e)] [(d0, .inr (4, [.ref t0, .ref r0, .ref q0, .ref y0, .ref d1, .int o, .int (nI v), .ref u0, .ref d2, .ref d3, .ref d4])), (t0, .inr (3, [.ref t1, .ref t2, .int (nI n)])), (r0, .inr (2, [.ref r1, .ref r2, .ref r3, .int (nI m)])), (r1, eI G 12 b), (r2, eI G 12 e)] (if fndF (pcP b e m) x n = -1 then 1 else 0) (some (.int (fndF (pcP b e m) x n))) 1 6 := by
  refine zX.ofI (own := RX4) (cc := cX4_pieceAt) (maxL := 4) rfl (by decide) rfl rfl (by simp [Value.category]) (Nat.le_of_ble_eq_true rfl) ?_
  intro X hF hZ hR
  have k_0 : ∀ w ∈ wsX40, w ∈ wsX4_pieceAt := by decide +kernel
  have k_1 : zH X (.fieldLink RX4 10 "MarginDesk" "text" "LMarginDesk$Text;") := hF.w (by decide +kernel)
  have k_2 : ∀ w ∈ wsX30, w ∈ wsX4_pieceAt := by decide +kernel
  have k_3 : zH X (.fieldLinkNest RX4 78 "MarginDesk$Text" "size" "I" RX4) := hF.nf (List.mem_of_getElem? (i := 2) rfl)
  have k_4 : zH X (.classLink RX4 138 "java/lang/IndexOutOfBoundsException") := hF.w (by decide +kernel)
  have k_5 : zH X (.initialized "java/lang/IndexOutOfBoundsException") := hF.w (by decide +kernel)
  have k_6 : ∀ w ∈ (vx_atS RX4 142 (zEx 1) [zRun, zExc]).filter goodWord, w ∈ wsX4_pieceAt := by first | exact fun _ h => List.mem_cons_of_mem _ (List.mem_append_right _ h) | exact fun _ h => List.mem_cons_of_mem _ (List.mem_append_left _ (List.mem_append_right _ h)) | exact fun _ h => List.mem_cons_of_mem _ (List.mem_append_left _ (List.mem_append_left _ (List.mem_append_right _ h))) | exact fun _ h => List.mem_cons_of_mem _ (List.mem_append_left _ (List.mem_append_left _ (List.mem_append_left _ (List.mem_append_right _ h)))) | exact fun _ h => List.mem_cons_of_mem _ (List.mem_append_left _ (List.mem_append_left _ (List.mem_append_left _ (List.mem_append_left _ (List.mem_append_right _ h))))) | decide +kernel
  refine z_lv (lv' := [some (.ref d0), some (.int x), none, none]) rfl ?_
  refine z_iconst (v := nI 0) hF dX4_pieceAt_0 (by decide) ?_
  refine z_istore_n (lv' := [some (.ref d0), some (.int x), some (.int (nI 0)), none]) hF dX4_pieceAt_1 rfl rfl ?_
  refine z_iconst (v := nI 0) hF dX4_pieceAt_2 (by decide) ?_
  refine z_istore_n (lv' := [some (.ref d0), some (.int x), some (.int (nI 0)), some (.int (nI 0))]) hF dX4_pieceAt_3 rfl rfl ?_
  refine z_lv (lv' := [some (.ref d0), some (.int x), some (.int (nI (cntF (pcP b e m) 0))), some (.int (nI 0))]) (by rfl) ?_
  have J_4 : ∀ (n9 : Nat) (i : Nat), n - i < n9 → (i ≤ n) → (fndF (pcP b e m) x i = -1) → zJ G X 4 [(d0, .inr (4, [.ref t0, .ref r0, .ref q0, .ref y0, .ref d1, .int o, .int (nI v), .ref u0, .ref d2, .ref d3, .ref d4])), (t0, .inr (3, [.ref t1, .ref t2, .int (nI n)])), (r0, .inr (2, [.ref r1, .ref r2, .ref r3, .int (nI m)])), (r1, eI G 12 b), (r2, eI G 12 e)] [some (.ref d0), some (.int x), some (.int (nI (cntF (pcP b e m) i))), some (.int (nI i))] [] 0 0 := by
    intro n9
    induction n9 with
    | zero => intro i hmu; exact absurd hmu (Nat.not_lt_zero _)
    | succ n9 ih =>
      intro i hmu h2 hf
      refine z_iload_n hF dX4_pieceAt_4 rfl ?_
      refine z_aload_n hF dX4_pieceAt_5 rfl ?_
      refine z_get (C := RX4) (T := TX4) (N := 11) (ci := 4) (v := .ref t0) hF k_0 0 (by decide) rfl k_1 rfl 0 rfl rfl dX4_pieceAt_6 ?_
      refine z_getN (C := RX3) (T := TX3) (N := 3) (ci := 3) (v := .int (nI n)) hF k_2 2 (by decide) rfl k_3 rfl 1 rfl rfl dX4_pieceAt_9 ?_
      refine z_icn_ge (tgt := 39) hF (by omega) (by omega) dX4_pieceAt_12 (by decide) (fun c_1 => ?_) (fun c_1 => ?_)
      · have h9 : i = n := by omega
        subst h9
        exact z_throw (k := 1) hF hZ k_4 k_5 (List.mem_of_getElem? (i := 2) rfl) k_6 zfit1 zbad1 znc1 zgood1 dX4_pieceAt_39 dX4_pieceAt_42 dX4_pieceAt_43 dX4_pieceAt_45 dX4_pieceAt_48 ⟨Nat.le_of_ble_eq_true rfl, Nat.le_of_ble_eq_true rfl, Nat.le_of_ble_eq_true rfl, Nat.le_of_ble_eq_true rfl⟩ (Nat.le_of_ble_eq_true rfl) (Nat.le_of_ble_eq_true rfl) (by decide) (by rw [if_pos hf]) rfl
      · refine z_aload_n hF dX4_pieceAt_15 rfl ?_
        refine z_iload_n hF dX4_pieceAt_16 rfl ?_
        refine z_V (As := [.int (nI i)]) (rest := []) (ws' := [(d0, .inr (4, [.ref t0, .ref r0, .ref q0, .ref y0, .ref d1, .int o, .int (nI v), .ref u0, .ref d2, .ref d3, .ref d4])), (t0, .inr (3, [.ref t1, .ref t2, .int (nI n)])), (r0, .inr (2, [.ref r1, .ref r2, .ref r3, .int (nI m)])), (r1, eI G 12 b), (r2, eI G 12 e)]) (st2 := [.int (zb (pcP b e m i))]) (c2 := 0) (s2 := 0) hF (c_X4_beginsPiece G d0 t0 r0 q0 y0 d1 u0 d2 d3 d4 v o r1 r2 r3 m b e i (by first | assumption | omega) (by first | assumption | omega)) gX4_pieceAt_X4_beginsPiece rfl rfl rfl hd_X4_beginsPiece ⟨⟨Nat.le_of_ble_eq_true rfl, Nat.le_of_ble_eq_true rfl⟩, ⟨Nat.le_of_ble_eq_true rfl, Nat.le_of_ble_eq_true rfl⟩, Nat.le_of_ble_eq_true rfl⟩ [0, 2, 3, 4] rfl rfl 0 rfl rfl rfl rfl rfl rfl rfl rfl rfl rfl dX4_pieceAt_17 ?_
        refine z_if_eq_b (tgt := 33) hF dX4_pieceAt_20 (by decide) (fun hb => ?_) (fun hb => ?_)
        · refine z_iinc (v := nI (i + 1)) (lv' := [some (.ref d0), some (.int x), some (.int (nI (cntF (pcP b e m) i))), some (.int (nI (i + 1)))]) hF dX4_pieceAt_33 rfl (nI_1 i) rfl rfl ?_
          refine z_goto (tgt := 4) hF dX4_pieceAt_36 (by decide) ?_
          refine z_lv (lv' := [some (.ref d0), some (.int x), some (.int (nI (cntF (pcP b e m) (i + 1)))), some (.int (nI (i + 1)))]) (by rw [cntF_f (k := i) hb]) ?_
          exact ih (i + 1) (by omega) (by omega) (fndF_f hf (by grind))
        · refine z_iload_n hF dX4_pieceAt_23 rfl ?_
          refine z_iload_n hF dX4_pieceAt_24 rfl ?_
          refine z_ic_ne (tgt := 30) hF dX4_pieceAt_25 (by decide) (fun hx => ?_) (fun hx => ?_)
          · refine z_iinc (v := nI (cntF (pcP b e m) i + 1)) (lv' := [some (.ref d0), some (.int x), some (.int (nI (cntF (pcP b e m) i + 1))), some (.int (nI i))]) hF dX4_pieceAt_30 rfl (nI_1 (cntF (pcP b e m) i)) rfl rfl ?_
            refine z_iinc (v := nI (i + 1)) (lv' := [some (.ref d0), some (.int x), some (.int (nI (cntF (pcP b e m) i + 1))), some (.int (nI (i + 1)))]) hF dX4_pieceAt_33 rfl (nI_1 i) rfl rfl ?_
            refine z_goto (tgt := 4) hF dX4_pieceAt_36 (by decide) ?_
            refine z_lv (lv' := [some (.ref d0), some (.int x), some (.int (nI (cntF (pcP b e m) (i + 1)))), some (.int (nI (i + 1)))]) (by rw [cntF_t (k := i) hb]) ?_
            exact ih (i + 1) (by omega) (by omega) (fndF_f hf (by grind))
          · have h9 := fndF_t hf hb hx (by omega) n (by omega)
            refine z_iload_n hF dX4_pieceAt_28 rfl ?_
            exact (hR (by rw [h9]; exact if_neg (nI_m1 (by omega)))).i dX4_pieceAt_29 (Nat.le_of_ble_eq_true rfl) (Nat.le_of_ble_eq_true rfl) (rfl) (h9.symm)
  exact J_4 ((n - 0) + 1) 0 (Nat.lt_succ_self _) (by omega) rfl
set_option maxHeartbeats 4000000 in
set_option maxRecDepth 100000 in
theorem c_X4_suggest (G : zG) (d0 t0 r0 q0 y0 d1 u0 d2 d3 d4 v : Nat) (o : Int32) (t1 t2 n : Nat) (u1 u2 u3 j : Nat) (b2 : Nat → Int32) (e2 : Nat → Int32) (s2 : Nat → Int32) (xl : Nat → Int32) (xc : Nat → Int32) (xs : Nat → Int32) (a k l w : Int32) (hn : n ≤ 60) (hj : j ≤ 10) : zX G yX4_suggest wsX4_suggest ({ frames := 8, cells := 6, slots := 36, locals := 134 }) [.ref d0, .int a, .int k, .int l, .int w] [(d0, .inr (4, [.ref t0, .ref r0, .ref q0, .ref y0, .ref d1, .int o, .int (nI v), .ref u0, .ref d2, .ref d3, .ref d4])), (t0, .inr (3, [.ref t1, .ref t2, .int (nI n)])), (u0, .inr (2, [.ref u1, .ref u2, .ref u3, .int (nI j)])), (u1, eI G 12 b2), (u2, eI G 12 e2), (u3, eI G 12 s2), (d2, eI G 10 xl), (d3, eI G 10 xc), (d4, eI G 10 xs)] [(d0, .inr (4, [.ref t0, .ref r0, .ref q0, .ref y0, .ref d1, .int o, .int (nI v), .ref u0, .ref d2, .ref d3, .ref d4])), (t0, .inr (3, [.ref t1, .ref t2, .int (nI n)])), (u0, .inr (2, [.ref u1, .ref u2, .ref u3, .int (nI (j + 1))])), (u1, eI G 12 (upd b2 j a)), (u2, eI G 12 (upd e2 j k)), (u3, eI G 12 (upd s2 j (nI 0))), (d2, eI G 10 (upd xl j l)), (d3, eI G 10 (upd xc j w)), (d4, eI G 10 (upd xs j (nI 0)))] (fz (rgC n a k) (fz (amC l (nI 0) (nI 25)) (fz (amC w (nI 0) (nI 5)) (if j < 10 then 0 else 3)))) (some (.int (nI j))) 6 36 := by
  refine zX.ofI (own := RX4) (cc := cX4_suggest) (maxL := 6) rfl (by decide) rfl rfl (by simp [Value.category]) (Nat.le_of_ble_eq_true rfl) ?_
  intro X hF hZ hR
  have k_0 : ∀ w ∈ wsX40, w ∈ wsX4_suggest := by decide +kernel
  have k_1 : zH X (.fieldLink RX4 48 "MarginDesk" "suggestionRanges" "LMarginDesk$Ranges;") := hF.w (by decide +kernel)
  have k_2 : ∀ w ∈ wsX20, w ∈ wsX4_suggest := by decide +kernel
  have k_3 : zH X (.fieldLinkNest RX4 92 "MarginDesk$Ranges" "count" "I" RX4) := hF.nf (List.mem_of_getElem? (i := 3) rfl)
  have k_4 : zH X (.initialized RX2) := hF.w (by decide +kernel)
  have k_5 : zH X (.instanceMethod yX2_add) := hF.w (by decide +kernel)
  have k_6 : zH X (.selects RX2 yX2_add yX2_add) := hF.w (by decide +kernel)
  have k_7 : zH X (.fieldLink RX4 51 "MarginDesk" "suggestedLetters" "[I") := hF.w (by decide +kernel)
  have k_8 : zH X (.fieldLink RX4 54 "MarginDesk" "suggestedCounts" "[I") := hF.w (by decide +kernel)
  have k_9 : zH X (.fieldLink RX4 57 "MarginDesk" "states" "[I") := hF.w (by decide +kernel)
  have k_10 : zH X (.classLink RX4 95 "java/lang/IllegalStateException") := hF.w (by decide +kernel)
  have k_11 : zH X (.initialized "java/lang/IllegalStateException") := hF.w (by decide +kernel)
  have k_12 : ∀ w ∈ (vx_atS RX4 99 (zEx 3) [zRun, zExc]).filter goodWord, w ∈ wsX4_suggest := by first | exact fun _ h => List.mem_cons_of_mem _ (List.mem_append_right _ h) | exact fun _ h => List.mem_cons_of_mem _ (List.mem_append_left _ (List.mem_append_right _ h)) | exact fun _ h => List.mem_cons_of_mem _ (List.mem_append_left _ (List.mem_append_left _ (List.mem_append_right _ h))) | exact fun _ h => List.mem_cons_of_mem _ (List.mem_append_left _ (List.mem_append_left _ (List.mem_append_left _ (List.mem_append_right _ h)))) | exact fun _ h => List.mem_cons_of_mem _ (List.mem_append_left _ (List.mem_append_left _ (List.mem_append_left _ (List.mem_append_left _ (List.mem_append_right _ h))))) | decide +kernel
  refine z_lv (lv' := [some (.ref d0), some (.int a), some (.int k), some (.int l), some (.int w), none]) rfl ?_
  refine z_aload_n hF dX4_suggest_0 rfl ?_
  refine z_iload_n hF dX4_suggest_1 rfl ?_
  refine z_iload_n hF dX4_suggest_2 rfl ?_
  refine z_Vx (As := [.int a, .int k]) (rest := []) (ws' := [(d0, .inr (4, [.ref t0, .ref r0, .ref q0, .ref y0, .ref d1, .int o, .int (nI v), .ref u0, .ref d2, .ref d3, .ref d4])), (t0, .inr (3, [.ref t1, .ref t2, .int (nI n)])), (u0, .inr (2, [.ref u1, .ref u2, .ref u3, .int (nI j)])), (u1, eI G 12 b2), (u2, eI G 12 e2), (u3, eI G 12 s2), (d2, eI G 10 xl), (d3, eI G 10 xc), (d4, eI G 10 xs)]) (st2 := []) (c2 := 3) (s2 := 18) hF (c_X4_checkRange G d0 t0 r0 q0 y0 d1 u0 d2 d3 d4 v o t1 t2 n a k) gX4_suggest_X4_checkRange rfl rfl rfl hd_X4_checkRange ⟨⟨Nat.le_of_ble_eq_true rfl, Nat.le_of_ble_eq_true rfl⟩, ⟨Nat.le_of_ble_eq_true rfl, Nat.le_of_ble_eq_true rfl⟩, Nat.le_of_ble_eq_true rfl⟩ [0, 1] rfl rfl 0 rfl rfl rfl rfl rfl rfl rfl rfl rfl rfl rfl rfl dX4_suggest_3 (fun h1 => hZ.x (Nat.le_of_ble_eq_true rfl) (Nat.le_of_ble_eq_true rfl) (fun _ => by simp [fz, *]) h1 rfl) (fun h1 => ?_)
  refine z_aload_n hF dX4_suggest_6 rfl ?_
  refine z_iload_n hF dX4_suggest_7 rfl ?_
  refine z_Vx (As := [.int l]) (rest := []) (ws' := [(d0, .inr (4, [.ref t0, .ref r0, .ref q0, .ref y0, .ref d1, .int o, .int (nI v), .ref u0, .ref d2, .ref d3, .ref d4])), (t0, .inr (3, [.ref t1, .ref t2, .int (nI n)])), (u0, .inr (2, [.ref u1, .ref u2, .ref u3, .int (nI j)])), (u1, eI G 12 b2), (u2, eI G 12 e2), (u3, eI G 12 s2), (d2, eI G 10 xl), (d3, eI G 10 xc), (d4, eI G 10 xs)]) (st2 := []) (c2 := 4) (s2 := 24) hF (c_X4_checkLetter G d0 t0 r0 q0 y0 d1 u0 d2 d3 d4 v o l) gX4_suggest_X4_checkLetter rfl rfl rfl hd_X4_checkLetter ⟨⟨Nat.le_of_ble_eq_true rfl, Nat.le_of_ble_eq_true rfl⟩, ⟨Nat.le_of_ble_eq_true rfl, Nat.le_of_ble_eq_true rfl⟩, Nat.le_of_ble_eq_true rfl⟩ [0] rfl rfl 0 rfl rfl rfl rfl rfl rfl rfl rfl rfl rfl rfl rfl dX4_suggest_8 (fun h2 => hZ.x (Nat.le_of_ble_eq_true rfl) (Nat.le_of_ble_eq_true rfl) (fun _ => by simp [fz, *]) h2 rfl) (fun h2 => ?_)
  refine z_aload_n hF dX4_suggest_11 rfl ?_
  refine z_iload hF dX4_suggest_12 rfl ?_
  refine z_iconst (v := nI 0) hF dX4_suggest_14 (by decide) ?_
  refine z_iconst (v := nI 5) hF dX4_suggest_15 (by decide) ?_
  refine z_Vx (As := [.int w, .int (nI 0), .int (nI 5)]) (rest := []) (ws' := [(d0, .inr (4, [.ref t0, .ref r0, .ref q0, .ref y0, .ref d1, .int o, .int (nI v), .ref u0, .ref d2, .ref d3, .ref d4])), (t0, .inr (3, [.ref t1, .ref t2, .int (nI n)])), (u0, .inr (2, [.ref u1, .ref u2, .ref u3, .int (nI j)])), (u1, eI G 12 b2), (u2, eI G 12 e2), (u3, eI G 12 s2), (d2, eI G 10 xl), (d3, eI G 10 xc), (d4, eI G 10 xs)]) (st2 := []) (c2 := 5) (s2 := 30) hF (c_X4_checkAmong G d0 t0 r0 q0 y0 d1 u0 d2 d3 d4 v o w (nI 0) (nI 5)) gX4_suggest_X4_checkAmong rfl rfl rfl hd_X4_checkAmong ⟨⟨Nat.le_of_ble_eq_true rfl, Nat.le_of_ble_eq_true rfl⟩, ⟨Nat.le_of_ble_eq_true rfl, Nat.le_of_ble_eq_true rfl⟩, Nat.le_of_ble_eq_true rfl⟩ [0] rfl rfl 0 rfl rfl rfl rfl rfl rfl rfl rfl rfl rfl rfl rfl dX4_suggest_16 (fun h3 => hZ.x (Nat.le_of_ble_eq_true rfl) (Nat.le_of_ble_eq_true rfl) (fun _ => by simp [fz, *]) h3 rfl) (fun h3 => ?_)
  refine z_aload_n hF dX4_suggest_19 rfl ?_
  refine z_get (C := RX4) (T := TX4) (N := 11) (ci := 4) (v := .ref u0) hF k_0 7 (by decide) rfl k_1 rfl 0 rfl rfl dX4_suggest_20 ?_
  refine z_getN (C := RX2) (T := TX2) (N := 4) (ci := 2) (v := .int (nI j)) hF k_2 3 (by decide) rfl k_3 rfl 2 rfl rfl dX4_suggest_23 ?_
  refine z_bipush (v := nI 10) hF dX4_suggest_26 (by decide) ?_
  refine z_icn_lt (tgt := 41) hF (by omega) (by omega) dX4_suggest_28 (by decide) (fun h4 => ?_) (fun h4 => ?_)
  · refine z_aload_n hF dX4_suggest_41 rfl ?_
    refine z_get (C := RX4) (T := TX4) (N := 11) (ci := 4) (v := .ref u0) hF k_0 7 (by decide) rfl k_1 rfl 0 rfl rfl dX4_suggest_42 ?_
    refine z_iload_n hF dX4_suggest_45 rfl ?_
    refine z_iload_n hF dX4_suggest_46 rfl ?_
    refine z_iconst (v := nI 0) hF dX4_suggest_47 (by decide) ?_
    refine z_VN (As := [.int a, .int k, .int (nI 0)]) (rest := []) (ws' := [(d0, .inr (4, [.ref t0, .ref r0, .ref q0, .ref y0, .ref d1, .int o, .int (nI v), .ref u0, .ref d2, .ref d3, .ref d4])), (t0, .inr (3, [.ref t1, .ref t2, .int (nI n)])), (u0, .inr (2, [.ref u1, .ref u2, .ref u3, .int (nI (j + 1))])), (u1, eI G 12 (upd b2 j a)), (u2, eI G 12 (upd e2 j k)), (u3, eI G 12 (upd s2 j (nI 0))), (d2, eI G 10 xl), (d3, eI G 10 xc), (d4, eI G 10 xs)]) (st2 := [.int (nI j)]) (c2 := 5) (s2 := 30) hF (c_X2_add G u0 u1 u2 u3 j a k (nI 0) b2 e2 s2 (by first | assumption | omega)) ggX4_suggest_X2_add (List.mem_of_getElem? (i := 15) rfl) k_4 k_5 k_6 rfl rfl rfl hs_X2_add ⟨⟨Nat.le_of_ble_eq_true rfl, Nat.le_of_ble_eq_true rfl⟩, ⟨Nat.le_of_ble_eq_true rfl, Nat.le_of_ble_eq_true rfl⟩, Nat.le_of_ble_eq_true rfl⟩ [2, 3, 4, 5] rfl rfl 0 rfl rfl rfl rfl rfl rfl rfl rfl rfl rfl dX4_suggest_48 ?_
    refine z_istore (lv' := [some (.ref d0), some (.int a), some (.int k), some (.int l), some (.int w), some (.int (nI j))]) hF dX4_suggest_51 rfl rfl ?_
    refine z_aload_n hF dX4_suggest_53 rfl ?_
    refine z_get (C := RX4) (T := TX4) (N := 11) (ci := 4) (v := .ref d2) hF k_0 8 (by decide) rfl k_7 rfl 0 rfl rfl dX4_suggest_54 ?_
    refine z_iload hF dX4_suggest_57 rfl ?_
    refine z_iload_n hF dX4_suggest_59 rfl ?_
    refine z_iast (k := j) (ws' := [(d0, .inr (4, [.ref t0, .ref r0, .ref q0, .ref y0, .ref d1, .int o, .int (nI v), .ref u0, .ref d2, .ref d3, .ref d4])), (t0, .inr (3, [.ref t1, .ref t2, .int (nI n)])), (u0, .inr (2, [.ref u1, .ref u2, .ref u3, .int (nI (j + 1))])), (u1, eI G 12 (upd b2 j a)), (u2, eI G 12 (upd e2 j k)), (u3, eI G 12 (upd s2 j (nI 0))), (d2, eI G 10 (upd xl j l)), (d3, eI G 10 xc), (d4, eI G 10 xs)]) hF 6 rfl (rfl) (by omega) rfl rfl dX4_suggest_60 ?_
    refine z_aload_n hF dX4_suggest_61 rfl ?_
    refine z_get (C := RX4) (T := TX4) (N := 11) (ci := 4) (v := .ref d3) hF k_0 9 (by decide) rfl k_8 rfl 0 rfl rfl dX4_suggest_62 ?_
    refine z_iload hF dX4_suggest_65 rfl ?_
    refine z_iload hF dX4_suggest_67 rfl ?_
    refine z_iast (k := j) (ws' := [(d0, .inr (4, [.ref t0, .ref r0, .ref q0, .ref y0, .ref d1, .int o, .int (nI v), .ref u0, .ref d2, .ref d3, .ref d4])), (t0, .inr (3, [.ref t1, .ref t2, .int (nI n)])), (u0, .inr (2, [.ref u1, .ref u2, .ref u3, .int (nI (j + 1))])), (u1, eI G 12 (upd b2 j a)), (u2, eI G 12 (upd e2 j k)), (u3, eI G 12 (upd s2 j (nI 0))), (d2, eI G 10 (upd xl j l)), (d3, eI G 10 (upd xc j w)), (d4, eI G 10 xs)]) hF 7 rfl (rfl) (by omega) rfl rfl dX4_suggest_69 ?_
    refine z_aload_n hF dX4_suggest_70 rfl ?_
    refine z_get (C := RX4) (T := TX4) (N := 11) (ci := 4) (v := .ref d4) hF k_0 10 (by decide) rfl k_9 rfl 0 rfl rfl dX4_suggest_71 ?_
    refine z_iload hF dX4_suggest_74 rfl ?_
    refine z_iconst (v := nI 0) hF dX4_suggest_76 (by decide) ?_
    refine z_iast (k := j) (ws' := [(d0, .inr (4, [.ref t0, .ref r0, .ref q0, .ref y0, .ref d1, .int o, .int (nI v), .ref u0, .ref d2, .ref d3, .ref d4])), (t0, .inr (3, [.ref t1, .ref t2, .int (nI n)])), (u0, .inr (2, [.ref u1, .ref u2, .ref u3, .int (nI (j + 1))])), (u1, eI G 12 (upd b2 j a)), (u2, eI G 12 (upd e2 j k)), (u3, eI G 12 (upd s2 j (nI 0))), (d2, eI G 10 (upd xl j l)), (d3, eI G 10 (upd xc j w)), (d4, eI G 10 (upd xs j (nI 0)))]) hF 8 rfl (rfl) (by omega) rfl rfl dX4_suggest_77 ?_
    refine z_iload hF dX4_suggest_78 rfl ?_
    exact (hR (by simp [fz, *])).i dX4_suggest_80 (Nat.le_of_ble_eq_true rfl) (Nat.le_of_ble_eq_true rfl) (rfl) (rfl)
  · have h9 := Nat.not_lt.mpr h4
    exact z_throw (k := 3) hF hZ k_10 k_11 (List.mem_of_getElem? (i := 3) rfl) k_12 zfit3 zbad3 znc3 zgood3 dX4_suggest_31 dX4_suggest_34 dX4_suggest_35 dX4_suggest_37 dX4_suggest_40 ⟨Nat.le_of_ble_eq_true rfl, Nat.le_of_ble_eq_true rfl, Nat.le_of_ble_eq_true rfl, Nat.le_of_ble_eq_true rfl⟩ (Nat.le_of_ble_eq_true rfl) (Nat.le_of_ble_eq_true rfl) (by decide) (by simp [fz, *]) rfl
set_option maxHeartbeats 4000000 in
set_option maxRecDepth 100000 in
theorem c_X4_accept0 (G : zG) (d0 t0 r0 q0 y0 d1 u0 d2 d3 d4 v : Nat) (o : Int32) (t1 t2 n : Nat) (f : Nat → Int32) (g : Nat → Int32) (r1 r2 r3 m : Nat) (b : Nat → Int32) (e : Nat → Int32) (s : Nat → Int32) (y1 : Nat) (h : Nat → Int32) (u1 u2 u3 j : Nat) (b2 : Nat → Int32) (e2 : Nat → Int32) (s2 : Nat → Int32) (xl : Nat → Int32) (xc : Nat → Int32) (xs : Nat → Int32) (a : Int32) (p q : Nat) (hn : n ≤ 60) (hm : m ≤ 12) (hj : j ≤ 10) (hv : v ≤ 300) (hw : cmC j a = 0 → waC (xs a.toNatClampNeg) = 0 → b2 a.toNatClampNeg = nI p ∧ e2 a.toNatClampNeg = nI q ∧ p < q ∧ q ≤ n) (hz : xc a.toNatClampNeg = nI 0) : zX G yX4_accept wsX4_accept ({ frames := 7, cells := 3, slots := 18, locals := 121 }) [.ref d0, .int a] [(d0, .inr (4, [.ref t0, .ref r0, .ref q0, .ref y0, .ref d1, .int o, .int (nI v), .ref u0, .ref d2, .ref d3, .ref d4])), (y0, .inr (0, [.ref y1])), (y1, eI G 3600 h), (r0, .inr (2, [.ref r1, .ref r2, .ref r3, .int (nI m)])), (r1, eI G 12 b), (r2, eI G 12 e), (r3, eI G 12 s), (u0, .inr (2, [.ref u1, .ref u2, .ref u3, .int (nI j)])), (u1, eI G 12 b2), (u2, eI G 12 e2), (u3, eI G 12 s2), (t0, .inr (3, [.ref t1, .ref t2, .int (nI n)])), (t1, eI G 60 f), (t2, eI G 60 g), (d2, eI G 10 xl), (d3, eI G 10 xc), (d4, eI G 10 xs)] [(d0, .inr (4, [.ref t0, .ref r0, .ref q0, .ref y0, .ref d1, .int o, .int (nI (v + 1)), .ref u0, .ref d2, .ref d3, .ref d4])), (y0, .inr (0, [.ref y1])), (y1, eI G 3600 (wrF h (v * 12) 12 (fun kk => if kk < m then numF (b kk) (e kk) else -1))), (r0, .inr (2, [.ref r1, .ref r2, .ref r3, .int (nI m)])), (r1, eI G 12 (mpF m (remB (nI p) (nI (q - p)) b e) b)), (r2, eI G 12 (mpF m (remE (nI p) (nI (q - p)) b e) e)), (r3, eI G 12 s), (u0, .inr (2, [.ref u1, .ref u2, .ref u3, .int (nI j)])), (u1, eI G 12 (mpF j (remB (nI p) (nI (q - p)) b2 e2) b2)), (u2, eI G 12 (mpF j (remE (nI p) (nI (q - p)) b2 e2) e2)), (u3, eI G 12 s2), (t0, .inr (3, [.ref t1, .ref t2, .int (nI (n - (q - p)))])), (t1, eI G 60 (va_cpy f f (p + (q - p)) p (n - (p + (q - p))))), (t2, eI G 60 (va_cpy g g (p + (q - p)) p (n - (p + (q - p))))), (d2, eI G 10 xl), (d3, eI G 10 xc), (d4, eI G 10 (mpF j (lgF (gonF (nI p) (nI (q - p)) b2 e2 j) (upd xs a.toNatClampNeg (nI 1))) (upd xs a.toNatClampNeg (nI 1))))] (fz (cmC j a) (fz (waC (xs a.toNatClampNeg)) (fz (if ovF b2 e2 xs a.toNatClampNeg j = 0 then 0 else 3) (roC n v (nI 0 - nI (q - p)) (nI 1))))) (some (.int (nI (n - (q - p))))) 3 18 := by
  refine zX.ofI (own := RX4) (cc := cX4_accept) (maxL := 5) rfl (by decide) rfl rfl (by simp [Value.category]) (Nat.le_of_ble_eq_true rfl) ?_
  intro X hF hZ hR
  have k_0 : ∀ w ∈ wsX40, w ∈ wsX4_accept := by decide +kernel
  have k_1 : zH X (.fieldLink RX4 48 "MarginDesk" "suggestionRanges" "LMarginDesk$Ranges;") := hF.w (by decide +kernel)
  have k_2 : ∀ w ∈ wsX20, w ∈ wsX4_accept := by decide +kernel
  have k_3 : zH X (.fieldLinkNest RX4 170 "MarginDesk$Ranges" "begins" "[I" RX4) := hF.nf (List.mem_of_getElem? (i := 0) rfl)
  have k_4 : zH X (.fieldLinkNest RX4 173 "MarginDesk$Ranges" "ends" "[I" RX4) := hF.nf (List.mem_of_getElem? (i := 1) rfl)
  have k_5 : zH X (.fieldLink RX4 54 "MarginDesk" "suggestedCounts" "[I") := hF.w (by decide +kernel)
  have k_6 : zH X (.fieldLink RX4 57 "MarginDesk" "states" "[I") := hF.w (by decide +kernel)
  have k_7 : zH X (.fieldLink RX4 10 "MarginDesk" "text" "LMarginDesk$Text;") := hF.w (by decide +kernel)
  have k_8 : ∀ w ∈ wsX30, w ∈ wsX4_accept := by decide +kernel
  have k_9 : zH X (.fieldLinkNest RX4 78 "MarginDesk$Text" "size" "I" RX4) := hF.nf (List.mem_of_getElem? (i := 2) rfl)
  have k_10 : zH X (.classLink RX4 95 "java/lang/IllegalStateException") := hF.w (by decide +kernel)
  have k_11 : zH X (.initialized "java/lang/IllegalStateException") := hF.w (by decide +kernel)
  have k_12 : ∀ w ∈ (vx_atS RX4 99 (zEx 3) [zRun, zExc]).filter goodWord, w ∈ wsX4_accept := by first | exact fun _ h => List.mem_cons_of_mem _ (List.mem_append_right _ h) | exact fun _ h => List.mem_cons_of_mem _ (List.mem_append_left _ (List.mem_append_right _ h)) | exact fun _ h => List.mem_cons_of_mem _ (List.mem_append_left _ (List.mem_append_left _ (List.mem_append_right _ h))) | exact fun _ h => List.mem_cons_of_mem _ (List.mem_append_left _ (List.mem_append_left _ (List.mem_append_left _ (List.mem_append_right _ h)))) | exact fun _ h => List.mem_cons_of_mem _ (List.mem_append_left _ (List.mem_append_left _ (List.mem_append_left _ (List.mem_append_left _ (List.mem_append_right _ h))))) | decide +kernel
  refine z_lv (lv' := [some (.ref d0), some (.int a), none, none, none]) rfl ?_
  refine z_aload_n hF dX4_accept_0 rfl ?_
  refine z_iload_n hF dX4_accept_1 rfl ?_
  refine z_Vx (As := [.int a]) (rest := []) (ws' := [(d0, .inr (4, [.ref t0, .ref r0, .ref q0, .ref y0, .ref d1, .int o, .int (nI v), .ref u0, .ref d2, .ref d3, .ref d4])), (y0, .inr (0, [.ref y1])), (y1, eI G 3600 h), (r0, .inr (2, [.ref r1, .ref r2, .ref r3, .int (nI m)])), (r1, eI G 12 b), (r2, eI G 12 e), (r3, eI G 12 s), (u0, .inr (2, [.ref u1, .ref u2, .ref u3, .int (nI j)])), (u1, eI G 12 b2), (u2, eI G 12 e2), (u3, eI G 12 s2), (t0, .inr (3, [.ref t1, .ref t2, .int (nI n)])), (t1, eI G 60 f), (t2, eI G 60 g), (d2, eI G 10 xl), (d3, eI G 10 xc), (d4, eI G 10 xs)]) (st2 := []) (c2 := 1) (s2 := 6) hF (c_X4_checkSuggestion G d0 t0 r0 q0 y0 d1 u0 d2 d3 d4 v o u1 u2 u3 j a) gX4_accept_X4_checkSuggestion rfl rfl rfl hd_X4_checkSuggestion ⟨⟨Nat.le_of_ble_eq_true rfl, Nat.le_of_ble_eq_true rfl⟩, ⟨Nat.le_of_ble_eq_true rfl, Nat.le_of_ble_eq_true rfl⟩, Nat.le_of_ble_eq_true rfl⟩ [0, 7] rfl rfl 0 rfl rfl rfl rfl rfl rfl rfl rfl rfl rfl rfl rfl dX4_accept_2 (fun h1 => hZ.x (Nat.le_of_ble_eq_true rfl) (Nat.le_of_ble_eq_true rfl) (fun _ => by simp [fz, *]) h1 rfl) (fun h1 => ?_)
  have ha := cmC_0 (by omega) h1
  refine z_lv (lv' := [some (.ref d0), some (.int (nI a.toNatClampNeg)), none, none, none]) (by rw [← ha.1]) ?_
  refine z_aload_n hF dX4_accept_5 rfl ?_
  refine z_iload_n hF dX4_accept_6 rfl ?_
  refine z_Vx (As := [.int (nI a.toNatClampNeg)]) (rest := []) (ws' := [(d0, .inr (4, [.ref t0, .ref r0, .ref q0, .ref y0, .ref d1, .int o, .int (nI v), .ref u0, .ref d2, .ref d3, .ref d4])), (y0, .inr (0, [.ref y1])), (y1, eI G 3600 h), (r0, .inr (2, [.ref r1, .ref r2, .ref r3, .int (nI m)])), (r1, eI G 12 b), (r2, eI G 12 e), (r3, eI G 12 s), (u0, .inr (2, [.ref u1, .ref u2, .ref u3, .int (nI j)])), (u1, eI G 12 b2), (u2, eI G 12 e2), (u3, eI G 12 s2), (t0, .inr (3, [.ref t1, .ref t2, .int (nI n)])), (t1, eI G 60 f), (t2, eI G 60 g), (d2, eI G 10 xl), (d3, eI G 10 xc), (d4, eI G 10 xs)]) (st2 := []) (c2 := 2) (s2 := 12) hF (c_X4_checkWaiting G d0 t0 r0 q0 y0 d1 u0 d2 d3 d4 v o xs a.toNatClampNeg (by first | assumption | omega)) gX4_accept_X4_checkWaiting rfl rfl rfl hd_X4_checkWaiting ⟨⟨Nat.le_of_ble_eq_true rfl, Nat.le_of_ble_eq_true rfl⟩, ⟨Nat.le_of_ble_eq_true rfl, Nat.le_of_ble_eq_true rfl⟩, Nat.le_of_ble_eq_true rfl⟩ [0, 16] rfl rfl 0 rfl rfl rfl rfl rfl rfl rfl rfl rfl rfl rfl rfl dX4_accept_7 (fun h2 => hZ.x (Nat.le_of_ble_eq_true rfl) (Nat.le_of_ble_eq_true rfl) (fun _ => by simp [fz, *]) h2 rfl) (fun h2 => ?_)
  refine z_aload_n hF dX4_accept_10 rfl ?_
  refine z_iload_n hF dX4_accept_11 rfl ?_
  refine z_V (As := [.int (nI a.toNatClampNeg)]) (rest := []) (ws' := [(d0, .inr (4, [.ref t0, .ref r0, .ref q0, .ref y0, .ref d1, .int o, .int (nI v), .ref u0, .ref d2, .ref d3, .ref d4])), (y0, .inr (0, [.ref y1])), (y1, eI G 3600 h), (r0, .inr (2, [.ref r1, .ref r2, .ref r3, .int (nI m)])), (r1, eI G 12 b), (r2, eI G 12 e), (r3, eI G 12 s), (u0, .inr (2, [.ref u1, .ref u2, .ref u3, .int (nI j)])), (u1, eI G 12 b2), (u2, eI G 12 e2), (u3, eI G 12 s2), (t0, .inr (3, [.ref t1, .ref t2, .int (nI n)])), (t1, eI G 60 f), (t2, eI G 60 g), (d2, eI G 10 xl), (d3, eI G 10 xc), (d4, eI G 10 xs)]) (st2 := [.int (ovF b2 e2 xs a.toNatClampNeg j)]) (c2 := 2) (s2 := 12) hF (c_X4_overlapping G d0 t0 r0 q0 y0 d1 u0 d2 d3 d4 v o u1 u2 u3 j b2 e2 xs a.toNatClampNeg (by first | assumption | omega) (by first | assumption | omega)) gX4_accept_X4_overlapping rfl rfl rfl hd_X4_overlapping ⟨⟨Nat.le_of_ble_eq_true rfl, Nat.le_of_ble_eq_true rfl⟩, ⟨Nat.le_of_ble_eq_true rfl, Nat.le_of_ble_eq_true rfl⟩, Nat.le_of_ble_eq_true rfl⟩ [0, 7, 8, 9, 16] rfl rfl 0 rfl rfl rfl rfl rfl rfl rfl rfl rfl rfl dX4_accept_12 ?_
  refine z_if_eq (tgt := 28) hF dX4_accept_15 (by decide) (fun h3 => ?_) (fun h3 => ?_)
  · obtain ⟨hb, he, hpq, hqn⟩ := hw h1 h2
    refine z_aload_n hF dX4_accept_28 rfl ?_
    refine z_get (C := RX4) (T := TX4) (N := 11) (ci := 4) (v := .ref u0) hF k_0 7 (by decide) rfl k_1 rfl 0 rfl rfl dX4_accept_29 ?_
    refine z_getN (C := RX2) (T := TX2) (N := 4) (ci := 2) (v := .ref u1) hF k_2 0 (by decide) rfl k_3 rfl 7 rfl rfl dX4_accept_32 ?_
    refine z_iload_n hF dX4_accept_35 rfl ?_
    refine z_iald (k := a.toNatClampNeg) hF 8 rfl (rfl) (by omega) rfl dX4_accept_36 ?_
    refine z_top (y := nI p) (hb) ?_
    refine z_istore_n (lv' := [some (.ref d0), some (.int (nI a.toNatClampNeg)), some (.int (nI p)), none, none]) hF dX4_accept_37 rfl rfl ?_
    refine z_aload_n hF dX4_accept_38 rfl ?_
    refine z_get (C := RX4) (T := TX4) (N := 11) (ci := 4) (v := .ref u0) hF k_0 7 (by decide) rfl k_1 rfl 0 rfl rfl dX4_accept_39 ?_
    refine z_getN (C := RX2) (T := TX2) (N := 4) (ci := 2) (v := .ref u2) hF k_2 1 (by decide) rfl k_4 rfl 7 rfl rfl dX4_accept_42 ?_
    refine z_iload_n hF dX4_accept_45 rfl ?_
    refine z_iald (k := a.toNatClampNeg) hF 9 rfl (rfl) (by omega) rfl dX4_accept_46 ?_
    refine z_top (y := nI q) (he) ?_
    refine z_iload_n hF dX4_accept_47 rfl ?_
    refine z_isub hF dX4_accept_48 ?_
    refine z_top (pk_sub (by omega)) ?_
    refine z_istore_n (lv' := [some (.ref d0), some (.int (nI a.toNatClampNeg)), some (.int (nI p)), some (.int (nI (q - p))), none]) hF dX4_accept_49 rfl rfl ?_
    refine z_aload_n hF dX4_accept_50 rfl ?_
    refine z_get (C := RX4) (T := TX4) (N := 11) (ci := 4) (v := .ref d3) hF k_0 9 (by decide) rfl k_5 rfl 0 rfl rfl dX4_accept_51 ?_
    refine z_iload_n hF dX4_accept_54 rfl ?_
    refine z_iald (k := a.toNatClampNeg) hF 15 rfl (rfl) (by omega) rfl dX4_accept_55 ?_
    refine z_top (y := nI 0) (hz) ?_
    refine z_istore (lv' := [some (.ref d0), some (.int (nI a.toNatClampNeg)), some (.int (nI p)), some (.int (nI (q - p))), some (.int (nI 0))]) hF dX4_accept_56 rfl rfl ?_
    refine z_aload_n hF dX4_accept_58 rfl ?_
    refine z_iload hF dX4_accept_59 rfl ?_
    refine z_iload_n hF dX4_accept_61 rfl ?_
    refine z_isub hF dX4_accept_62 ?_
    refine z_iload hF dX4_accept_63 rfl ?_
    refine z_if_ne (tgt := 72) hF dX4_accept_65 (by decide) (fun c_1 => absurd c_1 (by decide)) (fun c_1 => ?_)
    refine z_iconst (v := nI 1) hF dX4_accept_68 (by decide) ?_
    refine z_goto (tgt := 73) hF dX4_accept_69 (by decide) ?_
    refine z_Vx (As := [.int ((nI 0) - (nI (q - p))), .int (nI 1)]) (rest := []) (ws' := [(d0, .inr (4, [.ref t0, .ref r0, .ref q0, .ref y0, .ref d1, .int o, .int (nI v), .ref u0, .ref d2, .ref d3, .ref d4])), (y0, .inr (0, [.ref y1])), (y1, eI G 3600 h), (r0, .inr (2, [.ref r1, .ref r2, .ref r3, .int (nI m)])), (r1, eI G 12 b), (r2, eI G 12 e), (r3, eI G 12 s), (u0, .inr (2, [.ref u1, .ref u2, .ref u3, .int (nI j)])), (u1, eI G 12 b2), (u2, eI G 12 e2), (u3, eI G 12 s2), (t0, .inr (3, [.ref t1, .ref t2, .int (nI n)])), (t1, eI G 60 f), (t2, eI G 60 g), (d2, eI G 10 xl), (d3, eI G 10 xc), (d4, eI G 10 xs)]) (st2 := []) (c2 := 3) (s2 := 18) hF (c_X4_checkRoom G d0 t0 r0 q0 y0 d1 u0 d2 d3 d4 v o t1 t2 n ((nI 0) - (nI (q - p))) (nI 1)) gX4_accept_X4_checkRoom rfl rfl rfl hd_X4_checkRoom ⟨⟨Nat.le_of_ble_eq_true rfl, Nat.le_of_ble_eq_true rfl⟩, ⟨Nat.le_of_ble_eq_true rfl, Nat.le_of_ble_eq_true rfl⟩, Nat.le_of_ble_eq_true rfl⟩ [0, 11] rfl rfl 0 rfl rfl rfl rfl rfl rfl rfl rfl rfl rfl rfl rfl dX4_accept_73 (fun h4 => hZ.x (Nat.le_of_ble_eq_true rfl) (Nat.le_of_ble_eq_true rfl) (fun _ => by simp [fz, *]) h4 rfl) (fun h4 => ?_)
    have hr := roC_s (n := n) (v := v) (z := 0) (t := q - p) (d := 1) (by omega) (by omega) (by omega) (by omega) (by omega) h4
    refine z_aload_n hF dX4_accept_76 rfl ?_
    refine z_get (C := RX4) (T := TX4) (N := 11) (ci := 4) (v := .ref d4) hF k_0 10 (by decide) rfl k_6 rfl 0 rfl rfl dX4_accept_77 ?_
    refine z_iload_n hF dX4_accept_80 rfl ?_
    refine z_iconst (v := nI 1) hF dX4_accept_81 (by decide) ?_
    refine z_iast (k := a.toNatClampNeg) (ws' := [(d0, .inr (4, [.ref t0, .ref r0, .ref q0, .ref y0, .ref d1, .int o, .int (nI v), .ref u0, .ref d2, .ref d3, .ref d4])), (y0, .inr (0, [.ref y1])), (y1, eI G 3600 h), (r0, .inr (2, [.ref r1, .ref r2, .ref r3, .int (nI m)])), (r1, eI G 12 b), (r2, eI G 12 e), (r3, eI G 12 s), (u0, .inr (2, [.ref u1, .ref u2, .ref u3, .int (nI j)])), (u1, eI G 12 b2), (u2, eI G 12 e2), (u3, eI G 12 s2), (t0, .inr (3, [.ref t1, .ref t2, .int (nI n)])), (t1, eI G 60 f), (t2, eI G 60 g), (d2, eI G 10 xl), (d3, eI G 10 xc), (d4, eI G 10 (upd xs a.toNatClampNeg (nI 1)))]) hF 16 rfl (rfl) (by omega) rfl rfl dX4_accept_82 ?_
    refine z_aload_n hF dX4_accept_83 rfl ?_
    refine z_iload_n hF dX4_accept_84 rfl ?_
    refine z_iload_n hF dX4_accept_85 rfl ?_
    refine z_V (As := [.int (nI p), .int (nI (q - p))]) (rest := []) (ws' := [(d0, .inr (4, [.ref t0, .ref r0, .ref q0, .ref y0, .ref d1, .int o, .int (nI (v + 1)), .ref u0, .ref d2, .ref d3, .ref d4])), (y0, .inr (0, [.ref y1])), (y1, eI G 3600 (wrF h (v * 12) 12 (fun kk => if kk < m then numF (b kk) (e kk) else -1))), (r0, .inr (2, [.ref r1, .ref r2, .ref r3, .int (nI m)])), (r1, eI G 12 (mpF m (remB (nI p) (nI (q - p)) b e) b)), (r2, eI G 12 (mpF m (remE (nI p) (nI (q - p)) b e) e)), (r3, eI G 12 s), (u0, .inr (2, [.ref u1, .ref u2, .ref u3, .int (nI j)])), (u1, eI G 12 (mpF j (remB (nI p) (nI (q - p)) b2 e2) b2)), (u2, eI G 12 (mpF j (remE (nI p) (nI (q - p)) b2 e2) e2)), (u3, eI G 12 s2), (t0, .inr (3, [.ref t1, .ref t2, .int (nI (n - (q - p)))])), (t1, eI G 60 (va_cpy f f (p + (q - p)) p (n - (p + (q - p))))), (t2, eI G 60 (va_cpy g g (p + (q - p)) p (n - (p + (q - p))))), (d2, eI G 10 xl), (d3, eI G 10 xc), (d4, eI G 10 (mpF j (lgF (gonF (nI p) (nI (q - p)) b2 e2 j) (upd xs a.toNatClampNeg (nI 1))) (upd xs a.toNatClampNeg (nI 1))))]) (st2 := [.int (bcF (gonF (nI p) (nI (q - p)) b e m))]) (c2 := 3) (s2 := 18) hF (c_X4_takeLettersOut G d0 t0 r0 q0 y0 d1 u0 d2 d3 d4 v o t1 t2 n f g r1 r2 r3 m b e y1 h u1 u2 u3 j b2 e2 (upd xs a.toNatClampNeg (nI 1)) p (q - p) (by first | assumption | omega) (by first | assumption | omega) (by first | assumption | omega) (by first | assumption | omega) (by first | assumption | omega)) gX4_accept_X4_takeLettersOut rfl rfl rfl hd_X4_takeLettersOut ⟨⟨Nat.le_of_ble_eq_true rfl, Nat.le_of_ble_eq_true rfl⟩, ⟨Nat.le_of_ble_eq_true rfl, Nat.le_of_ble_eq_true rfl⟩, Nat.le_of_ble_eq_true rfl⟩ [0, 1, 2, 3, 4, 5, 7, 8, 9, 11, 12, 13, 16] rfl rfl 0 rfl rfl rfl rfl rfl rfl rfl rfl rfl rfl dX4_accept_86 ?_
    refine z_pop hF dX4_accept_89 rfl ?_
    refine z_iload hF dX4_accept_90 rfl ?_
    refine z_if_le (tgt := 108) hF dX4_accept_92 (by decide) (fun c_2 => ?_) (fun c_2 => absurd c_2 (by decide))
    refine z_aload_n hF dX4_accept_108 rfl ?_
    refine z_get (C := RX4) (T := TX4) (N := 11) (ci := 4) (v := .ref t0) hF k_0 0 (by decide) rfl k_7 rfl 0 rfl rfl dX4_accept_109 ?_
    refine z_getN (C := RX3) (T := TX3) (N := 3) (ci := 3) (v := .int (nI (n - (q - p)))) hF k_8 2 (by decide) rfl k_9 rfl 11 rfl rfl dX4_accept_112 ?_
    exact (hR (by simp [fz, *])).i dX4_accept_115 (Nat.le_of_ble_eq_true rfl) (Nat.le_of_ble_eq_true rfl) (rfl) (rfl)
  · exact z_throw (k := 3) hF hZ k_10 k_11 (List.mem_of_getElem? (i := 4) rfl) k_12 zfit3 zbad3 znc3 zgood3 dX4_accept_18 dX4_accept_21 dX4_accept_22 dX4_accept_24 dX4_accept_27 ⟨Nat.le_of_ble_eq_true rfl, Nat.le_of_ble_eq_true rfl, Nat.le_of_ble_eq_true rfl, Nat.le_of_ble_eq_true rfl⟩ (Nat.le_of_ble_eq_true rfl) (Nat.le_of_ble_eq_true rfl) (by decide) (by simp [fz, *]) rfl
set_option maxHeartbeats 4000000 in
set_option maxRecDepth 100000 in
theorem c_X4_accept1 (G : zG) (d0 t0 r0 q0 y0 d1 u0 d2 d3 d4 v : Nat) (o : Int32) (t1 t2 n : Nat) (f : Nat → Int32) (g : Nat → Int32) (r1 r2 r3 m : Nat) (b : Nat → Int32) (e : Nat → Int32) (s : Nat → Int32) (y1 : Nat) (h : Nat → Int32) (u1 u2 u3 j : Nat) (b2 : Nat → Int32) (e2 : Nat → Int32) (s2 : Nat → Int32) (xl : Nat → Int32) (xc : Nat → Int32) (xs : Nat → Int32) (a : Int32) (p q : Nat) (z : Nat) (hn : n ≤ 60) (hm : m ≤ 12) (hj : j ≤ 10) (hv : v ≤ 300) (hw : cmC j a = 0 → waC (xs a.toNatClampNeg) = 0 → b2 a.toNatClampNeg = nI p ∧ e2 a.toNatClampNeg = nI q ∧ p < q ∧ q ≤ n) (hz : xc a.toNatClampNeg = nI z) (hz0 : 0 < z) (hz5 : z ≤ 5) : zX G yX4_accept wsX4_accept ({ frames := 7, cells := 3, slots := 18, locals := 121 }) [.ref d0, .int a] [(d0, .inr (4, [.ref t0, .ref r0, .ref q0, .ref y0, .ref d1, .int o, .int (nI v), .ref u0, .ref d2, .ref d3, .ref d4])), (y0, .inr (0, [.ref y1])), (y1, eI G 3600 h), (r0, .inr (2, [.ref r1, .ref r2, .ref r3, .int (nI m)])), (r1, eI G 12 b), (r2, eI G 12 e), (r3, eI G 12 s), (u0, .inr (2, [.ref u1, .ref u2, .ref u3, .int (nI j)])), (u1, eI G 12 b2), (u2, eI G 12 e2), (u3, eI G 12 s2), (t0, .inr (3, [.ref t1, .ref t2, .int (nI n)])), (t1, eI G 60 f), (t2, eI G 60 g), (d2, eI G 10 xl), (d3, eI G 10 xc), (d4, eI G 10 xs)] [(d0, .inr (4, [.ref t0, .ref r0, .ref q0, .ref y0, .ref d1, .int o, .int (nI ((v + 1) + 1)), .ref u0, .ref d2, .ref d3, .ref d4])), (y0, .inr (0, [.ref y1])), (y1, eI G 3600 (wrF (wrF h (v * 12) 12 (fun kk => if kk < m then numF (b kk) (e kk) else -1)) ((v + 1) * 12) 12 (fun kk => if kk < m then numF ((mpF m (remB (nI p) (nI (q - p)) b e) b) kk) ((mpF m (remE (nI p) (nI (q - p)) b e) e) kk) else -1))), (r0, .inr (2, [.ref r1, .ref r2, .ref r3, .int (nI m)])), (r1, eI G 12 (mpF m (insB (nI p) (nI z) (mpF m (remB (nI p) (nI (q - p)) b e) b) s) (mpF m (remB (nI p) (nI (q - p)) b e) b))), (r2, eI G 12 (mpF m (insE (nI p) (nI z) (mpF m (remB (nI p) (nI (q - p)) b e) b) (mpF m (remE (nI p) (nI (q - p)) b e) e) s) (mpF m (remE (nI p) (nI (q - p)) b e) e))), (r3, eI G 12 s), (u0, .inr (2, [.ref u1, .ref u2, .ref u3, .int (nI j)])), (u1, eI G 12 (mpF j (insB (nI p) (nI z) (mpF j (remB (nI p) (nI (q - p)) b2 e2) b2) s2) (mpF j (remB (nI p) (nI (q - p)) b2 e2) b2))), (u2, eI G 12 (mpF j (insE (nI p) (nI z) (mpF j (remB (nI p) (nI (q - p)) b2 e2) b2) (mpF j (remE (nI p) (nI (q - p)) b2 e2) e2) s2) (mpF j (remE (nI p) (nI (q - p)) b2 e2) e2))), (u3, eI G 12 s2), (t0, .inr (3, [.ref t1, .ref t2, .int (nI ((n - (q - p)) + z))])), (t1, eI G 60 (filF (va_cpy (va_cpy f f (p + (q - p)) p (n - (p + (q - p)))) (va_cpy f f (p + (q - p)) p (n - (p + (q - p)))) p (p + z) ((n - (q - p)) - p)) p (p + z) (xl a.toNatClampNeg))), (t2, eI G 60 (mrkF (filF (va_cpy (va_cpy g g (p + (q - p)) p (n - (p + (q - p)))) (va_cpy g g (p + (q - p)) p (n - (p + (q - p)))) p (p + z) ((n - (q - p)) - p)) p (p + z) (nI 0)) p (p + z) (covF (mpF m (insB (nI p) (nI z) (mpF m (remB (nI p) (nI (q - p)) b e) b) s) (mpF m (remB (nI p) (nI (q - p)) b e) b)) (mpF m (insE (nI p) (nI z) (mpF m (remB (nI p) (nI (q - p)) b e) b) (mpF m (remE (nI p) (nI (q - p)) b e) e) s) (mpF m (remE (nI p) (nI (q - p)) b e) e)) m (nI p)))), (d2, eI G 10 xl), (d3, eI G 10 xc), (d4, eI G 10 (mpF j (lgF (gonF (nI p) (nI (q - p)) b2 e2 j) (upd xs a.toNatClampNeg (nI 1))) (upd xs a.toNatClampNeg (nI 1))))] (fz (cmC j a) (fz (waC (xs a.toNatClampNeg)) (fz (if ovF b2 e2 xs a.toNatClampNeg j = 0 then 0 else 3) (roC n v (nI z - nI (q - p)) (nI 2))))) (some (.int (nI ((n - (q - p)) + z)))) 3 18 := by
  refine zX.ofI (own := RX4) (cc := cX4_accept) (maxL := 5) rfl (by decide) rfl rfl (by simp [Value.category]) (Nat.le_of_ble_eq_true rfl) ?_
  intro X hF hZ hR
  have k_0 : ∀ w ∈ wsX40, w ∈ wsX4_accept := by decide +kernel
  have k_1 : zH X (.fieldLink RX4 48 "MarginDesk" "suggestionRanges" "LMarginDesk$Ranges;") := hF.w (by decide +kernel)
  have k_2 : ∀ w ∈ wsX20, w ∈ wsX4_accept := by decide +kernel
  have k_3 : zH X (.fieldLinkNest RX4 170 "MarginDesk$Ranges" "begins" "[I" RX4) := hF.nf (List.mem_of_getElem? (i := 0) rfl)
  have k_4 : zH X (.fieldLinkNest RX4 173 "MarginDesk$Ranges" "ends" "[I" RX4) := hF.nf (List.mem_of_getElem? (i := 1) rfl)
  have k_5 : zH X (.fieldLink RX4 54 "MarginDesk" "suggestedCounts" "[I") := hF.w (by decide +kernel)
  have k_6 : zH X (.fieldLink RX4 57 "MarginDesk" "states" "[I") := hF.w (by decide +kernel)
  have k_7 : zH X (.fieldLink RX4 51 "MarginDesk" "suggestedLetters" "[I") := hF.w (by decide +kernel)
  have k_8 : zH X (.fieldLink RX4 10 "MarginDesk" "text" "LMarginDesk$Text;") := hF.w (by decide +kernel)
  have k_9 : ∀ w ∈ wsX30, w ∈ wsX4_accept := by decide +kernel
  have k_10 : zH X (.fieldLinkNest RX4 78 "MarginDesk$Text" "size" "I" RX4) := hF.nf (List.mem_of_getElem? (i := 2) rfl)
  have k_11 : zH X (.classLink RX4 95 "java/lang/IllegalStateException") := hF.w (by decide +kernel)
  have k_12 : zH X (.initialized "java/lang/IllegalStateException") := hF.w (by decide +kernel)
  have k_13 : ∀ w ∈ (vx_atS RX4 99 (zEx 3) [zRun, zExc]).filter goodWord, w ∈ wsX4_accept := by first | exact fun _ h => List.mem_cons_of_mem _ (List.mem_append_right _ h) | exact fun _ h => List.mem_cons_of_mem _ (List.mem_append_left _ (List.mem_append_right _ h)) | exact fun _ h => List.mem_cons_of_mem _ (List.mem_append_left _ (List.mem_append_left _ (List.mem_append_right _ h))) | exact fun _ h => List.mem_cons_of_mem _ (List.mem_append_left _ (List.mem_append_left _ (List.mem_append_left _ (List.mem_append_right _ h)))) | exact fun _ h => List.mem_cons_of_mem _ (List.mem_append_left _ (List.mem_append_left _ (List.mem_append_left _ (List.mem_append_left _ (List.mem_append_right _ h))))) | decide +kernel
  refine z_lv (lv' := [some (.ref d0), some (.int a), none, none, none]) rfl ?_
  refine z_aload_n hF dX4_accept_0 rfl ?_
  refine z_iload_n hF dX4_accept_1 rfl ?_
  refine z_Vx (As := [.int a]) (rest := []) (ws' := [(d0, .inr (4, [.ref t0, .ref r0, .ref q0, .ref y0, .ref d1, .int o, .int (nI v), .ref u0, .ref d2, .ref d3, .ref d4])), (y0, .inr (0, [.ref y1])), (y1, eI G 3600 h), (r0, .inr (2, [.ref r1, .ref r2, .ref r3, .int (nI m)])), (r1, eI G 12 b), (r2, eI G 12 e), (r3, eI G 12 s), (u0, .inr (2, [.ref u1, .ref u2, .ref u3, .int (nI j)])), (u1, eI G 12 b2), (u2, eI G 12 e2), (u3, eI G 12 s2), (t0, .inr (3, [.ref t1, .ref t2, .int (nI n)])), (t1, eI G 60 f), (t2, eI G 60 g), (d2, eI G 10 xl), (d3, eI G 10 xc), (d4, eI G 10 xs)]) (st2 := []) (c2 := 1) (s2 := 6) hF (c_X4_checkSuggestion G d0 t0 r0 q0 y0 d1 u0 d2 d3 d4 v o u1 u2 u3 j a) gX4_accept_X4_checkSuggestion rfl rfl rfl hd_X4_checkSuggestion ⟨⟨Nat.le_of_ble_eq_true rfl, Nat.le_of_ble_eq_true rfl⟩, ⟨Nat.le_of_ble_eq_true rfl, Nat.le_of_ble_eq_true rfl⟩, Nat.le_of_ble_eq_true rfl⟩ [0, 7] rfl rfl 0 rfl rfl rfl rfl rfl rfl rfl rfl rfl rfl rfl rfl dX4_accept_2 (fun h1 => hZ.x (Nat.le_of_ble_eq_true rfl) (Nat.le_of_ble_eq_true rfl) (fun _ => by simp [fz, *]) h1 rfl) (fun h1 => ?_)
  have ha := cmC_0 (by omega) h1
  refine z_lv (lv' := [some (.ref d0), some (.int (nI a.toNatClampNeg)), none, none, none]) (by rw [← ha.1]) ?_
  refine z_aload_n hF dX4_accept_5 rfl ?_
  refine z_iload_n hF dX4_accept_6 rfl ?_
  refine z_Vx (As := [.int (nI a.toNatClampNeg)]) (rest := []) (ws' := [(d0, .inr (4, [.ref t0, .ref r0, .ref q0, .ref y0, .ref d1, .int o, .int (nI v), .ref u0, .ref d2, .ref d3, .ref d4])), (y0, .inr (0, [.ref y1])), (y1, eI G 3600 h), (r0, .inr (2, [.ref r1, .ref r2, .ref r3, .int (nI m)])), (r1, eI G 12 b), (r2, eI G 12 e), (r3, eI G 12 s), (u0, .inr (2, [.ref u1, .ref u2, .ref u3, .int (nI j)])), (u1, eI G 12 b2), (u2, eI G 12 e2), (u3, eI G 12 s2), (t0, .inr (3, [.ref t1, .ref t2, .int (nI n)])), (t1, eI G 60 f), (t2, eI G 60 g), (d2, eI G 10 xl), (d3, eI G 10 xc), (d4, eI G 10 xs)]) (st2 := []) (c2 := 2) (s2 := 12) hF (c_X4_checkWaiting G d0 t0 r0 q0 y0 d1 u0 d2 d3 d4 v o xs a.toNatClampNeg (by first | assumption | omega)) gX4_accept_X4_checkWaiting rfl rfl rfl hd_X4_checkWaiting ⟨⟨Nat.le_of_ble_eq_true rfl, Nat.le_of_ble_eq_true rfl⟩, ⟨Nat.le_of_ble_eq_true rfl, Nat.le_of_ble_eq_true rfl⟩, Nat.le_of_ble_eq_true rfl⟩ [0, 16] rfl rfl 0 rfl rfl rfl rfl rfl rfl rfl rfl rfl rfl rfl rfl dX4_accept_7 (fun h2 => hZ.x (Nat.le_of_ble_eq_true rfl) (Nat.le_of_ble_eq_true rfl) (fun _ => by simp [fz, *]) h2 rfl) (fun h2 => ?_)
  refine z_aload_n hF dX4_accept_10 rfl ?_
  refine z_iload_n hF dX4_accept_11 rfl ?_
  refine z_V (As := [.int (nI a.toNatClampNeg)]) (rest := []) (ws' := [(d0, .inr (4, [.ref t0, .ref r0, .ref q0, .ref y0, .ref d1, .int o, .int (nI v), .ref u0, .ref d2, .ref d3, .ref d4])), (y0, .inr (0, [.ref y1])), (y1, eI G 3600 h), (r0, .inr (2, [.ref r1, .ref r2, .ref r3, .int (nI m)])), (r1, eI G 12 b), (r2, eI G 12 e), (r3, eI G 12 s), (u0, .inr (2, [.ref u1, .ref u2, .ref u3, .int (nI j)])), (u1, eI G 12 b2), (u2, eI G 12 e2), (u3, eI G 12 s2), (t0, .inr (3, [.ref t1, .ref t2, .int (nI n)])), (t1, eI G 60 f), (t2, eI G 60 g), (d2, eI G 10 xl), (d3, eI G 10 xc), (d4, eI G 10 xs)]) (st2 := [.int (ovF b2 e2 xs a.toNatClampNeg j)]) (c2 := 2) (s2 := 12) hF (c_X4_overlapping G d0 t0 r0 q0 y0 d1 u0 d2 d3 d4 v o u1 u2 u3 j b2 e2 xs a.toNatClampNeg (by first | assumption | omega) (by first | assumption | omega)) gX4_accept_X4_overlapping rfl rfl rfl hd_X4_overlapping ⟨⟨Nat.le_of_ble_eq_true rfl, Nat.le_of_ble_eq_true rfl⟩, ⟨Nat.le_of_ble_eq_true rfl, Nat.le_of_ble_eq_true rfl⟩, Nat.le_of_ble_eq_true rfl⟩ [0, 7, 8, 9, 16] rfl rfl 0 rfl rfl rfl rfl rfl rfl rfl rfl rfl rfl dX4_accept_12 ?_
  refine z_if_eq (tgt := 28) hF dX4_accept_15 (by decide) (fun h3 => ?_) (fun h3 => ?_)
  · obtain ⟨hb, he, hpq, hqn⟩ := hw h1 h2
    refine z_aload_n hF dX4_accept_28 rfl ?_
    refine z_get (C := RX4) (T := TX4) (N := 11) (ci := 4) (v := .ref u0) hF k_0 7 (by decide) rfl k_1 rfl 0 rfl rfl dX4_accept_29 ?_
    refine z_getN (C := RX2) (T := TX2) (N := 4) (ci := 2) (v := .ref u1) hF k_2 0 (by decide) rfl k_3 rfl 7 rfl rfl dX4_accept_32 ?_
    refine z_iload_n hF dX4_accept_35 rfl ?_
    refine z_iald (k := a.toNatClampNeg) hF 8 rfl (rfl) (by omega) rfl dX4_accept_36 ?_
    refine z_top (y := nI p) (hb) ?_
    refine z_istore_n (lv' := [some (.ref d0), some (.int (nI a.toNatClampNeg)), some (.int (nI p)), none, none]) hF dX4_accept_37 rfl rfl ?_
    refine z_aload_n hF dX4_accept_38 rfl ?_
    refine z_get (C := RX4) (T := TX4) (N := 11) (ci := 4) (v := .ref u0) hF k_0 7 (by decide) rfl k_1 rfl 0 rfl rfl dX4_accept_39 ?_
    refine z_getN (C := RX2) (T := TX2) (N := 4) (ci := 2) (v := .ref u2) hF k_2 1 (by decide) rfl k_4 rfl 7 rfl rfl dX4_accept_42 ?_
    refine z_iload_n hF dX4_accept_45 rfl ?_
    refine z_iald (k := a.toNatClampNeg) hF 9 rfl (rfl) (by omega) rfl dX4_accept_46 ?_
    refine z_top (y := nI q) (he) ?_
    refine z_iload_n hF dX4_accept_47 rfl ?_
    refine z_isub hF dX4_accept_48 ?_
    refine z_top (pk_sub (by omega)) ?_
    refine z_istore_n (lv' := [some (.ref d0), some (.int (nI a.toNatClampNeg)), some (.int (nI p)), some (.int (nI (q - p))), none]) hF dX4_accept_49 rfl rfl ?_
    refine z_aload_n hF dX4_accept_50 rfl ?_
    refine z_get (C := RX4) (T := TX4) (N := 11) (ci := 4) (v := .ref d3) hF k_0 9 (by decide) rfl k_5 rfl 0 rfl rfl dX4_accept_51 ?_
    refine z_iload_n hF dX4_accept_54 rfl ?_
    refine z_iald (k := a.toNatClampNeg) hF 15 rfl (rfl) (by omega) rfl dX4_accept_55 ?_
    refine z_top (y := nI z) (hz) ?_
    refine z_istore (lv' := [some (.ref d0), some (.int (nI a.toNatClampNeg)), some (.int (nI p)), some (.int (nI (q - p))), some (.int (nI z))]) hF dX4_accept_56 rfl rfl ?_
    refine z_aload_n hF dX4_accept_58 rfl ?_
    refine z_iload hF dX4_accept_59 rfl ?_
    refine z_iload_n hF dX4_accept_61 rfl ?_
    refine z_isub hF dX4_accept_62 ?_
    refine z_iload hF dX4_accept_63 rfl ?_
    refine z_ifn_ne (tgt := 72) hF (by omega) dX4_accept_65 (by decide) (fun c_1 => ?_) (fun c_1 => absurd c_1 (Nat.ne_of_gt hz0))
    refine z_iconst (v := nI 2) hF dX4_accept_72 (by decide) ?_
    refine z_Vx (As := [.int ((nI z) - (nI (q - p))), .int (nI 2)]) (rest := []) (ws' := [(d0, .inr (4, [.ref t0, .ref r0, .ref q0, .ref y0, .ref d1, .int o, .int (nI v), .ref u0, .ref d2, .ref d3, .ref d4])), (y0, .inr (0, [.ref y1])), (y1, eI G 3600 h), (r0, .inr (2, [.ref r1, .ref r2, .ref r3, .int (nI m)])), (r1, eI G 12 b), (r2, eI G 12 e), (r3, eI G 12 s), (u0, .inr (2, [.ref u1, .ref u2, .ref u3, .int (nI j)])), (u1, eI G 12 b2), (u2, eI G 12 e2), (u3, eI G 12 s2), (t0, .inr (3, [.ref t1, .ref t2, .int (nI n)])), (t1, eI G 60 f), (t2, eI G 60 g), (d2, eI G 10 xl), (d3, eI G 10 xc), (d4, eI G 10 xs)]) (st2 := []) (c2 := 3) (s2 := 18) hF (c_X4_checkRoom G d0 t0 r0 q0 y0 d1 u0 d2 d3 d4 v o t1 t2 n ((nI z) - (nI (q - p))) (nI 2)) gX4_accept_X4_checkRoom rfl rfl rfl hd_X4_checkRoom ⟨⟨Nat.le_of_ble_eq_true rfl, Nat.le_of_ble_eq_true rfl⟩, ⟨Nat.le_of_ble_eq_true rfl, Nat.le_of_ble_eq_true rfl⟩, Nat.le_of_ble_eq_true rfl⟩ [0, 11] rfl rfl 0 rfl rfl rfl rfl rfl rfl rfl rfl rfl rfl rfl rfl dX4_accept_73 (fun h4 => hZ.x (Nat.le_of_ble_eq_true rfl) (Nat.le_of_ble_eq_true rfl) (fun _ => by simp [fz, *]) h4 rfl) (fun h4 => ?_)
    have hr := roC_s (n := n) (v := v) (z := z) (t := q - p) (d := 2) (by omega) (by omega) (by omega) (by omega) (by omega) h4
    refine z_aload_n hF dX4_accept_76 rfl ?_
    refine z_get (C := RX4) (T := TX4) (N := 11) (ci := 4) (v := .ref d4) hF k_0 10 (by decide) rfl k_6 rfl 0 rfl rfl dX4_accept_77 ?_
    refine z_iload_n hF dX4_accept_80 rfl ?_
    refine z_iconst (v := nI 1) hF dX4_accept_81 (by decide) ?_
    refine z_iast (k := a.toNatClampNeg) (ws' := [(d0, .inr (4, [.ref t0, .ref r0, .ref q0, .ref y0, .ref d1, .int o, .int (nI v), .ref u0, .ref d2, .ref d3, .ref d4])), (y0, .inr (0, [.ref y1])), (y1, eI G 3600 h), (r0, .inr (2, [.ref r1, .ref r2, .ref r3, .int (nI m)])), (r1, eI G 12 b), (r2, eI G 12 e), (r3, eI G 12 s), (u0, .inr (2, [.ref u1, .ref u2, .ref u3, .int (nI j)])), (u1, eI G 12 b2), (u2, eI G 12 e2), (u3, eI G 12 s2), (t0, .inr (3, [.ref t1, .ref t2, .int (nI n)])), (t1, eI G 60 f), (t2, eI G 60 g), (d2, eI G 10 xl), (d3, eI G 10 xc), (d4, eI G 10 (upd xs a.toNatClampNeg (nI 1)))]) hF 16 rfl (rfl) (by omega) rfl rfl dX4_accept_82 ?_
    refine z_aload_n hF dX4_accept_83 rfl ?_
    refine z_iload_n hF dX4_accept_84 rfl ?_
    refine z_iload_n hF dX4_accept_85 rfl ?_
    refine z_V (As := [.int (nI p), .int (nI (q - p))]) (rest := []) (ws' := [(d0, .inr (4, [.ref t0, .ref r0, .ref q0, .ref y0, .ref d1, .int o, .int (nI (v + 1)), .ref u0, .ref d2, .ref d3, .ref d4])), (y0, .inr (0, [.ref y1])), (y1, eI G 3600 (wrF h (v * 12) 12 (fun kk => if kk < m then numF (b kk) (e kk) else -1))), (r0, .inr (2, [.ref r1, .ref r2, .ref r3, .int (nI m)])), (r1, eI G 12 (mpF m (remB (nI p) (nI (q - p)) b e) b)), (r2, eI G 12 (mpF m (remE (nI p) (nI (q - p)) b e) e)), (r3, eI G 12 s), (u0, .inr (2, [.ref u1, .ref u2, .ref u3, .int (nI j)])), (u1, eI G 12 (mpF j (remB (nI p) (nI (q - p)) b2 e2) b2)), (u2, eI G 12 (mpF j (remE (nI p) (nI (q - p)) b2 e2) e2)), (u3, eI G 12 s2), (t0, .inr (3, [.ref t1, .ref t2, .int (nI (n - (q - p)))])), (t1, eI G 60 (va_cpy f f (p + (q - p)) p (n - (p + (q - p))))), (t2, eI G 60 (va_cpy g g (p + (q - p)) p (n - (p + (q - p))))), (d2, eI G 10 xl), (d3, eI G 10 xc), (d4, eI G 10 (mpF j (lgF (gonF (nI p) (nI (q - p)) b2 e2 j) (upd xs a.toNatClampNeg (nI 1))) (upd xs a.toNatClampNeg (nI 1))))]) (st2 := [.int (bcF (gonF (nI p) (nI (q - p)) b e m))]) (c2 := 3) (s2 := 18) hF (c_X4_takeLettersOut G d0 t0 r0 q0 y0 d1 u0 d2 d3 d4 v o t1 t2 n f g r1 r2 r3 m b e y1 h u1 u2 u3 j b2 e2 (upd xs a.toNatClampNeg (nI 1)) p (q - p) (by first | assumption | omega) (by first | assumption | omega) (by first | assumption | omega) (by first | assumption | omega) (by first | assumption | omega)) gX4_accept_X4_takeLettersOut rfl rfl rfl hd_X4_takeLettersOut ⟨⟨Nat.le_of_ble_eq_true rfl, Nat.le_of_ble_eq_true rfl⟩, ⟨Nat.le_of_ble_eq_true rfl, Nat.le_of_ble_eq_true rfl⟩, Nat.le_of_ble_eq_true rfl⟩ [0, 1, 2, 3, 4, 5, 7, 8, 9, 11, 12, 13, 16] rfl rfl 0 rfl rfl rfl rfl rfl rfl rfl rfl rfl rfl dX4_accept_86 ?_
    refine z_pop hF dX4_accept_89 rfl ?_
    refine z_iload hF dX4_accept_90 rfl ?_
    refine z_ifn_le (tgt := 108) hF (by omega) dX4_accept_92 (by decide) (fun c_2 => absurd c_2 (Nat.ne_of_gt hz0)) (fun c_2 => ?_)
    refine z_aload_n hF dX4_accept_95 rfl ?_
    refine z_iload_n hF dX4_accept_96 rfl ?_
    refine z_aload_n hF dX4_accept_97 rfl ?_
    refine z_get (C := RX4) (T := TX4) (N := 11) (ci := 4) (v := .ref d2) hF k_0 8 (by decide) rfl k_7 rfl 0 rfl rfl dX4_accept_98 ?_
    refine z_iload_n hF dX4_accept_101 rfl ?_
    refine z_iald (k := a.toNatClampNeg) hF 14 rfl (rfl) (by omega) rfl dX4_accept_102 ?_
    refine z_iload hF dX4_accept_103 rfl ?_
    refine z_V (As := [.int (nI p), .int (xl a.toNatClampNeg), .int (nI z)]) (rest := []) (ws' := [(d0, .inr (4, [.ref t0, .ref r0, .ref q0, .ref y0, .ref d1, .int o, .int (nI ((v + 1) + 1)), .ref u0, .ref d2, .ref d3, .ref d4])), (y0, .inr (0, [.ref y1])), (y1, eI G 3600 (wrF (wrF h (v * 12) 12 (fun kk => if kk < m then numF (b kk) (e kk) else -1)) ((v + 1) * 12) 12 (fun kk => if kk < m then numF ((mpF m (remB (nI p) (nI (q - p)) b e) b) kk) ((mpF m (remE (nI p) (nI (q - p)) b e) e) kk) else -1))), (r0, .inr (2, [.ref r1, .ref r2, .ref r3, .int (nI m)])), (r1, eI G 12 (mpF m (insB (nI p) (nI z) (mpF m (remB (nI p) (nI (q - p)) b e) b) s) (mpF m (remB (nI p) (nI (q - p)) b e) b))), (r2, eI G 12 (mpF m (insE (nI p) (nI z) (mpF m (remB (nI p) (nI (q - p)) b e) b) (mpF m (remE (nI p) (nI (q - p)) b e) e) s) (mpF m (remE (nI p) (nI (q - p)) b e) e))), (r3, eI G 12 s), (u0, .inr (2, [.ref u1, .ref u2, .ref u3, .int (nI j)])), (u1, eI G 12 (mpF j (insB (nI p) (nI z) (mpF j (remB (nI p) (nI (q - p)) b2 e2) b2) s2) (mpF j (remB (nI p) (nI (q - p)) b2 e2) b2))), (u2, eI G 12 (mpF j (insE (nI p) (nI z) (mpF j (remB (nI p) (nI (q - p)) b2 e2) b2) (mpF j (remE (nI p) (nI (q - p)) b2 e2) e2) s2) (mpF j (remE (nI p) (nI (q - p)) b2 e2) e2))), (u3, eI G 12 s2), (t0, .inr (3, [.ref t1, .ref t2, .int (nI ((n - (q - p)) + z))])), (t1, eI G 60 (filF (va_cpy (va_cpy f f (p + (q - p)) p (n - (p + (q - p)))) (va_cpy f f (p + (q - p)) p (n - (p + (q - p)))) p (p + z) ((n - (q - p)) - p)) p (p + z) (xl a.toNatClampNeg))), (t2, eI G 60 (mrkF (filF (va_cpy (va_cpy g g (p + (q - p)) p (n - (p + (q - p)))) (va_cpy g g (p + (q - p)) p (n - (p + (q - p)))) p (p + z) ((n - (q - p)) - p)) p (p + z) (nI 0)) p (p + z) (covF (mpF m (insB (nI p) (nI z) (mpF m (remB (nI p) (nI (q - p)) b e) b) s) (mpF m (remB (nI p) (nI (q - p)) b e) b)) (mpF m (insE (nI p) (nI z) (mpF m (remB (nI p) (nI (q - p)) b e) b) (mpF m (remE (nI p) (nI (q - p)) b e) e) s) (mpF m (remE (nI p) (nI (q - p)) b e) e)) m (nI p)))), (d2, eI G 10 xl), (d3, eI G 10 xc), (d4, eI G 10 (mpF j (lgF (gonF (nI p) (nI (q - p)) b2 e2 j) (upd xs a.toNatClampNeg (nI 1))) (upd xs a.toNatClampNeg (nI 1))))]) (st2 := []) (c2 := 3) (s2 := 18) hF (c_X4_putLettersIn G d0 t0 r0 q0 y0 d1 u0 d2 d3 d4 (v + 1) o t1 t2 (n - (q - p)) (va_cpy f f (p + (q - p)) p (n - (p + (q - p)))) (va_cpy g g (p + (q - p)) p (n - (p + (q - p)))) r1 r2 r3 m (mpF m (remB (nI p) (nI (q - p)) b e) b) (mpF m (remE (nI p) (nI (q - p)) b e) e) s y1 (wrF h (v * 12) 12 (fun kk => if kk < m then numF (b kk) (e kk) else -1)) u1 u2 u3 j (mpF j (remB (nI p) (nI (q - p)) b2 e2) b2) (mpF j (remE (nI p) (nI (q - p)) b2 e2) e2) s2 p z (xl a.toNatClampNeg) (by first | assumption | omega) (by first | assumption | omega) (by first | assumption | omega) (by first | assumption | omega) (by first | assumption | omega)) gX4_accept_X4_putLettersIn rfl rfl rfl hd_X4_putLettersIn ⟨⟨Nat.le_of_ble_eq_true rfl, Nat.le_of_ble_eq_true rfl⟩, ⟨Nat.le_of_ble_eq_true rfl, Nat.le_of_ble_eq_true rfl⟩, Nat.le_of_ble_eq_true rfl⟩ [0, 1, 2, 3, 4, 5, 6, 7, 8, 9, 10, 11, 12, 13] rfl rfl 0 rfl rfl rfl rfl rfl rfl rfl rfl rfl rfl dX4_accept_105 ?_
    refine z_aload_n hF dX4_accept_108 rfl ?_
    refine z_get (C := RX4) (T := TX4) (N := 11) (ci := 4) (v := .ref t0) hF k_0 0 (by decide) rfl k_8 rfl 0 rfl rfl dX4_accept_109 ?_
    refine z_getN (C := RX3) (T := TX3) (N := 3) (ci := 3) (v := .int (nI ((n - (q - p)) + z))) hF k_9 2 (by decide) rfl k_10 rfl 11 rfl rfl dX4_accept_112 ?_
    exact (hR (by simp [fz, *])).i dX4_accept_115 (Nat.le_of_ble_eq_true rfl) (Nat.le_of_ble_eq_true rfl) (rfl) (rfl)
  · exact z_throw (k := 3) hF hZ k_11 k_12 (List.mem_of_getElem? (i := 4) rfl) k_13 zfit3 zbad3 znc3 zgood3 dX4_accept_18 dX4_accept_21 dX4_accept_22 dX4_accept_24 dX4_accept_27 ⟨Nat.le_of_ble_eq_true rfl, Nat.le_of_ble_eq_true rfl, Nat.le_of_ble_eq_true rfl, Nat.le_of_ble_eq_true rfl⟩ (Nat.le_of_ble_eq_true rfl) (Nat.le_of_ble_eq_true rfl) (by decide) (by simp [fz, *]) rfl
set_option maxHeartbeats 4000000 in
set_option maxRecDepth 100000 in
theorem c_X4_reject (G : zG) (d0 t0 r0 q0 y0 d1 u0 d2 d3 d4 v : Nat) (o : Int32) (u1 u2 u3 j : Nat) (xs : Nat → Int32) (a : Int32) (hj : j ≤ 10) : zX G yX4_reject wsX4_reject ({ frames := 7, cells := 2, slots := 12, locals := 111 }) [.ref d0, .int a] [(d0, .inr (4, [.ref t0, .ref r0, .ref q0, .ref y0, .ref d1, .int o, .int (nI v), .ref u0, .ref d2, .ref d3, .ref d4])), (u0, .inr (2, [.ref u1, .ref u2, .ref u3, .int (nI j)])), (d4, eI G 10 xs)] [(d0, .inr (4, [.ref t0, .ref r0, .ref q0, .ref y0, .ref d1, .int o, .int (nI v), .ref u0, .ref d2, .ref d3, .ref d4])), (u0, .inr (2, [.ref u1, .ref u2, .ref u3, .int (nI j)])), (d4, eI G 10 (upd xs a.toNatClampNeg (nI 2)))] (fz (cmC j a) (waC (xs a.toNatClampNeg))) (some (.int (nI (cntF (fun kk => upd xs a.toNatClampNeg (nI 2) kk = 0) j)))) 2 12 := by
  refine zX.ofI (own := RX4) (cc := cX4_reject) (maxL := 2) rfl (by decide) rfl rfl (by simp [Value.category]) (Nat.le_of_ble_eq_true rfl) ?_
  intro X hF hZ hR
  have k_0 : ∀ w ∈ wsX40, w ∈ wsX4_reject := by decide +kernel
  have k_1 : zH X (.fieldLink RX4 57 "MarginDesk" "states" "[I") := hF.w (by decide +kernel)
  refine z_lv (lv' := [some (.ref d0), some (.int a)]) rfl ?_
  refine z_aload_n hF dX4_reject_0 rfl ?_
  refine z_iload_n hF dX4_reject_1 rfl ?_
  refine z_Vx (As := [.int a]) (rest := []) (ws' := [(d0, .inr (4, [.ref t0, .ref r0, .ref q0, .ref y0, .ref d1, .int o, .int (nI v), .ref u0, .ref d2, .ref d3, .ref d4])), (u0, .inr (2, [.ref u1, .ref u2, .ref u3, .int (nI j)])), (d4, eI G 10 xs)]) (st2 := []) (c2 := 1) (s2 := 6) hF (c_X4_checkSuggestion G d0 t0 r0 q0 y0 d1 u0 d2 d3 d4 v o u1 u2 u3 j a) gX4_reject_X4_checkSuggestion rfl rfl rfl hd_X4_checkSuggestion ⟨⟨Nat.le_of_ble_eq_true rfl, Nat.le_of_ble_eq_true rfl⟩, ⟨Nat.le_of_ble_eq_true rfl, Nat.le_of_ble_eq_true rfl⟩, Nat.le_of_ble_eq_true rfl⟩ [0, 1] rfl rfl 0 rfl rfl rfl rfl rfl rfl rfl rfl rfl rfl rfl rfl dX4_reject_2 (fun h1 => hZ.x (Nat.le_of_ble_eq_true rfl) (Nat.le_of_ble_eq_true rfl) (fun _ => by simp [fz, *]) h1 rfl) (fun h1 => ?_)
  have ha := cmC_0 (by omega) h1
  refine z_lv (lv' := [some (.ref d0), some (.int (nI a.toNatClampNeg))]) (by rw [← ha.1]) ?_
  refine z_aload_n hF dX4_reject_5 rfl ?_
  refine z_iload_n hF dX4_reject_6 rfl ?_
  refine z_Vx (As := [.int (nI a.toNatClampNeg)]) (rest := []) (ws' := [(d0, .inr (4, [.ref t0, .ref r0, .ref q0, .ref y0, .ref d1, .int o, .int (nI v), .ref u0, .ref d2, .ref d3, .ref d4])), (u0, .inr (2, [.ref u1, .ref u2, .ref u3, .int (nI j)])), (d4, eI G 10 xs)]) (st2 := []) (c2 := 2) (s2 := 12) hF (c_X4_checkWaiting G d0 t0 r0 q0 y0 d1 u0 d2 d3 d4 v o xs a.toNatClampNeg (by first | assumption | omega)) gX4_reject_X4_checkWaiting rfl rfl rfl hd_X4_checkWaiting ⟨⟨Nat.le_of_ble_eq_true rfl, Nat.le_of_ble_eq_true rfl⟩, ⟨Nat.le_of_ble_eq_true rfl, Nat.le_of_ble_eq_true rfl⟩, Nat.le_of_ble_eq_true rfl⟩ [0, 2] rfl rfl 0 rfl rfl rfl rfl rfl rfl rfl rfl rfl rfl rfl rfl dX4_reject_7 (fun h2 => hZ.x (Nat.le_of_ble_eq_true rfl) (Nat.le_of_ble_eq_true rfl) (fun _ => by simp [fz, *]) h2 rfl) (fun h2 => ?_)
  refine z_aload_n hF dX4_reject_10 rfl ?_
  refine z_get (C := RX4) (T := TX4) (N := 11) (ci := 4) (v := .ref d4) hF k_0 10 (by decide) rfl k_1 rfl 0 rfl rfl dX4_reject_11 ?_
  refine z_iload_n hF dX4_reject_14 rfl ?_
  refine z_iconst (v := nI 2) hF dX4_reject_15 (by decide) ?_
  refine z_iast (k := a.toNatClampNeg) (ws' := [(d0, .inr (4, [.ref t0, .ref r0, .ref q0, .ref y0, .ref d1, .int o, .int (nI v), .ref u0, .ref d2, .ref d3, .ref d4])), (u0, .inr (2, [.ref u1, .ref u2, .ref u3, .int (nI j)])), (d4, eI G 10 (upd xs a.toNatClampNeg (nI 2)))]) hF 2 rfl (rfl) (by omega) rfl rfl dX4_reject_16 ?_
  refine z_aload_n hF dX4_reject_17 rfl ?_
  refine z_V (As := []) (rest := []) (ws' := [(d0, .inr (4, [.ref t0, .ref r0, .ref q0, .ref y0, .ref d1, .int o, .int (nI v), .ref u0, .ref d2, .ref d3, .ref d4])), (u0, .inr (2, [.ref u1, .ref u2, .ref u3, .int (nI j)])), (d4, eI G 10 (upd xs a.toNatClampNeg (nI 2)))]) (st2 := [.int (nI (cntF (fun kk => (upd xs a.toNatClampNeg (nI 2)) kk = 0) j))]) (c2 := 2) (s2 := 12) hF (c_X4_countWaiting G d0 t0 r0 q0 y0 d1 u0 d2 d3 d4 v o u1 u2 u3 j (upd xs a.toNatClampNeg (nI 2)) (by first | assumption | omega)) gX4_reject_X4_countWaiting rfl rfl rfl hd_X4_countWaiting ⟨⟨Nat.le_of_ble_eq_true rfl, Nat.le_of_ble_eq_true rfl⟩, ⟨Nat.le_of_ble_eq_true rfl, Nat.le_of_ble_eq_true rfl⟩, Nat.le_of_ble_eq_true rfl⟩ [0, 1, 2] rfl rfl 0 rfl rfl rfl rfl rfl rfl rfl rfl rfl rfl dX4_reject_18 ?_
  exact (hR (by simp [fz, *])).i dX4_reject_21 (Nat.le_of_ble_eq_true rfl) (Nat.le_of_ble_eq_true rfl) (rfl) (rfl)
set_option maxHeartbeats 4000000 in
set_option maxRecDepth 100000 in
theorem c_X4_stateOf (G : zG) (d0 t0 r0 q0 y0 d1 u0 d2 d3 d4 v : Nat) (o : Int32) (u1 u2 u3 j : Nat) (xs : Nat → Int32) (a : Int32) (hj : j ≤ 10) : zX G yX4_stateOf wsX4_stateOf ({ frames := 7, cells := 1, slots := 6, locals := 111 }) [.ref d0, .int a] [(d0, .inr (4, [.ref t0, .ref r0, .ref q0, .ref y0, .ref d1, .int o, .int (nI v), .ref u0, .ref d2, .ref d3, .ref d4])), (u0, .inr (2, [.ref u1, .ref u2, .ref u3, .int (nI j)])), (d4, eI G 10 xs)] [(d0, .inr (4, [.ref t0, .ref r0, .ref q0, .ref y0, .ref d1, .int o, .int (nI v), .ref u0, .ref d2, .ref d3, .ref d4])), (u0, .inr (2, [.ref u1, .ref u2, .ref u3, .int (nI j)])), (d4, eI G 10 xs)] (cmC j a) (some (.int (xs a.toNatClampNeg))) 1 6 := by
  refine zX.ofI (own := RX4) (cc := cX4_stateOf) (maxL := 2) rfl (by decide) rfl rfl (by simp [Value.category]) (Nat.le_of_ble_eq_true rfl) ?_
  intro X hF hZ hR
  have k_0 : ∀ w ∈ wsX40, w ∈ wsX4_stateOf := by decide +kernel
  have k_1 : zH X (.fieldLink RX4 57 "MarginDesk" "states" "[I") := hF.w (by decide +kernel)
  refine z_lv (lv' := [some (.ref d0), some (.int a)]) rfl ?_
  refine z_aload_n hF dX4_stateOf_0 rfl ?_
  refine z_iload_n hF dX4_stateOf_1 rfl ?_
  refine z_Vx (As := [.int a]) (rest := []) (ws' := [(d0, .inr (4, [.ref t0, .ref r0, .ref q0, .ref y0, .ref d1, .int o, .int (nI v), .ref u0, .ref d2, .ref d3, .ref d4])), (u0, .inr (2, [.ref u1, .ref u2, .ref u3, .int (nI j)])), (d4, eI G 10 xs)]) (st2 := []) (c2 := 1) (s2 := 6) hF (c_X4_checkSuggestion G d0 t0 r0 q0 y0 d1 u0 d2 d3 d4 v o u1 u2 u3 j a) gX4_stateOf_X4_checkSuggestion rfl rfl rfl hd_X4_checkSuggestion ⟨⟨Nat.le_of_ble_eq_true rfl, Nat.le_of_ble_eq_true rfl⟩, ⟨Nat.le_of_ble_eq_true rfl, Nat.le_of_ble_eq_true rfl⟩, Nat.le_of_ble_eq_true rfl⟩ [0, 1] rfl rfl 0 rfl rfl rfl rfl rfl rfl rfl rfl rfl rfl rfl rfl dX4_stateOf_2 (fun h1 => hZ.x (Nat.le_of_ble_eq_true rfl) (Nat.le_of_ble_eq_true rfl) (fun _ => by simp [fz, *]) h1 rfl) (fun h1 => ?_)
  have ha := cmC_0 (by omega) h1
  refine z_lv (lv' := [some (.ref d0), some (.int (nI a.toNatClampNeg))]) (by rw [← ha.1]) ?_
  refine z_aload_n hF dX4_stateOf_5 rfl ?_
  refine z_get (C := RX4) (T := TX4) (N := 11) (ci := 4) (v := .ref d4) hF k_0 10 (by decide) rfl k_1 rfl 0 rfl rfl dX4_stateOf_6 ?_
  refine z_iload_n hF dX4_stateOf_9 rfl ?_
  refine z_iald (k := a.toNatClampNeg) hF 2 rfl (rfl) (by omega) rfl dX4_stateOf_10 ?_
  exact (hR (by simp [fz, *])).i dX4_stateOf_11 (Nat.le_of_ble_eq_true rfl) (Nat.le_of_ble_eq_true rfl) (rfl) (rfl)
set_option maxHeartbeats 4000000 in
set_option maxRecDepth 100000 in
theorem c_X4_overlaps (G : zG) (d0 t0 r0 q0 y0 d1 u0 d2 d3 d4 v : Nat) (o : Int32) (u1 u2 u3 j : Nat) (b2 : Nat → Int32) (e2 : Nat → Int32) (xs : Nat → Int32) (a : Int32) (hj : j ≤ 10) : zX G yX4_overlaps wsX4_overlaps ({ frames := 7, cells := 1, slots := 6, locals := 111 }) [.ref d0, .int a] [(d0, .inr (4, [.ref t0, .ref r0, .ref q0, .ref y0, .ref d1, .int o, .int (nI v), .ref u0, .ref d2, .ref d3, .ref d4])), (u0, .inr (2, [.ref u1, .ref u2, .ref u3, .int (nI j)])), (u1, eI G 12 b2), (u2, eI G 12 e2), (d4, eI G 10 xs)] [(d0, .inr (4, [.ref t0, .ref r0, .ref q0, .ref y0, .ref d1, .int o, .int (nI v), .ref u0, .ref d2, .ref d3, .ref d4])), (u0, .inr (2, [.ref u1, .ref u2, .ref u3, .int (nI j)])), (u1, eI G 12 b2), (u2, eI G 12 e2), (d4, eI G 10 xs)] (cmC j a) (some (.int (ovF b2 e2 xs a.toNatClampNeg j))) 1 6 := by
  refine zX.ofI (own := RX4) (cc := cX4_overlaps) (maxL := 2) rfl (by decide) rfl rfl (by simp [Value.category]) (Nat.le_of_ble_eq_true rfl) ?_
  intro X hF hZ hR
  refine z_lv (lv' := [some (.ref d0), some (.int a)]) rfl ?_
  refine z_aload_n hF dX4_overlaps_0 rfl ?_
  refine z_iload_n hF dX4_overlaps_1 rfl ?_
  refine z_Vx (As := [.int a]) (rest := []) (ws' := [(d0, .inr (4, [.ref t0, .ref r0, .ref q0, .ref y0, .ref d1, .int o, .int (nI v), .ref u0, .ref d2, .ref d3, .ref d4])), (u0, .inr (2, [.ref u1, .ref u2, .ref u3, .int (nI j)])), (u1, eI G 12 b2), (u2, eI G 12 e2), (d4, eI G 10 xs)]) (st2 := []) (c2 := 1) (s2 := 6) hF (c_X4_checkSuggestion G d0 t0 r0 q0 y0 d1 u0 d2 d3 d4 v o u1 u2 u3 j a) gX4_overlaps_X4_checkSuggestion rfl rfl rfl hd_X4_checkSuggestion ⟨⟨Nat.le_of_ble_eq_true rfl, Nat.le_of_ble_eq_true rfl⟩, ⟨Nat.le_of_ble_eq_true rfl, Nat.le_of_ble_eq_true rfl⟩, Nat.le_of_ble_eq_true rfl⟩ [0, 1] rfl rfl 0 rfl rfl rfl rfl rfl rfl rfl rfl rfl rfl rfl rfl dX4_overlaps_2 (fun h1 => hZ.x (Nat.le_of_ble_eq_true rfl) (Nat.le_of_ble_eq_true rfl) (fun _ => by simp [fz, *]) h1 rfl) (fun h1 => ?_)
  have ha := cmC_0 (by omega) h1
  refine z_lv (lv' := [some (.ref d0), some (.int (nI a.toNatClampNeg))]) (by rw [← ha.1]) ?_
  refine z_aload_n hF dX4_overlaps_5 rfl ?_
  refine z_iload_n hF dX4_overlaps_6 rfl ?_
  refine z_V (As := [.int (nI a.toNatClampNeg)]) (rest := []) (ws' := [(d0, .inr (4, [.ref t0, .ref r0, .ref q0, .ref y0, .ref d1, .int o, .int (nI v), .ref u0, .ref d2, .ref d3, .ref d4])), (u0, .inr (2, [.ref u1, .ref u2, .ref u3, .int (nI j)])), (u1, eI G 12 b2), (u2, eI G 12 e2), (d4, eI G 10 xs)]) (st2 := [.int (ovF b2 e2 xs a.toNatClampNeg j)]) (c2 := 1) (s2 := 6) hF (c_X4_overlapping G d0 t0 r0 q0 y0 d1 u0 d2 d3 d4 v o u1 u2 u3 j b2 e2 xs a.toNatClampNeg (by first | assumption | omega) (by first | assumption | omega)) gX4_overlaps_X4_overlapping rfl rfl rfl hd_X4_overlapping ⟨⟨Nat.le_of_ble_eq_true rfl, Nat.le_of_ble_eq_true rfl⟩, ⟨Nat.le_of_ble_eq_true rfl, Nat.le_of_ble_eq_true rfl⟩, Nat.le_of_ble_eq_true rfl⟩ [0, 1, 2, 3, 4] rfl rfl 0 rfl rfl rfl rfl rfl rfl rfl rfl rfl rfl dX4_overlaps_7 ?_
  exact (hR (by simp [fz, *])).i dX4_overlaps_10 (Nat.le_of_ble_eq_true rfl) (Nat.le_of_ble_eq_true rfl) (rfl) (rfl)
