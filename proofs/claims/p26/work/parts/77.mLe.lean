theorem ov_cong {b2 e2 B E xs : Nat → Int32} {i j : Nat} (hij : i < j) (hBs : ∀ i, i < j → B (8 + i) = b2 i ∧ E (8 + i) = e2 i) : ovF (fun kk => B (8 + kk)) (fun kk => E (8 + kk)) xs i j = ovF b2 e2 xs i j := by
  unfold ovF
  split
  · refine cov_cong fun k hk => ?_
    simp only [ovP, (hBs i hij).1, (hBs i hij).2, (hBs k hk).1, (hBs k hk).2]
  · rfl
theorem c_L_overlaps (G : zG) (ze zg zq n v m j i : Nat) (le xl xc xs B E b2 e2 : Nat → Int32) (hn : n ≤ 60) (hj : j ≤ 6) (hi : i < 6) (hij : i < j) (hRG : RGa n B E) (hE : LEa n le B E) (hB2 : ∀ i, 8 + j ≤ i → i < 14 → B i = -1) (hw : ∀ k, k < j → xs k = 0 → ¬ B (8 + k) = -1) (hBs : ∀ i, i < j → B (8 + i) = b2 i ∧ E (8 + i) = e2 i) : zM G yL_overlaps wsL_overlaps ({ frames := 0, cells := 0, slots := 0, locals := 12 }) [.int (nI i), .ref ze, .ref zg, .ref zq] [(ze, eI G 60 le), (zg, eI G 18 (gF xl xc xs)), (zq, eI G 4 (qF n v m j))] [(ze, eI G 60 le), (zg, eI G 18 (gF xl xc xs)), (zq, eI G 4 (qF n v m j))] (some (.int (ovF b2 e2 xs i j))) 0 0 := by
  by_cases h0 : xs i = 0
  · rw [← ov_cong (xs := xs) hij hBs]
    exact c_L_overlaps0 G ze zg zq n v m j i le xl xc xs B E hn hj hi hij hRG hE hB2 hw h0
  · rw [show ovF b2 e2 xs i j = nI 0 from if_neg h0]
    exact c_L_overlaps1 G ze zg zq n v m j i le xl xc xs B E hn hj hi hij hRG hE hB2 hw h0
set_option maxHeartbeats 4000000 in
set_option maxRecDepth 100000 in
theorem c_L_calls_ins0 (G : zG) (d0 t0 r0 q0 y0 d1 u0 d2 d3 d4 v : Nat) (o : Int32) (t1 t2 n : Nat) (f : Nat → Int32) (g : Nat → Int32) (r1 r2 r3 m : Nat) (b : Nat → Int32) (e : Nat → Int32) (s : Nat → Int32) (y1 : Nat) (h : Nat → Int32) (u1 u2 u3 j : Nat) (b2 : Nat → Int32) (e2 : Nat → Int32) (s2 : Nat → Int32) (p x k : Nat) (hn : n ≤ 60) (hm : m ≤ 12) (hj : j ≤ 10) (hv : v < 300) (hp : p ≤ n) (hx : x ≤ 25) (hk1 : 1 ≤ k) (hk2 : k ≤ 10) (hk : n + k ≤ 60) : zM G yL_calls wsL_calls ({ frames := 6, cells := 0, slots := 0, locals := 144 }) [.ref d0, .int (nI 0), .int (nI p), .int (nI x), .int (nI k)] [(d0, .inr (4, [.ref t0, .ref r0, .ref q0, .ref y0, .ref d1, .int o, .int (nI v), .ref u0, .ref d2, .ref d3, .ref d4])), (y0, .inr (0, [.ref y1])), (y1, eI G 3600 h), (r0, .inr (2, [.ref r1, .ref r2, .ref r3, .int (nI m)])), (r1, eI G 12 b), (r2, eI G 12 e), (r3, eI G 12 s), (u0, .inr (2, [.ref u1, .ref u2, .ref u3, .int (nI j)])), (u1, eI G 12 b2), (u2, eI G 12 e2), (u3, eI G 12 s2), (t0, .inr (3, [.ref t1, .ref t2, .int (nI n)])), (t1, eI G 60 f), (t2, eI G 60 g)] [(d0, .inr (4, [.ref t0, .ref r0, .ref q0, .ref y0, .ref d1, .int o, .int (nI (v + 1)), .ref u0, .ref d2, .ref d3, .ref d4])), (y0, .inr (0, [.ref y1])), (y1, eI G 3600 (wrF h (v * 12) 12 (fun kk => if kk < m then numF (b kk) (e kk) else -1))), (r0, .inr (2, [.ref r1, .ref r2, .ref r3, .int (nI m)])), (r1, eI G 12 (mpF m (insB (nI p) (nI k) b s) b)), (r2, eI G 12 (mpF m (insE (nI p) (nI k) b e s) e)), (r3, eI G 12 s), (u0, .inr (2, [.ref u1, .ref u2, .ref u3, .int (nI j)])), (u1, eI G 12 (mpF j (insB (nI p) (nI k) b2 s2) b2)), (u2, eI G 12 (mpF j (insE (nI p) (nI k) b2 e2 s2) e2)), (u3, eI G 12 s2), (t0, .inr (3, [.ref t1, .ref t2, .int (nI (n + k))])), (t1, eI G 60 (filF (va_cpy f f p (p + k) (n - p)) p (p + k) (nI x))), (t2, eI G 60 (mrkF (filF (va_cpy g g p (p + k) (n - p)) p (p + k) (nI 0)) p (p + k) (covF (mpF m (insB (nI p) (nI k) b s) b) (mpF m (insE (nI p) (nI k) b e s) e) m (nI p))))] (some (.int (nI (n + k)))) 0 0 := by
  refine zM.ofIh (own := RL) (cc := cL_calls) (maxL := 6) rfl (by decide) rfl rfl (by simp [Value.category]) (Nat.le_of_ble_eq_true rfl) ?_
  intro X hF hT hR
  refine z_lv (lv' := [some (.ref d0), some (.int (nI 0)), some (.int (nI p)), some (.int (nI x)), some (.int (nI k)), none]) rfl ?_
  refine z_iload_n hF dL_calls_0 rfl ?_
  refine z_if_ne (tgt := 15) hF dL_calls_1 (by decide) (fun c_1 => absurd c_1 (by decide)) (fun c_1 => ?_)
  refine z_aload_n hF dL_calls_4 rfl ?_
  refine z_iload_n hF dL_calls_5 rfl ?_
  refine z_iload_n hF dL_calls_6 rfl ?_
  refine z_iload hF dL_calls_7 rfl ?_
  refine z_V (As := [.int (nI p), .int (nI x), .int (nI k)]) (rest := []) (ws' := [(d0, .inr (4, [.ref t0, .ref r0, .ref q0, .ref y0, .ref d1, .int o, .int (nI (v + 1)), .ref u0, .ref d2, .ref d3, .ref d4])), (y0, .inr (0, [.ref y1])), (y1, eI G 3600 (wrF h (v * 12) 12 (fun kk => if kk < m then numF (b kk) (e kk) else -1))), (r0, .inr (2, [.ref r1, .ref r2, .ref r3, .int (nI m)])), (r1, eI G 12 (mpF m (insB (nI p) (nI k) b s) b)), (r2, eI G 12 (mpF m (insE (nI p) (nI k) b e s) e)), (r3, eI G 12 s), (u0, .inr (2, [.ref u1, .ref u2, .ref u3, .int (nI j)])), (u1, eI G 12 (mpF j (insB (nI p) (nI k) b2 s2) b2)), (u2, eI G 12 (mpF j (insE (nI p) (nI k) b2 e2 s2) e2)), (u3, eI G 12 s2), (t0, .inr (3, [.ref t1, .ref t2, .int (nI (n + k))])), (t1, eI G 60 (filF (va_cpy f f p (p + k) (n - p)) p (p + k) (nI x))), (t2, eI G 60 (mrkF (filF (va_cpy g g p (p + k) (n - p)) p (p + k) (nI 0)) p (p + k) (covF (mpF m (insB (nI p) (nI k) b s) b) (mpF m (insE (nI p) (nI k) b e s) e) m (nI p))))]) (st2 := [.int (nI (n + k))]) (c2 := 0) (s2 := 0) hF (c_X4_insert G d0 t0 r0 q0 y0 d1 u0 d2 d3 d4 v o t1 t2 n f g r1 r2 r3 m b e s y1 h u1 u2 u3 j b2 e2 s2 p x k (hn) (hm) (hj) (hv) (hp) (hx) (hk1) (hk2) (hk)) gL_calls_X4_insert rfl rfl rfl hd_X4_insert ⟨⟨Nat.le_of_ble_eq_true rfl, Nat.le_of_ble_eq_true rfl⟩, ⟨Nat.le_of_ble_eq_true rfl, Nat.le_of_ble_eq_true rfl⟩, Nat.le_of_ble_eq_true rfl⟩ [0, 1, 2, 3, 4, 5, 6, 7, 8, 9, 10, 11, 12, 13] rfl rfl 0 rfl rfl rfl rfl rfl rfl rfl rfl rfl rfl dL_calls_9 ?_
  refine z_goto (tgt := 46) hF dL_calls_12 (by decide) ?_
  exact hR.i dL_calls_46 (Nat.le_of_ble_eq_true rfl) (Nat.le_of_ble_eq_true rfl) (rfl) (rfl)
set_option maxHeartbeats 4000000 in
set_option maxRecDepth 100000 in
theorem c_L_calls_ins3 (G : zG) (d0 t0 r0 q0 y0 d1 u0 d2 d3 d4 v : Nat) (o : Int32) (t1 t2 n : Nat) (f : Nat → Int32) (g : Nat → Int32) (r1 r2 r3 m : Nat) (b : Nat → Int32) (e : Nat → Int32) (s : Nat → Int32) (y1 : Nat) (h : Nat → Int32) (u1 u2 u3 j : Nat) (b2 : Nat → Int32) (e2 : Nat → Int32) (s2 : Nat → Int32) (p x k : Nat) (hn : n ≤ 60) (hm : m ≤ 12) (hj : j ≤ 10) (hv : v < 300) (hp : p ≤ n) (hx : x ≤ 25) (hk1 : 1 ≤ k) (hk2 : k ≤ 10) (hk : 60 < n + k) : zM G yL_calls wsL_calls ({ frames := 8, cells := 1, slots := 6, locals := 135 }) [.ref d0, .int (nI 0), .int (nI p), .int (nI x), .int (nI k)] [(d0, .inr (4, [.ref t0, .ref r0, .ref q0, .ref y0, .ref d1, .int o, .int (nI v), .ref u0, .ref d2, .ref d3, .ref d4])), (y0, .inr (0, [.ref y1])), (y1, eI G 3600 h), (r0, .inr (2, [.ref r1, .ref r2, .ref r3, .int (nI m)])), (r1, eI G 12 b), (r2, eI G 12 e), (r3, eI G 12 s), (u0, .inr (2, [.ref u1, .ref u2, .ref u3, .int (nI j)])), (u1, eI G 12 b2), (u2, eI G 12 e2), (u3, eI G 12 s2), (t0, .inr (3, [.ref t1, .ref t2, .int (nI n)])), (t1, eI G 60 f), (t2, eI G 60 g)] [(d0, .inr (4, [.ref t0, .ref r0, .ref q0, .ref y0, .ref d1, .int o, .int (nI v), .ref u0, .ref d2, .ref d3, .ref d4])), (y0, .inr (0, [.ref y1])), (y1, eI G 3600 h), (r0, .inr (2, [.ref r1, .ref r2, .ref r3, .int (nI m)])), (r1, eI G 12 b), (r2, eI G 12 e), (r3, eI G 12 s), (u0, .inr (2, [.ref u1, .ref u2, .ref u3, .int (nI j)])), (u1, eI G 12 b2), (u2, eI G 12 e2), (u3, eI G 12 s2), (t0, .inr (3, [.ref t1, .ref t2, .int (nI n)])), (t1, eI G 60 f), (t2, eI G 60 g)] (some (.int (-3))) 1 6 := by
  refine zM.ofIh (own := RL) (cc := cL_calls) (maxL := 6) rfl (by decide) rfl rfl (by simp [Value.category]) (Nat.le_of_ble_eq_true rfl) ?_
  intro X hF hT hR
  have k_0 : zH X (.classLink RL 26 "java/lang/IllegalStateException") := hF.w (by decide +kernel)
  refine z_lv (lv' := [some (.ref d0), some (.int (nI 0)), some (.int (nI p)), some (.int (nI x)), some (.int (nI k)), none]) rfl ?_
  refine z_iload_n hF dL_calls_0 rfl ?_
  refine z_if_ne (tgt := 15) hF dL_calls_1 (by decide) (fun c_1 => absurd c_1 (by decide)) (fun c_1 => ?_)
  refine z_aload_n hF dL_calls_4 rfl ?_
  refine z_iload_n hF dL_calls_5 rfl ?_
  refine z_iload_n hF dL_calls_6 rfl ?_
  refine z_iload hF dL_calls_7 rfl ?_
  refine z_Vx (As := [.int (nI p), .int (nI x), .int (nI k)]) (rest := []) (ws' := [(d0, .inr (4, [.ref t0, .ref r0, .ref q0, .ref y0, .ref d1, .int o, .int (nI v), .ref u0, .ref d2, .ref d3, .ref d4])), (y0, .inr (0, [.ref y1])), (y1, eI G 3600 h), (r0, .inr (2, [.ref r1, .ref r2, .ref r3, .int (nI m)])), (r1, eI G 12 b), (r2, eI G 12 e), (r3, eI G 12 s), (u0, .inr (2, [.ref u1, .ref u2, .ref u3, .int (nI j)])), (u1, eI G 12 b2), (u2, eI G 12 e2), (u3, eI G 12 s2), (t0, .inr (3, [.ref t1, .ref t2, .int (nI n)])), (t1, eI G 60 f), (t2, eI G 60 g)]) (st2 := [.int (nI 0)]) (c2 := 1) (s2 := 6) hF (c_X4_insert_3 G d0 t0 r0 q0 y0 d1 u0 d2 d3 d4 v o t1 t2 n f g r1 r2 r3 m b e s y1 h u1 u2 u3 j b2 e2 s2 p x k (hn) (hm) (hj) (hv) (hp) (hx) (hk1) (hk2) (hk)) gL_calls_X4_insert rfl rfl rfl hd_X4_insert ⟨⟨Nat.le_of_ble_eq_true rfl, Nat.le_of_ble_eq_true rfl⟩, ⟨Nat.le_of_ble_eq_true rfl, Nat.le_of_ble_eq_true rfl⟩, Nat.le_of_ble_eq_true rfl⟩ [0, 1, 2, 3, 4, 5, 6, 7, 8, 9, 10, 11, 12, 13] rfl rfl 0 rfl rfl rfl rfl rfl rfl rfl rfl rfl rfl rfl rfl dL_calls_9 (fun c_2 => ?_) (fun c_2 => absurd c_2 (by decide))
  refine z_vk rfl ?_
  refine z_catch (k := 3) hF hT [] ⟨0, 46, 47, 26⟩ [] rfl (fun _ h => absurd h List.not_mem_nil) (by decide) (by decide) k_0 (by decide +kernel) (fun q9 => ?_)
  refine z_astore (lv' := [some (.ref d0), some (.int (nI 0)), some (.int (nI p)), some (.int (nI x)), some (.int (nI k)), some (.ref q9)]) hF dL_calls_47 rfl rfl ?_
  refine z_bipush (v := -3) hF dL_calls_49 (by decide) ?_
  exact hR.i dL_calls_51 (Nat.le_of_ble_eq_true rfl) (Nat.le_of_ble_eq_true rfl) (rfl) (rfl)
set_option maxHeartbeats 4000000 in
set_option maxRecDepth 100000 in
theorem c_L_calls_find0 (G : zG) (d0 t0 r0 q0 y0 d1 u0 d2 d3 d4 v : Nat) (o : Int32) (t1 t2 n : Nat) (f : Nat → Int32) (g : Nat → Int32) (r1 r2 r3 m : Nat) (b : Nat → Int32) (e : Nat → Int32) (q1 q2 q3 q4 : Nat) (ql : Nat → Int32) (qs : Nat → Int32) (qa : Nat → Int32) (qb : Nat → Int32) (i z : Nat) (hn : n ≤ 60) (hm : m ≤ 12) (hi : i < m) (hb : b i = -1) (hz : qs i = nI z) (hz2 : z ≤ 60) (h0 : bfF n z i ql qa qb f = -1) : zM G yL_calls wsL_calls ({ frames := 5, cells := 0, slots := 0, locals := 128 }) [.ref d0, .int (nI 1), .int (nI i), .int (nI 0), .int (nI 0)] [(d0, .inr (4, [.ref t0, .ref r0, .ref q0, .ref y0, .ref d1, .int o, .int (nI v), .ref u0, .ref d2, .ref d3, .ref d4])), (r0, .inr (2, [.ref r1, .ref r2, .ref r3, .int (nI m)])), (r1, eI G 12 b), (r2, eI G 12 e), (q0, .inr (1, [.ref q1, .ref q2, .ref q3, .ref q4])), (q1, eI G 720 ql), (q2, eI G 12 qs), (q3, eI G 12 qa), (q4, eI G 12 qb), (t0, .inr (3, [.ref t1, .ref t2, .int (nI n)])), (t1, eI G 60 f), (t2, eI G 60 g)] [(d0, .inr (4, [.ref t0, .ref r0, .ref q0, .ref y0, .ref d1, .int o, .int (nI v), .ref u0, .ref d2, .ref d3, .ref d4])), (r0, .inr (2, [.ref r1, .ref r2, .ref r3, .int (nI m)])), (r1, eI G 12 b), (r2, eI G 12 e), (q0, .inr (1, [.ref q1, .ref q2, .ref q3, .ref q4])), (q1, eI G 720 ql), (q2, eI G 12 qs), (q3, eI G 12 qa), (q4, eI G 12 qb), (t0, .inr (3, [.ref t1, .ref t2, .int (nI n)])), (t1, eI G 60 f), (t2, eI G 60 g)] (some (.int (bfF n z i ql qa qb f))) 0 0 := by
  refine zM.ofIh (own := RL) (cc := cL_calls) (maxL := 6) rfl (by decide) rfl rfl (by simp [Value.category]) (Nat.le_of_ble_eq_true rfl) ?_
  intro X hF hT hR
  refine z_lv (lv' := [some (.ref d0), some (.int (nI 1)), some (.int (nI i)), some (.int (nI 0)), some (.int (nI 0)), none]) rfl ?_
  refine z_iload_n hF dL_calls_0 rfl ?_
  refine z_if_ne (tgt := 15) hF dL_calls_1 (by decide) (fun c_1 => ?_) (fun c_1 => absurd c_1 (by decide))
  refine z_iload_n hF dL_calls_15 rfl ?_
  refine z_iconst (v := nI 1) hF dL_calls_16 (by decide) ?_
  refine z_icn_ne (tgt := 28) hF (by omega) (by omega) dL_calls_17 (by decide) (fun c_2 => absurd c_2 (not_not_intro rfl)) (fun c_2 => ?_)
  refine z_aload_n hF dL_calls_20 rfl ?_
  refine z_iload_n hF dL_calls_21 rfl ?_
  refine z_V (As := [.int (nI i)]) (rest := []) (ws' := [(d0, .inr (4, [.ref t0, .ref r0, .ref q0, .ref y0, .ref d1, .int o, .int (nI v), .ref u0, .ref d2, .ref d3, .ref d4])), (r0, .inr (2, [.ref r1, .ref r2, .ref r3, .int (nI m)])), (r1, eI G 12 b), (r2, eI G 12 e), (q0, .inr (1, [.ref q1, .ref q2, .ref q3, .ref q4])), (q1, eI G 720 ql), (q2, eI G 12 qs), (q3, eI G 12 qa), (q4, eI G 12 qb), (t0, .inr (3, [.ref t1, .ref t2, .int (nI n)])), (t1, eI G 60 f), (t2, eI G 60 g)]) (st2 := [.int (bfF n z i ql qa qb f)]) (c2 := 0) (s2 := 0) hF (c_X4_find0 G d0 t0 r0 q0 y0 d1 u0 d2 d3 d4 v o t1 t2 n f g r1 r2 r3 m b e q1 q2 q3 q4 ql qs qa qb i z (hn) (hm) (hi) (hb) (hz) (hz2) (h0)) gL_calls_X4_find rfl rfl rfl hd_X4_find ⟨⟨Nat.le_of_ble_eq_true rfl, Nat.le_of_ble_eq_true rfl⟩, ⟨Nat.le_of_ble_eq_true rfl, Nat.le_of_ble_eq_true rfl⟩, Nat.le_of_ble_eq_true rfl⟩ [0, 1, 2, 3, 4, 5, 6, 7, 8, 9, 10, 11] rfl rfl 0 rfl rfl rfl rfl rfl rfl rfl rfl rfl rfl dL_calls_22 ?_
  refine z_goto (tgt := 46) hF dL_calls_25 (by decide) ?_
  exact hR.i dL_calls_46 (Nat.le_of_ble_eq_true rfl) (Nat.le_of_ble_eq_true rfl) (rfl) (rfl)
set_option maxHeartbeats 4000000 in
set_option maxRecDepth 100000 in
theorem c_L_calls_find1 (G : zG) (d0 t0 r0 q0 y0 d1 u0 d2 d3 d4 v : Nat) (o : Int32) (t1 t2 n : Nat) (f : Nat → Int32) (g : Nat → Int32) (r1 r2 r3 m : Nat) (b : Nat → Int32) (e : Nat → Int32) (q1 q2 q3 q4 : Nat) (ql : Nat → Int32) (qs : Nat → Int32) (qa : Nat → Int32) (qb : Nat → Int32) (i z : Nat) (hn : n ≤ 60) (hm : m ≤ 12) (hi : i < m) (hb : b i = -1) (hz : qs i = nI z) (hz2 : z ≤ 60) (h0 : ¬ bfF n z i ql qa qb f = -1) : zM G yL_calls wsL_calls ({ frames := 5, cells := 0, slots := 0, locals := 128 }) [.ref d0, .int (nI 1), .int (nI i), .int (nI 0), .int (nI 0)] [(d0, .inr (4, [.ref t0, .ref r0, .ref q0, .ref y0, .ref d1, .int o, .int (nI v), .ref u0, .ref d2, .ref d3, .ref d4])), (r0, .inr (2, [.ref r1, .ref r2, .ref r3, .int (nI m)])), (r1, eI G 12 b), (r2, eI G 12 e), (q0, .inr (1, [.ref q1, .ref q2, .ref q3, .ref q4])), (q1, eI G 720 ql), (q2, eI G 12 qs), (q3, eI G 12 qa), (q4, eI G 12 qb), (t0, .inr (3, [.ref t1, .ref t2, .int (nI n)])), (t1, eI G 60 f), (t2, eI G 60 g)] [(d0, .inr (4, [.ref t0, .ref r0, .ref q0, .ref y0, .ref d1, .int o, .int (nI v), .ref u0, .ref d2, .ref d3, .ref d4])), (r0, .inr (2, [.ref r1, .ref r2, .ref r3, .int (nI m)])), (r1, eI G 12 (upd b i (nI (bfF n z i ql qa qb f).toNatClampNeg))), (r2, eI G 12 (upd e i (nI ((bfF n z i ql qa qb f).toNatClampNeg + z)))), (q0, .inr (1, [.ref q1, .ref q2, .ref q3, .ref q4])), (q1, eI G 720 ql), (q2, eI G 12 qs), (q3, eI G 12 qa), (q4, eI G 12 qb), (t0, .inr (3, [.ref t1, .ref t2, .int (nI n)])), (t1, eI G 60 f), (t2, eI G 60 (mrkF g (bfF n z i ql qa qb f).toNatClampNeg ((bfF n z i ql qa qb f).toNatClampNeg + z) (bitF (nI i))))] (some (.int (bfF n z i ql qa qb f))) 0 0 := by
  refine zM.ofIh (own := RL) (cc := cL_calls) (maxL := 6) rfl (by decide) rfl rfl (by simp [Value.category]) (Nat.le_of_ble_eq_true rfl) ?_
  intro X hF hT hR
  refine z_lv (lv' := [some (.ref d0), some (.int (nI 1)), some (.int (nI i)), some (.int (nI 0)), some (.int (nI 0)), none]) rfl ?_
  refine z_iload_n hF dL_calls_0 rfl ?_
  refine z_if_ne (tgt := 15) hF dL_calls_1 (by decide) (fun c_1 => ?_) (fun c_1 => absurd c_1 (by decide))
  refine z_iload_n hF dL_calls_15 rfl ?_
  refine z_iconst (v := nI 1) hF dL_calls_16 (by decide) ?_
  refine z_icn_ne (tgt := 28) hF (by omega) (by omega) dL_calls_17 (by decide) (fun c_2 => absurd c_2 (not_not_intro rfl)) (fun c_2 => ?_)
  refine z_aload_n hF dL_calls_20 rfl ?_
  refine z_iload_n hF dL_calls_21 rfl ?_
  refine z_V (As := [.int (nI i)]) (rest := []) (ws' := [(d0, .inr (4, [.ref t0, .ref r0, .ref q0, .ref y0, .ref d1, .int o, .int (nI v), .ref u0, .ref d2, .ref d3, .ref d4])), (r0, .inr (2, [.ref r1, .ref r2, .ref r3, .int (nI m)])), (r1, eI G 12 (upd b i (nI (bfF n z i ql qa qb f).toNatClampNeg))), (r2, eI G 12 (upd e i (nI ((bfF n z i ql qa qb f).toNatClampNeg + z)))), (q0, .inr (1, [.ref q1, .ref q2, .ref q3, .ref q4])), (q1, eI G 720 ql), (q2, eI G 12 qs), (q3, eI G 12 qa), (q4, eI G 12 qb), (t0, .inr (3, [.ref t1, .ref t2, .int (nI n)])), (t1, eI G 60 f), (t2, eI G 60 (mrkF g (bfF n z i ql qa qb f).toNatClampNeg ((bfF n z i ql qa qb f).toNatClampNeg + z) (bitF (nI i))))]) (st2 := [.int (bfF n z i ql qa qb f)]) (c2 := 0) (s2 := 0) hF (c_X4_find1 G d0 t0 r0 q0 y0 d1 u0 d2 d3 d4 v o t1 t2 n f g r1 r2 r3 m b e q1 q2 q3 q4 ql qs qa qb i z (hn) (hm) (hi) (hb) (hz) (hz2) (h0)) gL_calls_X4_find rfl rfl rfl hd_X4_find ⟨⟨Nat.le_of_ble_eq_true rfl, Nat.le_of_ble_eq_true rfl⟩, ⟨Nat.le_of_ble_eq_true rfl, Nat.le_of_ble_eq_true rfl⟩, Nat.le_of_ble_eq_true rfl⟩ [0, 1, 2, 3, 4, 5, 6, 7, 8, 9, 10, 11] rfl rfl 0 rfl rfl rfl rfl rfl rfl rfl rfl rfl rfl dL_calls_22 ?_
  refine z_goto (tgt := 46) hF dL_calls_25 (by decide) ?_
  exact hR.i dL_calls_46 (Nat.le_of_ble_eq_true rfl) (Nat.le_of_ble_eq_true rfl) (rfl) (rfl)
set_option maxHeartbeats 4000000 in
set_option maxRecDepth 100000 in
theorem c_L_calls_find3 (G : zG) (d0 t0 r0 q0 y0 d1 u0 d2 d3 d4 v : Nat) (o : Int32) (r1 r2 r3 m : Nat) (b : Nat → Int32) (i : Nat) (hm : m ≤ 12) (hi : i < m) (hb : ¬ b i = -1) : zM G yL_calls wsL_calls ({ frames := 7, cells := 1, slots := 6, locals := 113 }) [.ref d0, .int (nI 1), .int (nI i), .int (nI 0), .int (nI 0)] [(d0, .inr (4, [.ref t0, .ref r0, .ref q0, .ref y0, .ref d1, .int o, .int (nI v), .ref u0, .ref d2, .ref d3, .ref d4])), (r0, .inr (2, [.ref r1, .ref r2, .ref r3, .int (nI m)])), (r1, eI G 12 b)] [(d0, .inr (4, [.ref t0, .ref r0, .ref q0, .ref y0, .ref d1, .int o, .int (nI v), .ref u0, .ref d2, .ref d3, .ref d4])), (r0, .inr (2, [.ref r1, .ref r2, .ref r3, .int (nI m)])), (r1, eI G 12 b)] (some (.int (-3))) 1 6 := by
  refine zM.ofIh (own := RL) (cc := cL_calls) (maxL := 6) rfl (by decide) rfl rfl (by simp [Value.category]) (Nat.le_of_ble_eq_true rfl) ?_
  intro X hF hT hR
  have k_0 : zH X (.classLink RL 26 "java/lang/IllegalStateException") := hF.w (by decide +kernel)
  refine z_lv (lv' := [some (.ref d0), some (.int (nI 1)), some (.int (nI i)), some (.int (nI 0)), some (.int (nI 0)), none]) rfl ?_
  refine z_iload_n hF dL_calls_0 rfl ?_
  refine z_if_ne (tgt := 15) hF dL_calls_1 (by decide) (fun c_1 => ?_) (fun c_1 => absurd c_1 (by decide))
  refine z_iload_n hF dL_calls_15 rfl ?_
  refine z_iconst (v := nI 1) hF dL_calls_16 (by decide) ?_
  refine z_icn_ne (tgt := 28) hF (by omega) (by omega) dL_calls_17 (by decide) (fun c_2 => absurd c_2 (not_not_intro rfl)) (fun c_2 => ?_)
  refine z_aload_n hF dL_calls_20 rfl ?_
  refine z_iload_n hF dL_calls_21 rfl ?_
  refine z_Vx (As := [.int (nI i)]) (rest := []) (ws' := [(d0, .inr (4, [.ref t0, .ref r0, .ref q0, .ref y0, .ref d1, .int o, .int (nI v), .ref u0, .ref d2, .ref d3, .ref d4])), (r0, .inr (2, [.ref r1, .ref r2, .ref r3, .int (nI m)])), (r1, eI G 12 b)]) (st2 := [.int (nI 0)]) (c2 := 1) (s2 := 6) hF (c_X4_find_3 G d0 t0 r0 q0 y0 d1 u0 d2 d3 d4 v o r1 r2 r3 m b i (hm) (hi) (hb)) gL_calls_X4_find rfl rfl rfl hd_X4_find ⟨⟨Nat.le_of_ble_eq_true rfl, Nat.le_of_ble_eq_true rfl⟩, ⟨Nat.le_of_ble_eq_true rfl, Nat.le_of_ble_eq_true rfl⟩, Nat.le_of_ble_eq_true rfl⟩ [0, 1, 2] rfl rfl 0 rfl rfl rfl rfl rfl rfl rfl rfl rfl rfl rfl rfl dL_calls_22 (fun c_3 => ?_) (fun c_3 => absurd c_3 (by decide))
  refine z_vk rfl ?_
  refine z_catch (k := 3) hF hT [] ⟨0, 46, 47, 26⟩ [] rfl (fun _ h => absurd h List.not_mem_nil) (by decide) (by decide) k_0 (by decide +kernel) (fun q9 => ?_)
  refine z_astore (lv' := [some (.ref d0), some (.int (nI 1)), some (.int (nI i)), some (.int (nI 0)), some (.int (nI 0)), some (.ref q9)]) hF dL_calls_47 rfl rfl ?_
  refine z_bipush (v := -3) hF dL_calls_49 (by decide) ?_
  exact hR.i dL_calls_51 (Nat.le_of_ble_eq_true rfl) (Nat.le_of_ble_eq_true rfl) (rfl) (rfl)
set_option maxHeartbeats 4000000 in
set_option maxRecDepth 100000 in
theorem c_L_calls_acc0 (G : zG) (d0 t0 r0 q0 y0 d1 u0 d2 d3 d4 v : Nat) (o : Int32) (t1 t2 n : Nat) (f : Nat → Int32) (g : Nat → Int32) (r1 r2 r3 m : Nat) (b : Nat → Int32) (e : Nat → Int32) (s : Nat → Int32) (y1 : Nat) (h : Nat → Int32) (u1 u2 u3 j : Nat) (b2 : Nat → Int32) (e2 : Nat → Int32) (s2 : Nat → Int32) (xl : Nat → Int32) (xc : Nat → Int32) (xs : Nat → Int32) (i p q : Nat) (hn : n ≤ 60) (hm : m ≤ 12) (hj : j ≤ 10) (hv : v + 1 < 300) (hi : i < j) (h0 : xs i = 0) (hb : b2 i = nI p) (he : e2 i = nI q) (hpq : p < q) (hqn : q ≤ n) (ho : ovF b2 e2 xs i j = 0) (hz : xc i = nI 0) (hr : n - (q - p) + 0 ≤ 60) : zM G yL_calls wsL_calls ({ frames := 6, cells := 0, slots := 0, locals := 145 }) [.ref d0, .int (nI 2), .int (nI i), .int (nI 0), .int (nI 0)] [(d0, .inr (4, [.ref t0, .ref r0, .ref q0, .ref y0, .ref d1, .int o, .int (nI v), .ref u0, .ref d2, .ref d3, .ref d4])), (y0, .inr (0, [.ref y1])), (y1, eI G 3600 h), (r0, .inr (2, [.ref r1, .ref r2, .ref r3, .int (nI m)])), (r1, eI G 12 b), (r2, eI G 12 e), (r3, eI G 12 s), (u0, .inr (2, [.ref u1, .ref u2, .ref u3, .int (nI j)])), (u1, eI G 12 b2), (u2, eI G 12 e2), (u3, eI G 12 s2), (t0, .inr (3, [.ref t1, .ref t2, .int (nI n)])), (t1, eI G 60 f), (t2, eI G 60 g), (d2, eI G 10 xl), (d3, eI G 10 xc), (d4, eI G 10 xs)] [(d0, .inr (4, [.ref t0, .ref r0, .ref q0, .ref y0, .ref d1, .int o, .int (nI (v + 1)), .ref u0, .ref d2, .ref d3, .ref d4])), (y0, .inr (0, [.ref y1])), (y1, eI G 3600 (wrF h (v * 12) 12 (fun kk => if kk < m then numF (b kk) (e kk) else -1))), (r0, .inr (2, [.ref r1, .ref r2, .ref r3, .int (nI m)])), (r1, eI G 12 (mpF m (remB (nI p) (nI (q - p)) b e) b)), (r2, eI G 12 (mpF m (remE (nI p) (nI (q - p)) b e) e)), (r3, eI G 12 s), (u0, .inr (2, [.ref u1, .ref u2, .ref u3, .int (nI j)])), (u1, eI G 12 (mpF j (remB (nI p) (nI (q - p)) b2 e2) b2)), (u2, eI G 12 (mpF j (remE (nI p) (nI (q - p)) b2 e2) e2)), (u3, eI G 12 s2), (t0, .inr (3, [.ref t1, .ref t2, .int (nI (n - (q - p)))])), (t1, eI G 60 (va_cpy f f (p + (q - p)) p (n - (p + (q - p))))), (t2, eI G 60 (va_cpy g g (p + (q - p)) p (n - (p + (q - p))))), (d2, eI G 10 xl), (d3, eI G 10 xc), (d4, eI G 10 (mpF j (lgF (gonF (nI p) (nI (q - p)) b2 e2 j) (upd xs i (nI 1))) (upd xs i (nI 1))))] (some (.int (nI (n - (q - p))))) 0 0 := by
  refine zM.ofIh (own := RL) (cc := cL_calls) (maxL := 6) rfl (by decide) rfl rfl (by simp [Value.category]) (Nat.le_of_ble_eq_true rfl) ?_
  intro X hF hT hR
  refine z_lv (lv' := [some (.ref d0), some (.int (nI 2)), some (.int (nI i)), some (.int (nI 0)), some (.int (nI 0)), none]) rfl ?_
  refine z_iload_n hF dL_calls_0 rfl ?_
  refine z_if_ne (tgt := 15) hF dL_calls_1 (by decide) (fun c_1 => ?_) (fun c_1 => absurd c_1 (by decide))
  refine z_iload_n hF dL_calls_15 rfl ?_
  refine z_iconst (v := nI 1) hF dL_calls_16 (by decide) ?_
  refine z_icn_ne (tgt := 28) hF (by omega) (by omega) dL_calls_17 (by decide) (fun c_2 => ?_) (fun c_2 => absurd c_2 (by decide))
  refine z_iload_n hF dL_calls_28 rfl ?_
  refine z_iconst (v := nI 2) hF dL_calls_29 (by decide) ?_
  refine z_icn_ne (tgt := 41) hF (by omega) (by omega) dL_calls_30 (by decide) (fun c_3 => absurd c_3 (not_not_intro rfl)) (fun c_3 => ?_)
  refine z_aload_n hF dL_calls_33 rfl ?_
  refine z_iload_n hF dL_calls_34 rfl ?_
  refine z_V (As := [.int (nI i)]) (rest := []) (ws' := [(d0, .inr (4, [.ref t0, .ref r0, .ref q0, .ref y0, .ref d1, .int o, .int (nI (v + 1)), .ref u0, .ref d2, .ref d3, .ref d4])), (y0, .inr (0, [.ref y1])), (y1, eI G 3600 (wrF h (v * 12) 12 (fun kk => if kk < m then numF (b kk) (e kk) else -1))), (r0, .inr (2, [.ref r1, .ref r2, .ref r3, .int (nI m)])), (r1, eI G 12 (mpF m (remB (nI p) (nI (q - p)) b e) b)), (r2, eI G 12 (mpF m (remE (nI p) (nI (q - p)) b e) e)), (r3, eI G 12 s), (u0, .inr (2, [.ref u1, .ref u2, .ref u3, .int (nI j)])), (u1, eI G 12 (mpF j (remB (nI p) (nI (q - p)) b2 e2) b2)), (u2, eI G 12 (mpF j (remE (nI p) (nI (q - p)) b2 e2) e2)), (u3, eI G 12 s2), (t0, .inr (3, [.ref t1, .ref t2, .int (nI (n - (q - p)))])), (t1, eI G 60 (va_cpy f f (p + (q - p)) p (n - (p + (q - p))))), (t2, eI G 60 (va_cpy g g (p + (q - p)) p (n - (p + (q - p))))), (d2, eI G 10 xl), (d3, eI G 10 xc), (d4, eI G 10 (mpF j (lgF (gonF (nI p) (nI (q - p)) b2 e2 j) (upd xs i (nI 1))) (upd xs i (nI 1))))]) (st2 := [.int (nI (n - (q - p)))]) (c2 := 0) (s2 := 0) hF (c_X4_accept0 G d0 t0 r0 q0 y0 d1 u0 d2 d3 d4 v o t1 t2 n f g r1 r2 r3 m b e s y1 h u1 u2 u3 j b2 e2 s2 xl xc xs i p q (hn) (hm) (hj) (hv) (hi) (h0) (hb) (he) (hpq) (hqn) (ho) (hz) (hr)) gL_calls_X4_accept rfl rfl rfl hd_X4_accept ⟨⟨Nat.le_of_ble_eq_true rfl, Nat.le_of_ble_eq_true rfl⟩, ⟨Nat.le_of_ble_eq_true rfl, Nat.le_of_ble_eq_true rfl⟩, Nat.le_of_ble_eq_true rfl⟩ [0, 1, 2, 3, 4, 5, 6, 7, 8, 9, 10, 11, 12, 13, 14, 15, 16] rfl rfl 0 rfl rfl rfl rfl rfl rfl rfl rfl rfl rfl dL_calls_35 ?_
  refine z_goto (tgt := 46) hF dL_calls_38 (by decide) ?_
  exact hR.i dL_calls_46 (Nat.le_of_ble_eq_true rfl) (Nat.le_of_ble_eq_true rfl) (rfl) (rfl)
set_option maxHeartbeats 4000000 in
set_option maxRecDepth 100000 in
theorem c_L_calls_acc1 (G : zG) (d0 t0 r0 q0 y0 d1 u0 d2 d3 d4 v : Nat) (o : Int32) (t1 t2 n : Nat) (f : Nat → Int32) (g : Nat → Int32) (r1 r2 r3 m : Nat) (b : Nat → Int32) (e : Nat → Int32) (s : Nat → Int32) (y1 : Nat) (h : Nat → Int32) (u1 u2 u3 j : Nat) (b2 : Nat → Int32) (e2 : Nat → Int32) (s2 : Nat → Int32) (xl : Nat → Int32) (xc : Nat → Int32) (xs : Nat → Int32) (i p q : Nat) (z : Nat) (hn : n ≤ 60) (hm : m ≤ 12) (hj : j ≤ 10) (hv : v + 1 < 300) (hi : i < j) (h0 : xs i = 0) (hb : b2 i = nI p) (he : e2 i = nI q) (hpq : p < q) (hqn : q ≤ n) (ho : ovF b2 e2 xs i j = 0) (hz : xc i = nI z) (hr : n - (q - p) + z ≤ 60) (hz0 : 0 < z) (hz5 : z ≤ 5) : zM G yL_calls wsL_calls ({ frames := 6, cells := 0, slots := 0, locals := 145 }) [.ref d0, .int (nI 2), .int (nI i), .int (nI 0), .int (nI 0)] [(d0, .inr (4, [.ref t0, .ref r0, .ref q0, .ref y0, .ref d1, .int o, .int (nI v), .ref u0, .ref d2, .ref d3, .ref d4])), (y0, .inr (0, [.ref y1])), (y1, eI G 3600 h), (r0, .inr (2, [.ref r1, .ref r2, .ref r3, .int (nI m)])), (r1, eI G 12 b), (r2, eI G 12 e), (r3, eI G 12 s), (u0, .inr (2, [.ref u1, .ref u2, .ref u3, .int (nI j)])), (u1, eI G 12 b2), (u2, eI G 12 e2), (u3, eI G 12 s2), (t0, .inr (3, [.ref t1, .ref t2, .int (nI n)])), (t1, eI G 60 f), (t2, eI G 60 g), (d2, eI G 10 xl), (d3, eI G 10 xc), (d4, eI G 10 xs)] [(d0, .inr (4, [.ref t0, .ref r0, .ref q0, .ref y0, .ref d1, .int o, .int (nI ((v + 1) + 1)), .ref u0, .ref d2, .ref d3, .ref d4])), (y0, .inr (0, [.ref y1])), (y1, eI G 3600 (wrF (wrF h (v * 12) 12 (fun kk => if kk < m then numF (b kk) (e kk) else -1)) ((v + 1) * 12) 12 (fun kk => if kk < m then numF ((mpF m (remB (nI p) (nI (q - p)) b e) b) kk) ((mpF m (remE (nI p) (nI (q - p)) b e) e) kk) else -1))), (r0, .inr (2, [.ref r1, .ref r2, .ref r3, .int (nI m)])), (r1, eI G 12 (mpF m (insB (nI p) (nI z) (mpF m (remB (nI p) (nI (q - p)) b e) b) s) (mpF m (remB (nI p) (nI (q - p)) b e) b))), (r2, eI G 12 (mpF m (insE (nI p) (nI z) (mpF m (remB (nI p) (nI (q - p)) b e) b) (mpF m (remE (nI p) (nI (q - p)) b e) e) s) (mpF m (remE (nI p) (nI (q - p)) b e) e))), (r3, eI G 12 s), (u0, .inr (2, [.ref u1, .ref u2, .ref u3, .int (nI j)])), (u1, eI G 12 (mpF j (insB (nI p) (nI z) (mpF j (remB (nI p) (nI (q - p)) b2 e2) b2) s2) (mpF j (remB (nI p) (nI (q - p)) b2 e2) b2))), (u2, eI G 12 (mpF j (insE (nI p) (nI z) (mpF j (remB (nI p) (nI (q - p)) b2 e2) b2) (mpF j (remE (nI p) (nI (q - p)) b2 e2) e2) s2) (mpF j (remE (nI p) (nI (q - p)) b2 e2) e2))), (u3, eI G 12 s2), (t0, .inr (3, [.ref t1, .ref t2, .int (nI ((n - (q - p)) + z))])), (t1, eI G 60 (filF (va_cpy (va_cpy f f (p + (q - p)) p (n - (p + (q - p)))) (va_cpy f f (p + (q - p)) p (n - (p + (q - p)))) p (p + z) ((n - (q - p)) - p)) p (p + z) (xl i))), (t2, eI G 60 (mrkF (filF (va_cpy (va_cpy g g (p + (q - p)) p (n - (p + (q - p)))) (va_cpy g g (p + (q - p)) p (n - (p + (q - p)))) p (p + z) ((n - (q - p)) - p)) p (p + z) (nI 0)) p (p + z) (covF (mpF m (insB (nI p) (nI z) (mpF m (remB (nI p) (nI (q - p)) b e) b) s) (mpF m (remB (nI p) (nI (q - p)) b e) b)) (mpF m (insE (nI p) (nI z) (mpF m (remB (nI p) (nI (q - p)) b e) b) (mpF m (remE (nI p) (nI (q - p)) b e) e) s) (mpF m (remE (nI p) (nI (q - p)) b e) e)) m (nI p)))), (d2, eI G 10 xl), (d3, eI G 10 xc), (d4, eI G 10 (mpF j (lgF (gonF (nI p) (nI (q - p)) b2 e2 j) (upd xs i (nI 1))) (upd xs i (nI 1))))] (some (.int (nI ((n - (q - p)) + z)))) 0 0 := by
  refine zM.ofIh (own := RL) (cc := cL_calls) (maxL := 6) rfl (by decide) rfl rfl (by simp [Value.category]) (Nat.le_of_ble_eq_true rfl) ?_
  intro X hF hT hR
  refine z_lv (lv' := [some (.ref d0), some (.int (nI 2)), some (.int (nI i)), some (.int (nI 0)), some (.int (nI 0)), none]) rfl ?_
  refine z_iload_n hF dL_calls_0 rfl ?_
  refine z_if_ne (tgt := 15) hF dL_calls_1 (by decide) (fun c_1 => ?_) (fun c_1 => absurd c_1 (by decide))
  refine z_iload_n hF dL_calls_15 rfl ?_
  refine z_iconst (v := nI 1) hF dL_calls_16 (by decide) ?_
  refine z_icn_ne (tgt := 28) hF (by omega) (by omega) dL_calls_17 (by decide) (fun c_2 => ?_) (fun c_2 => absurd c_2 (by decide))
  refine z_iload_n hF dL_calls_28 rfl ?_
  refine z_iconst (v := nI 2) hF dL_calls_29 (by decide) ?_
  refine z_icn_ne (tgt := 41) hF (by omega) (by omega) dL_calls_30 (by decide) (fun c_3 => absurd c_3 (not_not_intro rfl)) (fun c_3 => ?_)
  refine z_aload_n hF dL_calls_33 rfl ?_
  refine z_iload_n hF dL_calls_34 rfl ?_
  refine z_V (As := [.int (nI i)]) (rest := []) (ws' := [(d0, .inr (4, [.ref t0, .ref r0, .ref q0, .ref y0, .ref d1, .int o, .int (nI ((v + 1) + 1)), .ref u0, .ref d2, .ref d3, .ref d4])), (y0, .inr (0, [.ref y1])), (y1, eI G 3600 (wrF (wrF h (v * 12) 12 (fun kk => if kk < m then numF (b kk) (e kk) else -1)) ((v + 1) * 12) 12 (fun kk => if kk < m then numF ((mpF m (remB (nI p) (nI (q - p)) b e) b) kk) ((mpF m (remE (nI p) (nI (q - p)) b e) e) kk) else -1))), (r0, .inr (2, [.ref r1, .ref r2, .ref r3, .int (nI m)])), (r1, eI G 12 (mpF m (insB (nI p) (nI z) (mpF m (remB (nI p) (nI (q - p)) b e) b) s) (mpF m (remB (nI p) (nI (q - p)) b e) b))), (r2, eI G 12 (mpF m (insE (nI p) (nI z) (mpF m (remB (nI p) (nI (q - p)) b e) b) (mpF m (remE (nI p) (nI (q - p)) b e) e) s) (mpF m (remE (nI p) (nI (q - p)) b e) e))), (r3, eI G 12 s), (u0, .inr (2, [.ref u1, .ref u2, .ref u3, .int (nI j)])), (u1, eI G 12 (mpF j (insB (nI p) (nI z) (mpF j (remB (nI p) (nI (q - p)) b2 e2) b2) s2) (mpF j (remB (nI p) (nI (q - p)) b2 e2) b2))), (u2, eI G 12 (mpF j (insE (nI p) (nI z) (mpF j (remB (nI p) (nI (q - p)) b2 e2) b2) (mpF j (remE (nI p) (nI (q - p)) b2 e2) e2) s2) (mpF j (remE (nI p) (nI (q - p)) b2 e2) e2))), (u3, eI G 12 s2), (t0, .inr (3, [.ref t1, .ref t2, .int (nI ((n - (q - p)) + z))])), (t1, eI G 60 (filF (va_cpy (va_cpy f f (p + (q - p)) p (n - (p + (q - p)))) (va_cpy f f (p + (q - p)) p (n - (p + (q - p)))) p (p + z) ((n - (q - p)) - p)) p (p + z) (xl i))), (t2, eI G 60 (mrkF (filF (va_cpy (va_cpy g g (p + (q - p)) p (n - (p + (q - p)))) (va_cpy g g (p + (q - p)) p (n - (p + (q - p)))) p (p + z) ((n - (q - p)) - p)) p (p + z) (nI 0)) p (p + z) (covF (mpF m (insB (nI p) (nI z) (mpF m (remB (nI p) (nI (q - p)) b e) b) s) (mpF m (remB (nI p) (nI (q - p)) b e) b)) (mpF m (insE (nI p) (nI z) (mpF m (remB (nI p) (nI (q - p)) b e) b) (mpF m (remE (nI p) (nI (q - p)) b e) e) s) (mpF m (remE (nI p) (nI (q - p)) b e) e)) m (nI p)))), (d2, eI G 10 xl), (d3, eI G 10 xc), (d4, eI G 10 (mpF j (lgF (gonF (nI p) (nI (q - p)) b2 e2 j) (upd xs i (nI 1))) (upd xs i (nI 1))))]) (st2 := [.int (nI ((n - (q - p)) + z))]) (c2 := 0) (s2 := 0) hF (c_X4_accept1 G d0 t0 r0 q0 y0 d1 u0 d2 d3 d4 v o t1 t2 n f g r1 r2 r3 m b e s y1 h u1 u2 u3 j b2 e2 s2 xl xc xs i p q z (hn) (hm) (hj) (hv) (hi) (h0) (hb) (he) (hpq) (hqn) (ho) (hz) (hr) (hz0) (hz5)) gL_calls_X4_accept rfl rfl rfl hd_X4_accept ⟨⟨Nat.le_of_ble_eq_true rfl, Nat.le_of_ble_eq_true rfl⟩, ⟨Nat.le_of_ble_eq_true rfl, Nat.le_of_ble_eq_true rfl⟩, Nat.le_of_ble_eq_true rfl⟩ [0, 1, 2, 3, 4, 5, 6, 7, 8, 9, 10, 11, 12, 13, 14, 15, 16] rfl rfl 0 rfl rfl rfl rfl rfl rfl rfl rfl rfl rfl dL_calls_35 ?_
  refine z_goto (tgt := 46) hF dL_calls_38 (by decide) ?_
  exact hR.i dL_calls_46 (Nat.le_of_ble_eq_true rfl) (Nat.le_of_ble_eq_true rfl) (rfl) (rfl)
set_option maxHeartbeats 4000000 in
set_option maxRecDepth 100000 in
theorem c_L_calls_accw (G : zG) (d0 t0 r0 q0 y0 d1 u0 d2 d3 d4 v : Nat) (o : Int32) (u1 u2 u3 j : Nat) (xs : Nat → Int32) (i : Nat) (hj : j ≤ 10) (hi : i < j) (h0 : ¬ xs i = 0) : zM G yL_calls wsL_calls ({ frames := 8, cells := 1, slots := 6, locals := 135 }) [.ref d0, .int (nI 2), .int (nI i), .int (nI 0), .int (nI 0)] [(d0, .inr (4, [.ref t0, .ref r0, .ref q0, .ref y0, .ref d1, .int o, .int (nI v), .ref u0, .ref d2, .ref d3, .ref d4])), (u0, .inr (2, [.ref u1, .ref u2, .ref u3, .int (nI j)])), (d4, eI G 10 xs)] [(d0, .inr (4, [.ref t0, .ref r0, .ref q0, .ref y0, .ref d1, .int o, .int (nI v), .ref u0, .ref d2, .ref d3, .ref d4])), (u0, .inr (2, [.ref u1, .ref u2, .ref u3, .int (nI j)])), (d4, eI G 10 xs)] (some (.int (-3))) 1 6 := by
  refine zM.ofIh (own := RL) (cc := cL_calls) (maxL := 6) rfl (by decide) rfl rfl (by simp [Value.category]) (Nat.le_of_ble_eq_true rfl) ?_
  intro X hF hT hR
  have k_0 : zH X (.classLink RL 26 "java/lang/IllegalStateException") := hF.w (by decide +kernel)
  refine z_lv (lv' := [some (.ref d0), some (.int (nI 2)), some (.int (nI i)), some (.int (nI 0)), some (.int (nI 0)), none]) rfl ?_
  refine z_iload_n hF dL_calls_0 rfl ?_
  refine z_if_ne (tgt := 15) hF dL_calls_1 (by decide) (fun c_1 => ?_) (fun c_1 => absurd c_1 (by decide))
  refine z_iload_n hF dL_calls_15 rfl ?_
  refine z_iconst (v := nI 1) hF dL_calls_16 (by decide) ?_
  refine z_icn_ne (tgt := 28) hF (by omega) (by omega) dL_calls_17 (by decide) (fun c_2 => ?_) (fun c_2 => absurd c_2 (by decide))
  refine z_iload_n hF dL_calls_28 rfl ?_
  refine z_iconst (v := nI 2) hF dL_calls_29 (by decide) ?_
  refine z_icn_ne (tgt := 41) hF (by omega) (by omega) dL_calls_30 (by decide) (fun c_3 => absurd c_3 (not_not_intro rfl)) (fun c_3 => ?_)
  refine z_aload_n hF dL_calls_33 rfl ?_
  refine z_iload_n hF dL_calls_34 rfl ?_
  refine z_Vx (As := [.int (nI i)]) (rest := []) (ws' := [(d0, .inr (4, [.ref t0, .ref r0, .ref q0, .ref y0, .ref d1, .int o, .int (nI v), .ref u0, .ref d2, .ref d3, .ref d4])), (u0, .inr (2, [.ref u1, .ref u2, .ref u3, .int (nI j)])), (d4, eI G 10 xs)]) (st2 := [.int (nI 0)]) (c2 := 1) (s2 := 6) hF (c_X4_accept_w G d0 t0 r0 q0 y0 d1 u0 d2 d3 d4 v o u1 u2 u3 j xs i (hj) (hi) (h0)) gL_calls_X4_accept rfl rfl rfl hd_X4_accept ⟨⟨Nat.le_of_ble_eq_true rfl, Nat.le_of_ble_eq_true rfl⟩, ⟨Nat.le_of_ble_eq_true rfl, Nat.le_of_ble_eq_true rfl⟩, Nat.le_of_ble_eq_true rfl⟩ [0, 1, 2] rfl rfl 0 rfl rfl rfl rfl rfl rfl rfl rfl rfl rfl rfl rfl dL_calls_35 (fun c_4 => ?_) (fun c_4 => absurd c_4 (by decide))
  refine z_vk rfl ?_
  refine z_catch (k := 3) hF hT [] ⟨0, 46, 47, 26⟩ [] rfl (fun _ h => absurd h List.not_mem_nil) (by decide) (by decide) k_0 (by decide +kernel) (fun q9 => ?_)
  refine z_astore (lv' := [some (.ref d0), some (.int (nI 2)), some (.int (nI i)), some (.int (nI 0)), some (.int (nI 0)), some (.ref q9)]) hF dL_calls_47 rfl rfl ?_
  refine z_bipush (v := -3) hF dL_calls_49 (by decide) ?_
  exact hR.i dL_calls_51 (Nat.le_of_ble_eq_true rfl) (Nat.le_of_ble_eq_true rfl) (rfl) (rfl)
set_option maxHeartbeats 4000000 in
set_option maxRecDepth 100000 in
theorem c_L_calls_acco (G : zG) (d0 t0 r0 q0 y0 d1 u0 d2 d3 d4 v : Nat) (o : Int32) (u1 u2 u3 j : Nat) (b2 : Nat → Int32) (e2 : Nat → Int32) (xs : Nat → Int32) (i : Nat) (hj : j ≤ 10) (hi : i < j) (h0 : xs i = 0) (ho : ¬ ovF b2 e2 xs i j = 0) : zM G yL_calls wsL_calls ({ frames := 7, cells := 1, slots := 6, locals := 114 }) [.ref d0, .int (nI 2), .int (nI i), .int (nI 0), .int (nI 0)] [(d0, .inr (4, [.ref t0, .ref r0, .ref q0, .ref y0, .ref d1, .int o, .int (nI v), .ref u0, .ref d2, .ref d3, .ref d4])), (u0, .inr (2, [.ref u1, .ref u2, .ref u3, .int (nI j)])), (u1, eI G 12 b2), (u2, eI G 12 e2), (d4, eI G 10 xs)] [(d0, .inr (4, [.ref t0, .ref r0, .ref q0, .ref y0, .ref d1, .int o, .int (nI v), .ref u0, .ref d2, .ref d3, .ref d4])), (u0, .inr (2, [.ref u1, .ref u2, .ref u3, .int (nI j)])), (u1, eI G 12 b2), (u2, eI G 12 e2), (d4, eI G 10 xs)] (some (.int (-3))) 1 6 := by
  refine zM.ofIh (own := RL) (cc := cL_calls) (maxL := 6) rfl (by decide) rfl rfl (by simp [Value.category]) (Nat.le_of_ble_eq_true rfl) ?_
  intro X hF hT hR
  have k_0 : zH X (.classLink RL 26 "java/lang/IllegalStateException") := hF.w (by decide +kernel)
  refine z_lv (lv' := [some (.ref d0), some (.int (nI 2)), some (.int (nI i)), some (.int (nI 0)), some (.int (nI 0)), none]) rfl ?_
  refine z_iload_n hF dL_calls_0 rfl ?_
  refine z_if_ne (tgt := 15) hF dL_calls_1 (by decide) (fun c_1 => ?_) (fun c_1 => absurd c_1 (by decide))
  refine z_iload_n hF dL_calls_15 rfl ?_
  refine z_iconst (v := nI 1) hF dL_calls_16 (by decide) ?_
  refine z_icn_ne (tgt := 28) hF (by omega) (by omega) dL_calls_17 (by decide) (fun c_2 => ?_) (fun c_2 => absurd c_2 (by decide))
  refine z_iload_n hF dL_calls_28 rfl ?_
  refine z_iconst (v := nI 2) hF dL_calls_29 (by decide) ?_
  refine z_icn_ne (tgt := 41) hF (by omega) (by omega) dL_calls_30 (by decide) (fun c_3 => absurd c_3 (not_not_intro rfl)) (fun c_3 => ?_)
  refine z_aload_n hF dL_calls_33 rfl ?_
  refine z_iload_n hF dL_calls_34 rfl ?_
  refine z_Vx (As := [.int (nI i)]) (rest := []) (ws' := [(d0, .inr (4, [.ref t0, .ref r0, .ref q0, .ref y0, .ref d1, .int o, .int (nI v), .ref u0, .ref d2, .ref d3, .ref d4])), (u0, .inr (2, [.ref u1, .ref u2, .ref u3, .int (nI j)])), (u1, eI G 12 b2), (u2, eI G 12 e2), (d4, eI G 10 xs)]) (st2 := [.int (nI 0)]) (c2 := 1) (s2 := 6) hF (c_X4_accept_o G d0 t0 r0 q0 y0 d1 u0 d2 d3 d4 v o u1 u2 u3 j b2 e2 xs i (hj) (hi) (h0) (ho)) gL_calls_X4_accept rfl rfl rfl hd_X4_accept ⟨⟨Nat.le_of_ble_eq_true rfl, Nat.le_of_ble_eq_true rfl⟩, ⟨Nat.le_of_ble_eq_true rfl, Nat.le_of_ble_eq_true rfl⟩, Nat.le_of_ble_eq_true rfl⟩ [0, 1, 2, 3, 4] rfl rfl 0 rfl rfl rfl rfl rfl rfl rfl rfl rfl rfl rfl rfl dL_calls_35 (fun c_4 => ?_) (fun c_4 => absurd c_4 (by decide))
  refine z_vk rfl ?_
  refine z_catch (k := 3) hF hT [] ⟨0, 46, 47, 26⟩ [] rfl (fun _ h => absurd h List.not_mem_nil) (by decide) (by decide) k_0 (by decide +kernel) (fun q9 => ?_)
  refine z_astore (lv' := [some (.ref d0), some (.int (nI 2)), some (.int (nI i)), some (.int (nI 0)), some (.int (nI 0)), some (.ref q9)]) hF dL_calls_47 rfl rfl ?_
  refine z_bipush (v := -3) hF dL_calls_49 (by decide) ?_
  exact hR.i dL_calls_51 (Nat.le_of_ble_eq_true rfl) (Nat.le_of_ble_eq_true rfl) (rfl) (rfl)
set_option maxHeartbeats 4000000 in
set_option maxRecDepth 100000 in
theorem c_L_calls_accr (G : zG) (d0 t0 r0 q0 y0 d1 u0 d2 d3 d4 v : Nat) (o : Int32) (t1 t2 n : Nat) (u1 u2 u3 j : Nat) (b2 : Nat → Int32) (e2 : Nat → Int32) (xc : Nat → Int32) (xs : Nat → Int32) (i p q z : Nat) (hn : n ≤ 60) (hj : j ≤ 10) (hi : i < j) (h0 : xs i = 0) (hb : b2 i = nI p) (he : e2 i = nI q) (hpq : p < q) (hqn : q ≤ n) (ho : ovF b2 e2 xs i j = 0) (hz : xc i = nI z) (hz5 : z ≤ 5) (hr : 60 < n - (q - p) + z) : zM G yL_calls wsL_calls ({ frames := 8, cells := 1, slots := 6, locals := 136 }) [.ref d0, .int (nI 2), .int (nI i), .int (nI 0), .int (nI 0)] [(d0, .inr (4, [.ref t0, .ref r0, .ref q0, .ref y0, .ref d1, .int o, .int (nI v), .ref u0, .ref d2, .ref d3, .ref d4])), (u0, .inr (2, [.ref u1, .ref u2, .ref u3, .int (nI j)])), (u1, eI G 12 b2), (u2, eI G 12 e2), (t0, .inr (3, [.ref t1, .ref t2, .int (nI n)])), (d3, eI G 10 xc), (d4, eI G 10 xs)] [(d0, .inr (4, [.ref t0, .ref r0, .ref q0, .ref y0, .ref d1, .int o, .int (nI v), .ref u0, .ref d2, .ref d3, .ref d4])), (u0, .inr (2, [.ref u1, .ref u2, .ref u3, .int (nI j)])), (u1, eI G 12 b2), (u2, eI G 12 e2), (t0, .inr (3, [.ref t1, .ref t2, .int (nI n)])), (d3, eI G 10 xc), (d4, eI G 10 xs)] (some (.int (-3))) 1 6 := by
  refine zM.ofIh (own := RL) (cc := cL_calls) (maxL := 6) rfl (by decide) rfl rfl (by simp [Value.category]) (Nat.le_of_ble_eq_true rfl) ?_
  intro X hF hT hR
  have k_0 : zH X (.classLink RL 26 "java/lang/IllegalStateException") := hF.w (by decide +kernel)
  refine z_lv (lv' := [some (.ref d0), some (.int (nI 2)), some (.int (nI i)), some (.int (nI 0)), some (.int (nI 0)), none]) rfl ?_
  refine z_iload_n hF dL_calls_0 rfl ?_
  refine z_if_ne (tgt := 15) hF dL_calls_1 (by decide) (fun c_1 => ?_) (fun c_1 => absurd c_1 (by decide))
  refine z_iload_n hF dL_calls_15 rfl ?_
  refine z_iconst (v := nI 1) hF dL_calls_16 (by decide) ?_
  refine z_icn_ne (tgt := 28) hF (by omega) (by omega) dL_calls_17 (by decide) (fun c_2 => ?_) (fun c_2 => absurd c_2 (by decide))
  refine z_iload_n hF dL_calls_28 rfl ?_
  refine z_iconst (v := nI 2) hF dL_calls_29 (by decide) ?_
  refine z_icn_ne (tgt := 41) hF (by omega) (by omega) dL_calls_30 (by decide) (fun c_3 => absurd c_3 (not_not_intro rfl)) (fun c_3 => ?_)
  refine z_aload_n hF dL_calls_33 rfl ?_
  refine z_iload_n hF dL_calls_34 rfl ?_
  refine z_Vx (As := [.int (nI i)]) (rest := []) (ws' := [(d0, .inr (4, [.ref t0, .ref r0, .ref q0, .ref y0, .ref d1, .int o, .int (nI v), .ref u0, .ref d2, .ref d3, .ref d4])), (u0, .inr (2, [.ref u1, .ref u2, .ref u3, .int (nI j)])), (u1, eI G 12 b2), (u2, eI G 12 e2), (t0, .inr (3, [.ref t1, .ref t2, .int (nI n)])), (d3, eI G 10 xc), (d4, eI G 10 xs)]) (st2 := [.int (nI 0)]) (c2 := 1) (s2 := 6) hF (c_X4_accept_r G d0 t0 r0 q0 y0 d1 u0 d2 d3 d4 v o t1 t2 n u1 u2 u3 j b2 e2 xc xs i p q z (hn) (hj) (hi) (h0) (hb) (he) (hpq) (hqn) (ho) (hz) (hz5) (hr)) gL_calls_X4_accept rfl rfl rfl hd_X4_accept ⟨⟨Nat.le_of_ble_eq_true rfl, Nat.le_of_ble_eq_true rfl⟩, ⟨Nat.le_of_ble_eq_true rfl, Nat.le_of_ble_eq_true rfl⟩, Nat.le_of_ble_eq_true rfl⟩ [0, 1, 2, 3, 4, 5, 6] rfl rfl 0 rfl rfl rfl rfl rfl rfl rfl rfl rfl rfl rfl rfl dL_calls_35 (fun c_4 => ?_) (fun c_4 => absurd c_4 (by decide))
  refine z_vk rfl ?_
  refine z_catch (k := 3) hF hT [] ⟨0, 46, 47, 26⟩ [] rfl (fun _ h => absurd h List.not_mem_nil) (by decide) (by decide) k_0 (by decide +kernel) (fun q9 => ?_)
  refine z_astore (lv' := [some (.ref d0), some (.int (nI 2)), some (.int (nI i)), some (.int (nI 0)), some (.int (nI 0)), some (.ref q9)]) hF dL_calls_47 rfl rfl ?_
  refine z_bipush (v := -3) hF dL_calls_49 (by decide) ?_
  exact hR.i dL_calls_51 (Nat.le_of_ble_eq_true rfl) (Nat.le_of_ble_eq_true rfl) (rfl) (rfl)
set_option maxHeartbeats 4000000 in
set_option maxRecDepth 100000 in
theorem c_L_calls_rej0 (G : zG) (d0 t0 r0 q0 y0 d1 u0 d2 d3 d4 v : Nat) (o : Int32) (u1 u2 u3 j : Nat) (xs : Nat → Int32) (i : Nat) (hj : j ≤ 10) (hi : i < j) (h0 : xs i = 0) : zM G yL_calls wsL_calls ({ frames := 2, cells := 0, slots := 0, locals := 55 }) [.ref d0, .int (nI 3), .int (nI i), .int (nI 0), .int (nI 0)] [(d0, .inr (4, [.ref t0, .ref r0, .ref q0, .ref y0, .ref d1, .int o, .int (nI v), .ref u0, .ref d2, .ref d3, .ref d4])), (u0, .inr (2, [.ref u1, .ref u2, .ref u3, .int (nI j)])), (d4, eI G 10 xs)] [(d0, .inr (4, [.ref t0, .ref r0, .ref q0, .ref y0, .ref d1, .int o, .int (nI v), .ref u0, .ref d2, .ref d3, .ref d4])), (u0, .inr (2, [.ref u1, .ref u2, .ref u3, .int (nI j)])), (d4, eI G 10 (upd xs i (nI 2)))] (some (.int (nI (cntF (fun kk => upd xs i (nI 2) kk = 0) j)))) 0 0 := by
  refine zM.ofIh (own := RL) (cc := cL_calls) (maxL := 6) rfl (by decide) rfl rfl (by simp [Value.category]) (Nat.le_of_ble_eq_true rfl) ?_
  intro X hF hT hR
  refine z_lv (lv' := [some (.ref d0), some (.int (nI 3)), some (.int (nI i)), some (.int (nI 0)), some (.int (nI 0)), none]) rfl ?_
  refine z_iload_n hF dL_calls_0 rfl ?_
  refine z_if_ne (tgt := 15) hF dL_calls_1 (by decide) (fun c_1 => ?_) (fun c_1 => absurd c_1 (by decide))
  refine z_iload_n hF dL_calls_15 rfl ?_
  refine z_iconst (v := nI 1) hF dL_calls_16 (by decide) ?_
  refine z_icn_ne (tgt := 28) hF (by omega) (by omega) dL_calls_17 (by decide) (fun c_2 => ?_) (fun c_2 => absurd c_2 (by decide))
  refine z_iload_n hF dL_calls_28 rfl ?_
  refine z_iconst (v := nI 2) hF dL_calls_29 (by decide) ?_
  refine z_icn_ne (tgt := 41) hF (by omega) (by omega) dL_calls_30 (by decide) (fun c_3 => ?_) (fun c_3 => absurd c_3 (by decide))
  refine z_aload_n hF dL_calls_41 rfl ?_
  refine z_iload_n hF dL_calls_42 rfl ?_
  refine z_V (As := [.int (nI i)]) (rest := []) (ws' := [(d0, .inr (4, [.ref t0, .ref r0, .ref q0, .ref y0, .ref d1, .int o, .int (nI v), .ref u0, .ref d2, .ref d3, .ref d4])), (u0, .inr (2, [.ref u1, .ref u2, .ref u3, .int (nI j)])), (d4, eI G 10 (upd xs i (nI 2)))]) (st2 := [.int (nI (cntF (fun kk => upd xs i (nI 2) kk = 0) j))]) (c2 := 0) (s2 := 0) hF (c_X4_reject G d0 t0 r0 q0 y0 d1 u0 d2 d3 d4 v o u1 u2 u3 j xs i (hj) (hi) (h0)) gL_calls_X4_reject rfl rfl rfl hd_X4_reject ⟨⟨Nat.le_of_ble_eq_true rfl, Nat.le_of_ble_eq_true rfl⟩, ⟨Nat.le_of_ble_eq_true rfl, Nat.le_of_ble_eq_true rfl⟩, Nat.le_of_ble_eq_true rfl⟩ [0, 1, 2] rfl rfl 0 rfl rfl rfl rfl rfl rfl rfl rfl rfl rfl dL_calls_43 ?_
  exact hR.i dL_calls_46 (Nat.le_of_ble_eq_true rfl) (Nat.le_of_ble_eq_true rfl) (rfl) (rfl)
set_option maxHeartbeats 4000000 in
set_option maxRecDepth 100000 in
theorem c_L_calls_rej3 (G : zG) (d0 t0 r0 q0 y0 d1 u0 d2 d3 d4 v : Nat) (o : Int32) (u1 u2 u3 j : Nat) (xs : Nat → Int32) (i : Nat) (hj : j ≤ 10) (hi : i < j) (h0 : ¬ xs i = 0) : zM G yL_calls wsL_calls ({ frames := 8, cells := 1, slots := 6, locals := 132 }) [.ref d0, .int (nI 3), .int (nI i), .int (nI 0), .int (nI 0)] [(d0, .inr (4, [.ref t0, .ref r0, .ref q0, .ref y0, .ref d1, .int o, .int (nI v), .ref u0, .ref d2, .ref d3, .ref d4])), (u0, .inr (2, [.ref u1, .ref u2, .ref u3, .int (nI j)])), (d4, eI G 10 xs)] [(d0, .inr (4, [.ref t0, .ref r0, .ref q0, .ref y0, .ref d1, .int o, .int (nI v), .ref u0, .ref d2, .ref d3, .ref d4])), (u0, .inr (2, [.ref u1, .ref u2, .ref u3, .int (nI j)])), (d4, eI G 10 xs)] (some (.int (-3))) 1 6 := by
  refine zM.ofIh (own := RL) (cc := cL_calls) (maxL := 6) rfl (by decide) rfl rfl (by simp [Value.category]) (Nat.le_of_ble_eq_true rfl) ?_
  intro X hF hT hR
  have k_0 : zH X (.classLink RL 26 "java/lang/IllegalStateException") := hF.w (by decide +kernel)
  refine z_lv (lv' := [some (.ref d0), some (.int (nI 3)), some (.int (nI i)), some (.int (nI 0)), some (.int (nI 0)), none]) rfl ?_
  refine z_iload_n hF dL_calls_0 rfl ?_
  refine z_if_ne (tgt := 15) hF dL_calls_1 (by decide) (fun c_1 => ?_) (fun c_1 => absurd c_1 (by decide))
  refine z_iload_n hF dL_calls_15 rfl ?_
  refine z_iconst (v := nI 1) hF dL_calls_16 (by decide) ?_
  refine z_icn_ne (tgt := 28) hF (by omega) (by omega) dL_calls_17 (by decide) (fun c_2 => ?_) (fun c_2 => absurd c_2 (by decide))
  refine z_iload_n hF dL_calls_28 rfl ?_
  refine z_iconst (v := nI 2) hF dL_calls_29 (by decide) ?_
  refine z_icn_ne (tgt := 41) hF (by omega) (by omega) dL_calls_30 (by decide) (fun c_3 => ?_) (fun c_3 => absurd c_3 (by decide))
  refine z_aload_n hF dL_calls_41 rfl ?_
  refine z_iload_n hF dL_calls_42 rfl ?_
  refine z_Vx (As := [.int (nI i)]) (rest := []) (ws' := [(d0, .inr (4, [.ref t0, .ref r0, .ref q0, .ref y0, .ref d1, .int o, .int (nI v), .ref u0, .ref d2, .ref d3, .ref d4])), (u0, .inr (2, [.ref u1, .ref u2, .ref u3, .int (nI j)])), (d4, eI G 10 xs)]) (st2 := [.int (nI 0)]) (c2 := 1) (s2 := 6) hF (c_X4_reject_3 G d0 t0 r0 q0 y0 d1 u0 d2 d3 d4 v o u1 u2 u3 j xs i (hj) (hi) (h0)) gL_calls_X4_reject rfl rfl rfl hd_X4_reject ⟨⟨Nat.le_of_ble_eq_true rfl, Nat.le_of_ble_eq_true rfl⟩, ⟨Nat.le_of_ble_eq_true rfl, Nat.le_of_ble_eq_true rfl⟩, Nat.le_of_ble_eq_true rfl⟩ [0, 1, 2] rfl rfl 0 rfl rfl rfl rfl rfl rfl rfl rfl rfl rfl rfl rfl dL_calls_43 (fun c_4 => ?_) (fun c_4 => absurd c_4 (by decide))
  refine z_vk rfl ?_
  refine z_catch (k := 3) hF hT [] ⟨0, 46, 47, 26⟩ [] rfl (fun _ h => absurd h List.not_mem_nil) (by decide) (by decide) k_0 (by decide +kernel) (fun q9 => ?_)
  refine z_astore (lv' := [some (.ref d0), some (.int (nI 3)), some (.int (nI i)), some (.int (nI 0)), some (.int (nI 0)), some (.ref q9)]) hF dL_calls_47 rfl rfl ?_
  refine z_bipush (v := -3) hF dL_calls_49 (by decide) ?_
  exact hR.i dL_calls_51 (Nat.le_of_ble_eq_true rfl) (Nat.le_of_ble_eq_true rfl) (rfl) (rfl)
