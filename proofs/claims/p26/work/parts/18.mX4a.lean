set_option maxHeartbeats 4000000 in
set_option maxRecDepth 100000 in
theorem c_X4_checkPlace (G : zG) (d0 t0 r0 q0 y0 d1 u0 d2 d3 d4 v : Nat) (o : Int32) (t1 t2 n : Nat) (a : Int32)  : zX G yX4_checkPlace wsX4_checkPlace ({ frames := 6, cells := 1, slots := 6, locals := 90 }) [.ref d0, .int a] [(d0, .inr (4, [.ref t0, .ref r0, .ref q0, .ref y0, .ref d1, .int o, .int (nI v), .ref u0, .ref d2, .ref d3, .ref d4])), (t0, .inr (3, [.ref t1, .ref t2, .int (nI n)]))] [(d0, .inr (4, [.ref t0, .ref r0, .ref q0, .ref y0, .ref d1, .int o, .int (nI v), .ref u0, .ref d2, .ref d3, .ref d4])), (t0, .inr (3, [.ref t1, .ref t2, .int (nI n)]))] (plC n a) none 1 6 := by
  refine zX.ofV (own := RX4) (cc := cX4_checkPlace) (maxL := 2) rfl (by decide) rfl (by simp [Value.category]) (Nat.le_of_ble_eq_true rfl) ?_
  intro X hF hZ hR
  have k_0 : zH X (.classLink RX4 138 "java/lang/IndexOutOfBoundsException") := hF.w (by decide +kernel)
  have k_1 : zH X (.initialized "java/lang/IndexOutOfBoundsException") := hF.w (by decide +kernel)
  have k_2 : ∀ w ∈ (vx_atS RX4 142 (zEx 1) [zRun, zExc]).filter goodWord, w ∈ wsX4_checkPlace := by first | exact fun _ h => List.mem_cons_of_mem _ (List.mem_append_right _ h) | exact fun _ h => List.mem_cons_of_mem _ (List.mem_append_left _ (List.mem_append_right _ h)) | exact fun _ h => List.mem_cons_of_mem _ (List.mem_append_left _ (List.mem_append_left _ (List.mem_append_right _ h))) | exact fun _ h => List.mem_cons_of_mem _ (List.mem_append_left _ (List.mem_append_left _ (List.mem_append_left _ (List.mem_append_right _ h)))) | exact fun _ h => List.mem_cons_of_mem _ (List.mem_append_left _ (List.mem_append_left _ (List.mem_append_left _ (List.mem_append_left _ (List.mem_append_right _ h))))) | decide +kernel
  have k_3 : ∀ w ∈ wsX40, w ∈ wsX4_checkPlace := by decide +kernel
  have k_4 : zH X (.fieldLink RX4 10 "MarginDesk" "text" "LMarginDesk$Text;") := hF.w (by decide +kernel)
  have k_5 : ∀ w ∈ wsX30, w ∈ wsX4_checkPlace := by decide +kernel
  have k_6 : zH X (.fieldLinkNest RX4 78 "MarginDesk$Text" "size" "I" RX4) := hF.nf (List.mem_of_getElem? (i := 2) rfl)
  refine z_lv (lv' := [some (.ref d0), some (.int a)]) rfl ?_
  refine z_iload_n hF dX4_checkPlace_0 rfl ?_
  refine z_if_lt (tgt := 15) hF dX4_checkPlace_1 (by decide) (fun c_1 => ?_) (fun c_1 => ?_)
  · exact z_throw (k := 1) hF hZ k_0 k_1 (List.mem_of_getElem? (i := 5) rfl) k_2 zfit1 zbad1 znc1 zgood1 dX4_checkPlace_15 dX4_checkPlace_18 dX4_checkPlace_19 dX4_checkPlace_21 dX4_checkPlace_24 ⟨Nat.le_of_ble_eq_true rfl, Nat.le_of_ble_eq_true rfl, Nat.le_of_ble_eq_true rfl, Nat.le_of_ble_eq_true rfl⟩ (Nat.le_of_ble_eq_true rfl) (Nat.le_of_ble_eq_true rfl) (by decide) (by unfold plC; grind) rfl
  · refine z_iload_n hF dX4_checkPlace_4 rfl ?_
    refine z_aload_n hF dX4_checkPlace_5 rfl ?_
    refine z_get (C := RX4) (T := TX4) (N := 11) (ci := 4) (v := .ref t0) hF k_3 0 (by decide) rfl k_4 rfl 0 rfl rfl dX4_checkPlace_6 ?_
    refine z_getN (C := RX3) (T := TX3) (N := 3) (ci := 3) (v := .int (nI n)) hF k_5 2 (by decide) rfl k_6 rfl 1 rfl rfl dX4_checkPlace_9 ?_
    refine z_ic_le (tgt := 25) hF dX4_checkPlace_12 (by decide) (fun c_2 => ?_) (fun c_2 => ?_)
    · exact (hR (by unfold plC; grind)).v dX4_checkPlace_25 (Nat.le_of_ble_eq_true rfl) (Nat.le_of_ble_eq_true rfl) (rfl)
    · exact z_throw (k := 1) hF hZ k_0 k_1 (List.mem_of_getElem? (i := 5) rfl) k_2 zfit1 zbad1 znc1 zgood1 dX4_checkPlace_15 dX4_checkPlace_18 dX4_checkPlace_19 dX4_checkPlace_21 dX4_checkPlace_24 ⟨Nat.le_of_ble_eq_true rfl, Nat.le_of_ble_eq_true rfl, Nat.le_of_ble_eq_true rfl, Nat.le_of_ble_eq_true rfl⟩ (Nat.le_of_ble_eq_true rfl) (Nat.le_of_ble_eq_true rfl) (by decide) (by unfold plC; grind) rfl
set_option maxHeartbeats 4000000 in
set_option maxRecDepth 100000 in
theorem c_X4_checkAmong (G : zG) (d0 t0 r0 q0 y0 d1 u0 d2 d3 d4 v : Nat) (o : Int32) (a k l : Int32)  : zX G yX4_checkAmong wsX4_checkAmong ({ frames := 6, cells := 1, slots := 6, locals := 90 }) [.ref d0, .int a, .int k, .int l] [(d0, .inr (4, [.ref t0, .ref r0, .ref q0, .ref y0, .ref d1, .int o, .int (nI v), .ref u0, .ref d2, .ref d3, .ref d4]))] [(d0, .inr (4, [.ref t0, .ref r0, .ref q0, .ref y0, .ref d1, .int o, .int (nI v), .ref u0, .ref d2, .ref d3, .ref d4]))] (amC a k l) none 1 6 := by
  refine zX.ofV (own := RX4) (cc := cX4_checkAmong) (maxL := 4) rfl (by decide) rfl (by simp [Value.category]) (Nat.le_of_ble_eq_true rfl) ?_
  intro X hF hZ hR
  have k_0 : zH X (.classLink RX4 182 "java/lang/IllegalArgumentException") := hF.w (by decide +kernel)
  have k_1 : zH X (.initialized "java/lang/IllegalArgumentException") := hF.w (by decide +kernel)
  have k_2 : ∀ w ∈ (vx_atS RX4 186 (zEx 2) [zRun, zExc]).filter goodWord, w ∈ wsX4_checkAmong := by first | exact fun _ h => List.mem_cons_of_mem _ (List.mem_append_right _ h) | exact fun _ h => List.mem_cons_of_mem _ (List.mem_append_left _ (List.mem_append_right _ h)) | exact fun _ h => List.mem_cons_of_mem _ (List.mem_append_left _ (List.mem_append_left _ (List.mem_append_right _ h))) | exact fun _ h => List.mem_cons_of_mem _ (List.mem_append_left _ (List.mem_append_left _ (List.mem_append_left _ (List.mem_append_right _ h)))) | exact fun _ h => List.mem_cons_of_mem _ (List.mem_append_left _ (List.mem_append_left _ (List.mem_append_left _ (List.mem_append_left _ (List.mem_append_right _ h))))) | decide +kernel
  refine z_lv (lv' := [some (.ref d0), some (.int a), some (.int k), some (.int l)]) rfl ?_
  refine z_iload_n hF dX4_checkAmong_0 rfl ?_
  refine z_iload_n hF dX4_checkAmong_1 rfl ?_
  refine z_ic_lt (tgt := 10) hF dX4_checkAmong_2 (by decide) (fun c_1 => ?_) (fun c_1 => ?_)
  · exact z_throw (k := 2) hF hZ k_0 k_1 (List.mem_of_getElem? (i := 7) rfl) k_2 zfit2 zbad2 znc2 zgood2 dX4_checkAmong_10 dX4_checkAmong_13 dX4_checkAmong_14 dX4_checkAmong_16 dX4_checkAmong_19 ⟨Nat.le_of_ble_eq_true rfl, Nat.le_of_ble_eq_true rfl, Nat.le_of_ble_eq_true rfl, Nat.le_of_ble_eq_true rfl⟩ (Nat.le_of_ble_eq_true rfl) (Nat.le_of_ble_eq_true rfl) (by decide) (by unfold amC; grind) rfl
  · refine z_iload_n hF dX4_checkAmong_5 rfl ?_
    refine z_iload_n hF dX4_checkAmong_6 rfl ?_
    refine z_ic_le (tgt := 20) hF dX4_checkAmong_7 (by decide) (fun c_2 => ?_) (fun c_2 => ?_)
    · exact (hR (by unfold amC; grind)).v dX4_checkAmong_20 (Nat.le_of_ble_eq_true rfl) (Nat.le_of_ble_eq_true rfl) (rfl)
    · exact z_throw (k := 2) hF hZ k_0 k_1 (List.mem_of_getElem? (i := 7) rfl) k_2 zfit2 zbad2 znc2 zgood2 dX4_checkAmong_10 dX4_checkAmong_13 dX4_checkAmong_14 dX4_checkAmong_16 dX4_checkAmong_19 ⟨Nat.le_of_ble_eq_true rfl, Nat.le_of_ble_eq_true rfl, Nat.le_of_ble_eq_true rfl, Nat.le_of_ble_eq_true rfl⟩ (Nat.le_of_ble_eq_true rfl) (Nat.le_of_ble_eq_true rfl) (by decide) (by unfold amC; grind) rfl
set_option maxHeartbeats 4000000 in
set_option maxRecDepth 100000 in
theorem c_X4_checkLetter (G : zG) (d0 t0 r0 q0 y0 d1 u0 d2 d3 d4 v : Nat) (o : Int32) (a : Int32)  : zX G yX4_checkLetter wsX4_checkLetter ({ frames := 7, cells := 1, slots := 6, locals := 113 }) [.ref d0, .int a] [(d0, .inr (4, [.ref t0, .ref r0, .ref q0, .ref y0, .ref d1, .int o, .int (nI v), .ref u0, .ref d2, .ref d3, .ref d4]))] [(d0, .inr (4, [.ref t0, .ref r0, .ref q0, .ref y0, .ref d1, .int o, .int (nI v), .ref u0, .ref d2, .ref d3, .ref d4]))] (amC a (nI 0) (nI 25)) none 1 6 := by
  refine zX.ofV (own := RX4) (cc := cX4_checkLetter) (maxL := 2) rfl (by decide) rfl (by simp [Value.category]) (Nat.le_of_ble_eq_true rfl) ?_
  intro X hF hZ hR
  refine z_lv (lv' := [some (.ref d0), some (.int a)]) rfl ?_
  refine z_aload_n hF dX4_checkLetter_0 rfl ?_
  refine z_iload_n hF dX4_checkLetter_1 rfl ?_
  refine z_iconst (v := nI 0) hF dX4_checkLetter_2 (by decide) ?_
  refine z_bipush (v := nI 25) hF dX4_checkLetter_3 (by decide) ?_
  refine z_Vx (As := [.int a, .int (nI 0), .int (nI 25)]) (rest := []) (ws' := [(d0, .inr (4, [.ref t0, .ref r0, .ref q0, .ref y0, .ref d1, .int o, .int (nI v), .ref u0, .ref d2, .ref d3, .ref d4]))]) (st2 := []) (c2 := 1) (s2 := 6) hF (c_X4_checkAmong G d0 t0 r0 q0 y0 d1 u0 d2 d3 d4 v o a (nI 0) (nI 25)) gX4_checkLetter_X4_checkAmong rfl rfl rfl hd_X4_checkAmong ⟨⟨Nat.le_of_ble_eq_true rfl, Nat.le_of_ble_eq_true rfl⟩, ⟨Nat.le_of_ble_eq_true rfl, Nat.le_of_ble_eq_true rfl⟩, Nat.le_of_ble_eq_true rfl⟩ [0] rfl rfl 0 rfl rfl rfl rfl rfl rfl rfl rfl rfl rfl rfl rfl dX4_checkLetter_5 (fun c_1 => hZ.x (Nat.le_of_ble_eq_true rfl) (Nat.le_of_ble_eq_true rfl) (fun _ => by simp [fz, c_1]) c_1 rfl) (fun c_1 => ?_)
  exact (hR (by simp [fz, c_1])).v dX4_checkLetter_8 (Nat.le_of_ble_eq_true rfl) (Nat.le_of_ble_eq_true rfl) (rfl)
set_option maxHeartbeats 4000000 in
set_option maxRecDepth 100000 in
theorem c_X4_checkRange (G : zG) (d0 t0 r0 q0 y0 d1 u0 d2 d3 d4 v : Nat) (o : Int32) (t1 t2 n : Nat) (a k : Int32)  : zX G yX4_checkRange wsX4_checkRange ({ frames := 7, cells := 3, slots := 18, locals := 111 }) [.ref d0, .int a, .int k] [(d0, .inr (4, [.ref t0, .ref r0, .ref q0, .ref y0, .ref d1, .int o, .int (nI v), .ref u0, .ref d2, .ref d3, .ref d4])), (t0, .inr (3, [.ref t1, .ref t2, .int (nI n)]))] [(d0, .inr (4, [.ref t0, .ref r0, .ref q0, .ref y0, .ref d1, .int o, .int (nI v), .ref u0, .ref d2, .ref d3, .ref d4])), (t0, .inr (3, [.ref t1, .ref t2, .int (nI n)]))] (rgC n a k) none 3 18 := by
  refine zX.ofV (own := RX4) (cc := cX4_checkRange) (maxL := 3) rfl (by decide) rfl (by simp [Value.category]) (Nat.le_of_ble_eq_true rfl) ?_
  intro X hF hZ hR
  have k_0 : zH X (.classLink RX4 182 "java/lang/IllegalArgumentException") := hF.w (by decide +kernel)
  have k_1 : zH X (.initialized "java/lang/IllegalArgumentException") := hF.w (by decide +kernel)
  have k_2 : ∀ w ∈ (vx_atS RX4 186 (zEx 2) [zRun, zExc]).filter goodWord, w ∈ wsX4_checkRange := by first | exact fun _ h => List.mem_cons_of_mem _ (List.mem_append_right _ h) | exact fun _ h => List.mem_cons_of_mem _ (List.mem_append_left _ (List.mem_append_right _ h)) | exact fun _ h => List.mem_cons_of_mem _ (List.mem_append_left _ (List.mem_append_left _ (List.mem_append_right _ h))) | exact fun _ h => List.mem_cons_of_mem _ (List.mem_append_left _ (List.mem_append_left _ (List.mem_append_left _ (List.mem_append_right _ h)))) | exact fun _ h => List.mem_cons_of_mem _ (List.mem_append_left _ (List.mem_append_left _ (List.mem_append_left _ (List.mem_append_left _ (List.mem_append_right _ h))))) | decide +kernel
  refine z_lv (lv' := [some (.ref d0), some (.int a), some (.int k)]) rfl ?_
  refine z_aload_n hF dX4_checkRange_0 rfl ?_
  refine z_iload_n hF dX4_checkRange_1 rfl ?_
  refine z_Vx (As := [.int a]) (rest := []) (ws' := [(d0, .inr (4, [.ref t0, .ref r0, .ref q0, .ref y0, .ref d1, .int o, .int (nI v), .ref u0, .ref d2, .ref d3, .ref d4])), (t0, .inr (3, [.ref t1, .ref t2, .int (nI n)]))]) (st2 := []) (c2 := 1) (s2 := 6) hF (c_X4_checkPlace G d0 t0 r0 q0 y0 d1 u0 d2 d3 d4 v o t1 t2 n a) gX4_checkRange_X4_checkPlace rfl rfl rfl hd_X4_checkPlace ⟨⟨Nat.le_of_ble_eq_true rfl, Nat.le_of_ble_eq_true rfl⟩, ⟨Nat.le_of_ble_eq_true rfl, Nat.le_of_ble_eq_true rfl⟩, Nat.le_of_ble_eq_true rfl⟩ [0, 1] rfl rfl 0 rfl rfl rfl rfl rfl rfl rfl rfl rfl rfl rfl rfl dX4_checkRange_2 (fun c_1 => hZ.x (Nat.le_of_ble_eq_true rfl) (Nat.le_of_ble_eq_true rfl) (fun _ => by simp [rgC, fz, *]) c_1 rfl) (fun c_1 => ?_)
  refine z_aload_n hF dX4_checkRange_5 rfl ?_
  refine z_iload_n hF dX4_checkRange_6 rfl ?_
  refine z_Vx (As := [.int k]) (rest := []) (ws' := [(d0, .inr (4, [.ref t0, .ref r0, .ref q0, .ref y0, .ref d1, .int o, .int (nI v), .ref u0, .ref d2, .ref d3, .ref d4])), (t0, .inr (3, [.ref t1, .ref t2, .int (nI n)]))]) (st2 := []) (c2 := 2) (s2 := 12) hF (c_X4_checkPlace G d0 t0 r0 q0 y0 d1 u0 d2 d3 d4 v o t1 t2 n k) gX4_checkRange_X4_checkPlace rfl rfl rfl hd_X4_checkPlace ⟨⟨Nat.le_of_ble_eq_true rfl, Nat.le_of_ble_eq_true rfl⟩, ⟨Nat.le_of_ble_eq_true rfl, Nat.le_of_ble_eq_true rfl⟩, Nat.le_of_ble_eq_true rfl⟩ [0, 1] rfl rfl 0 rfl rfl rfl rfl rfl rfl rfl rfl rfl rfl rfl rfl dX4_checkRange_7 (fun c_2 => hZ.x (Nat.le_of_ble_eq_true rfl) (Nat.le_of_ble_eq_true rfl) (fun _ => by simp [rgC, fz, *]) c_2 rfl) (fun c_2 => ?_)
  refine z_iload_n hF dX4_checkRange_10 rfl ?_
  refine z_iload_n hF dX4_checkRange_11 rfl ?_
  refine z_ic_gt (tgt := 25) hF dX4_checkRange_12 (by decide) (fun c_3 => ?_) (fun c_3 => ?_)
  · exact (hR (by simp [rgC, fz, *] <;> grind)).v dX4_checkRange_25 (Nat.le_of_ble_eq_true rfl) (Nat.le_of_ble_eq_true rfl) (rfl)
  · exact z_throw (k := 2) hF hZ k_0 k_1 (List.mem_of_getElem? (i := 6) rfl) k_2 zfit2 zbad2 znc2 zgood2 dX4_checkRange_15 dX4_checkRange_18 dX4_checkRange_19 dX4_checkRange_21 dX4_checkRange_24 ⟨Nat.le_of_ble_eq_true rfl, Nat.le_of_ble_eq_true rfl, Nat.le_of_ble_eq_true rfl, Nat.le_of_ble_eq_true rfl⟩ (Nat.le_of_ble_eq_true rfl) (Nat.le_of_ble_eq_true rfl) (by decide) (by simp [rgC, fz, *] <;> grind) rfl
set_option maxHeartbeats 4000000 in
set_option maxRecDepth 100000 in
theorem c_X4_checkComment (G : zG) (d0 t0 r0 q0 y0 d1 u0 d2 d3 d4 v : Nat) (o : Int32) (r1 r2 r3 m : Nat) (a : Int32)  : zX G yX4_checkComment wsX4_checkComment ({ frames := 6, cells := 1, slots := 6, locals := 90 }) [.ref d0, .int a] [(d0, .inr (4, [.ref t0, .ref r0, .ref q0, .ref y0, .ref d1, .int o, .int (nI v), .ref u0, .ref d2, .ref d3, .ref d4])), (r0, .inr (2, [.ref r1, .ref r2, .ref r3, .int (nI m)]))] [(d0, .inr (4, [.ref t0, .ref r0, .ref q0, .ref y0, .ref d1, .int o, .int (nI v), .ref u0, .ref d2, .ref d3, .ref d4])), (r0, .inr (2, [.ref r1, .ref r2, .ref r3, .int (nI m)]))] (cmC m a) none 1 6 := by
  refine zX.ofV (own := RX4) (cc := cX4_checkComment) (maxL := 2) rfl (by decide) rfl (by simp [Value.category]) (Nat.le_of_ble_eq_true rfl) ?_
  intro X hF hZ hR
  have k_0 : zH X (.classLink RX4 138 "java/lang/IndexOutOfBoundsException") := hF.w (by decide +kernel)
  have k_1 : zH X (.initialized "java/lang/IndexOutOfBoundsException") := hF.w (by decide +kernel)
  have k_2 : ∀ w ∈ (vx_atS RX4 142 (zEx 1) [zRun, zExc]).filter goodWord, w ∈ wsX4_checkComment := by first | exact fun _ h => List.mem_cons_of_mem _ (List.mem_append_right _ h) | exact fun _ h => List.mem_cons_of_mem _ (List.mem_append_left _ (List.mem_append_right _ h)) | exact fun _ h => List.mem_cons_of_mem _ (List.mem_append_left _ (List.mem_append_left _ (List.mem_append_right _ h))) | exact fun _ h => List.mem_cons_of_mem _ (List.mem_append_left _ (List.mem_append_left _ (List.mem_append_left _ (List.mem_append_right _ h)))) | exact fun _ h => List.mem_cons_of_mem _ (List.mem_append_left _ (List.mem_append_left _ (List.mem_append_left _ (List.mem_append_left _ (List.mem_append_right _ h))))) | decide +kernel
  have k_3 : ∀ w ∈ wsX40, w ∈ wsX4_checkComment := by decide +kernel
  have k_4 : zH X (.fieldLink RX4 19 "MarginDesk" "commentRanges" "LMarginDesk$Ranges;") := hF.w (by decide +kernel)
  have k_5 : ∀ w ∈ wsX20, w ∈ wsX4_checkComment := by decide +kernel
  have k_6 : zH X (.fieldLinkNest RX4 92 "MarginDesk$Ranges" "count" "I" RX4) := hF.nf (List.mem_of_getElem? (i := 3) rfl)
  refine z_lv (lv' := [some (.ref d0), some (.int a)]) rfl ?_
  refine z_iload_n hF dX4_checkComment_0 rfl ?_
  refine z_if_lt (tgt := 15) hF dX4_checkComment_1 (by decide) (fun c_1 => ?_) (fun c_1 => ?_)
  · exact z_throw (k := 1) hF hZ k_0 k_1 (List.mem_of_getElem? (i := 8) rfl) k_2 zfit1 zbad1 znc1 zgood1 dX4_checkComment_15 dX4_checkComment_18 dX4_checkComment_19 dX4_checkComment_21 dX4_checkComment_24 ⟨Nat.le_of_ble_eq_true rfl, Nat.le_of_ble_eq_true rfl, Nat.le_of_ble_eq_true rfl, Nat.le_of_ble_eq_true rfl⟩ (Nat.le_of_ble_eq_true rfl) (Nat.le_of_ble_eq_true rfl) (by decide) (by unfold cmC; grind) rfl
  · refine z_iload_n hF dX4_checkComment_4 rfl ?_
    refine z_aload_n hF dX4_checkComment_5 rfl ?_
    refine z_get (C := RX4) (T := TX4) (N := 11) (ci := 4) (v := .ref r0) hF k_3 1 (by decide) rfl k_4 rfl 0 rfl rfl dX4_checkComment_6 ?_
    refine z_getN (C := RX2) (T := TX2) (N := 4) (ci := 2) (v := .int (nI m)) hF k_5 3 (by decide) rfl k_6 rfl 1 rfl rfl dX4_checkComment_9 ?_
    refine z_ic_lt (tgt := 25) hF dX4_checkComment_12 (by decide) (fun c_2 => ?_) (fun c_2 => ?_)
    · exact (hR (by unfold cmC; grind)).v dX4_checkComment_25 (Nat.le_of_ble_eq_true rfl) (Nat.le_of_ble_eq_true rfl) (rfl)
    · exact z_throw (k := 1) hF hZ k_0 k_1 (List.mem_of_getElem? (i := 8) rfl) k_2 zfit1 zbad1 znc1 zgood1 dX4_checkComment_15 dX4_checkComment_18 dX4_checkComment_19 dX4_checkComment_21 dX4_checkComment_24 ⟨Nat.le_of_ble_eq_true rfl, Nat.le_of_ble_eq_true rfl, Nat.le_of_ble_eq_true rfl, Nat.le_of_ble_eq_true rfl⟩ (Nat.le_of_ble_eq_true rfl) (Nat.le_of_ble_eq_true rfl) (by decide) (by unfold cmC; grind) rfl
set_option maxHeartbeats 4000000 in
set_option maxRecDepth 100000 in
theorem c_X4_checkSuggestion (G : zG) (d0 t0 r0 q0 y0 d1 u0 d2 d3 d4 v : Nat) (o : Int32) (u1 u2 u3 j : Nat) (a : Int32)  : zX G yX4_checkSuggestion wsX4_checkSuggestion ({ frames := 6, cells := 1, slots := 6, locals := 90 }) [.ref d0, .int a] [(d0, .inr (4, [.ref t0, .ref r0, .ref q0, .ref y0, .ref d1, .int o, .int (nI v), .ref u0, .ref d2, .ref d3, .ref d4])), (u0, .inr (2, [.ref u1, .ref u2, .ref u3, .int (nI j)]))] [(d0, .inr (4, [.ref t0, .ref r0, .ref q0, .ref y0, .ref d1, .int o, .int (nI v), .ref u0, .ref d2, .ref d3, .ref d4])), (u0, .inr (2, [.ref u1, .ref u2, .ref u3, .int (nI j)]))] (cmC j a) none 1 6 := by
  refine zX.ofV (own := RX4) (cc := cX4_checkSuggestion) (maxL := 2) rfl (by decide) rfl (by simp [Value.category]) (Nat.le_of_ble_eq_true rfl) ?_
  intro X hF hZ hR
  have k_0 : zH X (.classLink RX4 138 "java/lang/IndexOutOfBoundsException") := hF.w (by decide +kernel)
  have k_1 : zH X (.initialized "java/lang/IndexOutOfBoundsException") := hF.w (by decide +kernel)
  have k_2 : ∀ w ∈ (vx_atS RX4 142 (zEx 1) [zRun, zExc]).filter goodWord, w ∈ wsX4_checkSuggestion := by first | exact fun _ h => List.mem_cons_of_mem _ (List.mem_append_right _ h) | exact fun _ h => List.mem_cons_of_mem _ (List.mem_append_left _ (List.mem_append_right _ h)) | exact fun _ h => List.mem_cons_of_mem _ (List.mem_append_left _ (List.mem_append_left _ (List.mem_append_right _ h))) | exact fun _ h => List.mem_cons_of_mem _ (List.mem_append_left _ (List.mem_append_left _ (List.mem_append_left _ (List.mem_append_right _ h)))) | exact fun _ h => List.mem_cons_of_mem _ (List.mem_append_left _ (List.mem_append_left _ (List.mem_append_left _ (List.mem_append_left _ (List.mem_append_right _ h))))) | decide +kernel
  have k_3 : ∀ w ∈ wsX40, w ∈ wsX4_checkSuggestion := by decide +kernel
  have k_4 : zH X (.fieldLink RX4 48 "MarginDesk" "suggestionRanges" "LMarginDesk$Ranges;") := hF.w (by decide +kernel)
  have k_5 : ∀ w ∈ wsX20, w ∈ wsX4_checkSuggestion := by decide +kernel
  have k_6 : zH X (.fieldLinkNest RX4 92 "MarginDesk$Ranges" "count" "I" RX4) := hF.nf (List.mem_of_getElem? (i := 3) rfl)
  refine z_lv (lv' := [some (.ref d0), some (.int a)]) rfl ?_
  refine z_iload_n hF dX4_checkSuggestion_0 rfl ?_
  refine z_if_lt (tgt := 15) hF dX4_checkSuggestion_1 (by decide) (fun c_1 => ?_) (fun c_1 => ?_)
  · exact z_throw (k := 1) hF hZ k_0 k_1 (List.mem_of_getElem? (i := 9) rfl) k_2 zfit1 zbad1 znc1 zgood1 dX4_checkSuggestion_15 dX4_checkSuggestion_18 dX4_checkSuggestion_19 dX4_checkSuggestion_21 dX4_checkSuggestion_24 ⟨Nat.le_of_ble_eq_true rfl, Nat.le_of_ble_eq_true rfl, Nat.le_of_ble_eq_true rfl, Nat.le_of_ble_eq_true rfl⟩ (Nat.le_of_ble_eq_true rfl) (Nat.le_of_ble_eq_true rfl) (by decide) (by unfold cmC; grind) rfl
  · refine z_iload_n hF dX4_checkSuggestion_4 rfl ?_
    refine z_aload_n hF dX4_checkSuggestion_5 rfl ?_
    refine z_get (C := RX4) (T := TX4) (N := 11) (ci := 4) (v := .ref u0) hF k_3 7 (by decide) rfl k_4 rfl 0 rfl rfl dX4_checkSuggestion_6 ?_
    refine z_getN (C := RX2) (T := TX2) (N := 4) (ci := 2) (v := .int (nI j)) hF k_5 3 (by decide) rfl k_6 rfl 1 rfl rfl dX4_checkSuggestion_9 ?_
    refine z_ic_lt (tgt := 25) hF dX4_checkSuggestion_12 (by decide) (fun c_2 => ?_) (fun c_2 => ?_)
    · exact (hR (by unfold cmC; grind)).v dX4_checkSuggestion_25 (Nat.le_of_ble_eq_true rfl) (Nat.le_of_ble_eq_true rfl) (rfl)
    · exact z_throw (k := 1) hF hZ k_0 k_1 (List.mem_of_getElem? (i := 9) rfl) k_2 zfit1 zbad1 znc1 zgood1 dX4_checkSuggestion_15 dX4_checkSuggestion_18 dX4_checkSuggestion_19 dX4_checkSuggestion_21 dX4_checkSuggestion_24 ⟨Nat.le_of_ble_eq_true rfl, Nat.le_of_ble_eq_true rfl, Nat.le_of_ble_eq_true rfl, Nat.le_of_ble_eq_true rfl⟩ (Nat.le_of_ble_eq_true rfl) (Nat.le_of_ble_eq_true rfl) (by decide) (by unfold cmC; grind) rfl
set_option maxHeartbeats 4000000 in
set_option maxRecDepth 100000 in
theorem c_X4_checkWaiting (G : zG) (d0 t0 r0 q0 y0 d1 u0 d2 d3 d4 v : Nat) (o : Int32) (xs : Nat → Int32) (i : Nat) (hi : i < 10) : zX G yX4_checkWaiting wsX4_checkWaiting ({ frames := 6, cells := 1, slots := 6, locals := 90 }) [.ref d0, .int (nI i)] [(d0, .inr (4, [.ref t0, .ref r0, .ref q0, .ref y0, .ref d1, .int o, .int (nI v), .ref u0, .ref d2, .ref d3, .ref d4])), (d4, eI G 10 xs)] [(d0, .inr (4, [.ref t0, .ref r0, .ref q0, .ref y0, .ref d1, .int o, .int (nI v), .ref u0, .ref d2, .ref d3, .ref d4])), (d4, eI G 10 xs)] (waC (xs i)) none 1 6 := by
  refine zX.ofV (own := RX4) (cc := cX4_checkWaiting) (maxL := 2) rfl (by decide) rfl (by simp [Value.category]) (Nat.le_of_ble_eq_true rfl) ?_
  intro X hF hZ hR
  have k_0 : ∀ w ∈ wsX40, w ∈ wsX4_checkWaiting := by decide +kernel
  have k_1 : zH X (.fieldLink RX4 57 "MarginDesk" "states" "[I") := hF.w (by decide +kernel)
  have k_2 : zH X (.classLink RX4 95 "java/lang/IllegalStateException") := hF.w (by decide +kernel)
  have k_3 : zH X (.initialized "java/lang/IllegalStateException") := hF.w (by decide +kernel)
  have k_4 : ∀ w ∈ (vx_atS RX4 99 (zEx 3) [zRun, zExc]).filter goodWord, w ∈ wsX4_checkWaiting := by first | exact fun _ h => List.mem_cons_of_mem _ (List.mem_append_right _ h) | exact fun _ h => List.mem_cons_of_mem _ (List.mem_append_left _ (List.mem_append_right _ h)) | exact fun _ h => List.mem_cons_of_mem _ (List.mem_append_left _ (List.mem_append_left _ (List.mem_append_right _ h))) | exact fun _ h => List.mem_cons_of_mem _ (List.mem_append_left _ (List.mem_append_left _ (List.mem_append_left _ (List.mem_append_right _ h)))) | exact fun _ h => List.mem_cons_of_mem _ (List.mem_append_left _ (List.mem_append_left _ (List.mem_append_left _ (List.mem_append_left _ (List.mem_append_right _ h))))) | decide +kernel
  refine z_lv (lv' := [some (.ref d0), some (.int (nI i))]) rfl ?_
  refine z_aload_n hF dX4_checkWaiting_0 rfl ?_
  refine z_get (C := RX4) (T := TX4) (N := 11) (ci := 4) (v := .ref d4) hF k_0 10 (by decide) rfl k_1 rfl 0 rfl rfl dX4_checkWaiting_1 ?_
  refine z_iload_n hF dX4_checkWaiting_4 rfl ?_
  refine z_iald (k := i) hF 1 rfl (rfl) (by omega) rfl dX4_checkWaiting_5 ?_
  refine z_if_eq (tgt := 19) hF dX4_checkWaiting_6 (by decide) (fun c_1 => ?_) (fun c_1 => ?_)
  · exact (hR (by unfold waC; grind)).v dX4_checkWaiting_19 (Nat.le_of_ble_eq_true rfl) (Nat.le_of_ble_eq_true rfl) (rfl)
  · exact z_throw (k := 3) hF hZ k_2 k_3 (List.mem_of_getElem? (i := 10) rfl) k_4 zfit3 zbad3 znc3 zgood3 dX4_checkWaiting_9 dX4_checkWaiting_12 dX4_checkWaiting_13 dX4_checkWaiting_15 dX4_checkWaiting_18 ⟨Nat.le_of_ble_eq_true rfl, Nat.le_of_ble_eq_true rfl, Nat.le_of_ble_eq_true rfl, Nat.le_of_ble_eq_true rfl⟩ (Nat.le_of_ble_eq_true rfl) (Nat.le_of_ble_eq_true rfl) (by decide) (by unfold waC; grind) rfl
set_option maxHeartbeats 4000000 in
set_option maxRecDepth 100000 in
theorem c_X4_checkRoom (G : zG) (d0 t0 r0 q0 y0 d1 u0 d2 d3 d4 v : Nat) (o : Int32) (t1 t2 n : Nat) (k l : Int32)  : zX G yX4_checkRoom wsX4_checkRoom ({ frames := 6, cells := 1, slots := 6, locals := 90 }) [.ref d0, .int k, .int l] [(d0, .inr (4, [.ref t0, .ref r0, .ref q0, .ref y0, .ref d1, .int o, .int (nI v), .ref u0, .ref d2, .ref d3, .ref d4])), (t0, .inr (3, [.ref t1, .ref t2, .int (nI n)]))] [(d0, .inr (4, [.ref t0, .ref r0, .ref q0, .ref y0, .ref d1, .int o, .int (nI v), .ref u0, .ref d2, .ref d3, .ref d4])), (t0, .inr (3, [.ref t1, .ref t2, .int (nI n)]))] (roC n v k l) none 1 6 := by
  refine zX.ofV (own := RX4) (cc := cX4_checkRoom) (maxL := 3) rfl (by decide) rfl (by simp [Value.category]) (Nat.le_of_ble_eq_true rfl) ?_
  intro X hF hZ hR
  have k_0 : ∀ w ∈ wsX40, w ∈ wsX4_checkRoom := by decide +kernel
  have k_1 : zH X (.fieldLink RX4 10 "MarginDesk" "text" "LMarginDesk$Text;") := hF.w (by decide +kernel)
  have k_2 : ∀ w ∈ wsX30, w ∈ wsX4_checkRoom := by decide +kernel
  have k_3 : zH X (.fieldLinkNest RX4 78 "MarginDesk$Text" "size" "I" RX4) := hF.nf (List.mem_of_getElem? (i := 2) rfl)
  have k_4 : zH X (.fieldLink RX4 45 "MarginDesk" "edits" "I") := hF.w (by decide +kernel)
  have k_5 : zH X (.classLink RX4 95 "java/lang/IllegalStateException") := hF.w (by decide +kernel)
  have k_6 : zH X (.initialized "java/lang/IllegalStateException") := hF.w (by decide +kernel)
  have k_7 : ∀ w ∈ (vx_atS RX4 99 (zEx 3) [zRun, zExc]).filter goodWord, w ∈ wsX4_checkRoom := by first | exact fun _ h => List.mem_cons_of_mem _ (List.mem_append_right _ h) | exact fun _ h => List.mem_cons_of_mem _ (List.mem_append_left _ (List.mem_append_right _ h)) | exact fun _ h => List.mem_cons_of_mem _ (List.mem_append_left _ (List.mem_append_left _ (List.mem_append_right _ h))) | exact fun _ h => List.mem_cons_of_mem _ (List.mem_append_left _ (List.mem_append_left _ (List.mem_append_left _ (List.mem_append_right _ h)))) | exact fun _ h => List.mem_cons_of_mem _ (List.mem_append_left _ (List.mem_append_left _ (List.mem_append_left _ (List.mem_append_left _ (List.mem_append_right _ h))))) | decide +kernel
  refine z_lv (lv' := [some (.ref d0), some (.int k), some (.int l)]) rfl ?_
  refine z_aload_n hF dX4_checkRoom_0 rfl ?_
  refine z_get (C := RX4) (T := TX4) (N := 11) (ci := 4) (v := .ref t0) hF k_0 0 (by decide) rfl k_1 rfl 0 rfl rfl dX4_checkRoom_1 ?_
  refine z_getN (C := RX3) (T := TX3) (N := 3) (ci := 3) (v := .int (nI n)) hF k_2 2 (by decide) rfl k_3 rfl 1 rfl rfl dX4_checkRoom_4 ?_
  refine z_iload_n hF dX4_checkRoom_7 rfl ?_
  refine z_iadd hF dX4_checkRoom_8 ?_
  refine z_bipush (v := nI 60) hF dX4_checkRoom_9 (by decide) ?_
  refine z_ic_le (tgt := 24) hF dX4_checkRoom_11 (by decide) (fun c_1 => ?_) (fun c_1 => ?_)
  · refine z_aload_n hF dX4_checkRoom_24 rfl ?_
    refine z_get (C := RX4) (T := TX4) (N := 11) (ci := 4) (v := .int (nI v)) hF k_0 6 (by decide) rfl k_4 rfl 0 rfl rfl dX4_checkRoom_25 ?_
    refine z_iload_n hF dX4_checkRoom_28 rfl ?_
    refine z_iadd hF dX4_checkRoom_29 ?_
    refine z_sipush (v := nI 300) hF dX4_checkRoom_30 (by decide) ?_
    refine z_ic_le (tgt := 46) hF dX4_checkRoom_33 (by decide) (fun c_2 => ?_) (fun c_2 => ?_)
    · exact (hR (by unfold roC; grind)).v dX4_checkRoom_46 (Nat.le_of_ble_eq_true rfl) (Nat.le_of_ble_eq_true rfl) (rfl)
    · exact z_throw (k := 3) hF hZ k_5 k_6 (List.mem_of_getElem? (i := 12) rfl) k_7 zfit3 zbad3 znc3 zgood3 dX4_checkRoom_36 dX4_checkRoom_39 dX4_checkRoom_40 dX4_checkRoom_42 dX4_checkRoom_45 ⟨Nat.le_of_ble_eq_true rfl, Nat.le_of_ble_eq_true rfl, Nat.le_of_ble_eq_true rfl, Nat.le_of_ble_eq_true rfl⟩ (Nat.le_of_ble_eq_true rfl) (Nat.le_of_ble_eq_true rfl) (by decide) (by unfold roC; grind) rfl
  · exact z_throw (k := 3) hF hZ k_5 k_6 (List.mem_of_getElem? (i := 11) rfl) k_7 zfit3 zbad3 znc3 zgood3 dX4_checkRoom_14 dX4_checkRoom_17 dX4_checkRoom_18 dX4_checkRoom_20 dX4_checkRoom_23 ⟨Nat.le_of_ble_eq_true rfl, Nat.le_of_ble_eq_true rfl, Nat.le_of_ble_eq_true rfl, Nat.le_of_ble_eq_true rfl⟩ (Nat.le_of_ble_eq_true rfl) (Nat.le_of_ble_eq_true rfl) (by decide) (by unfold roC; grind) rfl
