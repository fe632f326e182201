/-! the constructors of Text, Ranges, Quotes, History -/
set_option maxHeartbeats 4000000 in
set_option maxRecDepth 100000 in
theorem c_X3_init (G : zG) (a0 : Nat) : zK G yX3_init wsX3_init ({ frames := 1, cells := 2, slots := 120, locals := 20 }) [.ref a0] [(a0, .inr (3, [.null, .null, .int 0]))] (fun ad => [(a0, .inr (3, [.ref (ad 0), .ref (ad 1), .int (nI 0)])), (ad 0, eI G 60 (fun _ => nI 0)), (ad 1, eI G 60 (fun _ => nI 0))]) 2 120 := by
  refine zK.ofV (own := RX3) (cc := cX3_init) (maxL := 1) rfl (by decide) rfl rfl (by simp [Value.category]) (Nat.le_of_ble_eq_true rfl) ?_
  intro X hF hI hR
  have k_0 : zH X (.methodLink RX3 3 objectInit) := hF.w (by decide +kernel)
  have k_1 : zH X (.instanceMethod objectInit) := hF.w (by decide +kernel)
  have k_2 : zH X (.code objectInit ⟨#[0xb1]⟩ 1 none) := hF.w (by decide +kernel)
  have k_3 : zH X (.arrayClass .int) := hF.w (by decide +kernel)
  have k_4 : zH X (.fieldLink RX3 9 "MarginDesk$Text" "letters" "[I") := hF.w (by decide +kernel)
  have k_5 : ∀ w ∈ wsX30, w ∈ wsX3_init := by decide +kernel
  have k_6 : zH X (.fieldLink RX3 15 "MarginDesk$Text" "marks" "[I") := hF.w (by decide +kernel)
  have k_7 : zH X (.fieldLink RX3 18 "MarginDesk$Text" "size" "I") := hF.w (by decide +kernel)
  refine z_lv (lv' := [some (.ref a0)]) rfl ?_
  refine z_aload_n hF dX3_init_0 rfl ?_
  refine z_objInit hF k_0 k_1 k_2 (Nat.le_of_ble_eq_true rfl) (Nat.le_of_ble_eq_true rfl) dX3_init_1 ?_
  refine z_aload_n hF dX3_init_4 rfl ?_
  refine z_bipush (v := nI 60) hF dX3_init_5 (by decide) ?_
  refine z_newI (atype := .int) (n := 60) (c2 := 1) (s2 := 60) hF k_3 rfl rfl (Nat.le_of_ble_eq_true rfl) (Nat.le_of_ble_eq_true rfl) rfl rfl dX3_init_7 (fun q1 => ?_)
  refine z_putF (C := RX3) (T := TX3) (N := 3) (ci := 3) (ws' := [(a0, .inr (3, [.ref q1, .null, .int 0])), (q1, eI G 60 (fun _ => nI 0))]) hF hI k_5 tyX3 tyX3_ok nmX3 0 (by decide) rfl k_4 rfl rfl rfl rfl rfl 0 rfl rfl rfl dX3_init_9 ?_
  refine z_aload_n hF dX3_init_12 rfl ?_
  refine z_bipush (v := nI 60) hF dX3_init_13 (by decide) ?_
  refine z_newI (atype := .int) (n := 60) (c2 := 2) (s2 := 120) hF k_3 rfl rfl (Nat.le_of_ble_eq_true rfl) (Nat.le_of_ble_eq_true rfl) rfl rfl dX3_init_15 (fun q2 => ?_)
  refine z_putF (C := RX3) (T := TX3) (N := 3) (ci := 3) (ws' := [(a0, .inr (3, [.ref q1, .ref q2, .int 0])), (q1, eI G 60 (fun _ => nI 0)), (q2, eI G 60 (fun _ => nI 0))]) hF hI k_5 tyX3 tyX3_ok nmX3 1 (by decide) rfl k_6 rfl rfl rfl rfl rfl 0 rfl rfl rfl dX3_init_17 ?_
  refine z_aload_n hF dX3_init_20 rfl ?_
  refine z_iconst (v := nI 0) hF dX3_init_21 (by decide) ?_
  refine z_put (C := RX3) (T := TX3) (N := 3) (ci := 3) (ws' := [(a0, .inr (3, [.ref q1, .ref q2, .int (nI 0)])), (q1, eI G 60 (fun _ => nI 0)), (q2, eI G 60 (fun _ => nI 0))]) hF k_5 tyX3 tyX3_ok nmX3 2 (by decide) rfl k_7 rfl rfl rfl rfl 0 rfl rfl rfl dX3_init_22 ?_
  exact hR (fun k => [q1, q2].getD k 0) 25 _ 2 120 (Nat.le_of_ble_eq_true rfl) (Nat.le_of_ble_eq_true rfl) dX3_init_25
set_option maxHeartbeats 4000000 in
set_option maxRecDepth 100000 in
theorem c_X2_init (G : zG) (a0 : Nat) : zK G yX2_init wsX2_init ({ frames := 1, cells := 3, slots := 36, locals := 20 }) [.ref a0] [(a0, .inr (2, [.null, .null, .null, .int 0]))] (fun ad => [(a0, .inr (2, [.ref (ad 0), .ref (ad 1), .ref (ad 2), .int (nI 0)])), (ad 0, eI G 12 (fun _ => nI 0)), (ad 1, eI G 12 (fun _ => nI 0)), (ad 2, eI G 12 (fun _ => nI 0))]) 3 36 := by
  refine zK.ofV (own := RX2) (cc := cX2_init) (maxL := 1) rfl (by decide) rfl rfl (by simp [Value.category]) (Nat.le_of_ble_eq_true rfl) ?_
  intro X hF hI hR
  have k_0 : zH X (.methodLink RX2 3 objectInit) := hF.w (by decide +kernel)
  have k_1 : zH X (.instanceMethod objectInit) := hF.w (by decide +kernel)
  have k_2 : zH X (.code objectInit ⟨#[0xb1]⟩ 1 none) := hF.w (by decide +kernel)
  have k_3 : zH X (.arrayClass .int) := hF.w (by decide +kernel)
  have k_4 : zH X (.fieldLink RX2 9 "MarginDesk$Ranges" "begins" "[I") := hF.w (by decide +kernel)
  have k_5 : ∀ w ∈ wsX20, w ∈ wsX2_init := by decide +kernel
  have k_6 : zH X (.fieldLink RX2 15 "MarginDesk$Ranges" "ends" "[I") := hF.w (by decide +kernel)
  have k_7 : zH X (.fieldLink RX2 18 "MarginDesk$Ranges" "stickiness" "[I") := hF.w (by decide +kernel)
  have k_8 : zH X (.fieldLink RX2 21 "MarginDesk$Ranges" "count" "I") := hF.w (by decide +kernel)
  refine z_lv (lv' := [some (.ref a0)]) rfl ?_
  refine z_aload_n hF dX2_init_0 rfl ?_
  refine z_objInit hF k_0 k_1 k_2 (Nat.le_of_ble_eq_true rfl) (Nat.le_of_ble_eq_true rfl) dX2_init_1 ?_
  refine z_aload_n hF dX2_init_4 rfl ?_
  refine z_bipush (v := nI 12) hF dX2_init_5 (by decide) ?_
  refine z_newI (atype := .int) (n := 12) (c2 := 1) (s2 := 12) hF k_3 rfl rfl (Nat.le_of_ble_eq_true rfl) (Nat.le_of_ble_eq_true rfl) rfl rfl dX2_init_7 (fun q1 => ?_)
  refine z_putF (C := RX2) (T := TX2) (N := 4) (ci := 2) (ws' := [(a0, .inr (2, [.ref q1, .null, .null, .int 0])), (q1, eI G 12 (fun _ => nI 0))]) hF hI k_5 tyX2 tyX2_ok nmX2 0 (by decide) rfl k_4 rfl rfl rfl rfl rfl 0 rfl rfl rfl dX2_init_9 ?_
  refine z_aload_n hF dX2_init_12 rfl ?_
  refine z_bipush (v := nI 12) hF dX2_init_13 (by decide) ?_
  refine z_newI (atype := .int) (n := 12) (c2 := 2) (s2 := 24) hF k_3 rfl rfl (Nat.le_of_ble_eq_true rfl) (Nat.le_of_ble_eq_true rfl) rfl rfl dX2_init_15 (fun q2 => ?_)
  refine z_putF (C := RX2) (T := TX2) (N := 4) (ci := 2) (ws' := [(a0, .inr (2, [.ref q1, .ref q2, .null, .int 0])), (q1, eI G 12 (fun _ => nI 0)), (q2, eI G 12 (fun _ => nI 0))]) hF hI k_5 tyX2 tyX2_ok nmX2 1 (by decide) rfl k_6 rfl rfl rfl rfl rfl 0 rfl rfl rfl dX2_init_17 ?_
  refine z_aload_n hF dX2_init_20 rfl ?_
  refine z_bipush (v := nI 12) hF dX2_init_21 (by decide) ?_
  refine z_newI (atype := .int) (n := 12) (c2 := 3) (s2 := 36) hF k_3 rfl rfl (Nat.le_of_ble_eq_true rfl) (Nat.le_of_ble_eq_true rfl) rfl rfl dX2_init_23 (fun q3 => ?_)
  refine z_putF (C := RX2) (T := TX2) (N := 4) (ci := 2) (ws' := [(a0, .inr (2, [.ref q1, .ref q2, .ref q3, .int 0])), (q1, eI G 12 (fun _ => nI 0)), (q2, eI G 12 (fun _ => nI 0)), (q3, eI G 12 (fun _ => nI 0))]) hF hI k_5 tyX2 tyX2_ok nmX2 2 (by decide) rfl k_7 rfl rfl rfl rfl rfl 0 rfl rfl rfl dX2_init_25 ?_
  refine z_aload_n hF dX2_init_28 rfl ?_
  refine z_iconst (v := nI 0) hF dX2_init_29 (by decide) ?_
  refine z_put (C := RX2) (T := TX2) (N := 4) (ci := 2) (ws' := [(a0, .inr (2, [.ref q1, .ref q2, .ref q3, .int (nI 0)])), (q1, eI G 12 (fun _ => nI 0)), (q2, eI G 12 (fun _ => nI 0)), (q3, eI G 12 (fun _ => nI 0))]) hF k_5 tyX2 tyX2_ok nmX2 3 (by decide) rfl k_8 rfl rfl rfl rfl 0 rfl rfl rfl dX2_init_30 ?_
  exact hR (fun k => [q1, q2, q3].getD k 0) 33 _ 3 36 (Nat.le_of_ble_eq_true rfl) (Nat.le_of_ble_eq_true rfl) dX2_init_33
set_option maxHeartbeats 4000000 in
set_option maxRecDepth 100000 in
theorem c_X1_init (G : zG) (a0 : Nat) : zK G yX1_init wsX1_init ({ frames := 1, cells := 4, slots := 756, locals := 20 }) [.ref a0] [(a0, .inr (1, [.null, .null, .null, .null]))] (fun ad => [(a0, .inr (1, [.ref (ad 0), .ref (ad 1), .ref (ad 2), .ref (ad 3)])), (ad 0, eI G 720 (fun _ => nI 0)), (ad 1, eI G 12 (fun _ => nI 0)), (ad 2, eI G 12 (fun _ => nI 0)), (ad 3, eI G 12 (fun _ => nI 0))]) 4 756 := by
  refine zK.ofV (own := RX1) (cc := cX1_init) (maxL := 1) rfl (by decide) rfl rfl (by simp [Value.category]) (Nat.le_of_ble_eq_true rfl) ?_
  intro X hF hI hR
  have k_0 : zH X (.methodLink RX1 3 objectInit) := hF.w (by decide +kernel)
  have k_1 : zH X (.instanceMethod objectInit) := hF.w (by decide +kernel)
  have k_2 : zH X (.code objectInit ⟨#[0xb1]⟩ 1 none) := hF.w (by decide +kernel)
  have k_3 : zH X (.arrayClass .int) := hF.w (by decide +kernel)
  have k_4 : zH X (.fieldLink RX1 9 "MarginDesk$Quotes" "letters" "[I") := hF.w (by decide +kernel)
  have k_5 : ∀ w ∈ wsX10, w ∈ wsX1_init := by decide +kernel
  have k_6 : zH X (.fieldLink RX1 15 "MarginDesk$Quotes" "sizes" "[I") := hF.w (by decide +kernel)
  have k_7 : zH X (.fieldLink RX1 18 "MarginDesk$Quotes" "aheads" "[I") := hF.w (by decide +kernel)
  have k_8 : zH X (.fieldLink RX1 21 "MarginDesk$Quotes" "behinds" "[I") := hF.w (by decide +kernel)
  refine z_lv (lv' := [some (.ref a0)]) rfl ?_
  refine z_aload_n hF dX1_init_0 rfl ?_
  refine z_objInit hF k_0 k_1 k_2 (Nat.le_of_ble_eq_true rfl) (Nat.le_of_ble_eq_true rfl) dX1_init_1 ?_
  refine z_aload_n hF dX1_init_4 rfl ?_
  refine z_sipush (v := nI 720) hF dX1_init_5 (by decide) ?_
  refine z_newI (atype := .int) (n := 720) (c2 := 1) (s2 := 720) hF k_3 rfl rfl (Nat.le_of_ble_eq_true rfl) (Nat.le_of_ble_eq_true rfl) rfl rfl dX1_init_8 (fun q1 => ?_)
  refine z_putF (C := RX1) (T := TX1) (N := 4) (ci := 1) (ws' := [(a0, .inr (1, [.ref q1, .null, .null, .null])), (q1, eI G 720 (fun _ => nI 0))]) hF hI k_5 tyX1 tyX1_ok nmX1 0 (by decide) rfl k_4 rfl rfl rfl rfl rfl 0 rfl rfl rfl dX1_init_10 ?_
  refine z_aload_n hF dX1_init_13 rfl ?_
  refine z_bipush (v := nI 12) hF dX1_init_14 (by decide) ?_
  refine z_newI (atype := .int) (n := 12) (c2 := 2) (s2 := 732) hF k_3 rfl rfl (Nat.le_of_ble_eq_true rfl) (Nat.le_of_ble_eq_true rfl) rfl rfl dX1_init_16 (fun q2 => ?_)
  refine z_putF (C := RX1) (T := TX1) (N := 4) (ci := 1) (ws' := [(a0, .inr (1, [.ref q1, .ref q2, .null, .null])), (q1, eI G 720 (fun _ => nI 0)), (q2, eI G 12 (fun _ => nI 0))]) hF hI k_5 tyX1 tyX1_ok nmX1 1 (by decide) rfl k_6 rfl rfl rfl rfl rfl 0 rfl rfl rfl dX1_init_18 ?_
  refine z_aload_n hF dX1_init_21 rfl ?_
  refine z_bipush (v := nI 12) hF dX1_init_22 (by decide) ?_
  refine z_newI (atype := .int) (n := 12) (c2 := 3) (s2 := 744) hF k_3 rfl rfl (Nat.le_of_ble_eq_true rfl) (Nat.le_of_ble_eq_true rfl) rfl rfl dX1_init_24 (fun q3 => ?_)
  refine z_putF (C := RX1) (T := TX1) (N := 4) (ci := 1) (ws' := [(a0, .inr (1, [.ref q1, .ref q2, .ref q3, .null])), (q1, eI G 720 (fun _ => nI 0)), (q2, eI G 12 (fun _ => nI 0)), (q3, eI G 12 (fun _ => nI 0))]) hF hI k_5 tyX1 tyX1_ok nmX1 2 (by decide) rfl k_7 rfl rfl rfl rfl rfl 0 rfl rfl rfl dX1_init_26 ?_
  refine z_aload_n hF dX1_init_29 rfl ?_
  refine z_bipush (v := nI 12) hF dX1_init_30 (by decide) ?_
  refine z_newI (atype := .int) (n := 12) (c2 := 4) (s2 := 756) hF k_3 rfl rfl (Nat.le_of_ble_eq_true rfl) (Nat.le_of_ble_eq_true rfl) rfl rfl dX1_init_32 (fun q4 => ?_)
  refine z_putF (C := RX1) (T := TX1) (N := 4) (ci := 1) (ws' := [(a0, .inr (1, [.ref q1, .ref q2, .ref q3, .ref q4])), (q1, eI G 720 (fun _ => nI 0)), (q2, eI G 12 (fun _ => nI 0)), (q3, eI G 12 (fun _ => nI 0)), (q4, eI G 12 (fun _ => nI 0))]) hF hI k_5 tyX1 tyX1_ok nmX1 3 (by decide) rfl k_8 rfl rfl rfl rfl rfl 0 rfl rfl rfl dX1_init_34 ?_
  exact hR (fun k => [q1, q2, q3, q4].getD k 0) 37 _ 4 756 (Nat.le_of_ble_eq_true rfl) (Nat.le_of_ble_eq_true rfl) dX1_init_37
set_option maxHeartbeats 4000000 in
set_option maxRecDepth 100000 in
theorem c_X0_init (G : zG) (a0 : Nat) : zK G yX0_init wsX0_init ({ frames := 1, cells := 1, slots := 3600, locals := 20 }) [.ref a0] [(a0, .inr (0, [.null]))] (fun ad => [(a0, .inr (0, [.ref (ad 0)])), (ad 0, eI G 3600 (fun _ => nI 0))]) 1 3600 := by
  refine zK.ofV (own := RX0) (cc := cX0_init) (maxL := 1) rfl (by decide) rfl rfl (by simp [Value.category]) (Nat.le_of_ble_eq_true rfl) ?_
  intro X hF hI hR
  have k_0 : zH X (.methodLink RX0 3 objectInit) := hF.w (by decide +kernel)
  have k_1 : zH X (.instanceMethod objectInit) := hF.w (by decide +kernel)
  have k_2 : zH X (.code objectInit ⟨#[0xb1]⟩ 1 none) := hF.w (by decide +kernel)
  have k_3 : zH X (.arrayClass .int) := hF.w (by decide +kernel)
  have k_4 : zH X (.fieldLink RX0 9 "MarginDesk$History" "ranges" "[I") := hF.w (by decide +kernel)
  have k_5 : ∀ w ∈ wsX00, w ∈ wsX0_init := by decide +kernel
  refine z_lv (lv' := [some (.ref a0)]) rfl ?_
  refine z_aload_n hF dX0_init_0 rfl ?_
  refine z_objInit hF k_0 k_1 k_2 (Nat.le_of_ble_eq_true rfl) (Nat.le_of_ble_eq_true rfl) dX0_init_1 ?_
  refine z_aload_n hF dX0_init_4 rfl ?_
  refine z_sipush (v := nI 3600) hF dX0_init_5 (by decide) ?_
  refine z_newI (atype := .int) (n := 3600) (c2 := 1) (s2 := 3600) hF k_3 rfl rfl (Nat.le_of_ble_eq_true rfl) (Nat.le_of_ble_eq_true rfl) rfl rfl dX0_init_8 (fun q1 => ?_)
  refine z_putF (C := RX0) (T := TX0) (N := 1) (ci := 0) (ws' := [(a0, .inr (0, [.ref q1])), (q1, eI G 3600 (fun _ => nI 0))]) hF hI k_5 tyX0 tyX0_ok nmX0 0 (by decide) rfl k_4 rfl rfl rfl rfl rfl 0 rfl rfl rfl dX0_init_10 ?_
  exact hR (fun k => [q1].getD k 0) 13 _ 1 3600 (Nat.le_of_ble_eq_true rfl) (Nat.le_of_ble_eq_true rfl) dX0_init_13
