set_option maxHeartbeats 4000000 in
set_option maxRecDepth 100000 in
theorem c_J7_rangeCheck_23922 (G : zG) (n a b : Nat) (hab : a ≤ b) (hbn : b ≤ n) (hn : n < 2 ^ 31) : zM G yJ7_rangeCheck_23922 wsJ7_rangeCheck_23922 ({ frames := 0, cells := 0, slots := 0, locals := 12 }) [.int (nI n), .int (nI a), .int (nI b)] [] [] none 0 0 := by
  refine zM.ofV (own := RJ7) (cc := cJ7_rangeCheck_23922) (maxL := 3) rfl (by decide) rfl (by simp [Value.category]) (Nat.le_of_ble_eq_true rfl) ?_
  intro X hF hR
  refine z_lv (lv' := [some (.int (nI n)), some (.int (nI a)), some (.int (nI b))]) rfl ?_
  refine z_iload_n hF dJ7_rangeCheck_23922_0 rfl ?_
  refine z_iload_n hF dJ7_rangeCheck_23922_1 rfl ?_
  refine z_icn_le (tgt := 46) hF (by omega) (by omega) dJ7_rangeCheck_23922_2 (by decide) (fun c_1 => ?_) (fun c_1 => absurd c_1 (Nat.not_lt.mpr hab))
  refine z_iload_n hF dJ7_rangeCheck_23922_46 rfl ?_
  refine z_if_ge (tgt := 59) hF dJ7_rangeCheck_23922_47 (by decide) (fun c_2 => ?_) (fun c_2 => absurd c_2 (fun z => z (nI_pos' (by omega))))
  refine z_iload_n hF dJ7_rangeCheck_23922_59 rfl ?_
  refine z_iload_n hF dJ7_rangeCheck_23922_60 rfl ?_
  refine z_icn_le (tgt := 73) hF (by omega) (by omega) dJ7_rangeCheck_23922_61 (by decide) (fun c_3 => ?_) (fun c_3 => absurd c_3 (Nat.not_lt.mpr hbn))
  exact hR.v dJ7_rangeCheck_23922_73 (Nat.le_of_ble_eq_true rfl) (Nat.le_of_ble_eq_true rfl) (rfl)
set_option maxHeartbeats 4000000 in
set_option maxRecDepth 100000 in
theorem c_J7_fill_fda19 (G : zG) (a0 a b : Nat) (f : Nat → Int32) (x : Int32) (hab : a ≤ b) (hb : b ≤ 60) : zM G yJ7_fill_fda19 wsJ7_fill_fda19 ({ frames := 1, cells := 0, slots := 0, locals := 34 }) [.ref a0, .int (nI a), .int (nI b), .int x] [(a0, eI G 60 f)] [(a0, eI G 60 (filF f a b x))] none 0 0 := by
  refine zM.ofV (own := RJ7) (cc := cJ7_fill_fda19) (maxL := 5) rfl (by decide) rfl (by simp [Value.category]) (Nat.le_of_ble_eq_true rfl) ?_
  intro X hF hR
  refine z_lv (lv' := [some (.ref a0), some (.int (nI a)), some (.int (nI b)), some (.int x), none]) rfl ?_
  refine z_aload_n hF dJ7_fill_fda19_0 rfl ?_
  refine z_alen (n := 60) hF 0 rfl dJ7_fill_fda19_1 ?_
  refine z_iload_n hF dJ7_fill_fda19_2 rfl ?_
  refine z_iload_n hF dJ7_fill_fda19_3 rfl ?_
  refine z_S (As := [.int (nI 60), .int (nI a), .int (nI b)]) (rest := []) (ws' := [(a0, eI G 60 f)]) (st2 := []) (c2 := 0) (s2 := 0) hF (c_J7_rangeCheck_23922 G 60 a b (by first | assumption | omega) (by first | assumption | omega) (by first | assumption | omega)) gJ7_fill_fda19_J7_rangeCheck_23922 rfl rfl rfl hs_J7_rangeCheck_23922 ⟨⟨Nat.le_of_ble_eq_true rfl, Nat.le_of_ble_eq_true rfl⟩, ⟨Nat.le_of_ble_eq_true rfl, Nat.le_of_ble_eq_true rfl⟩, Nat.le_of_ble_eq_true rfl⟩ [] rfl rfl rfl rfl rfl rfl rfl rfl rfl rfl dJ7_fill_fda19_4 ?_
  refine z_iload_n hF dJ7_fill_fda19_7 rfl ?_
  refine z_istore (lv' := [some (.ref a0), some (.int (nI a)), some (.int (nI b)), some (.int x), some (.int (nI a))]) hF dJ7_fill_fda19_8 rfl rfl ?_
  refine z_ws (ws' := [(a0, eI G 60 (filF f a a x))]) (by rw [filF_0 f x (Nat.le_refl a)]) ?_
  have J_10 : ∀ (n9 : Nat) (i : Nat), b - i < n9 → (a ≤ i) → (i ≤ b) → zJ G X 10 [(a0, eI G 60 (filF f a i x))] [some (.ref a0), some (.int (nI a)), some (.int (nI b)), some (.int x), some (.int (nI i))] [] 0 0 := by
    intro n9
    induction n9 with
    | zero => intro i hmu; exact absurd hmu (Nat.not_lt_zero _)
    | succ n9 ih =>
      intro i hmu h1 h2
      refine z_iload hF dJ7_fill_fda19_10 rfl ?_
      refine z_iload_n hF dJ7_fill_fda19_12 rfl ?_
      refine z_icn_ge (tgt := 27) hF (by omega) (by omega) dJ7_fill_fda19_13 (by decide) (fun c_1 => ?_) (fun c_1 => ?_)
      · exact hR.v dJ7_fill_fda19_27 (Nat.le_of_ble_eq_true rfl) (Nat.le_of_ble_eq_true rfl) (by rw [show i = b by omega])
      · refine z_aload_n hF dJ7_fill_fda19_16 rfl ?_
        refine z_iload hF dJ7_fill_fda19_17 rfl ?_
        refine z_iload_n hF dJ7_fill_fda19_19 rfl ?_
        refine z_iast (k := i) (ws' := [(a0, eI G 60 (upd (filF f a i x) i x))]) hF 0 rfl (rfl) (by omega) rfl rfl dJ7_fill_fda19_20 ?_
        refine z_ws (ws' := [(a0, eI G 60 (filF f a (i + 1) x))]) (by rw [filF_up f x (by omega)]) ?_
        refine z_iinc (v := nI (i + 1)) (lv' := [some (.ref a0), some (.int (nI a)), some (.int (nI b)), some (.int x), some (.int (nI (i + 1)))]) hF dJ7_fill_fda19_21 rfl (nI_1 i) rfl rfl ?_
        refine z_goto (tgt := 10) hF dJ7_fill_fda19_24 (by decide) ?_
        exact ih (i + 1) (by omega) (by omega) (by omega)
  exact J_10 ((b - a) + 1) a (Nat.lt_succ_self _) (by omega) (by omega)
set_option maxHeartbeats 4000000 in
set_option maxRecDepth 100000 in
theorem c_J6_bitCount_0f7a4 (G : zG) (x : Int32)  : zM G yJ6_bitCount_0f7a4 wsJ6_bitCount_0f7a4 ({ frames := 0, cells := 0, slots := 0, locals := 12 }) [.int x] [] [] (some (.int (bcF x))) 0 0 := by
  refine zM.ofI (own := RJ6) (cc := cJ6_bitCount_0f7a4) (maxL := 1) rfl (by decide) rfl rfl (by simp [Value.category]) (Nat.le_of_ble_eq_true rfl) ?_
  intro X hF hR
  have k_0 : zH X (.constant RJ6 265 (1431655765)) := hF.w (by decide +kernel)
  have k_1 : zH X (.constant RJ6 266 (858993459)) := hF.w (by decide +kernel)
  have k_2 : zH X (.constant RJ6 267 (252645135)) := hF.w (by decide +kernel)
  refine z_lv (lv' := [some (.int x)]) rfl ?_
  refine z_iload_n hF dJ6_bitCount_0f7a4_0 rfl ?_
  refine z_iload_n hF dJ6_bitCount_0f7a4_1 rfl ?_
  refine z_iconst (v := nI 1) hF dJ6_bitCount_0f7a4_2 (by decide) ?_
  refine z_iushr hF dJ6_bitCount_0f7a4_3 ?_
  refine z_ldcw (v := 1431655765) hF dJ6_bitCount_0f7a4_4 k_0 ?_
  refine z_iand hF dJ6_bitCount_0f7a4_7 ?_
  refine z_isub hF dJ6_bitCount_0f7a4_8 ?_
  refine z_nm (fun x1 e1 => ?_)
  refine z_istore_n (lv' := [some (.int x1)]) hF dJ6_bitCount_0f7a4_9 rfl rfl ?_
  refine z_iload_n hF dJ6_bitCount_0f7a4_10 rfl ?_
  refine z_ldcw (v := 858993459) hF dJ6_bitCount_0f7a4_11 k_1 ?_
  refine z_iand hF dJ6_bitCount_0f7a4_14 ?_
  refine z_iload_n hF dJ6_bitCount_0f7a4_15 rfl ?_
  refine z_iconst (v := nI 2) hF dJ6_bitCount_0f7a4_16 (by decide) ?_
  refine z_iushr hF dJ6_bitCount_0f7a4_17 ?_
  refine z_ldcw (v := 858993459) hF dJ6_bitCount_0f7a4_18 k_1 ?_
  refine z_iand hF dJ6_bitCount_0f7a4_21 ?_
  refine z_iadd hF dJ6_bitCount_0f7a4_22 ?_
  refine z_nm (fun x2 e2 => ?_)
  refine z_istore_n (lv' := [some (.int x2)]) hF dJ6_bitCount_0f7a4_23 rfl rfl ?_
  refine z_iload_n hF dJ6_bitCount_0f7a4_24 rfl ?_
  refine z_iload_n hF dJ6_bitCount_0f7a4_25 rfl ?_
  refine z_iconst (v := nI 4) hF dJ6_bitCount_0f7a4_26 (by decide) ?_
  refine z_iushr hF dJ6_bitCount_0f7a4_27 ?_
  refine z_iadd hF dJ6_bitCount_0f7a4_28 ?_
  refine z_ldcw (v := 252645135) hF dJ6_bitCount_0f7a4_29 k_2 ?_
  refine z_iand hF dJ6_bitCount_0f7a4_32 ?_
  refine z_nm (fun x3 e3 => ?_)
  refine z_istore_n (lv' := [some (.int x3)]) hF dJ6_bitCount_0f7a4_33 rfl rfl ?_
  refine z_iload_n hF dJ6_bitCount_0f7a4_34 rfl ?_
  refine z_iload_n hF dJ6_bitCount_0f7a4_35 rfl ?_
  refine z_bipush (v := nI 8) hF dJ6_bitCount_0f7a4_36 (by decide) ?_
  refine z_iushr hF dJ6_bitCount_0f7a4_38 ?_
  refine z_iadd hF dJ6_bitCount_0f7a4_39 ?_
  refine z_nm (fun x4 e4 => ?_)
  refine z_istore_n (lv' := [some (.int x4)]) hF dJ6_bitCount_0f7a4_40 rfl rfl ?_
  refine z_iload_n hF dJ6_bitCount_0f7a4_41 rfl ?_
  refine z_iload_n hF dJ6_bitCount_0f7a4_42 rfl ?_
  refine z_bipush (v := nI 16) hF dJ6_bitCount_0f7a4_43 (by decide) ?_
  refine z_iushr hF dJ6_bitCount_0f7a4_45 ?_
  refine z_iadd hF dJ6_bitCount_0f7a4_46 ?_
  refine z_istore_n (lv' := [some (.int (x4 + ((x4.toUInt32 >>> ((nI 16).toUInt32 &&& Int32.toUInt32 31)).toInt32)))]) hF dJ6_bitCount_0f7a4_47 rfl rfl ?_
  refine z_iload_n hF dJ6_bitCount_0f7a4_48 rfl ?_
  refine z_bipush (v := nI 63) hF dJ6_bitCount_0f7a4_49 (by decide) ?_
  refine z_iand hF dJ6_bitCount_0f7a4_51 ?_
  exact hR.i dJ6_bitCount_0f7a4_52 (Nat.le_of_ble_eq_true rfl) (Nat.le_of_ble_eq_true rfl) (rfl) (by rw [e4, e3, e2, e1]; rfl)
