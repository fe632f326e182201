set_option maxHeartbeats 4000000 in
set_option maxRecDepth 100000 in
theorem c_L_overlaps0 (G : zG) (ze zg zq n v m j i : Nat) (le xl xc xs B E : Nat → Int32) (hn : n ≤ 60) (hj : j ≤ 6) (hi : i < 6) (hij : i < j) (hRG : RGa n B E) (hE : LEa n le B E) (hB2 : ∀ i, 8 + j ≤ i → i < 14 → B i = -1) (hw : ∀ k, k < j → xs k = 0 → ¬ B (8 + k) = -1) (h0 : xs i = 0) : zM G yL_overlaps wsL_overlaps ({ frames := 0, cells := 0, slots := 0, locals := 12 }) [.int (nI i), .ref ze, .ref zg, .ref zq] [(ze, eI G 60 le), (zg, eI G 18 (gF xl xc xs)), (zq, eI G 4 (qF n v m j))] [(ze, eI G 60 le), (zg, eI G 18 (gF xl xc xs)), (zq, eI G 4 (qF n v m j))] (some (.int (ovF (fun kk => B (8 + kk)) (fun kk => E (8 + kk)) xs i j))) 0 0 := by
  refine zM.ofI (own := RL) (cc := cL_overlaps) (maxL := 6) rfl (by decide) rfl rfl (by simp [Value.category]) (Nat.le_of_ble_eq_true rfl) ?_
  intro X hF hR
  refine z_lv (lv' := [some (.int (nI i)), some (.ref ze), some (.ref zg), some (.ref zq), none, none]) rfl ?_
  refine z_iconst (v := nI 0) hF dL_overlaps_0 (by decide) ?_
  refine z_istore (lv' := [some (.int (nI i)), some (.ref ze), some (.ref zg), some (.ref zq), some (.int (nI 0)), none]) hF dL_overlaps_1 rfl rfl ?_
  refine z_iconst (v := nI 0) hF dL_overlaps_3 (by decide) ?_
  refine z_istore (lv' := [some (.int (nI i)), some (.ref ze), some (.ref zg), some (.ref zq), some (.int (nI 0)), some (.int (nI 0))]) hF dL_overlaps_4 rfl rfl ?_
  refine z_lv (lv' := [some (.int (nI i)), some (.ref ze), some (.ref zg), some (.ref zq), some (.int (cov (ovlP B E i 0) 6)), some (.int (nI 0))]) (by rw [← ovl_0 hn hi hRG]) ?_
  have J_6 : ∀ (n9 : Nat) (t : Nat), n - t < n9 → (t ≤ n) → zJ G X 6 [(ze, eI G 60 le), (zg, eI G 18 (gF xl xc xs)), (zq, eI G 4 (qF n v m j))] [some (.int (nI i)), some (.ref ze), some (.ref zg), some (.ref zq), some (.int (cov (ovlP B E i t) 6)), some (.int (nI t))] [] 0 0 := by
    intro n9
    induction n9 with
    | zero => intro t hmu; exact absurd hmu (Nat.not_lt_zero _)
    | succ n9 ih =>
      intro t hmu h2
      refine z_iload hF dL_overlaps_6 rfl ?_
      refine z_aload_n hF dL_overlaps_8 rfl ?_
      refine z_iconst (v := nI 0) hF dL_overlaps_9 (by decide) ?_
      refine z_iald (k := 0) hF 2 rfl (rfl) (by omega) rfl dL_overlaps_10 ?_
      refine z_top (y := nI n) (rfl) ?_
      refine z_icn_ge (tgt := 61) hF (by omega) (by omega) dL_overlaps_11 (by decide) (fun hge => ?_) (fun hge => ?_)
      · refine z_lv (lv' := [some (.int (nI i)), some (.ref ze), some (.ref zg), some (.ref zq), some (.int (cov (ovlP B E i n) 6)), some (.int (nI t))]) (by rw [show t = n by omega]) ?_
        refine z_iconst (v := nI 0) hF dL_overlaps_61 (by decide) ?_
        refine z_istore (lv' := [some (.int (nI i)), some (.ref ze), some (.ref zg), some (.ref zq), some (.int (cov (ovlP B E i n) 6)), some (.int (nI 0))]) hF dL_overlaps_62 rfl rfl ?_
        refine z_lv (lv' := [some (.int (nI i)), some (.ref ze), some (.ref zg), some (.ref zq), some (.int (cov (fun kk => ovlP B E i n kk ∧ (kk < 0 → ¬ kk = i ∧ xs kk = 0)) 6)), some (.int (nI 0))]) (by rw [ovd_0 (xs := xs)]) ?_
        have J_64 : ∀ (n9 : Nat) (t : Nat), j - t < n9 → (t ≤ j) → zJ G X 64 [(ze, eI G 60 le), (zg, eI G 18 (gF xl xc xs)), (zq, eI G 4 (qF n v m j))] [some (.int (nI i)), some (.ref ze), some (.ref zg), some (.ref zq), some (.int (cov (fun kk => ovlP B E i n kk ∧ (kk < t → ¬ kk = i ∧ xs kk = 0)) 6)), some (.int (nI t))] [] 0 0 := by
          intro n9
          induction n9 with
          | zero => intro t hmu; exact absurd hmu (Nat.not_lt_zero _)
          | succ n9 ih =>
            intro t hmu h2
            refine z_iload hF dL_overlaps_64 rfl ?_
            refine z_aload_n hF dL_overlaps_66 rfl ?_
            refine z_iconst (v := nI 3) hF dL_overlaps_67 (by decide) ?_
            refine z_iald (k := 3) hF 2 rfl (rfl) (by omega) rfl dL_overlaps_68 ?_
            refine z_top (y := nI j) (rfl) ?_
            refine z_icn_ge (tgt := 110) hF (by omega) (by omega) dL_overlaps_69 (by decide) (fun c_1 => ?_) (fun c_1 => ?_)
            · have ht9 : t = j := by omega
              refine z_iload hF dL_overlaps_110 rfl ?_
              exact hR.i dL_overlaps_112 (Nat.le_of_ble_eq_true rfl) (Nat.le_of_ble_eq_true rfl) (rfl) (by rw [ht9]; exact ovl_n hn hi hj hRG hB2 h0 hw hij)
            · refine z_iload hF dL_overlaps_72 rfl ?_
              refine z_iload hF dL_overlaps_74 rfl ?_
              refine z_iload_n hF dL_overlaps_76 rfl ?_
              refine z_icn_eq (tgt := 91) hF (by omega) (by omega) dL_overlaps_77 (by decide) (fun c_2 => ?_) (fun c_2 => ?_)
              · refine z_iconst (v := nI 1) hF dL_overlaps_91 (by decide) ?_
                refine z_iload hF dL_overlaps_92 rfl ?_
                refine z_ishl hF dL_overlaps_94 ?_
                refine z_iconst (v := -1) hF dL_overlaps_95 (by decide) ?_
                refine z_ixor hF dL_overlaps_96 ?_
                refine z_goto (tgt := 101) hF dL_overlaps_97 (by decide) ?_
                refine z_iand hF dL_overlaps_101 ?_
                refine z_top (y := cov (fun kk => ovlP B E i n kk ∧ (kk < (t + 1) → ¬ kk = i ∧ xs kk = 0)) 6) (ovd_t (by omega) (by grind)) ?_
                refine z_istore (lv' := [some (.int (nI i)), some (.ref ze), some (.ref zg), some (.ref zq), some (.int (cov (fun kk => ovlP B E i n kk ∧ (kk < (t + 1) → ¬ kk = i ∧ xs kk = 0)) 6)), some (.int (nI t))]) hF dL_overlaps_102 rfl rfl ?_
                refine z_iinc (v := nI (t + 1)) (lv' := [some (.int (nI i)), some (.ref ze), some (.ref zg), some (.ref zq), some (.int (cov (fun kk => ovlP B E i n kk ∧ (kk < (t + 1) → ¬ kk = i ∧ xs kk = 0)) 6)), some (.int (nI (t + 1)))]) hF dL_overlaps_104 rfl (nI_1 t) rfl rfl ?_
                refine z_goto (tgt := 64) hF dL_overlaps_107 (by decide) ?_
                exact ih (t + 1) (by omega) (by omega)
              · refine z_aload_n hF dL_overlaps_80 rfl ?_
                refine z_iconst (v := nI 3) hF dL_overlaps_81 (by decide) ?_
                refine z_iload hF dL_overlaps_82 rfl ?_
                refine z_imul hF dL_overlaps_84 ?_
                refine z_top (pk_mul 3 t) ?_
                refine z_iconst (v := nI 2) hF dL_overlaps_85 (by decide) ?_
                refine z_iadd hF dL_overlaps_86 ?_
                refine z_top (nI_add (3 * t) 2) ?_
                refine z_iald (k := 3 * t + 2) hF 1 rfl (rfl) (by omega) rfl dL_overlaps_87 ?_
                refine z_top (y := xs t) (gF_l2 _ _ _ _) ?_
                refine z_if_eq (tgt := 100) hF dL_overlaps_88 (by decide) (fun c_3 => ?_) (fun c_3 => ?_)
                · refine z_iconst (v := -1) hF dL_overlaps_100 (by decide) ?_
                  refine z_iand hF dL_overlaps_101 ?_
                  refine z_top (y := cov (fun kk => ovlP B E i n kk ∧ (kk < (t + 1) → ¬ kk = i ∧ xs kk = 0)) 6) (ovd_f (by assumption) (by grind)) ?_
                  refine z_istore (lv' := [some (.int (nI i)), some (.ref ze), some (.ref zg), some (.ref zq), some (.int (cov (fun kk => ovlP B E i n kk ∧ (kk < (t + 1) → ¬ kk = i ∧ xs kk = 0)) 6)), some (.int (nI t))]) hF dL_overlaps_102 rfl rfl ?_
                  refine z_iinc (v := nI (t + 1)) (lv' := [some (.int (nI i)), some (.ref ze), some (.ref zg), some (.ref zq), some (.int (cov (fun kk => ovlP B E i n kk ∧ (kk < (t + 1) → ¬ kk = i ∧ xs kk = 0)) 6)), some (.int (nI (t + 1)))]) hF dL_overlaps_104 rfl (nI_1 t) rfl rfl ?_
                  refine z_goto (tgt := 64) hF dL_overlaps_107 (by decide) ?_
                  exact ih (t + 1) (by omega) (by omega)
                · refine z_iconst (v := nI 1) hF dL_overlaps_91 (by decide) ?_
                  refine z_iload hF dL_overlaps_92 rfl ?_
                  refine z_ishl hF dL_overlaps_94 ?_
                  refine z_iconst (v := -1) hF dL_overlaps_95 (by decide) ?_
                  refine z_ixor hF dL_overlaps_96 ?_
                  refine z_goto (tgt := 101) hF dL_overlaps_97 (by decide) ?_
                  refine z_iand hF dL_overlaps_101 ?_
                  refine z_top (y := cov (fun kk => ovlP B E i n kk ∧ (kk < (t + 1) → ¬ kk = i ∧ xs kk = 0)) 6) (ovd_t (by omega) (by grind)) ?_
                  refine z_istore (lv' := [some (.int (nI i)), some (.ref ze), some (.ref zg), some (.ref zq), some (.int (cov (fun kk => ovlP B E i n kk ∧ (kk < (t + 1) → ¬ kk = i ∧ xs kk = 0)) 6)), some (.int (nI t))]) hF dL_overlaps_102 rfl rfl ?_
                  refine z_iinc (v := nI (t + 1)) (lv' := [some (.int (nI i)), some (.ref ze), some (.ref zg), some (.ref zq), some (.int (cov (fun kk => ovlP B E i n kk ∧ (kk < (t + 1) → ¬ kk = i ∧ xs kk = 0)) 6)), some (.int (nI (t + 1)))]) hF dL_overlaps_104 rfl (nI_1 t) rfl rfl ?_
                  refine z_goto (tgt := 64) hF dL_overlaps_107 (by decide) ?_
                  exact ih (t + 1) (by omega) (by omega)
        exact J_64 ((j - 0) + 1) 0 (Nat.lt_succ_self _) (by omega)
      · refine z_aload_n hF dL_overlaps_14 rfl ?_
        refine z_iconst (v := nI 3) hF dL_overlaps_15 (by decide) ?_
        refine z_iload_n hF dL_overlaps_16 rfl ?_
        refine z_imul hF dL_overlaps_17 ?_
        refine z_top (pk_mul 3 i) ?_
        refine z_iconst (v := nI 2) hF dL_overlaps_18 (by decide) ?_
        refine z_iadd hF dL_overlaps_19 ?_
        refine z_top (nI_add (3 * i) 2) ?_
        refine z_iald (k := 3 * i + 2) hF 1 rfl (rfl) (by omega) rfl dL_overlaps_20 ?_
        refine z_top (y := xs i) (gF_l2 _ _ _ _) ?_
        refine z_if_ne (tgt := 61) hF dL_overlaps_21 (by decide) (fun c_4 => absurd c_4 (not_not_intro h0)) (fun c_4 => ?_)
        refine z_iload hF dL_overlaps_24 rfl ?_
        refine z_aload_n hF dL_overlaps_26 rfl ?_
        refine z_iload hF dL_overlaps_27 rfl ?_
        refine z_iald (k := t) hF 0 rfl (rfl) (by omega) rfl dL_overlaps_29 ?_
        refine z_top (y := covF B E 14 (nI t)) (hE t (by omega)) ?_
        refine z_bipush (v := nI 8) hF dL_overlaps_30 (by decide) ?_
        refine z_iload_n hF dL_overlaps_32 rfl ?_
        refine z_iadd hF dL_overlaps_33 ?_
        refine z_top (nI_add 8 i) ?_
        refine z_ishr hF dL_overlaps_34 ?_
        refine z_iconst (v := nI 1) hF dL_overlaps_35 (by decide) ?_
        refine z_iand hF dL_overlaps_36 ?_
        refine z_top (y := zb (B (8 + i) ≤ nI t ∧ nI t < E (8 + i))) (covF_tb (by omega)) ?_
        refine z_iconst (v := nI 1) hF dL_overlaps_37 (by decide) ?_
        refine z_ic_ne (tgt := 51) hF dL_overlaps_38 (by decide) (fun h5 => ?_) (fun h5 => ?_)
        · have h51 : ¬ (B (8 + i) ≤ nI t ∧ nI t < E (8 + i)) := fun z => h5 (zb_is1.mpr z)
          refine z_iconst (v := nI 0) hF dL_overlaps_51 (by decide) ?_
          refine z_ior hF dL_overlaps_52 ?_
          refine z_top (y := cov (ovlP B E i (t + 1)) 6) (by rw [or_0]; exact ovl_f hn (by omega) hi hRG h51) ?_
          refine z_istore (lv' := [some (.int (nI i)), some (.ref ze), some (.ref zg), some (.ref zq), some (.int (cov (ovlP B E i (t + 1)) 6)), some (.int (nI t))]) hF dL_overlaps_53 rfl rfl ?_
          refine z_iinc (v := nI (t + 1)) (lv' := [some (.int (nI i)), some (.ref ze), some (.ref zg), some (.ref zq), some (.int (cov (ovlP B E i (t + 1)) 6)), some (.int (nI (t + 1)))]) hF dL_overlaps_55 rfl (nI_1 t) rfl rfl ?_
          refine z_goto (tgt := 6) hF dL_overlaps_58 (by decide) ?_
          exact ih (t + 1) (by omega) (by omega)
        · have h52 := zb_is1.mp h5
          refine z_aload_n hF dL_overlaps_41 rfl ?_
          refine z_iload hF dL_overlaps_42 rfl ?_
          refine z_iald (k := t) hF 0 rfl (rfl) (by omega) rfl dL_overlaps_44 ?_
          refine z_top (y := covF B E 14 (nI t)) (hE t (by omega)) ?_
          refine z_bipush (v := nI 8) hF dL_overlaps_45 (by decide) ?_
          refine z_ishr hF dL_overlaps_47 ?_
          refine z_goto (tgt := 52) hF dL_overlaps_48 (by decide) ?_
          refine z_ior hF dL_overlaps_52 ?_
          refine z_top (y := cov (ovlP B E i (t + 1)) 6) (ovl_t hn (by omega) hi hRG h52) ?_
          refine z_istore (lv' := [some (.int (nI i)), some (.ref ze), some (.ref zg), some (.ref zq), some (.int (cov (ovlP B E i (t + 1)) 6)), some (.int (nI t))]) hF dL_overlaps_53 rfl rfl ?_
          refine z_iinc (v := nI (t + 1)) (lv' := [some (.int (nI i)), some (.ref ze), some (.ref zg), some (.ref zq), some (.int (cov (ovlP B E i (t + 1)) 6)), some (.int (nI (t + 1)))]) hF dL_overlaps_55 rfl (nI_1 t) rfl rfl ?_
          refine z_goto (tgt := 6) hF dL_overlaps_58 (by decide) ?_
          exact ih (t + 1) (by omega) (by omega)
  exact J_6 ((n - 0) + 1) 0 (Nat.lt_succ_self _) (by omega)
set_option maxHeartbeats 4000000 in
set_option maxRecDepth 100000 in
theorem c_L_overlaps1 (G : zG) (ze zg zq n v m j i : Nat) (le xl xc xs B E : Nat → Int32) (hn : n ≤ 60) (hj : j ≤ 6) (hi : i < 6) (hij : i < j) (hRG : RGa n B E) (hE : LEa n le B E) (hB2 : ∀ i, 8 + j ≤ i → i < 14 → B i = -1) (hw : ∀ k, k < j → xs k = 0 → ¬ B (8 + k) = -1) (h0 : ¬ xs i = 0) : zM G yL_overlaps wsL_overlaps ({ frames := 0, cells := 0, slots := 0, locals := 12 }) [.int (nI i), .ref ze, .ref zg, .ref zq] [(ze, eI G 60 le), (zg, eI G 18 (gF xl xc xs)), (zq, eI G 4 (qF n v m j))] [(ze, eI G 60 le), (zg, eI G 18 (gF xl xc xs)), (zq, eI G 4 (qF n v m j))] (some (.int (nI 0))) 0 0 := by
  refine zM.ofI (own := RL) (cc := cL_overlaps) (maxL := 6) rfl (by decide) rfl rfl (by simp [Value.category]) (Nat.le_of_ble_eq_true rfl) ?_
  intro X hF hR
  refine z_lv (lv' := [some (.int (nI i)), some (.ref ze), some (.ref zg), some (.ref zq), none, none]) rfl ?_
  have J_61 : zJ G X 61 [(ze, eI G 60 le), (zg, eI G 18 (gF xl xc xs)), (zq, eI G 4 (qF n v m j))] [some (.int (nI i)), some (.ref ze), some (.ref zg), some (.ref zq), some (.int (nI 0)), none] [] 0 0 := by
    refine z_iconst (v := nI 0) hF dL_overlaps_61 (by decide) ?_
    refine z_istore (lv' := [some (.int (nI i)), some (.ref ze), some (.ref zg), some (.ref zq), some (.int (nI 0)), some (.int (nI 0))]) hF dL_overlaps_62 rfl rfl ?_
    have J_64 : ∀ (n9 : Nat) (t : Nat), j - t < n9 → (t ≤ j) → zJ G X 64 [(ze, eI G 60 le), (zg, eI G 18 (gF xl xc xs)), (zq, eI G 4 (qF n v m j))] [some (.int (nI i)), some (.ref ze), some (.ref zg), some (.ref zq), some (.int (nI 0)), some (.int (nI t))] [] 0 0 := by
      intro n9
      induction n9 with
      | zero => intro t hmu; exact absurd hmu (Nat.not_lt_zero _)
      | succ n9 ih =>
        intro t hmu h2
        refine z_iload hF dL_overlaps_64 rfl ?_
        refine z_aload_n hF dL_overlaps_66 rfl ?_
        refine z_iconst (v := nI 3) hF dL_overlaps_67 (by decide) ?_
        refine z_iald (k := 3) hF 2 rfl (rfl) (by omega) rfl dL_overlaps_68 ?_
        refine z_top (y := nI j) (rfl) ?_
        refine z_icn_ge (tgt := 110) hF (by omega) (by omega) dL_overlaps_69 (by decide) (fun c_1 => ?_) (fun c_1 => ?_)
        · refine z_iload hF dL_overlaps_110 rfl ?_
          exact hR.i dL_overlaps_112 (Nat.le_of_ble_eq_true rfl) (Nat.le_of_ble_eq_true rfl) (rfl) (rfl)
        · refine z_iload hF dL_overlaps_72 rfl ?_
          refine z_iload hF dL_overlaps_74 rfl ?_
          refine z_iload_n hF dL_overlaps_76 rfl ?_
          refine z_icn_eq (tgt := 91) hF (by omega) (by omega) dL_overlaps_77 (by decide) (fun c_2 => ?_) (fun c_2 => ?_)
          · refine z_iconst (v := nI 1) hF dL_overlaps_91 (by decide) ?_
            refine z_iload hF dL_overlaps_92 rfl ?_
            refine z_ishl hF dL_overlaps_94 ?_
            refine z_iconst (v := -1) hF dL_overlaps_95 (by decide) ?_
            refine z_ixor hF dL_overlaps_96 ?_
            refine z_goto (tgt := 101) hF dL_overlaps_97 (by decide) ?_
            refine z_iand hF dL_overlaps_101 ?_
            refine z_top (y := nI 0) (z_and _) ?_
            refine z_istore (lv' := [some (.int (nI i)), some (.ref ze), some (.ref zg), some (.ref zq), some (.int (nI 0)), some (.int (nI t))]) hF dL_overlaps_102 rfl rfl ?_
            refine z_iinc (v := nI (t + 1)) (lv' := [some (.int (nI i)), some (.ref ze), some (.ref zg), some (.ref zq), some (.int (nI 0)), some (.int (nI (t + 1)))]) hF dL_overlaps_104 rfl (nI_1 t) rfl rfl ?_
            refine z_goto (tgt := 64) hF dL_overlaps_107 (by decide) ?_
            exact ih (t + 1) (by omega) (by omega)
          · refine z_aload_n hF dL_overlaps_80 rfl ?_
            refine z_iconst (v := nI 3) hF dL_overlaps_81 (by decide) ?_
            refine z_iload hF dL_overlaps_82 rfl ?_
            refine z_imul hF dL_overlaps_84 ?_
            refine z_top (pk_mul 3 t) ?_
            refine z_iconst (v := nI 2) hF dL_overlaps_85 (by decide) ?_
            refine z_iadd hF dL_overlaps_86 ?_
            refine z_top (nI_add (3 * t) 2) ?_
            refine z_iald (k := 3 * t + 2) hF 1 rfl (rfl) (by omega) rfl dL_overlaps_87 ?_
            refine z_top (y := xs t) (gF_l2 _ _ _ _) ?_
            refine z_if_eq (tgt := 100) hF dL_overlaps_88 (by decide) (fun c_3 => ?_) (fun c_3 => ?_)
            · refine z_iconst (v := -1) hF dL_overlaps_100 (by decide) ?_
              refine z_iand hF dL_overlaps_101 ?_
              refine z_top (y := nI 0) (z_and _) ?_
              refine z_istore (lv' := [some (.int (nI i)), some (.ref ze), some (.ref zg), some (.ref zq), some (.int (nI 0)), some (.int (nI t))]) hF dL_overlaps_102 rfl rfl ?_
              refine z_iinc (v := nI (t + 1)) (lv' := [some (.int (nI i)), some (.ref ze), some (.ref zg), some (.ref zq), some (.int (nI 0)), some (.int (nI (t + 1)))]) hF dL_overlaps_104 rfl (nI_1 t) rfl rfl ?_
              refine z_goto (tgt := 64) hF dL_overlaps_107 (by decide) ?_
              exact ih (t + 1) (by omega) (by omega)
            · refine z_iconst (v := nI 1) hF dL_overlaps_91 (by decide) ?_
              refine z_iload hF dL_overlaps_92 rfl ?_
              refine z_ishl hF dL_overlaps_94 ?_
              refine z_iconst (v := -1) hF dL_overlaps_95 (by decide) ?_
              refine z_ixor hF dL_overlaps_96 ?_
              refine z_goto (tgt := 101) hF dL_overlaps_97 (by decide) ?_
              refine z_iand hF dL_overlaps_101 ?_
              refine z_top (y := nI 0) (z_and _) ?_
              refine z_istore (lv' := [some (.int (nI i)), some (.ref ze), some (.ref zg), some (.ref zq), some (.int (nI 0)), some (.int (nI t))]) hF dL_overlaps_102 rfl rfl ?_
              refine z_iinc (v := nI (t + 1)) (lv' := [some (.int (nI i)), some (.ref ze), some (.ref zg), some (.ref zq), some (.int (nI 0)), some (.int (nI (t + 1)))]) hF dL_overlaps_104 rfl (nI_1 t) rfl rfl ?_
              refine z_goto (tgt := 64) hF dL_overlaps_107 (by decide) ?_
              exact ih (t + 1) (by omega) (by omega)
    exact J_64 ((j - 0) + 1) 0 (Nat.lt_succ_self _) (by omega)
  refine z_iconst (v := nI 0) hF dL_overlaps_0 (by decide) ?_
  refine z_istore (lv' := [some (.int (nI i)), some (.ref ze), some (.ref zg), some (.ref zq), some (.int (nI 0)), none]) hF dL_overlaps_1 rfl rfl ?_
  refine z_iconst (v := nI 0) hF dL_overlaps_3 (by decide) ?_
  refine z_istore (lv' := [some (.int (nI i)), some (.ref ze), some (.ref zg), some (.ref zq), some (.int (nI 0)), some (.int (nI 0))]) hF dL_overlaps_4 rfl rfl ?_
  refine z_iload hF dL_overlaps_6 rfl ?_
  refine z_aload_n hF dL_overlaps_8 rfl ?_
  refine z_iconst (v := nI 0) hF dL_overlaps_9 (by decide) ?_
  refine z_iald (k := 0) hF 2 rfl (rfl) (by omega) rfl dL_overlaps_10 ?_
  refine z_top (y := nI n) (rfl) ?_
  refine z_icn_ge (tgt := 61) hF (by omega) (by omega) dL_overlaps_11 (by decide) (fun c_4 => ?_) (fun c_4 => ?_)
  · refine z_forget (lv' := [some (.int (nI i)), some (.ref ze), some (.ref zg), some (.ref zq), some (.int (nI 0)), none]) ⟨rfl, ⟨rfl, ⟨rfl, ⟨rfl, ⟨rfl, trivial⟩⟩⟩⟩⟩ ?_
    exact J_61  
  · refine z_aload_n hF dL_overlaps_14 rfl ?_
    refine z_iconst (v := nI 3) hF dL_overlaps_15 (by decide) ?_
    refine z_iload_n hF dL_overlaps_16 rfl ?_
    refine z_imul hF dL_overlaps_17 ?_
    refine z_top (pk_mul 3 i) ?_
    refine z_iconst (v := nI 2) hF dL_overlaps_18 (by decide) ?_
    refine z_iadd hF dL_overlaps_19 ?_
    refine z_top (nI_add (3 * i) 2) ?_
    refine z_iald (k := 3 * i + 2) hF 1 rfl (rfl) (by omega) rfl dL_overlaps_20 ?_
    refine z_top (y := xs i) (gF_l2 _ _ _ _) ?_
    refine z_if_ne (tgt := 61) hF dL_overlaps_21 (by decide) (fun c_5 => ?_) (fun c_5 => absurd c_5 (h0))
    refine z_forget (lv' := [some (.int (nI i)), some (.ref ze), some (.ref zg), some (.ref zq), some (.int (nI 0)), none]) ⟨rfl, ⟨rfl, ⟨rfl, ⟨rfl, ⟨rfl, trivial⟩⟩⟩⟩⟩ ?_
    exact J_61  
