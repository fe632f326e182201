set_option maxHeartbeats 4000000 in
set_option maxRecDepth 100000 in
theorem c_L_finds1 (G : zG) (zd ze zc zk zt zq n v m j i z : Nat) (f le s op an ql qs qa qb lt B E : Nat → Int32) (hn : n ≤ 60) (hm : m ≤ 6) (hv : v ≤ 300) (him : i < m) (hRG : RGa n B E) (hE : LEa n le B E) (hB0 : ∀ i, m ≤ i → i < 8 → B i = -1) (hb : B i = -1) (hz : qs i = nI z) (hz1 : 1 ≤ z) (hz8 : z ≤ 8) (h0 : ¬ bfF n z i ql qa qb f = -1) : zM G yL_finds wsL_finds ({ frames := 3, cells := 0, slots := 0, locals := 81 }) [.int (nI i), .ref zd, .ref ze, .ref zc, .ref zk, .ref zt, .ref zq] [(zd, eI G 60 f), (ze, eI G 60 le), (zc, eI G 36 (cF s op an qs qa qb)), (zk, eI G 48 (kF ql)), (zt, eI G 64 lt), (zq, eI G 4 (qF n v m j))] [(zd, eI G 60 f), (ze, eI G 60 (mrkF le (bfF n z i ql qa qb f).toNatClampNeg ((bfF n z i ql qa qb f).toNatClampNeg + z) (bitF (nI i)))), (zc, eI G 36 (cF s op an qs qa qb)), (zk, eI G 48 (kF ql)), (zt, eI G 64 (wrF lt (8 * (v % 8)) 8 (fun kk => numF ((upd B i (nI (bfF n z i ql qa qb f).toNatClampNeg)) kk) ((upd E i (nI ((bfF n z i ql qa qb f).toNatClampNeg + z))) kk)))), (zq, eI G 4 (qF n v m j))] (some (.int (bfF n z i ql qa qb f))) 0 0 := by
  refine zM.ofI (own := RL) (cc := cL_finds) (maxL := 14) rfl (by decide) rfl rfl (by simp [Value.category]) (Nat.le_of_ble_eq_true rfl) ?_
  intro X hF hR
  refine z_lv (lv' := [some (.int (nI i)), some (.ref zd), some (.ref ze), some (.ref zc), some (.ref zk), some (.ref zt), some (.ref zq), none, none, none, none, none, none, none]) rfl ?_
  refine z_iload_n hF dL_finds_0 rfl ?_
  refine z_aload_n hF dL_finds_1 rfl ?_
  refine z_aload hF dL_finds_2 rfl ?_
  refine z_S (As := [.int (nI i), .ref ze, .ref zq]) (rest := []) (ws' := [(zd, eI G 60 f), (ze, eI G 60 le), (zc, eI G 36 (cF s op an qs qa qb)), (zk, eI G 48 (kF ql)), (zt, eI G 64 lt), (zq, eI G 4 (qF n v m j))]) (st2 := [.int (numF (B i) (E i))]) (c2 := 0) (s2 := 0) hF (c_L_range G ze zq n v m j i le B E (by first | assumption | omega) (by first | assumption | omega) (by first | assumption | omega) (by first | assumption | omega)) gL_finds_L_range rfl rfl rfl hs_L_range ⟨⟨Nat.le_of_ble_eq_true rfl, Nat.le_of_ble_eq_true rfl⟩, ⟨Nat.le_of_ble_eq_true rfl, Nat.le_of_ble_eq_true rfl⟩, Nat.le_of_ble_eq_true rfl⟩ [1, 5] rfl rfl rfl rfl rfl rfl rfl rfl rfl rfl dL_finds_4 ?_
  refine z_if_lt (tgt := 13) hF dL_finds_7 (by decide) (fun h7 => ?_) (fun h7 => absurd h7 (not_not_intro ((num_dec hn (hRG i (by omega))).1.mpr hb)))
  refine z_iconst (v := -1) hF dL_finds_13 (by decide) ?_
  refine z_istore (lv' := [some (.int (nI i)), some (.ref zd), some (.ref ze), some (.ref zc), some (.ref zk), some (.ref zt), some (.ref zq), some (.int (-1)), none, none, none, none, none, none]) hF dL_finds_14 rfl rfl ?_
  refine z_iconst (v := -1) hF dL_finds_16 (by decide) ?_
  refine z_istore (lv' := [some (.int (nI i)), some (.ref zd), some (.ref ze), some (.ref zc), some (.ref zk), some (.ref zt), some (.ref zq), some (.int (-1)), some (.int (-1)), none, none, none, none, none]) hF dL_finds_17 rfl rfl ?_
  refine z_aload_n hF dL_finds_19 rfl ?_
  refine z_bipush (v := nI 6) hF dL_finds_20 (by decide) ?_
  refine z_iload_n hF dL_finds_22 rfl ?_
  refine z_imul hF dL_finds_23 ?_
  refine z_top (pk_mul 6 i) ?_
  refine z_iconst (v := nI 3) hF dL_finds_24 (by decide) ?_
  refine z_iadd hF dL_finds_25 ?_
  refine z_top (nI_add (6 * i) 3) ?_
  refine z_iald (k := 6 * i + 3) hF 2 rfl (rfl) (by omega) rfl dL_finds_26 ?_
  refine z_top (y := qs i) (cF_l3 _ _ _ _ _ _ _) ?_
  refine z_istore (lv' := [some (.int (nI i)), some (.ref zd), some (.ref ze), some (.ref zc), some (.ref zk), some (.ref zt), some (.ref zq), some (.int (-1)), some (.int (-1)), some (.int (qs i)), none, none, none, none]) hF dL_finds_27 rfl rfl ?_
  refine z_lv (lv' := [some (.int (nI i)), some (.ref zd), some (.ref ze), some (.ref zc), some (.ref zk), some (.ref zt), some (.ref zq), some (.int (-1)), some (.int (-1)), some (.int (nI z)), none, none, none, none]) (by rw [hz]) ?_
  refine z_aload hF dL_finds_29 rfl ?_
  refine z_iconst (v := nI 0) hF dL_finds_31 (by decide) ?_
  refine z_iald (k := 0) hF 5 rfl (rfl) (by omega) rfl dL_finds_32 ?_
  refine z_top (y := nI n) (rfl) ?_
  refine z_iload hF dL_finds_33 rfl ?_
  refine z_isub hF dL_finds_35 ?_
  refine z_istore (lv' := [some (.int (nI i)), some (.ref zd), some (.ref ze), some (.ref zc), some (.ref zk), some (.ref zt), some (.ref zq), some (.int (-1)), some (.int (-1)), some (.int (nI z)), some (.int ((nI n) - (nI z))), none, none, none]) hF dL_finds_36 rfl rfl ?_
  refine z_lv (lv' := [some (.int (nI i)), some (.ref zd), some (.ref ze), some (.ref zc), some (.ref zk), some (.ref zt), some (.ref zq), some (.int ((dsF (fdS z i ql f) (fdF n z i qa qb f) (n + 1 - z) 0).1)), some (.int (-1)), some (.int (nI z)), some (.int ((nI n) - (nI z))), none, none, none]) (by rfl) ?_
  refine z_lv (lv' := [some (.int (nI i)), some (.ref zd), some (.ref ze), some (.ref zc), some (.ref zk), some (.ref zt), some (.ref zq), some (.int ((dsF (fdS z i ql f) (fdF n z i qa qb f) (n + 1 - z) 0).1)), some (.int ((dsF (fdS z i ql f) (fdF n z i qa qb f) (n + 1 - z) 0).2)), some (.int (nI z)), some (.int ((nI n) - (nI z))), none, none, none]) (by rfl) ?_
  have J_38 : ∀ (n9 : Nat) (d : Nat) (pp : Int32), n + 1 - z - d < n9 → (d ≤ n + 1 - z) → (pp = nI (n + 1 - z - d) - nI 1 ∨ (pp < 0 ∧ d = n + 1 - z)) → zJ G X 38 [(zd, eI G 60 f), (ze, eI G 60 le), (zc, eI G 36 (cF s op an qs qa qb)), (zk, eI G 48 (kF ql)), (zt, eI G 64 lt), (zq, eI G 4 (qF n v m j))] [some (.int (nI i)), some (.ref zd), some (.ref ze), some (.ref zc), some (.ref zk), some (.ref zt), some (.ref zq), some (.int ((dsF (fdS z i ql f) (fdF n z i qa qb f) (n + 1 - z) d).1)), some (.int ((dsF (fdS z i ql f) (fdF n z i qa qb f) (n + 1 - z) d).2)), some (.int (nI z)), some (.int pp), none, none, none] [] 0 0 := by
    intro n9
    induction n9 with
    | zero => intro d pp hmu; exact absurd hmu (Nat.not_lt_zero _)
    | succ n9 ih_38 =>
      intro d pp hmu hd hpp
      refine z_iload hF dL_finds_38 rfl ?_
      refine z_if_lt (tgt := 227) hF dL_finds_40 (by decide) (fun h40 => ?_) (fun h40 => ?_)
      · have hd9 : d = n + 1 - z := fnd_e hn hd hpp h40
        have hbf := bfF_nat hn h0
        refine z_lv (lv' := [some (.int (nI i)), some (.ref zd), some (.ref ze), some (.ref zc), some (.ref zk), some (.ref zt), some (.ref zq), some (.int (nI ((bfF n z i ql qa qb f).toNatClampNeg))), some (.int ((dsF (fdS z i ql f) (fdF n z i qa qb f) (n + 1 - z) d).2)), some (.int (nI z)), some (.int pp), none, none, none]) (by rw [hd9, find_ds hn, ← hbf.1]) ?_
        refine z_iconst (v := nI 0) hF dL_finds_227 (by decide) ?_
        refine z_istore (lv' := [some (.int (nI i)), some (.ref zd), some (.ref ze), some (.ref zc), some (.ref zk), some (.ref zt), some (.ref zq), some (.int (nI ((bfF n z i ql qa qb f).toNatClampNeg))), some (.int ((dsF (fdS z i ql f) (fdF n z i qa qb f) (n + 1 - z) d).2)), some (.int (nI z)), some (.int (nI 0)), none, none, none]) hF dL_finds_228 rfl rfl ?_
        refine z_ws (ws' := [(zd, eI G 60 f), (ze, eI G 60 (mrkF le (bfF n z i ql qa qb f).toNatClampNeg ((bfF n z i ql qa qb f).toNatClampNeg + 0) (bitF (nI i)))), (zc, eI G 36 (cF s op an qs qa qb)), (zk, eI G 48 (kF ql)), (zt, eI G 64 lt), (zq, eI G 4 (qF n v m j))]) (by rw [mrkF_0 le _ (by omega)]) ?_
        have J_230 : ∀ (n9 : Nat) (t : Nat), z - t < n9 → (t ≤ z) → zJ G X 230 [(zd, eI G 60 f), (ze, eI G 60 (mrkF le (bfF n z i ql qa qb f).toNatClampNeg ((bfF n z i ql qa qb f).toNatClampNeg + t) (bitF (nI i)))), (zc, eI G 36 (cF s op an qs qa qb)), (zk, eI G 48 (kF ql)), (zt, eI G 64 lt), (zq, eI G 4 (qF n v m j))] [some (.int (nI i)), some (.ref zd), some (.ref ze), some (.ref zc), some (.ref zk), some (.ref zt), some (.ref zq), some (.int (nI ((bfF n z i ql qa qb f).toNatClampNeg))), some (.int ((dsF (fdS z i ql f) (fdF n z i qa qb f) (n + 1 - z) d).2)), some (.int (nI z)), some (.int (nI t)), none, none, none] [] 0 0 := by
          intro n9
          induction n9 with
          | zero => intro t hmu; exact absurd hmu (Nat.not_lt_zero _)
          | succ n9 ih_230 =>
            intro t hmu h2
            refine z_iload hF dL_finds_230 rfl ?_
            refine z_iload hF dL_finds_232 rfl ?_
            refine z_icn_ge (tgt := 261) hF (by omega) (by omega) dL_finds_234 (by decide) (fun c_1 => ?_) (fun c_1 => ?_)
            · refine z_ws (ws' := [(zd, eI G 60 f), (ze, eI G 60 (mrkF le (bfF n z i ql qa qb f).toNatClampNeg ((bfF n z i ql qa qb f).toNatClampNeg + z) (bitF (nI i)))), (zc, eI G 36 (cF s op an qs qa qb)), (zk, eI G 48 (kF ql)), (zt, eI G 64 lt), (zq, eI G 4 (qF n v m j))]) (by rw [show t = z by omega]) ?_
              refine z_aload_n hF dL_finds_261 rfl ?_
              refine z_aload hF dL_finds_262 rfl ?_
              refine z_aload hF dL_finds_264 rfl ?_
              refine z_S (As := [.ref ze, .ref zt, .ref zq]) (rest := []) (ws' := [(zd, eI G 60 f), (ze, eI G 60 (mrkF le (bfF n z i ql qa qb f).toNatClampNeg ((bfF n z i ql qa qb f).toNatClampNeg + z) (bitF (nI i)))), (zc, eI G 36 (cF s op an qs qa qb)), (zk, eI G 48 (kF ql)), (zt, eI G 64 (wrF lt (8 * (v % 8)) 8 (fun kk => numF ((upd B i (nI (bfF n z i ql qa qb f).toNatClampNeg)) kk) ((upd E i (nI ((bfF n z i ql qa qb f).toNatClampNeg + z))) kk)))), (zq, eI G 4 (qF n v m j))]) (st2 := []) (c2 := 0) (s2 := 0) hF (c_L_keeps G ze zt zq n v m j (mrkF le (bfF n z i ql qa qb f).toNatClampNeg ((bfF n z i ql qa qb f).toNatClampNeg + z) (bitF (nI i))) lt (upd B i (nI (bfF n z i ql qa qb f).toNatClampNeg)) (upd E i (nI ((bfF n z i ql qa qb f).toNatClampNeg + z))) (by first | assumption | omega) (by first | assumption | omega) (by first | assumption | omega) (rg_upd hRG (by omega) hbf.2) (le_mark hn (by omega) hRG hE hb hbf.2 (by omega)) (fun i1 h1 h2 => by rw [upd_ne _ _ (by omega)]; exact hB0 i1 h1 h2)) gL_finds_L_keeps rfl rfl rfl hs_L_keeps ⟨⟨Nat.le_of_ble_eq_true rfl, Nat.le_of_ble_eq_true rfl⟩, ⟨Nat.le_of_ble_eq_true rfl, Nat.le_of_ble_eq_true rfl⟩, Nat.le_of_ble_eq_true rfl⟩ [1, 4, 5] rfl rfl rfl rfl rfl rfl rfl rfl rfl rfl dL_finds_266 ?_
              refine z_iload hF dL_finds_269 rfl ?_
              exact hR.i dL_finds_271 (Nat.le_of_ble_eq_true rfl) (Nat.le_of_ble_eq_true rfl) (rfl) (hbf.1.symm)
            · refine z_iload hF dL_finds_237 rfl ?_
              refine z_if_lt (tgt := 261) hF dL_finds_239 (by decide) (fun c_2 => absurd c_2 (Int32.not_lt.mpr (nI_pos' (by omega)))) (fun c_2 => ?_)
              refine z_aload_n hF dL_finds_242 rfl ?_
              refine z_iload hF dL_finds_243 rfl ?_
              refine z_iload hF dL_finds_245 rfl ?_
              refine z_iadd hF dL_finds_247 ?_
              refine z_top (nI_add ((bfF n z i ql qa qb f).toNatClampNeg) t) ?_
              refine z_dup2 hF dL_finds_248 rfl rfl ?_
              refine z_iald (k := (bfF n z i ql qa qb f).toNatClampNeg + t) hF 1 rfl (rfl) (by omega) rfl dL_finds_249 ?_
              refine z_top (y := le ((bfF n z i ql qa qb f).toNatClampNeg + t)) (mrkF_at le _ _ _) ?_
              refine z_iconst (v := nI 1) hF dL_finds_250 (by decide) ?_
              refine z_iload_n hF dL_finds_251 rfl ?_
              refine z_ishl hF dL_finds_252 ?_
              refine z_top (y := bitF (nI i)) rfl ?_
              refine z_ior hF dL_finds_253 ?_
              refine z_iast (k := (bfF n z i ql qa qb f).toNatClampNeg + t) (ws' := [(zd, eI G 60 f), (ze, eI G 60 (upd (mrkF le (bfF n z i ql qa qb f).toNatClampNeg ((bfF n z i ql qa qb f).toNatClampNeg + t) (bitF (nI i))) ((bfF n z i ql qa qb f).toNatClampNeg + t) ((le ((bfF n z i ql qa qb f).toNatClampNeg + t)) ||| (bitF (nI i))))), (zc, eI G 36 (cF s op an qs qa qb)), (zk, eI G 48 (kF ql)), (zt, eI G 64 lt), (zq, eI G 4 (qF n v m j))]) hF 1 rfl (rfl) (by omega) rfl rfl dL_finds_254 ?_
              refine z_ws (ws' := [(zd, eI G 60 f), (ze, eI G 60 (mrkF le (bfF n z i ql qa qb f).toNatClampNeg ((bfF n z i ql qa qb f).toNatClampNeg + (t + 1)) (bitF (nI i)))), (zc, eI G 36 (cF s op an qs qa qb)), (zk, eI G 48 (kF ql)), (zt, eI G 64 lt), (zq, eI G 4 (qF n v m j))]) (by rw [mrkF_up le _ (by omega)]; rfl) ?_
              refine z_iinc (v := nI (t + 1)) (lv' := [some (.int (nI i)), some (.ref zd), some (.ref ze), some (.ref zc), some (.ref zk), some (.ref zt), some (.ref zq), some (.int (nI ((bfF n z i ql qa qb f).toNatClampNeg))), some (.int ((dsF (fdS z i ql f) (fdF n z i qa qb f) (n + 1 - z) d).2)), some (.int (nI z)), some (.int (nI (t + 1))), none, none, none]) hF dL_finds_255 rfl (nI_1 t) rfl rfl ?_
              refine z_goto (tgt := 230) hF dL_finds_258 (by decide) ?_
              exact ih_230 (t + 1) (by omega) (by omega)
        exact J_230 ((z - 0) + 1) 0 (Nat.lt_succ_self _) (by omega)
      · obtain ⟨p, hp0, hp1, hp2, hd8⟩ := fnd_p hn hz1 hd hpp h40
        refine z_lv (lv' := [some (.int (nI i)), some (.ref zd), some (.ref ze), some (.ref zc), some (.ref zk), some (.ref zt), some (.ref zq), some (.int ((dsF (fdS z i ql f) (fdF n z i qa qb f) (n + 1 - z) d).1)), some (.int ((dsF (fdS z i ql f) (fdF n z i qa qb f) (n + 1 - z) d).2)), some (.int (nI z)), some (.int (nI p)), none, none, none]) (by rw [hp0]) ?_
        refine z_iconst (v := nI 0) hF dL_finds_43 (by decide) ?_
        refine z_istore (lv' := [some (.int (nI i)), some (.ref zd), some (.ref ze), some (.ref zc), some (.ref zk), some (.ref zt), some (.ref zq), some (.int ((dsF (fdS z i ql f) (fdF n z i qa qb f) (n + 1 - z) d).1)), some (.int ((dsF (fdS z i ql f) (fdF n z i qa qb f) (n + 1 - z) d).2)), some (.int (nI z)), some (.int (nI p)), some (.int (nI 0)), none, none]) hF dL_finds_44 rfl rfl ?_
        refine z_iconst (v := nI 0) hF dL_finds_46 (by decide) ?_
        refine z_istore (lv' := [some (.int (nI i)), some (.ref zd), some (.ref ze), some (.ref zc), some (.ref zk), some (.ref zt), some (.ref zq), some (.int ((dsF (fdS z i ql f) (fdF n z i qa qb f) (n + 1 - z) d).1)), some (.int ((dsF (fdS z i ql f) (fdF n z i qa qb f) (n + 1 - z) d).2)), some (.int (nI z)), some (.int (nI p)), some (.int (nI 0)), some (.int (nI 0)), none]) hF dL_finds_47 rfl rfl ?_
        refine z_iconst (v := nI 0) hF dL_finds_49 (by decide) ?_
        refine z_istore (lv' := [some (.int (nI i)), some (.ref zd), some (.ref ze), some (.ref zc), some (.ref zk), some (.ref zt), some (.ref zq), some (.int ((dsF (fdS z i ql f) (fdF n z i qa qb f) (n + 1 - z) d).1)), some (.int ((dsF (fdS z i ql f) (fdF n z i qa qb f) (n + 1 - z) d).2)), some (.int (nI z)), some (.int (nI p)), some (.int (nI 0)), some (.int (nI 0)), some (.int (nI 0))]) hF dL_finds_50 rfl rfl ?_
        refine z_lv (lv' := [some (.int (nI i)), some (.ref zd), some (.ref ze), some (.ref zc), some (.ref zk), some (.ref zt), some (.ref zq), some (.int ((dsF (fdS z i ql f) (fdF n z i qa qb f) (n + 1 - z) d).1)), some (.int ((dsF (fdS z i ql f) (fdF n z i qa qb f) (n + 1 - z) d).2)), some (.int (nI z)), some (.int (nI p)), some (.int (nI 0)), some (.int (nI (cntF (fun kk => f (p + kk) = ql (i * 60 + kk)) 0))), some (.int (nI 0))]) (by rfl) ?_
        have J_52 : ∀ (n9 : Nat) (t : Nat), z - t < n9 → (t ≤ z) → zJ G X 52 [(zd, eI G 60 f), (ze, eI G 60 le), (zc, eI G 36 (cF s op an qs qa qb)), (zk, eI G 48 (kF ql)), (zt, eI G 64 lt), (zq, eI G 4 (qF n v m j))] [some (.int (nI i)), some (.ref zd), some (.ref ze), some (.ref zc), some (.ref zk), some (.ref zt), some (.ref zq), some (.int ((dsF (fdS z i ql f) (fdF n z i qa qb f) (n + 1 - z) d).1)), some (.int ((dsF (fdS z i ql f) (fdF n z i qa qb f) (n + 1 - z) d).2)), some (.int (nI z)), some (.int (nI p)), some (.int (nI 0)), some (.int (nI (cntF (fun kk => f (p + kk) = ql (i * 60 + kk)) t))), some (.int (nI t))] [] 0 0 := by
          intro n9
          induction n9 with
          | zero => intro t hmu; exact absurd hmu (Nat.not_lt_zero _)
          | succ n9 ih_52 =>
            intro t hmu h2
            refine z_iload hF dL_finds_52 rfl ?_
            refine z_iload hF dL_finds_54 rfl ?_
            refine z_icn_ge (tgt := 95) hF (by omega) (by omega) dL_finds_56 (by decide) (fun c_3 => ?_) (fun c_3 => ?_)
            · have ht9 : t = z := by omega
              have hcl := cntF_le (P := fun kk => f (p + kk) = ql (i * 60 + kk)) z
              refine z_lv (lv' := [some (.int (nI i)), some (.ref zd), some (.ref ze), some (.ref zc), some (.ref zk), some (.ref zt), some (.ref zq), some (.int ((dsF (fdS z i ql f) (fdF n z i qa qb f) (n + 1 - z) d).1)), some (.int ((dsF (fdS z i ql f) (fdF n z i qa qb f) (n + 1 - z) d).2)), some (.int (nI z)), some (.int (nI p)), some (.int (nI 0)), some (.int (nI (cntF (fun kk => f (p + kk) = ql (i * 60 + kk)) z))), some (.int (nI t))]) (by rw [ht9]) ?_
              have hsp : cntF (fun kk => f (p + kk) = ql (i * 60 + kk)) z = z ↔ (fdS z i ql f) p := (cnt_all (P := fun kk => f (p + kk) = ql (i * 60 + kk)) z).trans ⟨fun q jj hj => (q jj hj).symm, fun q jj hj => (q jj hj).symm⟩
              refine z_iload hF dL_finds_95 rfl ?_
              have J_112 : zJ G X 112 [(zd, eI G 60 f), (ze, eI G 60 le), (zc, eI G 36 (cF s op an qs qa qb)), (zk, eI G 48 (kF ql)), (zt, eI G 64 lt), (zq, eI G 4 (qF n v m j))] [some (.int (nI i)), some (.ref zd), some (.ref ze), some (.ref zc), some (.ref zk), some (.ref zt), some (.ref zq), some (.int ((dsF (fdS z i ql f) (fdF n z i qa qb f) (n + 1 - z) d).1)), some (.int ((dsF (fdS z i ql f) (fdF n z i qa qb f) (n + 1 - z) d).2)), some (.int (nI z)), some (.int (nI p)), some (.int (nI 0)), some (.int (nI (cntF (fun kk => f (p + kk) = ql (i * 60 + kk)) z))), some (.int (nI t))] [.int (letF n f (nI p - nI 1)), .int (nI 0)] 0 0 := by
                have J_128 : zJ G X 128 [(zd, eI G 60 f), (ze, eI G 60 le), (zc, eI G 36 (cF s op an qs qa qb)), (zk, eI G 48 (kF ql)), (zt, eI G 64 lt), (zq, eI G 4 (qF n v m j))] [some (.int (nI i)), some (.ref zd), some (.ref ze), some (.ref zc), some (.ref zk), some (.ref zt), some (.ref zq), some (.int ((dsF (fdS z i ql f) (fdF n z i qa qb f) (n + 1 - z) d).1)), some (.int ((dsF (fdS z i ql f) (fdF n z i qa qb f) (n + 1 - z) d).2)), some (.int (nI z)), some (.int (nI p)), some (.int (nI 0)), some (.int (nI (cntF (fun kk => f (p + kk) = ql (i * 60 + kk)) z))), some (.int (nI t))] [.int (zb (letF n f (nI p - nI 1) = qa i)), .int (nI 0)] 0 0 := by
                  refine z_iadd hF dL_finds_128 ?_
                  refine z_top (y := zb (letF n f (nI p - nI 1) = qa i)) (z0_or2 _) ?_
                  refine z_istore (lv' := [some (.int (nI i)), some (.ref zd), some (.ref ze), some (.ref zc), some (.ref zk), some (.ref zt), some (.ref zq), some (.int ((dsF (fdS z i ql f) (fdF n z i qa qb f) (n + 1 - z) d).1)), some (.int ((dsF (fdS z i ql f) (fdF n z i qa qb f) (n + 1 - z) d).2)), some (.int (nI z)), some (.int (nI p)), some (.int (zb (letF n f (nI p - nI 1) = qa i))), some (.int (nI (cntF (fun kk => f (p + kk) = ql (i * 60 + kk)) z))), some (.int (nI t))]) hF dL_finds_129 rfl rfl ?_
                  refine z_iload hF dL_finds_131 rfl ?_
                  have J_156 : zJ G X 156 [(zd, eI G 60 f), (ze, eI G 60 le), (zc, eI G 36 (cF s op an qs qa qb)), (zk, eI G 48 (kF ql)), (zt, eI G 64 lt), (zq, eI G 4 (qF n v m j))] [some (.int (nI i)), some (.ref zd), some (.ref ze), some (.ref zc), some (.ref zk), some (.ref zt), some (.ref zq), some (.int ((dsF (fdS z i ql f) (fdF n z i qa qb f) (n + 1 - z) d).1)), some (.int ((dsF (fdS z i ql f) (fdF n z i qa qb f) (n + 1 - z) d).2)), some (.int (nI z)), some (.int (nI p)), some (.int (zb (letF n f (nI p - nI 1) = qa i))), some (.int (nI (cntF (fun kk => f (p + kk) = ql (i * 60 + kk)) z))), some (.int (nI t))] [.int (letF n f (nI (p + z))), .int (zb (letF n f (nI p - nI 1) = qa i))] 0 0 := by
                    have J_172 : zJ G X 172 [(zd, eI G 60 f), (ze, eI G 60 le), (zc, eI G 36 (cF s op an qs qa qb)), (zk, eI G 48 (kF ql)), (zt, eI G 64 lt), (zq, eI G 4 (qF n v m j))] [some (.int (nI i)), some (.ref zd), some (.ref ze), some (.ref zc), some (.ref zk), some (.ref zt), some (.ref zq), some (.int ((dsF (fdS z i ql f) (fdF n z i qa qb f) (n + 1 - z) d).1)), some (.int ((dsF (fdS z i ql f) (fdF n z i qa qb f) (n + 1 - z) d).2)), some (.int (nI z)), some (.int (nI p)), some (.int (zb (letF n f (nI p - nI 1) = qa i))), some (.int (nI (cntF (fun kk => f (p + kk) = ql (i * 60 + kk)) z))), some (.int (nI t))] [.int (zb (letF n f (nI (p + z)) = qb i)), .int (zb (letF n f (nI p - nI 1) = qa i))] 0 0 := by
                      refine z_iadd hF dL_finds_172 ?_
                      refine z_istore (lv' := [some (.int (nI i)), some (.ref zd), some (.ref ze), some (.ref zc), some (.ref zk), some (.ref zt), some (.ref zq), some (.int ((dsF (fdS z i ql f) (fdF n z i qa qb f) (n + 1 - z) d).1)), some (.int ((dsF (fdS z i ql f) (fdF n z i qa qb f) (n + 1 - z) d).2)), some (.int (nI z)), some (.int (nI p)), some (.int ((zb (letF n f (nI p - nI 1) = qa i)) + (zb (letF n f (nI (p + z)) = qb i)))), some (.int (nI (cntF (fun kk => f (p + kk) = ql (i * 60 + kk)) z))), some (.int (nI t))]) hF dL_finds_173 rfl rfl ?_
                      have J_196 : zJ G X 196 [(zd, eI G 60 f), (ze, eI G 60 le), (zc, eI G 36 (cF s op an qs qa qb)), (zk, eI G 48 (kF ql)), (zt, eI G 64 lt), (zq, eI G 4 (qF n v m j))] [some (.int (nI i)), some (.ref zd), some (.ref ze), some (.ref zc), some (.ref zk), some (.ref zt), some (.ref zq), some (.int ((dsF (fdS z i ql f) (fdF n z i qa qb f) (n + 1 - z) d).1)), some (.int ((dsF (fdS z i ql f) (fdF n z i qa qb f) (n + 1 - z) d).2)), some (.int (nI z)), some (.int (nI p)), some (.int ((zb (letF n f (nI p - nI 1) = qa i)) + (zb (letF n f (nI (p + z)) = qb i)))), some (.int (nI (cntF (fun kk => f (p + kk) = ql (i * 60 + kk)) z))), some (.int (nI t))] [.int ((dsF (fdS z i ql f) (fdF n z i qa qb f) (n + 1 - z) (d + 1)).1)] 0 0 := by
                        refine z_istore (lv' := [some (.int (nI i)), some (.ref zd), some (.ref ze), some (.ref zc), some (.ref zk), some (.ref zt), some (.ref zq), some (.int ((dsF (fdS z i ql f) (fdF n z i qa qb f) (n + 1 - z) (d + 1)).1)), some (.int ((dsF (fdS z i ql f) (fdF n z i qa qb f) (n + 1 - z) d).2)), some (.int (nI z)), some (.int (nI p)), some (.int ((zb (letF n f (nI p - nI 1) = qa i)) + (zb (letF n f (nI (p + z)) = qb i)))), some (.int (nI (cntF (fun kk => f (p + kk) = ql (i * 60 + kk)) z))), some (.int (nI t))]) hF dL_finds_196 rfl rfl ?_
                        have J_219 : zJ G X 219 [(zd, eI G 60 f), (ze, eI G 60 le), (zc, eI G 36 (cF s op an qs qa qb)), (zk, eI G 48 (kF ql)), (zt, eI G 64 lt), (zq, eI G 4 (qF n v m j))] [some (.int (nI i)), some (.ref zd), some (.ref ze), some (.ref zc), some (.ref zk), some (.ref zt), some (.ref zq), some (.int ((dsF (fdS z i ql f) (fdF n z i qa qb f) (n + 1 - z) (d + 1)).1)), some (.int ((dsF (fdS z i ql f) (fdF n z i qa qb f) (n + 1 - z) d).2)), some (.int (nI z)), some (.int (nI p)), some (.int ((zb (letF n f (nI p - nI 1) = qa i)) + (zb (letF n f (nI (p + z)) = qb i)))), some (.int (nI (cntF (fun kk => f (p + kk) = ql (i * 60 + kk)) z))), some (.int (nI t))] [.int ((dsF (fdS z i ql f) (fdF n z i qa qb f) (n + 1 - z) (d + 1)).2)] 0 0 := by
                          refine z_istore (lv' := [some (.int (nI i)), some (.ref zd), some (.ref ze), some (.ref zc), some (.ref zk), some (.ref zt), some (.ref zq), some (.int ((dsF (fdS z i ql f) (fdF n z i qa qb f) (n + 1 - z) (d + 1)).1)), some (.int ((dsF (fdS z i ql f) (fdF n z i qa qb f) (n + 1 - z) (d + 1)).2)), some (.int (nI z)), some (.int (nI p)), some (.int ((zb (letF n f (nI p - nI 1) = qa i)) + (zb (letF n f (nI (p + z)) = qb i)))), some (.int (nI (cntF (fun kk => f (p + kk) = ql (i * 60 + kk)) z))), some (.int (nI t))]) hF dL_finds_219 rfl rfl ?_
                          refine z_iinc (v := (nI p) - (nI 1)) (lv' := [some (.int (nI i)), some (.ref zd), some (.ref ze), some (.ref zc), some (.ref zk), some (.ref zt), some (.ref zq), some (.int ((dsF (fdS z i ql f) (fdF n z i qa qb f) (n + 1 - z) (d + 1)).1)), some (.int ((dsF (fdS z i ql f) (fdF n z i qa qb f) (n + 1 - z) (d + 1)).2)), some (.int (nI z)), some (.int ((nI p) - (nI 1))), some (.int ((zb (letF n f (nI p - nI 1) = qa i)) + (zb (letF n f (nI (p + z)) = qb i)))), some (.int (nI (cntF (fun kk => f (p + kk) = ql (i * 60 + kk)) z))), some (.int (nI t))]) hF dL_finds_221 rfl (nI_dec _) rfl rfl ?_
                          refine z_goto (tgt := 38) hF dL_finds_224 (by decide) ?_
                          refine z_forget (lv' := [some (.int (nI i)), some (.ref zd), some (.ref ze), some (.ref zc), some (.ref zk), some (.ref zt), some (.ref zq), some (.int ((dsF (fdS z i ql f) (fdF n z i qa qb f) (n + 1 - z) (d + 1)).1)), some (.int ((dsF (fdS z i ql f) (fdF n z i qa qb f) (n + 1 - z) (d + 1)).2)), some (.int (nI z)), some (.int ((nI p) - (nI 1))), none, none, none]) ⟨rfl, ⟨rfl, ⟨rfl, ⟨rfl, ⟨rfl, ⟨rfl, ⟨rfl, ⟨rfl, ⟨rfl, ⟨rfl, ⟨rfl, trivial⟩⟩⟩⟩⟩⟩⟩⟩⟩⟩⟩ ?_
                          exact ih_38 (d + 1) ((nI p) - (nI 1)) (by omega) (by omega) (Or.inl (by rw [show n + 1 - z - (d + 1) = p by omega]))
                        refine z_iload hF dL_finds_198 rfl ?_
                        refine z_iload hF dL_finds_200 rfl ?_
                        refine z_icn_ne (tgt := 217) hF (by omega) (by omega) dL_finds_202 (by decide) (fun h202 => ?_) (fun h202 => ?_)
                        · refine z_iload hF dL_finds_217 rfl ?_
                          refine z_top (y := (dsF (fdS z i ql f) (fdF n z i qa qb f) (n + 1 - z) (d + 1)).2) (dsN2 (S := fdS z i ql f) (F := fdF n z i qa qb f) (K := n + 1 - z) (d := d) (p := p) hp1 (fun z9 => h202 (hsp.mpr z9.1))) ?_
                          exact J_219  
                        · refine z_iload hF dL_finds_205 rfl ?_
                          refine z_iload hF dL_finds_207 rfl ?_
                          refine z_ic_lt (tgt := 217) hF dL_finds_209 (by decide) (fun h209 => ?_) (fun h209 => ?_)
                          · refine z_iload hF dL_finds_217 rfl ?_
                            refine z_top (y := (dsF (fdS z i ql f) (fdF n z i qa qb f) (n + 1 - z) (d + 1)).2) (dsN2 (S := fdS z i ql f) (F := fdF n z i qa qb f) (K := n + 1 - z) (d := d) (p := p) hp1 (fun z9 => absurd z9.2 (Int32.not_le.mpr h209))) ?_
                            exact J_219  
                          · refine z_iload hF dL_finds_212 rfl ?_
                            refine z_goto (tgt := 219) hF dL_finds_214 (by decide) ?_
                            refine z_top (y := (dsF (fdS z i ql f) (fdF n z i qa qb f) (n + 1 - z) (d + 1)).2) (dsT2 (S := fdS z i ql f) (F := fdF n z i qa qb f) (K := n + 1 - z) (d := d) (p := p) hp1 (hsp.mp h202) (Int32.not_lt.mp h209)) ?_
                            exact J_219  
                      refine z_iload hF dL_finds_175 rfl ?_
                      refine z_iload hF dL_finds_177 rfl ?_
                      refine z_icn_ne (tgt := 194) hF (by omega) (by omega) dL_finds_179 (by decide) (fun h179 => ?_) (fun h179 => ?_)
                      · refine z_iload hF dL_finds_194 rfl ?_
                        refine z_top (y := (dsF (fdS z i ql f) (fdF n z i qa qb f) (n + 1 - z) (d + 1)).1) (dsN1 (S := fdS z i ql f) (F := fdF n z i qa qb f) (K := n + 1 - z) (d := d) (p := p) hp1 (fun z9 => h179 (hsp.mpr z9.1))) ?_
                        exact J_196  
                      · refine z_iload hF dL_finds_182 rfl ?_
                        refine z_iload hF dL_finds_184 rfl ?_
                        refine z_ic_lt (tgt := 194) hF dL_finds_186 (by decide) (fun h186 => ?_) (fun h186 => ?_)
                        · refine z_iload hF dL_finds_194 rfl ?_
                          refine z_top (y := (dsF (fdS z i ql f) (fdF n z i qa qb f) (n + 1 - z) (d + 1)).1) (dsN1 (S := fdS z i ql f) (F := fdF n z i qa qb f) (K := n + 1 - z) (d := d) (p := p) hp1 (fun z9 => absurd z9.2 (Int32.not_le.mpr h186))) ?_
                          exact J_196  
                        · refine z_iload hF dL_finds_189 rfl ?_
                          refine z_goto (tgt := 196) hF dL_finds_191 (by decide) ?_
                          refine z_top (y := (dsF (fdS z i ql f) (fdF n z i qa qb f) (n + 1 - z) (d + 1)).1) (dsT1 (S := fdS z i ql f) (F := fdF n z i qa qb f) (K := n + 1 - z) (d := d) (p := p) hp1 (hsp.mp h179) (Int32.not_lt.mp h186)) ?_
                          exact J_196  
                    refine z_aload_n hF dL_finds_156 rfl ?_
                    refine z_bipush (v := nI 6) hF dL_finds_157 (by decide) ?_
                    refine z_iload_n hF dL_finds_159 rfl ?_
                    refine z_imul hF dL_finds_160 ?_
                    refine z_top (pk_mul 6 i) ?_
                    refine z_iconst (v := nI 5) hF dL_finds_161 (by decide) ?_
                    refine z_iadd hF dL_finds_162 ?_
                    refine z_top (nI_add (6 * i) 5) ?_
                    refine z_iald (k := 6 * i + 5) hF 2 rfl (rfl) (by omega) rfl dL_finds_163 ?_
                    refine z_top (y := qb i) (cF_l5 _ _ _ _ _ _ _) ?_
                    refine z_ic_ne (tgt := 171) hF dL_finds_164 (by decide) (fun h164 => ?_) (fun h164 => ?_)
                    · refine z_iconst (v := nI 0) hF dL_finds_171 (by decide) ?_
                      refine z_top (y := zb (letF n f (nI (p + z)) = qb i)) (zb0 h164) ?_
                      exact J_172  
                    · refine z_iconst (v := nI 1) hF dL_finds_167 (by decide) ?_
                      refine z_goto (tgt := 172) hF dL_finds_168 (by decide) ?_
                      refine z_top (y := zb (letF n f (nI (p + z)) = qb i)) (zb1 h164) ?_
                      exact J_172  
                  refine z_iload hF dL_finds_133 rfl ?_
                  refine z_iload hF dL_finds_135 rfl ?_
                  refine z_iadd hF dL_finds_137 ?_
                  refine z_top (nI_add p z) ?_
                  refine z_aload hF dL_finds_138 rfl ?_
                  refine z_iconst (v := nI 0) hF dL_finds_140 (by decide) ?_
                  refine z_iald (k := 0) hF 5 rfl (rfl) (by omega) rfl dL_finds_141 ?_
                  refine z_top (y := nI n) (rfl) ?_
                  refine z_icn_ne (tgt := 149) hF (by omega) (by omega) dL_finds_142 (by decide) (fun h142 => ?_) (fun h142 => ?_)
                  · refine z_aload_n hF dL_finds_149 rfl ?_
                    refine z_iload hF dL_finds_150 rfl ?_
                    refine z_iload hF dL_finds_152 rfl ?_
                    refine z_iadd hF dL_finds_154 ?_
                    refine z_top (nI_add p z) ?_
                    refine z_iald (k := p + z) hF 0 rfl (rfl) (by omega) rfl dL_finds_155 ?_
                    refine z_top (y := letF n f (nI (p + z))) (let_i (by omega) hn) ?_
                    exact J_156  
                  · refine z_iconst (v := -1) hF dL_finds_145 (by decide) ?_
                    refine z_goto (tgt := 156) hF dL_finds_146 (by decide) ?_
                    refine z_top (y := letF n f (nI (p + z))) (let_e h142 hn) ?_
                    exact J_156  
                refine z_aload_n hF dL_finds_112 rfl ?_
                refine z_bipush (v := nI 6) hF dL_finds_113 (by decide) ?_
                refine z_iload_n hF dL_finds_115 rfl ?_
                refine z_imul hF dL_finds_116 ?_
                refine z_top (pk_mul 6 i) ?_
                refine z_iconst (v := nI 4) hF dL_finds_117 (by decide) ?_
                refine z_iadd hF dL_finds_118 ?_
                refine z_top (nI_add (6 * i) 4) ?_
                refine z_iald (k := 6 * i + 4) hF 2 rfl (rfl) (by omega) rfl dL_finds_119 ?_
                refine z_top (y := qa i) (cF_l4 _ _ _ _ _ _ _) ?_
                refine z_ic_ne (tgt := 127) hF dL_finds_120 (by decide) (fun h120 => ?_) (fun h120 => ?_)
                · refine z_iconst (v := nI 0) hF dL_finds_127 (by decide) ?_
                  refine z_top (y := zb (letF n f (nI p - nI 1) = qa i)) (zb0 h120) ?_
                  exact J_128  
                · refine z_iconst (v := nI 1) hF dL_finds_123 (by decide) ?_
                  refine z_goto (tgt := 128) hF dL_finds_124 (by decide) ?_
                  refine z_top (y := zb (letF n f (nI p - nI 1) = qa i)) (zb1 h120) ?_
                  exact J_128  
              refine z_iload hF dL_finds_97 rfl ?_
              refine z_ifn_ne (tgt := 106) hF (by omega) dL_finds_99 (by decide) (fun h99 => ?_) (fun h99 => ?_)
              · refine z_aload_n hF dL_finds_106 rfl ?_
                refine z_iload hF dL_finds_107 rfl ?_
                refine z_iconst (v := nI 1) hF dL_finds_109 (by decide) ?_
                refine z_isub hF dL_finds_110 ?_
                refine z_top (pk_sub (by omega)) ?_
                refine z_iald (k := p - 1) hF 0 rfl (rfl) (by omega) rfl dL_finds_111 ?_
                refine z_top (y := letF n f (nI p - nI 1)) (let_s (Nat.pos_of_ne_zero h99) (by omega) hn) ?_
                exact J_112  
              · refine z_iconst (v := -1) hF dL_finds_102 (by decide) ?_
                refine z_goto (tgt := 112) hF dL_finds_103 (by decide) ?_
                refine z_top (y := letF n f (nI p - nI 1)) (let_0 h99) ?_
                exact J_112  
            · refine z_iload hF dL_finds_59 rfl ?_
              have J_86 : zJ G X 86 [(zd, eI G 60 f), (ze, eI G 60 le), (zc, eI G 36 (cF s op an qs qa qb)), (zk, eI G 48 (kF ql)), (zt, eI G 64 lt), (zq, eI G 4 (qF n v m j))] [some (.int (nI i)), some (.ref zd), some (.ref ze), some (.ref zc), some (.ref zk), some (.ref zt), some (.ref zq), some (.int ((dsF (fdS z i ql f) (fdF n z i qa qb f) (n + 1 - z) d).1)), some (.int ((dsF (fdS z i ql f) (fdF n z i qa qb f) (n + 1 - z) d).2)), some (.int (nI z)), some (.int (nI p)), some (.int (nI 0)), some (.int (nI (cntF (fun kk => f (p + kk) = ql (i * 60 + kk)) t))), some (.int (nI t))] [.int (zb (f (p + t) = ql (i * 60 + t))), .int (nI (cntF (fun kk => f (p + kk) = ql (i * 60 + kk)) t))] 0 0 := by
                refine z_iadd hF dL_finds_86 ?_
                refine z_top (y := nI (cntF (fun kk => f (p + kk) = ql (i * 60 + kk)) (t + 1))) (zb_cnt (P := fun kk => f (p + kk) = ql (i * 60 + kk))) ?_
                refine z_istore (lv' := [some (.int (nI i)), some (.ref zd), some (.ref ze), some (.ref zc), some (.ref zk), some (.ref zt), some (.ref zq), some (.int ((dsF (fdS z i ql f) (fdF n z i qa qb f) (n + 1 - z) d).1)), some (.int ((dsF (fdS z i ql f) (fdF n z i qa qb f) (n + 1 - z) d).2)), some (.int (nI z)), some (.int (nI p)), some (.int (nI 0)), some (.int (nI (cntF (fun kk => f (p + kk) = ql (i * 60 + kk)) (t + 1)))), some (.int (nI t))]) hF dL_finds_87 rfl rfl ?_
                refine z_iinc (v := nI (t + 1)) (lv' := [some (.int (nI i)), some (.ref zd), some (.ref ze), some (.ref zc), some (.ref zk), some (.ref zt), some (.ref zq), some (.int ((dsF (fdS z i ql f) (fdF n z i qa qb f) (n + 1 - z) d).1)), some (.int ((dsF (fdS z i ql f) (fdF n z i qa qb f) (n + 1 - z) d).2)), some (.int (nI z)), some (.int (nI p)), some (.int (nI 0)), some (.int (nI (cntF (fun kk => f (p + kk) = ql (i * 60 + kk)) (t + 1)))), some (.int (nI (t + 1)))]) hF dL_finds_89 rfl (nI_1 t) rfl rfl ?_
                refine z_goto (tgt := 52) hF dL_finds_92 (by decide) ?_
                exact ih_52 (t + 1) (by omega) (by omega)
              refine z_aload_n hF dL_finds_61 rfl ?_
              refine z_iload hF dL_finds_62 rfl ?_
              refine z_iload hF dL_finds_64 rfl ?_
              refine z_iadd hF dL_finds_66 ?_
              refine z_top (nI_add p t) ?_
              refine z_iald (k := p + t) hF 0 rfl (rfl) (by omega) rfl dL_finds_67 ?_
              refine z_aload hF dL_finds_68 rfl ?_
              refine z_bipush (v := nI 8) hF dL_finds_70 (by decide) ?_
              refine z_iload_n hF dL_finds_72 rfl ?_
              refine z_imul hF dL_finds_73 ?_
              refine z_top (pk_mul 8 i) ?_
              refine z_iload hF dL_finds_74 rfl ?_
              refine z_iadd hF dL_finds_76 ?_
              refine z_top (nI_add (8 * i) t) ?_
              refine z_iald (k := 8 * i + t) hF 3 rfl (rfl) (by omega) rfl dL_finds_77 ?_
              refine z_top (y := ql (i * 60 + t)) (kF_l _ _ _ (by omega)) ?_
              refine z_ic_ne (tgt := 85) hF dL_finds_78 (by decide) (fun h78 => ?_) (fun h78 => ?_)
              · refine z_iconst (v := nI 0) hF dL_finds_85 (by decide) ?_
                refine z_top (y := zb (f (p + t) = ql (i * 60 + t))) (zb0 h78) ?_
                exact J_86  
              · refine z_iconst (v := nI 1) hF dL_finds_81 (by decide) ?_
                refine z_goto (tgt := 86) hF dL_finds_82 (by decide) ?_
                refine z_top (y := zb (f (p + t) = ql (i * 60 + t))) (zb1 h78) ?_
                exact J_86  
        exact J_52 ((z - 0) + 1) 0 (Nat.lt_succ_self _) (by omega)
  exact J_38 ((n + 1 - z - 0) + 1) 0 ((nI n) - (nI z)) (Nat.lt_succ_self _) (by omega) (fnd_0 hn hz1 hz8)
