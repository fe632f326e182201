/-! the loop of the law -/
set_option maxHeartbeats 4000000 in
set_option maxRecDepth 100000 in
theorem law_loop {G : zG} {X : zT} {b0 L : Nat} {zs : Nat → Int32} (hF : zF G X room_1 cL_law wsL_law RL) (hSc : zSc X b0 L zs) (hL : L ≤ 2560) (d0 t0 t1 t2 r0 r1 r2 r3 q0 q1 q2 q3 q4 y0 y1 d1 u0 u1 u2 u3 d2 d3 d4 w0 w1 w2 w3 w4 w5 w6 w7 w8 w9 w10 w11 w12 w13 w14 w15 w16 o9 : Nat) (hE : ∀ (ws : va_W) (lv : List (Option Value)) (cells slots : Nat), cells ≤ room_1.cells → slots ≤ room_1.slots → zJ G X 1296 ws lv [.int (nI 1)] cells slots) :
    ∀ (k : Nat) (n m v j : Nat) (o th : Int32) (f g b e s h ql qs qa qb an op tn b2 e2 s2 xl xc xs b3 e3 : Nat → Int32) (go : Nat → Int64) (t : Nat) (x5 x6 : Option Value) (cells slots : Nat), L < t + 5 * k + 5 → t ≤ 2600 → cells + 6 * k ≤ room_1.cells → slots + 36 * k ≤ room_1.slots → Inv n m v j o b e s g h qs op tn b2 e2 s2 xc xs b3 e3 → zJ G X 23 (wL G d0 t0 t1 t2 r0 r1 r2 r3 q0 q1 q2 q3 q4 y0 y1 d1 u0 u1 u2 u3 d2 d3 d4 w0 w1 w2 w3 w4 w5 w6 w7 w8 w9 w10 w11 w12 w13 w14 w15 w16 o9 n m v j o th f g b e s h ql qs qa qb an op tn b2 e2 s2 xl xc xs b3 e3 go) (lwV b0 d0 w0 o9 t x5 x6) [] cells slots := by
  intro k
  induction k with
  | zero =>
    intro n m v j o th f g b e s h ql qs qa qb an op tn b2 e2 s2 xl xc xs b3 e3 go t x5 x6 cells slots hk ht0 hcl hsl hI
    refine z_iload hF dL_law_23 rfl ?_
    refine z_aload_n hF dL_law_25 rfl ?_
    refine z_slen hF hSc dL_law_26 ?_
    refine z_iconst (v := nI 5) hF dL_law_27 (by decide) ?_
    refine z_isub hF dL_law_28 ?_
    refine z_ic_gt (tgt := 1295) hF dL_law_29 (by decide) (fun hq => ?_) (fun hq => ?_)
    · refine z_iconst (v := nI 1) hF dL_law_1295 (by decide) ?_
      exact hE _ _ _ _ (by omega) (by omega)
    · have ht := (nIsub5 hL (by omega)).mp (Int32.not_lt.mp hq)
      omega
  | succ k ih =>
    intro n m v j o th f g b e s h ql qs qa qb an op tn b2 e2 s2 xl xc xs b3 e3 go t x5 x6 cells slots hk ht0 hcl hsl hI
    refine z_iload hF dL_law_23 rfl ?_
    refine z_aload_n hF dL_law_25 rfl ?_
    refine z_slen hF hSc dL_law_26 ?_
    refine z_iconst (v := nI 5) hF dL_law_27 (by decide) ?_
    refine z_isub hF dL_law_28 ?_
    refine z_ic_gt (tgt := 1295) hF dL_law_29 (by decide) (fun hq => ?_) (fun hq => ?_)
    · refine z_iconst (v := nI 1) hF dL_law_1295 (by decide) ?_
      exact hE _ _ _ _ (by omega) (by omega)
    · have ht := (nIsub5 hL (by omega)).mp (Int32.not_lt.mp hq)
      have hcl6 : cells + 6 ≤ room_1.cells := by omega
      have hsl6 : slots + 36 ≤ room_1.slots := by omega
      have next : lwK G X b0 t d0 t0 t1 t2 r0 r1 r2 r3 q0 q1 q2 q3 q4 y0 y1 d1 u0 u1 u2 u3 d2 d3 d4 w0 w1 w2 w3 w4 w5 w6 w7 w8 w9 w10 w11 w12 w13 w14 w15 w16 o9 (cells + 6) (slots + 36) := by
        intro n m v j o th f g b e s h ql qs qa qb an op tn b2 e2 s2 xl xc xs b3 e3 go x5 x6 hI
        refine z_iinc (k := 4) (v := nI (t + 5)) (lv' := lwV b0 d0 w0 o9 (t + 5) x5 x6) hF dL_law_1289 rfl (by rw [show Int32.ofInt 5 = nI 5 from by decide, nI_add]) rfl rfl ?_
        refine z_goto (tgt := 23) hF dL_law_1292 (by decide) ?_
        exact ih n m v j o th f g b e s h ql qs qa qb an op tn b2 e2 s2 xl xc xs b3 e3 go (t + 5) x5 x6 (cells + 6) (slots + 36) (by omega) (by omega) (by omega) (by omega) hI
      refine z_aload_n hF dL_law_32 rfl ?_
      refine z_iload hF dL_law_33 rfl ?_
      refine z_sld (k := t) hF hSc rfl (by omega) hL rfl dL_law_35 ?_
      refine z_bipush (v := nI 31) hF dL_law_36 (by decide) ?_
      refine z_iand hF dL_law_38 ?_
      rcases sw_cases (zs t &&& nI 31) with ⟨c, hc, hx⟩ | hx
      · rcases (show c = 0 ∨ c = 1 ∨ c = 2 ∨ c = 3 ∨ c = 4 ∨ c = 5 ∨ c = 6 ∨ c = 7 ∨ c = 8 ∨ c = 9 ∨ c = 10 ∨ c = 11 ∨ c = 12 ∨ c = 13 ∨ c = 14 ∨ c = 15 ∨ c = 16 ∨ c = 17 ∨ c = 18 ∨ c = 19 ∨ c = 20 ∨ c = 21 ∨ c = 22 by omega) with rfl | rfl | rfl | rfl | rfl | rfl | rfl | rfl | rfl | rfl | rfl | rfl | rfl | rfl | rfl | rfl | rfl | rfl | rfl | rfl | rfl | rfl | rfl
        · exact z_tabIn (off := 105) (tgt := 144) hF hx (by omega) (by omega) dL_law_39 (by decide) (by decide) (lw_insert_all hF hSc hL d0 t0 t1 t2 r0 r1 r2 r3 q0 q1 q2 q3 q4 y0 y1 d1 u0 u1 u2 u3 d2 d3 d4 w0 w1 w2 w3 w4 w5 w6 w7 w8 w9 w10 w11 w12 w13 w14 w15 w16 o9 n m v j o th f g b e s h ql qs qa qb an op tn b2 e2 s2 xl xc xs b3 e3 go t ht x5 x6 cells slots hcl6 hsl6 hI next)
        · exact z_tabIn (off := 185) (tgt := 224) hF hx (by omega) (by omega) dL_law_39 (by decide) (by decide) (lw_remove_all hF hSc hL d0 t0 t1 t2 r0 r1 r2 r3 q0 q1 q2 q3 q4 y0 y1 d1 u0 u1 u2 u3 d2 d3 d4 w0 w1 w2 w3 w4 w5 w6 w7 w8 w9 w10 w11 w12 w13 w14 w15 w16 o9 n m v j o th f g b e s h ql qs qa qb an op tn b2 e2 s2 xl xc xs b3 e3 go t ht x5 x6 cells slots hcl6 hsl6 hI next)
        · exact z_tabIn (off := 253) (tgt := 292) hF hx (by omega) (by omega) dL_law_39 (by decide) (by decide) (lw_length hF hSc hL d0 t0 t1 t2 r0 r1 r2 r3 q0 q1 q2 q3 q4 y0 y1 d1 u0 u1 u2 u3 d2 d3 d4 w0 w1 w2 w3 w4 w5 w6 w7 w8 w9 w10 w11 w12 w13 w14 w15 w16 o9 n m v j o th f g b e s h ql qs qa qb an op tn b2 e2 s2 xl xc xs b3 e3 go t ht x5 x6 cells slots hcl6 hsl6 hI next)
        · exact z_tabIn (off := 266) (tgt := 305) hF hx (by omega) (by omega) dL_law_39 (by decide) (by decide) (lw_letterAt_all hF hSc hL d0 t0 t1 t2 r0 r1 r2 r3 q0 q1 q2 q3 q4 y0 y1 d1 u0 u1 u2 u3 d2 d3 d4 w0 w1 w2 w3 w4 w5 w6 w7 w8 w9 w10 w11 w12 w13 w14 w15 w16 o9 n m v j o th f g b e s h ql qs qa qb an op tn b2 e2 s2 xl xc xs b3 e3 go t ht x5 x6 cells slots hcl6 hsl6 hI next)
        · exact z_tabIn (off := 322) (tgt := 361) hF hx (by omega) (by omega) dL_law_39 (by decide) (by decide) (lw_version hF hSc hL d0 t0 t1 t2 r0 r1 r2 r3 q0 q1 q2 q3 q4 y0 y1 d1 u0 u1 u2 u3 d2 d3 d4 w0 w1 w2 w3 w4 w5 w6 w7 w8 w9 w10 w11 w12 w13 w14 w15 w16 o9 n m v j o th f g b e s h ql qs qa qb an op tn b2 e2 s2 xl xc xs b3 e3 go t ht x5 x6 cells slots hcl6 hsl6 hI next)
        · exact z_tabIn (off := 335) (tgt := 374) hF hx (by omega) (by omega) dL_law_39 (by decide) (by decide) (lw_comment_all hF hSc hL d0 t0 t1 t2 r0 r1 r2 r3 q0 q1 q2 q3 q4 y0 y1 d1 u0 u1 u2 u3 d2 d3 d4 w0 w1 w2 w3 w4 w5 w6 w7 w8 w9 w10 w11 w12 w13 w14 w15 w16 o9 n m v j o th f g b e s h ql qs qa qb an op tn b2 e2 s2 xl xc xs b3 e3 go t ht x5 x6 cells slots hcl6 hsl6 hI next)
        · exact z_tabIn (off := 415) (tgt := 454) hF hx (by omega) (by omega) dL_law_39 (by decide) (by decide) (lw_answer_all hF hSc hL d0 t0 t1 t2 r0 r1 r2 r3 q0 q1 q2 q3 q4 y0 y1 d1 u0 u1 u2 u3 d2 d3 d4 w0 w1 w2 w3 w4 w5 w6 w7 w8 w9 w10 w11 w12 w13 w14 w15 w16 o9 n m v j o th f g b e s h ql qs qa qb an op tn b2 e2 s2 xl xc xs b3 e3 go t ht x5 x6 cells slots hcl6 hsl6 hI next)
        · exact z_tabIn (off := 471) (tgt := 510) hF hx (by omega) (by omega) dL_law_39 (by decide) (by decide) (lw_resolve_all hF hSc hL d0 t0 t1 t2 r0 r1 r2 r3 q0 q1 q2 q3 q4 y0 y1 d1 u0 u1 u2 u3 d2 d3 d4 w0 w1 w2 w3 w4 w5 w6 w7 w8 w9 w10 w11 w12 w13 w14 w15 w16 o9 n m v j o th f g b e s h ql qs qa qb an op tn b2 e2 s2 xl xc xs b3 e3 go t ht x5 x6 cells slots hcl6 hsl6 hI next)
        · exact z_tabIn (off := 534) (tgt := 573) hF hx (by omega) (by omega) dL_law_39 (by decide) (by decide) (lw_find_all hF hSc hL d0 t0 t1 t2 r0 r1 r2 r3 q0 q1 q2 q3 q4 y0 y1 d1 u0 u1 u2 u3 d2 d3 d4 w0 w1 w2 w3 w4 w5 w6 w7 w8 w9 w10 w11 w12 w13 w14 w15 w16 o9 n m v j o th f g b e s h ql qs qa qb an op tn b2 e2 s2 xl xc xs b3 e3 go t ht x5 x6 cells slots hcl6 hsl6 hI next)
        · exact z_tabIn (off := 590) (tgt := 629) hF hx (by omega) (by omega) dL_law_39 (by decide) (by decide) (lw_comments hF hSc hL d0 t0 t1 t2 r0 r1 r2 r3 q0 q1 q2 q3 q4 y0 y1 d1 u0 u1 u2 u3 d2 d3 d4 w0 w1 w2 w3 w4 w5 w6 w7 w8 w9 w10 w11 w12 w13 w14 w15 w16 o9 n m v j o th f g b e s h ql qs qa qb an op tn b2 e2 s2 xl xc xs b3 e3 go t ht x5 x6 cells slots hcl6 hsl6 hI next)
        · exact z_tabIn (off := 603) (tgt := 642) hF hx (by omega) (by omega) dL_law_39 (by decide) (by decide) (lw_rangeOf_all hF hSc hL d0 t0 t1 t2 r0 r1 r2 r3 q0 q1 q2 q3 q4 y0 y1 d1 u0 u1 u2 u3 d2 d3 d4 w0 w1 w2 w3 w4 w5 w6 w7 w8 w9 w10 w11 w12 w13 w14 w15 w16 o9 n m v j o th f g b e s h ql qs qa qb an op tn b2 e2 s2 xl xc xs b3 e3 go t ht x5 x6 cells slots hcl6 hsl6 hI next)
        · exact z_tabIn (off := 659) (tgt := 698) hF hx (by omega) (by omega) dL_law_39 (by decide) (by decide) (lw_rangeThen_all hF hSc hL d0 t0 t1 t2 r0 r1 r2 r3 q0 q1 q2 q3 q4 y0 y1 d1 u0 u1 u2 u3 d2 d3 d4 w0 w1 w2 w3 w4 w5 w6 w7 w8 w9 w10 w11 w12 w13 w14 w15 w16 o9 n m v j o th f g b e s h ql qs qa qb an op tn b2 e2 s2 xl xc xs b3 e3 go t ht x5 x6 cells slots hcl6 hsl6 hI next)
        · exact z_tabIn (off := 727) (tgt := 766) hF hx (by omega) (by omega) dL_law_39 (by decide) (by decide) (lw_open hF hSc hL d0 t0 t1 t2 r0 r1 r2 r3 q0 q1 q2 q3 q4 y0 y1 d1 u0 u1 u2 u3 d2 d3 d4 w0 w1 w2 w3 w4 w5 w6 w7 w8 w9 w10 w11 w12 w13 w14 w15 w16 o9 n m v j o th f g b e s h ql qs qa qb an op tn b2 e2 s2 xl xc xs b3 e3 go t ht x5 x6 cells slots hcl6 hsl6 hI next)
        · exact z_tabIn (off := 740) (tgt := 779) hF hx (by omega) (by omega) dL_law_39 (by decide) (by decide) (lw_orphans hF hSc hL d0 t0 t1 t2 r0 r1 r2 r3 q0 q1 q2 q3 q4 y0 y1 d1 u0 u1 u2 u3 d2 d3 d4 w0 w1 w2 w3 w4 w5 w6 w7 w8 w9 w10 w11 w12 w13 w14 w15 w16 o9 n m v j o th f g b e s h ql qs qa qb an op tn b2 e2 s2 xl xc xs b3 e3 go t ht x5 x6 cells slots hcl6 hsl6 hI next)
        · exact z_tabIn (off := 753) (tgt := 792) hF hx (by omega) (by omega) dL_law_39 (by decide) (by decide) (lw_cover_all hF hSc hL d0 t0 t1 t2 r0 r1 r2 r3 q0 q1 q2 q3 q4 y0 y1 d1 u0 u1 u2 u3 d2 d3 d4 w0 w1 w2 w3 w4 w5 w6 w7 w8 w9 w10 w11 w12 w13 w14 w15 w16 o9 n m v j o th f g b e s h ql qs qa qb an op tn b2 e2 s2 xl xc xs b3 e3 go t ht x5 x6 cells slots hcl6 hsl6 hI next)
        · exact z_tabIn (off := 809) (tgt := 848) hF hx (by omega) (by omega) dL_law_39 (by decide) (by decide) (lw_coverByLetters_all hF hSc hL d0 t0 t1 t2 r0 r1 r2 r3 q0 q1 q2 q3 q4 y0 y1 d1 u0 u1 u2 u3 d2 d3 d4 w0 w1 w2 w3 w4 w5 w6 w7 w8 w9 w10 w11 w12 w13 w14 w15 w16 o9 n m v j o th f g b e s h ql qs qa qb an op tn b2 e2 s2 xl xc xs b3 e3 go t ht x5 x6 cells slots hcl6 hsl6 hI next)
        · exact z_tabIn (off := 865) (tgt := 904) hF hx (by omega) (by omega) dL_law_39 (by decide) (by decide) (lw_pieces hF hSc hL d0 t0 t1 t2 r0 r1 r2 r3 q0 q1 q2 q3 q4 y0 y1 d1 u0 u1 u2 u3 d2 d3 d4 w0 w1 w2 w3 w4 w5 w6 w7 w8 w9 w10 w11 w12 w13 w14 w15 w16 o9 n m v j o th f g b e s h ql qs qa qb an op tn b2 e2 s2 xl xc xs b3 e3 go t ht x5 x6 cells slots hcl6 hsl6 hI next)
        · exact z_tabIn (off := 878) (tgt := 917) hF hx (by omega) (by omega) dL_law_39 (by decide) (by decide) (lw_pieceAt_all hF hSc hL d0 t0 t1 t2 r0 r1 r2 r3 q0 q1 q2 q3 q4 y0 y1 d1 u0 u1 u2 u3 d2 d3 d4 w0 w1 w2 w3 w4 w5 w6 w7 w8 w9 w10 w11 w12 w13 w14 w15 w16 o9 n m v j o th f g b e s h ql qs qa qb an op tn b2 e2 s2 xl xc xs b3 e3 go t ht x5 x6 cells slots hcl6 hsl6 hI next)
        · exact z_tabIn (off := 934) (tgt := 973) hF hx (by omega) (by omega) dL_law_39 (by decide) (by decide) (lw_suggest_all hF hSc hL d0 t0 t1 t2 r0 r1 r2 r3 q0 q1 q2 q3 q4 y0 y1 d1 u0 u1 u2 u3 d2 d3 d4 w0 w1 w2 w3 w4 w5 w6 w7 w8 w9 w10 w11 w12 w13 w14 w15 w16 o9 n m v j o th f g b e s h ql qs qa qb an op tn b2 e2 s2 xl xc xs b3 e3 go t ht x5 x6 cells slots hcl6 hsl6 hI next)
        · exact z_tabIn (off := 1026) (tgt := 1065) hF hx (by omega) (by omega) dL_law_39 (by decide) (by decide) (lw_accept_all hF hSc hL d0 t0 t1 t2 r0 r1 r2 r3 q0 q1 q2 q3 q4 y0 y1 d1 u0 u1 u2 u3 d2 d3 d4 w0 w1 w2 w3 w4 w5 w6 w7 w8 w9 w10 w11 w12 w13 w14 w15 w16 o9 n m v j o th f g b e s h ql qs qa qb an op tn b2 e2 s2 xl xc xs b3 e3 go t ht x5 x6 cells slots hcl6 hsl6 hI next)
        · exact z_tabIn (off := 1082) (tgt := 1121) hF hx (by omega) (by omega) dL_law_39 (by decide) (by decide) (lw_reject_all hF hSc hL d0 t0 t1 t2 r0 r1 r2 r3 q0 q1 q2 q3 q4 y0 y1 d1 u0 u1 u2 u3 d2 d3 d4 w0 w1 w2 w3 w4 w5 w6 w7 w8 w9 w10 w11 w12 w13 w14 w15 w16 o9 n m v j o th f g b e s h ql qs qa qb an op tn b2 e2 s2 xl xc xs b3 e3 go t ht x5 x6 cells slots hcl6 hsl6 hI next)
        · exact z_tabIn (off := 1138) (tgt := 1177) hF hx (by omega) (by omega) dL_law_39 (by decide) (by decide) (lw_stateOf_all hF hSc hL d0 t0 t1 t2 r0 r1 r2 r3 q0 q1 q2 q3 q4 y0 y1 d1 u0 u1 u2 u3 d2 d3 d4 w0 w1 w2 w3 w4 w5 w6 w7 w8 w9 w10 w11 w12 w13 w14 w15 w16 o9 n m v j o th f g b e s h ql qs qa qb an op tn b2 e2 s2 xl xc xs b3 e3 go t ht x5 x6 cells slots hcl6 hsl6 hI next)
        · exact z_tabIn (off := 1194) (tgt := 1233) hF hx (by omega) (by omega) dL_law_39 (by decide) (by decide) (lw_overlaps_all hF hSc hL d0 t0 t1 t2 r0 r1 r2 r3 q0 q1 q2 q3 q4 y0 y1 d1 u0 u1 u2 u3 d2 d3 d4 w0 w1 w2 w3 w4 w5 w6 w7 w8 w9 w10 w11 w12 w13 w14 w15 w16 o9 n m v j o th f g b e s h ql qs qa qb an op tn b2 e2 s2 xl xc xs b3 e3 go t ht x5 x6 cells slots hcl6 hsl6 hI next)
      · refine z_tabOut (tgt := 1289) hF hx dL_law_39 (by decide) ?_
        refine z_widen (k := cells + 6) (n := slots + 36) (by omega) (by omega) ?_
        exact next n m v j o th f g b e s h ql qs qa qb an op tn b2 e2 s2 xl xc xs b3 e3 go x5 x6 hI
