set_option maxRecDepth 100000 in
theorem c_X12_began {l : Launch} {Ω : xW} {h : xH} {sz : Nat} {m : Nat} {st ac tp la le cu tk sa ti fa fl : Int32} {x : trS} {v : Int32} (hm : h m = some (mO m st ac tp la le cu tk sa ti fa fl (nI x.2))) (htr : h (m + 11) = some (.inl (.int, 16, .inl x.1))) (hx : x.2 ≤ 16) : xC l Ω yX12_began cX12_began 2 none 0 0 0 [.ref m, .int v] h sz (none) (xu (xu h (m + 11) (.inl (.int, 16, .inl ((bg x v).1)))) m (.inr (11, [.int 0, .int st, .ref (m + 1), .ref (m + 2), .ref (m + 3), .ref (m + 4), .ref (m + 5), .ref (m + 6), .int ac, .ref (m + 7), .int tp, .int la, .int le, .int cu, .int tk, .int sa, .int ti, .int fa, .int fl, .ref (m + 8), .ref (m + 9), .ref (m + 10), .ref (m + 11), .int (nI (bg x v).2)]))) (sz) := by
  refine xC_of (lv := [(0, .ref m), (1, .int v)]) pn_X12 rfl rfl (fun Γ X hΓ hbs => ?_)
  have X : xX Γ Ω cX12_began 2 RX12 "began" none 0 0 0 0 := X
  subst hΓ
  refine xr_aload_n X 0 dX12_began_0 rfl rfl ?_
  refine xr_get X fF_X12_234_11 hm rfl dX12_began_1 ?_
  refine xr_bipush (v := 16) X dX12_began_4 (by decide) ?_
  refine xr_icmp_ge (tgt := 29) X dX12_began_6 (by decide) (fun c_6 => ?_) (fun c_6 => ?_)
  · have c_6 := i32_le.mp c_6
    (try simp (disch := omega) only [nI_toInt, i32_add, i32_sub, i32_mul, i64_addl, i32_l, k32_16] at c_6)
    exact xr_vret X rfl rfl (by rw [show bg x v = x from if_neg (by omega)]; exact ((congrArg (fun z => xu z m _) (xu_id htr)).trans (xu_id hm)).symm) rfl rfl rfl dX12_began_29
  · have c_6 := mt i32_le.mpr c_6
    (try simp (disch := omega) only [nI_toInt, i32_add, i32_sub, i32_mul, i64_addl, i32_l, k32_16] at c_6)
    refine xr_aload_n X 0 dX12_began_9 rfl rfl ?_
    refine xr_get X fF_X12_41_11 hm rfl dX12_began_10 ?_
    refine xr_aload_n X 0 dX12_began_13 rfl rfl ?_
    refine xr_get X fF_X12_234_11 hm rfl dX12_began_14 ?_
    refine xr_iload_n X 1 dX12_began_17 rfl rfl ?_
    refine xr_iast (j := x.2) X htr (xI_n (by omega) (by omega)) dX12_began_18 ?_
    refine xr_aload_n X 0 dX12_began_19 rfl rfl ?_
    refine xr_dup X dX12_began_20 rfl ?_
    refine xr_get X fF_X12_234_11 (xu_at (xn0 _ rfl) hm) rfl dX12_began_21 ?_
    refine xr_iconst (v := 1) X dX12_began_24 (by decide) ?_
    refine xr_iadd X dX12_began_25 ?_
    refine xr_top (y := (nI (x.2 + 1))) (nI_1 _) ?_
    refine xr_put (fs' := [.int 0, .int st, .ref (m + 1), .ref (m + 2), .ref (m + 3), .ref (m + 4), .ref (m + 5), .ref (m + 6), .int ac, .ref (m + 7), .int tp, .int la, .int le, .int cu, .int tk, .int sa, .int ti, .int fa, .int fl, .ref (m + 8), .ref (m + 9), .ref (m + 10), .ref (m + 11), .int (nI (x.2 + 1))]) X (fW_X12_234_11 _) (xu_at (xn0 _ rfl) hm) rfl rfl rfl rfl dX12_began_26 ?_
    exact xr_vret X rfl rfl (by rw [show bg x v = (upd x.1 x.2 v, x.2 + 1) from if_pos (by omega)]) rfl rfl rfl dX12_began_29
set_option maxRecDepth 100000 in
theorem c_X12_plainSize {l : Launch} {Ω : xW} {h : xH} {sz : Nat} {m : Nat} {st ac tp la le cu tk sa ti fa fl : Int32} {x : trS} {t : Nat → Int32} {np day b : Nat} {kd wh mn : Nat → Nat} {p : Nat} (hm : h m = some (mO m st ac tp la le cu tk sa ti fa fl (nI x.2))) (htr : h (m + 11) = some (.inl (.int, 16, .inl x.1))) (ht : h (m + 4) = some (.inl (.int, 21, .inl t))) (T : tOK t np kd wh mn day b) (hx : x.2 ≤ 16) (hp : p < np) : xC l Ω yX12_plainSize cX12_plainSize 2 (some .int) 1 0 0 [.ref m, .int (nI p)] h sz (some (.int (nI (mn p)))) (xu (xu h (m + 11) (.inl (.int, 16, .inl ((bg x 10).1)))) m (.inr (11, [.int 0, .int st, .ref (m + 1), .ref (m + 2), .ref (m + 3), .ref (m + 4), .ref (m + 5), .ref (m + 6), .int ac, .ref (m + 7), .int tp, .int la, .int le, .int cu, .int tk, .int sa, .int ti, .int fa, .int fl, .ref (m + 8), .ref (m + 9), .ref (m + 10), .ref (m + 11), .int (nI (bg x 10).2)]))) (sz) := by
  refine xC_of (lv := [(0, .ref m), (1, .int (nI p))]) pn_X12 rfl rfl (fun Γ X hΓ hbs => ?_)
  have X : xX Γ Ω cX12_plainSize 2 RX12 "plainSize" (some .int) 1 35 0 0 := X
  subst hΓ
  have h6 := T.1
  have hT := T.2.2.2.2.2.2 p hp
  refine xr_aload_n X 0 dX12_plainSize_0 rfl rfl ?_
  refine xr_bipush (v := 10) X dX12_plainSize_1 (by decide) ?_
  refine xr_callV X hm rfl kw_1283 kw_1285 kw_49 cw_X12_began [.int 10] (c_X12_began (x := x) (v := 10) hm htr hx) rfl rfl rfl rfl rfl rfl rfl dX12_plainSize_3 ?_
  refine xr_aload_n X 0 dX12_plainSize_6 rfl rfl ?_
  refine xr_iload_n X 1 dX12_plainSize_7 rfl rfl ?_
  refine xr_iconst (v := 2) X dX12_plainSize_8 (by decide) ?_
  refine xr_callV X (xu_s _ _ _) rfl kw_1146 kw_1148 kw_37 cw_X12_of [.int (nI p), .int 2] (c_X12_of (p := p) (w := 2) (xu_s _ _ _) (xu_at (xn1 _ rfl) (xu_at (xne _ rfl) ht)) (nI_toInt (by omega)) (by decide) (by omega)) rfl rfl rfl rfl rfl rfl rfl dX12_plainSize_9 ?_
  refine xr_top (y := nI (mn p)) (by rw [show 3 + 3 * p + 2 = 5 + 3 * p by omega]; exact (T.2.2.2.2.2.2 p (by omega)).2.2.1) ?_
  exact xr_iret X rfl rfl rfl rfl rfl rfl dX12_plainSize_12
set_option maxRecDepth 100000 in
theorem c_X12_crowdSize_4 {l : Launch} {Ω : xW} {h : xH} {sz : Nat} {m : Nat} {st ac tp la le cu tk sa ti fa fl : Int32} {x : trS} {t : Nat → Int32} {np day b : Nat} {kd wh mn : Nat → Nat} {p : Nat} (hm : h m = some (mO m st ac tp la le cu tk sa ti fa fl (nI x.2))) (htr : h (m + 11) = some (.inl (.int, 16, .inl x.1))) (ht : h (m + 4) = some (.inl (.int, 21, .inl t))) (T : tOK t np kd wh mn day b) (hx : x.2 ≤ 16) (hp : p < np) (ek : kd p = 4) : xC l Ω yX12_crowdSize cX12_crowdSize 3 (some .int) 2 0 0 [.ref m, .int (nI p)] h sz (some (.int (nI (mn p) - 100))) (xu (xu h (m + 11) (.inl (.int, 16, .inl ((bg (bg x 13) 10).1)))) m (.inr (11, [.int 0, .int st, .ref (m + 1), .ref (m + 2), .ref (m + 3), .ref (m + 4), .ref (m + 5), .ref (m + 6), .int ac, .ref (m + 7), .int tp, .int la, .int le, .int cu, .int tk, .int sa, .int ti, .int fa, .int fl, .ref (m + 8), .ref (m + 9), .ref (m + 10), .ref (m + 11), .int (nI (bg (bg x 13) 10).2)]))) (sz) := by
  refine xC_of (lv := [(0, .ref m), (1, .int (nI p))]) pn_X12 rfl rfl (fun Γ X hΓ hbs => ?_)
  have X : xX Γ Ω cX12_crowdSize 3 RX12 "crowdSize" (some .int) 2 70 0 0 := X
  subst hΓ
  have h6 := T.1
  have hT := T.2.2.2.2.2.2 p hp
  refine xr_aload_n X 0 dX12_crowdSize_0 rfl rfl ?_
  refine xr_iload_n X 1 dX12_crowdSize_1 rfl rfl ?_
  refine xr_iconst (v := 0) X dX12_crowdSize_2 (by decide) ?_
  refine xr_callV X hm rfl kw_1146 kw_1148 kw_37 cw_X12_of [.int (nI p), .int 0] (c_X12_of (p := p) (w := 0) hm ht (nI_toInt (by omega)) (by decide) (by omega)) rfl rfl rfl rfl rfl rfl rfl dX12_crowdSize_3 ?_
  refine xr_top (y := nI (kd p)) (by rw [show 3 + 3 * p + 0 = 3 + 3 * p by omega]; exact (T.2.2.2.2.2.2 p (by omega)).1) ?_
  refine xr_iconst (v := 5) X dX12_crowdSize_6 (by decide) ?_
  refine xr_icmp_ne (tgt := 16) X dX12_crowdSize_7 (by decide) (fun _ => ?_) (fun c_7 => absurd c_7 (by rw [ek]; decide))
  refine xr_aload_n X 0 dX12_crowdSize_16 rfl rfl ?_
  refine xr_bipush (v := 13) X dX12_crowdSize_17 (by decide) ?_
  refine xr_callV X hm rfl kw_1283 kw_1285 kw_49 cw_X12_began [.int 13] (c_X12_began (x := x) (v := 13) hm htr hx) rfl rfl rfl rfl rfl rfl rfl dX12_crowdSize_19 ?_
  refine xr_aload_n X 0 dX12_crowdSize_22 rfl rfl ?_
  refine xr_iload_n X 1 dX12_crowdSize_23 rfl rfl ?_
  refine xr_callV X (xu_s _ _ _) rfl kw_1287 kw_1289 kw_50 cw_X12_plainSize [.int (nI p)] (c_X12_plainSize (x := bg x 13) (p := p) (xu_s _ _ _) (xu_at (xn1 _ rfl) (xu_s _ _ _)) (xu_at (xn1 _ rfl) (xu_at (xne _ rfl) ht)) T (bg_le hx) (by omega)) rfl rfl rfl rfl rfl rfl rfl dX12_crowdSize_24 ?_
  refine xr_heap (h' := (xu (xu h (m + 11) (.inl (.int, 16, .inl ((bg (bg x 13) 10).1)))) m (.inr (11, [.int 0, .int st, .ref (m + 1), .ref (m + 2), .ref (m + 3), .ref (m + 4), .ref (m + 5), .ref (m + 6), .int ac, .ref (m + 7), .int tp, .int la, .int le, .int cu, .int tk, .int sa, .int ti, .int fa, .int fl, .ref (m + 8), .ref (m + 9), .ref (m + 10), .ref (m + 11), .int (nI (bg (bg x 13) 10).2)])))) ((congrArg (fun z => xu z m _) (xu_in (xn0 _ rfl) (xu_uu _ _ _ _))).trans (xu_uu _ _ _ _)) ?_
  refine xr_bipush (v := 100) X dX12_crowdSize_27 (by decide) ?_
  refine xr_isub X dX12_crowdSize_29 ?_
  refine xr_istore_n (lv' := [(2, .int ((nI (mn p)) - 100)), (0, .ref m), (1, .int (nI p))]) X dX12_crowdSize_30 rfl rfl rfl ?_
  refine xr_aload_n X 1 dX12_crowdSize_31 rfl rfl ?_
  refine xr_iload_n X 2 dX12_crowdSize_32 rfl rfl ?_
  refine xr_iconst (v := 0) X dX12_crowdSize_33 (by decide) ?_
  refine xr_callV X (xu_s _ _ _) rfl kw_1146 kw_1148 kw_37 cw_X12_of [.int (nI p), .int 0] (c_X12_of (p := p) (w := 0) (xu_s _ _ _) (xu_at (xn1 _ rfl) (xu_at (xne _ rfl) ht)) (nI_toInt (by omega)) (by decide) (by omega)) rfl rfl rfl rfl rfl rfl rfl dX12_crowdSize_34 ?_
  refine xr_top (y := nI (kd p)) (by rw [show 3 + 3 * p + 0 = 3 + 3 * p by omega]; exact (T.2.2.2.2.2.2 p (by omega)).1) ?_
  refine xr_iconst (v := 5) X dX12_crowdSize_37 (by decide) ?_
  refine xr_icmp_ne (tgt := 47) X dX12_crowdSize_38 (by decide) (fun _ => ?_) (fun c_38 => absurd c_38 (by rw [ek]; decide))
  refine xr_iload_n X 0 dX12_crowdSize_47 rfl rfl ?_
  exact xr_iret X rfl rfl rfl rfl rfl rfl dX12_crowdSize_48
set_option maxRecDepth 100000 in
theorem c_X12_crowdSize_5 {l : Launch} {Ω : xW} {h : xH} {sz : Nat} {m : Nat} {st ac tp la le cu tk sa ti fa fl : Int32} {x : trS} {t : Nat → Int32} {np day b : Nat} {kd wh mn : Nat → Nat} {p : Nat} (hm : h m = some (mO m st ac tp la le cu tk sa ti fa fl (nI x.2))) (htr : h (m + 11) = some (.inl (.int, 16, .inl x.1))) (ht : h (m + 4) = some (.inl (.int, 21, .inl t))) (T : tOK t np kd wh mn day b) (hx : x.2 ≤ 16) (hp : p < np) (ek : kd p = 5) : xC l Ω yX12_crowdSize cX12_crowdSize 3 (some .int) 2 0 0 [.ref m, .int (nI p)] h sz (some (.int (2 * (nI (mn p) - 100)))) (xu (xu h (m + 11) (.inl (.int, 16, .inl ((bg (bg (bg x 14) 13) 10).1)))) m (.inr (11, [.int 0, .int st, .ref (m + 1), .ref (m + 2), .ref (m + 3), .ref (m + 4), .ref (m + 5), .ref (m + 6), .int ac, .ref (m + 7), .int tp, .int la, .int le, .int cu, .int tk, .int sa, .int ti, .int fa, .int fl, .ref (m + 8), .ref (m + 9), .ref (m + 10), .ref (m + 11), .int (nI (bg (bg (bg x 14) 13) 10).2)]))) (sz) := by
  refine xC_of (lv := [(0, .ref m), (1, .int (nI p))]) pn_X12 rfl rfl (fun Γ X hΓ hbs => ?_)
  have X : xX Γ Ω cX12_crowdSize 3 RX12 "crowdSize" (some .int) 2 70 0 0 := X
  subst hΓ
  have h6 := T.1
  have hT := T.2.2.2.2.2.2 p hp
  refine xr_aload_n X 0 dX12_crowdSize_0 rfl rfl ?_
  refine xr_iload_n X 1 dX12_crowdSize_1 rfl rfl ?_
  refine xr_iconst (v := 0) X dX12_crowdSize_2 (by decide) ?_
  refine xr_callV X hm rfl kw_1146 kw_1148 kw_37 cw_X12_of [.int (nI p), .int 0] (c_X12_of (p := p) (w := 0) hm ht (nI_toInt (by omega)) (by decide) (by omega)) rfl rfl rfl rfl rfl rfl rfl dX12_crowdSize_3 ?_
  refine xr_top (y := nI (kd p)) (by rw [show 3 + 3 * p + 0 = 3 + 3 * p by omega]; exact (T.2.2.2.2.2.2 p (by omega)).1) ?_
  refine xr_iconst (v := 5) X dX12_crowdSize_6 (by decide) ?_
  refine xr_icmp_ne (tgt := 16) X dX12_crowdSize_7 (by decide) (fun c_7 => absurd (by rw [ek]; decide) c_7) (fun _ => ?_)
  refine xr_aload_n X 0 dX12_crowdSize_10 rfl rfl ?_
  refine xr_bipush (v := 14) X dX12_crowdSize_11 (by decide) ?_
  refine xr_callV X hm rfl kw_1283 kw_1285 kw_49 cw_X12_began [.int 14] (c_X12_began (x := x) (v := 14) hm htr hx) rfl rfl rfl rfl rfl rfl rfl dX12_crowdSize_13 ?_
  refine xr_aload_n X 0 dX12_crowdSize_16 rfl rfl ?_
  refine xr_bipush (v := 13) X dX12_crowdSize_17 (by decide) ?_
  refine xr_callV X (xu_s _ _ _) rfl kw_1283 kw_1285 kw_49 cw_X12_began [.int 13] (c_X12_began (x := bg x 14) (v := 13) (xu_s _ _ _) (xu_at (xn1 _ rfl) (xu_s _ _ _)) (bg_le hx)) rfl rfl rfl rfl rfl rfl rfl dX12_crowdSize_19 ?_
  refine xr_heap (h' := (xu (xu h (m + 11) (.inl (.int, 16, .inl ((bg (bg x 14) 13).1)))) m (.inr (11, [.int 0, .int st, .ref (m + 1), .ref (m + 2), .ref (m + 3), .ref (m + 4), .ref (m + 5), .ref (m + 6), .int ac, .ref (m + 7), .int tp, .int la, .int le, .int cu, .int tk, .int sa, .int ti, .int fa, .int fl, .ref (m + 8), .ref (m + 9), .ref (m + 10), .ref (m + 11), .int (nI (bg (bg x 14) 13).2)])))) ((congrArg (fun z => xu z m _) (xu_in (xn0 _ rfl) (xu_uu _ _ _ _))).trans (xu_uu _ _ _ _)) ?_
  refine xr_aload_n X 0 dX12_crowdSize_22 rfl rfl ?_
  refine xr_iload_n X 1 dX12_crowdSize_23 rfl rfl ?_
  refine xr_callV X (xu_s _ _ _) rfl kw_1287 kw_1289 kw_50 cw_X12_plainSize [.int (nI p)] (c_X12_plainSize (x := bg (bg x 14) 13) (p := p) (xu_s _ _ _) (xu_at (xn1 _ rfl) (xu_s _ _ _)) (xu_at (xn1 _ rfl) (xu_at (xne _ rfl) ht)) T (bg_le (bg_le hx)) (by omega)) rfl rfl rfl rfl rfl rfl rfl dX12_crowdSize_24 ?_
  refine xr_heap (h' := (xu (xu h (m + 11) (.inl (.int, 16, .inl ((bg (bg (bg x 14) 13) 10).1)))) m (.inr (11, [.int 0, .int st, .ref (m + 1), .ref (m + 2), .ref (m + 3), .ref (m + 4), .ref (m + 5), .ref (m + 6), .int ac, .ref (m + 7), .int tp, .int la, .int le, .int cu, .int tk, .int sa, .int ti, .int fa, .int fl, .ref (m + 8), .ref (m + 9), .ref (m + 10), .ref (m + 11), .int (nI (bg (bg (bg x 14) 13) 10).2)])))) ((congrArg (fun z => xu z m _) (xu_in (xn0 _ rfl) (xu_uu _ _ _ _))).trans (xu_uu _ _ _ _)) ?_
  refine xr_bipush (v := 100) X dX12_crowdSize_27 (by decide) ?_
  refine xr_isub X dX12_crowdSize_29 ?_
  refine xr_istore_n (lv' := [(2, .int ((nI (mn p)) - 100)), (0, .ref m), (1, .int (nI p))]) X dX12_crowdSize_30 rfl rfl rfl ?_
  refine xr_aload_n X 1 dX12_crowdSize_31 rfl rfl ?_
  refine xr_iload_n X 2 dX12_crowdSize_32 rfl rfl ?_
  refine xr_iconst (v := 0) X dX12_crowdSize_33 (by decide) ?_
  refine xr_callV X (xu_s _ _ _) rfl kw_1146 kw_1148 kw_37 cw_X12_of [.int (nI p), .int 0] (c_X12_of (p := p) (w := 0) (xu_s _ _ _) (xu_at (xn1 _ rfl) (xu_at (xne _ rfl) ht)) (nI_toInt (by omega)) (by decide) (by omega)) rfl rfl rfl rfl rfl rfl rfl dX12_crowdSize_34 ?_
  refine xr_top (y := nI (kd p)) (by rw [show 3 + 3 * p + 0 = 3 + 3 * p by omega]; exact (T.2.2.2.2.2.2 p (by omega)).1) ?_
  refine xr_iconst (v := 5) X dX12_crowdSize_37 (by decide) ?_
  refine xr_icmp_ne (tgt := 47) X dX12_crowdSize_38 (by decide) (fun c_38 => absurd (by rw [ek]; decide) c_38) (fun _ => ?_)
  refine xr_iconst (v := 2) X dX12_crowdSize_41 (by decide) ?_
  refine xr_iload_n X 0 dX12_crowdSize_42 rfl rfl ?_
  refine xr_imul X dX12_crowdSize_43 ?_
  refine xr_goto (tgt := 48) X dX12_crowdSize_44 (by decide) ?_
  exact xr_iret X rfl rfl rfl rfl rfl rfl dX12_crowdSize_48
set_option maxRecDepth 100000 in
theorem c_X12_markOf_1 {l : Launch} {Ω : xW} {h : xH} {sz : Nat} {m : Nat} {st ac tp la le cu tk sa ti fa fl : Int32} {x : trS} {t : Nat → Int32} {np day b : Nat} {kd wh mn : Nat → Nat} {p : Nat} (hm : h m = some (mO m st ac tp la le cu tk sa ti fa fl (nI x.2))) (htr : h (m + 11) = some (.inl (.int, 16, .inl x.1))) (ht : h (m + 4) = some (.inl (.int, 21, .inl t))) (T : tOK t np kd wh mn day b) (hx : x.2 ≤ 16) (hp : p < np) (ek : kd p = 1) : xC l Ω yX12_markOf cX12_markOf 4 (some .int) 3 0 0 [.ref m, .int (nI p)] h sz (some (.int (nI p + nI (wh p)))) (xu (xu h (m + 11) (.inl (.int, 16, .inl ((bg (bg x 21) 20).1)))) m (.inr (11, [.int 0, .int st, .ref (m + 1), .ref (m + 2), .ref (m + 3), .ref (m + 4), .ref (m + 5), .ref (m + 6), .int ac, .ref (m + 7), .int tp, .int la, .int le, .int cu, .int tk, .int sa, .int ti, .int fa, .int fl, .ref (m + 8), .ref (m + 9), .ref (m + 10), .ref (m + 11), .int (nI (bg (bg x 21) 20).2)]))) (sz) := by
  refine xC_of (lv := [(0, .ref m), (1, .int (nI p))]) pn_X12 rfl rfl (fun Γ X hΓ hbs => ?_)
  have X : xX Γ Ω cX12_markOf 4 RX12 "markOf" (some .int) 3 105 0 0 := X
  subst hΓ
  have h6 := T.1
  have hT := T.2.2.2.2.2.2 p hp
  refine xr_aload_n X 0 dX12_markOf_0 rfl rfl ?_
  refine xr_iload_n X 1 dX12_markOf_1 rfl rfl ?_
  refine xr_iconst (v := 0) X dX12_markOf_2 (by decide) ?_
  refine xr_callV X hm rfl kw_1146 kw_1148 kw_37 cw_X12_of [.int (nI p), .int 0] (c_X12_of (p := p) (w := 0) hm ht (nI_toInt (by omega)) (by decide) (by omega)) rfl rfl rfl rfl rfl rfl rfl dX12_markOf_3 ?_
  refine xr_top (y := nI (kd p)) (by rw [show 3 + 3 * p + 0 = 3 + 3 * p by omega]; exact (T.2.2.2.2.2.2 p (by omega)).1) ?_
  refine xr_istore_n (lv' := [(2, .int (nI (kd p))), (0, .ref m), (1, .int (nI p))]) X dX12_markOf_6 rfl rfl rfl ?_
  refine xr_iload_n X 0 dX12_markOf_7 rfl rfl ?_
  refine xr_iconst (v := 4) X dX12_markOf_8 (by decide) ?_
  refine xr_icmp_lt (tgt := 32) X dX12_markOf_9 (by decide) (fun _ => ?_) (fun c_9 => absurd (by rw [ek]; decide) c_9)
  refine xr_iload_n X 0 dX12_markOf_32 rfl rfl ?_
  refine xr_iconst (v := 1) X dX12_markOf_33 (by decide) ?_
  refine xr_icmp_eq (tgt := 53) X dX12_markOf_34 (by decide) (fun _ => ?_) (fun c_34 => absurd (by rw [ek]; decide) c_34)
  refine xr_aload_n X 1 dX12_markOf_53 rfl rfl ?_
  refine xr_bipush (v := 21) X dX12_markOf_54 (by decide) ?_
  refine xr_callV X hm rfl kw_1283 kw_1285 kw_49 cw_X12_began [.int 21] (c_X12_began (x := x) (v := 21) hm htr hx) rfl rfl rfl rfl rfl rfl rfl dX12_markOf_56 ?_
  refine xr_aload_n X 1 dX12_markOf_59 rfl rfl ?_
  refine xr_bipush (v := 20) X dX12_markOf_60 (by decide) ?_
  refine xr_callV X (xu_s _ _ _) rfl kw_1283 kw_1285 kw_49 cw_X12_began [.int 20] (c_X12_began (x := bg x 21) (v := 20) (xu_s _ _ _) (xu_at (xn1 _ rfl) (xu_s _ _ _)) (bg_le hx)) rfl rfl rfl rfl rfl rfl rfl dX12_markOf_62 ?_
  refine xr_heap (h' := (xu (xu h (m + 11) (.inl (.int, 16, .inl ((bg (bg x 21) 20).1)))) m (.inr (11, [.int 0, .int st, .ref (m + 1), .ref (m + 2), .ref (m + 3), .ref (m + 4), .ref (m + 5), .ref (m + 6), .int ac, .ref (m + 7), .int tp, .int la, .int le, .int cu, .int tk, .int sa, .int ti, .int fa, .int fl, .ref (m + 8), .ref (m + 9), .ref (m + 10), .ref (m + 11), .int (nI (bg (bg x 21) 20).2)])))) ((congrArg (fun z => xu z m _) (xu_in (xn0 _ rfl) (xu_uu _ _ _ _))).trans (xu_uu _ _ _ _)) ?_
  refine xr_iload_n X 2 dX12_markOf_65 rfl rfl ?_
  refine xr_aload_n X 1 dX12_markOf_66 rfl rfl ?_
  refine xr_iload_n X 2 dX12_markOf_67 rfl rfl ?_
  refine xr_iconst (v := 1) X dX12_markOf_68 (by decide) ?_
  refine xr_callV X (xu_s _ _ _) rfl kw_1146 kw_1148 kw_37 cw_X12_of [.int (nI p), .int 1] (c_X12_of (p := p) (w := 1) (xu_s _ _ _) (xu_at (xn1 _ rfl) (xu_at (xne _ rfl) ht)) (nI_toInt (by omega)) (by decide) (by omega)) rfl rfl rfl rfl rfl rfl rfl dX12_markOf_69 ?_
  refine xr_top (y := nI (wh p)) (by rw [show 3 + 3 * p + 1 = 4 + 3 * p by omega]; exact (T.2.2.2.2.2.2 p (by omega)).2.1) ?_
  refine xr_iadd X dX12_markOf_72 ?_
  refine xr_istore_n (lv' := [(3, .int ((nI p) + (nI (wh p)))), (2, .int (nI (kd p))), (0, .ref m), (1, .int (nI p))]) X dX12_markOf_73 rfl rfl rfl ?_
  refine xr_iload_n X 1 dX12_markOf_74 rfl rfl ?_
  refine xr_iconst (v := 1) X dX12_markOf_75 (by decide) ?_
  refine xr_icmp_ne (tgt := 83) X dX12_markOf_76 (by decide) (fun c_76 => absurd (by rw [ek]; decide) c_76) (fun _ => ?_)
  refine xr_iload_n X 0 dX12_markOf_79 rfl rfl ?_
  refine xr_goto (tgt := 99) X dX12_markOf_80 (by decide) ?_
  exact xr_iret X rfl rfl rfl rfl rfl rfl dX12_markOf_99
set_option maxRecDepth 100000 in
theorem c_X12_markOf_2 {l : Launch} {Ω : xW} {h : xH} {sz : Nat} {m : Nat} {st ac tp la le cu tk sa ti fa fl : Int32} {x : trS} {t : Nat → Int32} {np day b : Nat} {kd wh mn : Nat → Nat} {p : Nat} (hm : h m = some (mO m st ac tp la le cu tk sa ti fa fl (nI x.2))) (htr : h (m + 11) = some (.inl (.int, 16, .inl x.1))) (ht : h (m + 4) = some (.inl (.int, 21, .inl t))) (T : tOK t np kd wh mn day b) (hx : x.2 ≤ 16) (hp : p < np) (ek : kd p = 2) : xC l Ω yX12_markOf cX12_markOf 4 (some .int) 3 0 0 [.ref m, .int (nI p)] h sz (some (.int (2 * (nI p + nI (wh p))))) (xu (xu h (m + 11) (.inl (.int, 16, .inl ((bg (bg (bg x 24) 21) 20).1)))) m (.inr (11, [.int 0, .int st, .ref (m + 1), .ref (m + 2), .ref (m + 3), .ref (m + 4), .ref (m + 5), .ref (m + 6), .int ac, .ref (m + 7), .int tp, .int la, .int le, .int cu, .int tk, .int sa, .int ti, .int fa, .int fl, .ref (m + 8), .ref (m + 9), .ref (m + 10), .ref (m + 11), .int (nI (bg (bg (bg x 24) 21) 20).2)]))) (sz) := by
  refine xC_of (lv := [(0, .ref m), (1, .int (nI p))]) pn_X12 rfl rfl (fun Γ X hΓ hbs => ?_)
  have X : xX Γ Ω cX12_markOf 4 RX12 "markOf" (some .int) 3 105 0 0 := X
  subst hΓ
  have h6 := T.1
  have hT := T.2.2.2.2.2.2 p hp
  refine xr_aload_n X 0 dX12_markOf_0 rfl rfl ?_
  refine xr_iload_n X 1 dX12_markOf_1 rfl rfl ?_
  refine xr_iconst (v := 0) X dX12_markOf_2 (by decide) ?_
  refine xr_callV X hm rfl kw_1146 kw_1148 kw_37 cw_X12_of [.int (nI p), .int 0] (c_X12_of (p := p) (w := 0) hm ht (nI_toInt (by omega)) (by decide) (by omega)) rfl rfl rfl rfl rfl rfl rfl dX12_markOf_3 ?_
  refine xr_top (y := nI (kd p)) (by rw [show 3 + 3 * p + 0 = 3 + 3 * p by omega]; exact (T.2.2.2.2.2.2 p (by omega)).1) ?_
  refine xr_istore_n (lv' := [(2, .int (nI (kd p))), (0, .ref m), (1, .int (nI p))]) X dX12_markOf_6 rfl rfl rfl ?_
  refine xr_iload_n X 0 dX12_markOf_7 rfl rfl ?_
  refine xr_iconst (v := 4) X dX12_markOf_8 (by decide) ?_
  refine xr_icmp_lt (tgt := 32) X dX12_markOf_9 (by decide) (fun _ => ?_) (fun c_9 => absurd (by rw [ek]; decide) c_9)
  refine xr_iload_n X 0 dX12_markOf_32 rfl rfl ?_
  refine xr_iconst (v := 1) X dX12_markOf_33 (by decide) ?_
  refine xr_icmp_eq (tgt := 53) X dX12_markOf_34 (by decide) (fun c_34 => absurd c_34 (by rw [ek]; decide)) (fun _ => ?_)
  refine xr_aload_n X 1 dX12_markOf_37 rfl rfl ?_
  refine xr_iload_n X 0 dX12_markOf_38 rfl rfl ?_
  refine xr_iconst (v := 3) X dX12_markOf_39 (by decide) ?_
  refine xr_icmp_ne (tgt := 48) X dX12_markOf_40 (by decide) (fun _ => ?_) (fun c_40 => absurd c_40 (by rw [ek]; decide))
  refine xr_bipush (v := 24) X dX12_markOf_48 (by decide) ?_
  refine xr_callV X hm rfl kw_1283 kw_1285 kw_49 cw_X12_began [.int 24] (c_X12_began (x := x) (v := 24) hm htr hx) rfl rfl rfl rfl rfl rfl rfl dX12_markOf_50 ?_
  refine xr_aload_n X 1 dX12_markOf_53 rfl rfl ?_
  refine xr_bipush (v := 21) X dX12_markOf_54 (by decide) ?_
  refine xr_callV X (xu_s _ _ _) rfl kw_1283 kw_1285 kw_49 cw_X12_began [.int 21] (c_X12_began (x := bg x 24) (v := 21) (xu_s _ _ _) (xu_at (xn1 _ rfl) (xu_s _ _ _)) (bg_le hx)) rfl rfl rfl rfl rfl rfl rfl dX12_markOf_56 ?_
  refine xr_heap (h' := (xu (xu h (m + 11) (.inl (.int, 16, .inl ((bg (bg x 24) 21).1)))) m (.inr (11, [.int 0, .int st, .ref (m + 1), .ref (m + 2), .ref (m + 3), .ref (m + 4), .ref (m + 5), .ref (m + 6), .int ac, .ref (m + 7), .int tp, .int la, .int le, .int cu, .int tk, .int sa, .int ti, .int fa, .int fl, .ref (m + 8), .ref (m + 9), .ref (m + 10), .ref (m + 11), .int (nI (bg (bg x 24) 21).2)])))) ((congrArg (fun z => xu z m _) (xu_in (xn0 _ rfl) (xu_uu _ _ _ _))).trans (xu_uu _ _ _ _)) ?_
  refine xr_aload_n X 1 dX12_markOf_59 rfl rfl ?_
  refine xr_bipush (v := 20) X dX12_markOf_60 (by decide) ?_
  refine xr_callV X (xu_s _ _ _) rfl kw_1283 kw_1285 kw_49 cw_X12_began [.int 20] (c_X12_began (x := bg (bg x 24) 21) (v := 20) (xu_s _ _ _) (xu_at (xn1 _ rfl) (xu_s _ _ _)) (bg_le (bg_le hx))) rfl rfl rfl rfl rfl rfl rfl dX12_markOf_62 ?_
  refine xr_heap (h' := (xu (xu h (m + 11) (.inl (.int, 16, .inl ((bg (bg (bg x 24) 21) 20).1)))) m (.inr (11, [.int 0, .int st, .ref (m + 1), .ref (m + 2), .ref (m + 3), .ref (m + 4), .ref (m + 5), .ref (m + 6), .int ac, .ref (m + 7), .int tp, .int la, .int le, .int cu, .int tk, .int sa, .int ti, .int fa, .int fl, .ref (m + 8), .ref (m + 9), .ref (m + 10), .ref (m + 11), .int (nI (bg (bg (bg x 24) 21) 20).2)])))) ((congrArg (fun z => xu z m _) (xu_in (xn0 _ rfl) (xu_uu _ _ _ _))).trans (xu_uu _ _ _ _)) ?_
  refine xr_iload_n X 2 dX12_markOf_65 rfl rfl ?_
  refine xr_aload_n X 1 dX12_markOf_66 rfl rfl ?_
  refine xr_iload_n X 2 dX12_markOf_67 rfl rfl ?_
  refine xr_iconst (v := 1) X dX12_markOf_68 (by decide) ?_
  refine xr_callV X (xu_s _ _ _) rfl kw_1146 kw_1148 kw_37 cw_X12_of [.int (nI p), .int 1] (c_X12_of (p := p) (w := 1) (xu_s _ _ _) (xu_at (xn1 _ rfl) (xu_at (xne _ rfl) ht)) (nI_toInt (by omega)) (by decide) (by omega)) rfl rfl rfl rfl rfl rfl rfl dX12_markOf_69 ?_
  refine xr_top (y := nI (wh p)) (by rw [show 3 + 3 * p + 1 = 4 + 3 * p by omega]; exact (T.2.2.2.2.2.2 p (by omega)).2.1) ?_
  refine xr_iadd X dX12_markOf_72 ?_
  refine xr_istore_n (lv' := [(3, .int ((nI p) + (nI (wh p)))), (2, .int (nI (kd p))), (0, .ref m), (1, .int (nI p))]) X dX12_markOf_73 rfl rfl rfl ?_
  refine xr_iload_n X 1 dX12_markOf_74 rfl rfl ?_
  refine xr_iconst (v := 1) X dX12_markOf_75 (by decide) ?_
  refine xr_icmp_ne (tgt := 83) X dX12_markOf_76 (by decide) (fun _ => ?_) (fun c_76 => absurd c_76 (by rw [ek]; decide))
  refine xr_iload_n X 1 dX12_markOf_83 rfl rfl ?_
  refine xr_iconst (v := 3) X dX12_markOf_84 (by decide) ?_
  refine xr_icmp_ne (tgt := 96) X dX12_markOf_85 (by decide) (fun _ => ?_) (fun c_85 => absurd c_85 (by rw [ek]; decide))
  refine xr_iconst (v := 2) X dX12_markOf_96 (by decide) ?_
  refine xr_iload_n X 0 dX12_markOf_97 rfl rfl ?_
  refine xr_imul X dX12_markOf_98 ?_
  exact xr_iret X rfl rfl rfl rfl rfl rfl dX12_markOf_99
set_option maxRecDepth 100000 in
theorem c_X12_markOf_3 {l : Launch} {Ω : xW} {h : xH} {sz : Nat} {m : Nat} {st ac tp la le cu tk sa ti fa fl : Int32} {x : trS} {t : Nat → Int32} {np day b : Nat} {kd wh mn : Nat → Nat} {p : Nat} (hm : h m = some (mO m st ac tp la le cu tk sa ti fa fl (nI x.2))) (htr : h (m + 11) = some (.inl (.int, 16, .inl x.1))) (ht : h (m + 4) = some (.inl (.int, 21, .inl t))) (T : tOK t np kd wh mn day b) (hx : x.2 ≤ 16) (hp : p < np) (ek : kd p = 3) : xC l Ω yX12_markOf cX12_markOf 4 (some .int) 3 0 0 [.ref m, .int (nI p)] h sz (some (.int ((nI p + nI (wh p)) - 1000))) (xu (xu h (m + 11) (.inl (.int, 16, .inl ((bg (bg (bg x 22) 21) 20).1)))) m (.inr (11, [.int 0, .int st, .ref (m + 1), .ref (m + 2), .ref (m + 3), .ref (m + 4), .ref (m + 5), .ref (m + 6), .int ac, .ref (m + 7), .int tp, .int la, .int le, .int cu, .int tk, .int sa, .int ti, .int fa, .int fl, .ref (m + 8), .ref (m + 9), .ref (m + 10), .ref (m + 11), .int (nI (bg (bg (bg x 22) 21) 20).2)]))) (sz) := by
  refine xC_of (lv := [(0, .ref m), (1, .int (nI p))]) pn_X12 rfl rfl (fun Γ X hΓ hbs => ?_)
  have X : xX Γ Ω cX12_markOf 4 RX12 "markOf" (some .int) 3 105 0 0 := X
  subst hΓ
  have h6 := T.1
  have hT := T.2.2.2.2.2.2 p hp
  refine xr_aload_n X 0 dX12_markOf_0 rfl rfl ?_
  refine xr_iload_n X 1 dX12_markOf_1 rfl rfl ?_
  refine xr_iconst (v := 0) X dX12_markOf_2 (by decide) ?_
  refine xr_callV X hm rfl kw_1146 kw_1148 kw_37 cw_X12_of [.int (nI p), .int 0] (c_X12_of (p := p) (w := 0) hm ht (nI_toInt (by omega)) (by decide) (by omega)) rfl rfl rfl rfl rfl rfl rfl dX12_markOf_3 ?_
  refine xr_top (y := nI (kd p)) (by rw [show 3 + 3 * p + 0 = 3 + 3 * p by omega]; exact (T.2.2.2.2.2.2 p (by omega)).1) ?_
  refine xr_istore_n (lv' := [(2, .int (nI (kd p))), (0, .ref m), (1, .int (nI p))]) X dX12_markOf_6 rfl rfl rfl ?_
  refine xr_iload_n X 0 dX12_markOf_7 rfl rfl ?_
  refine xr_iconst (v := 4) X dX12_markOf_8 (by decide) ?_
  refine xr_icmp_lt (tgt := 32) X dX12_markOf_9 (by decide) (fun _ => ?_) (fun c_9 => absurd (by rw [ek]; decide) c_9)
  refine xr_iload_n X 0 dX12_markOf_32 rfl rfl ?_
  refine xr_iconst (v := 1) X dX12_markOf_33 (by decide) ?_
  refine xr_icmp_eq (tgt := 53) X dX12_markOf_34 (by decide) (fun c_34 => absurd c_34 (by rw [ek]; decide)) (fun _ => ?_)
  refine xr_aload_n X 1 dX12_markOf_37 rfl rfl ?_
  refine xr_iload_n X 0 dX12_markOf_38 rfl rfl ?_
  refine xr_iconst (v := 3) X dX12_markOf_39 (by decide) ?_
  refine xr_icmp_ne (tgt := 48) X dX12_markOf_40 (by decide) (fun c_40 => absurd (by rw [ek]; decide) c_40) (fun _ => ?_)
  refine xr_bipush (v := 22) X dX12_markOf_43 (by decide) ?_
  refine xr_goto (tgt := 50) X dX12_markOf_45 (by decide) ?_
  refine xr_callV X hm rfl kw_1283 kw_1285 kw_49 cw_X12_began [.int 22] (c_X12_began (x := x) (v := 22) hm htr hx) rfl rfl rfl rfl rfl rfl rfl dX12_markOf_50 ?_
  refine xr_aload_n X 1 dX12_markOf_53 rfl rfl ?_
  refine xr_bipush (v := 21) X dX12_markOf_54 (by decide) ?_
  refine xr_callV X (xu_s _ _ _) rfl kw_1283 kw_1285 kw_49 cw_X12_began [.int 21] (c_X12_began (x := bg x 22) (v := 21) (xu_s _ _ _) (xu_at (xn1 _ rfl) (xu_s _ _ _)) (bg_le hx)) rfl rfl rfl rfl rfl rfl rfl dX12_markOf_56 ?_
  refine xr_heap (h' := (xu (xu h (m + 11) (.inl (.int, 16, .inl ((bg (bg x 22) 21).1)))) m (.inr (11, [.int 0, .int st, .ref (m + 1), .ref (m + 2), .ref (m + 3), .ref (m + 4), .ref (m + 5), .ref (m + 6), .int ac, .ref (m + 7), .int tp, .int la, .int le, .int cu, .int tk, .int sa, .int ti, .int fa, .int fl, .ref (m + 8), .ref (m + 9), .ref (m + 10), .ref (m + 11), .int (nI (bg (bg x 22) 21).2)])))) ((congrArg (fun z => xu z m _) (xu_in (xn0 _ rfl) (xu_uu _ _ _ _))).trans (xu_uu _ _ _ _)) ?_
  refine xr_aload_n X 1 dX12_markOf_59 rfl rfl ?_
  refine xr_bipush (v := 20) X dX12_markOf_60 (by decide) ?_
  refine xr_callV X (xu_s _ _ _) rfl kw_1283 kw_1285 kw_49 cw_X12_began [.int 20] (c_X12_began (x := bg (bg x 22) 21) (v := 20) (xu_s _ _ _) (xu_at (xn1 _ rfl) (xu_s _ _ _)) (bg_le (bg_le hx))) rfl rfl rfl rfl rfl rfl rfl dX12_markOf_62 ?_
  refine xr_heap (h' := (xu (xu h (m + 11) (.inl (.int, 16, .inl ((bg (bg (bg x 22) 21) 20).1)))) m (.inr (11, [.int 0, .int st, .ref (m + 1), .ref (m + 2), .ref (m + 3), .ref (m + 4), .ref (m + 5), .ref (m + 6), .int ac, .ref (m + 7), .int tp, .int la, .int le, .int cu, .int tk, .int sa, .int ti, .int fa, .int fl, .ref (m + 8), .ref (m + 9), .ref (m + 10), .ref (m + 11), .int (nI (bg (bg (bg x 22) 21) 20).2)])))) ((congrArg (fun z => xu z m _) (xu_in (xn0 _ rfl) (xu_uu _ _ _ _))).trans (xu_uu _ _ _ _)) ?_
  refine xr_iload_n X 2 dX12_markOf_65 rfl rfl ?_
  refine xr_aload_n X 1 dX12_markOf_66 rfl rfl ?_
  refine xr_iload_n X 2 dX12_markOf_67 rfl rfl ?_
  refine xr_iconst (v := 1) X dX12_markOf_68 (by decide) ?_
  refine xr_callV X (xu_s _ _ _) rfl kw_1146 kw_1148 kw_37 cw_X12_of [.int (nI p), .int 1] (c_X12_of (p := p) (w := 1) (xu_s _ _ _) (xu_at (xn1 _ rfl) (xu_at (xne _ rfl) ht)) (nI_toInt (by omega)) (by decide) (by omega)) rfl rfl rfl rfl rfl rfl rfl dX12_markOf_69 ?_
  refine xr_top (y := nI (wh p)) (by rw [show 3 + 3 * p + 1 = 4 + 3 * p by omega]; exact (T.2.2.2.2.2.2 p (by omega)).2.1) ?_
  refine xr_iadd X dX12_markOf_72 ?_
  refine xr_istore_n (lv' := [(3, .int ((nI p) + (nI (wh p)))), (2, .int (nI (kd p))), (0, .ref m), (1, .int (nI p))]) X dX12_markOf_73 rfl rfl rfl ?_
  refine xr_iload_n X 1 dX12_markOf_74 rfl rfl ?_
  refine xr_iconst (v := 1) X dX12_markOf_75 (by decide) ?_
  refine xr_icmp_ne (tgt := 83) X dX12_markOf_76 (by decide) (fun _ => ?_) (fun c_76 => absurd c_76 (by rw [ek]; decide))
  refine xr_iload_n X 1 dX12_markOf_83 rfl rfl ?_
  refine xr_iconst (v := 3) X dX12_markOf_84 (by decide) ?_
  refine xr_icmp_ne (tgt := 96) X dX12_markOf_85 (by decide) (fun c_85 => absurd (by rw [ek]; decide) c_85) (fun _ => ?_)
  refine xr_iload_n X 0 dX12_markOf_88 rfl rfl ?_
  refine xr_sipush (v := 1000) X dX12_markOf_89 (by decide) ?_
  refine xr_isub X dX12_markOf_92 ?_
  refine xr_goto (tgt := 99) X dX12_markOf_93 (by decide) ?_
  exact xr_iret X rfl rfl rfl rfl rfl rfl dX12_markOf_99
set_option maxRecDepth 100000 in
theorem c_X12_markOf_4 {l : Launch} {Ω : xW} {h : xH} {sz : Nat} {m : Nat} {st ac tp la le cu tk sa ti fa fl : Int32} {x : trS} {t : Nat → Int32} {np day b : Nat} {kd wh mn : Nat → Nat} {p : Nat} (hm : h m = some (mO m st ac tp la le cu tk sa ti fa fl (nI x.2))) (htr : h (m + 11) = some (.inl (.int, 16, .inl x.1))) (ht : h (m + 4) = some (.inl (.int, 21, .inl t))) (T : tOK t np kd wh mn day b) (hx : x.2 ≤ 16) (hp : p < np) (ek : kd p = 4) : xC l Ω yX12_markOf cX12_markOf 4 (some .int) 3 0 0 [.ref m, .int (nI p)] h sz (some (.int (nI p - (nI (mn p) - 100)))) (xu (xu h (m + 11) (.inl (.int, 16, .inl ((bg (bg (bg (bg x 23) 20) 13) 10).1)))) m (.inr (11, [.int 0, .int st, .ref (m + 1), .ref (m + 2), .ref (m + 3), .ref (m + 4), .ref (m + 5), .ref (m + 6), .int ac, .ref (m + 7), .int tp, .int la, .int le, .int cu, .int tk, .int sa, .int ti, .int fa, .int fl, .ref (m + 8), .ref (m + 9), .ref (m + 10), .ref (m + 11), .int (nI (bg (bg (bg (bg x 23) 20) 13) 10).2)]))) (sz) := by
  refine xC_of (lv := [(0, .ref m), (1, .int (nI p))]) pn_X12 rfl rfl (fun Γ X hΓ hbs => ?_)
  have X : xX Γ Ω cX12_markOf 4 RX12 "markOf" (some .int) 3 105 0 0 := X
  subst hΓ
  have h6 := T.1
  have hT := T.2.2.2.2.2.2 p hp
  refine xr_aload_n X 0 dX12_markOf_0 rfl rfl ?_
  refine xr_iload_n X 1 dX12_markOf_1 rfl rfl ?_
  refine xr_iconst (v := 0) X dX12_markOf_2 (by decide) ?_
  refine xr_callV X hm rfl kw_1146 kw_1148 kw_37 cw_X12_of [.int (nI p), .int 0] (c_X12_of (p := p) (w := 0) hm ht (nI_toInt (by omega)) (by decide) (by omega)) rfl rfl rfl rfl rfl rfl rfl dX12_markOf_3 ?_
  refine xr_top (y := nI (kd p)) (by rw [show 3 + 3 * p + 0 = 3 + 3 * p by omega]; exact (T.2.2.2.2.2.2 p (by omega)).1) ?_
  refine xr_istore_n (lv' := [(2, .int (nI (kd p))), (0, .ref m), (1, .int (nI p))]) X dX12_markOf_6 rfl rfl rfl ?_
  refine xr_iload_n X 0 dX12_markOf_7 rfl rfl ?_
  refine xr_iconst (v := 4) X dX12_markOf_8 (by decide) ?_
  refine xr_icmp_lt (tgt := 32) X dX12_markOf_9 (by decide) (fun c_9 => absurd c_9 (by rw [ek]; decide)) (fun _ => ?_)
  refine xr_aload_n X 1 dX12_markOf_12 rfl rfl ?_
  refine xr_bipush (v := 23) X dX12_markOf_13 (by decide) ?_
  refine xr_callV X hm rfl kw_1283 kw_1285 kw_49 cw_X12_began [.int 23] (c_X12_began (x := x) (v := 23) hm htr hx) rfl rfl rfl rfl rfl rfl rfl dX12_markOf_15 ?_
  refine xr_aload_n X 1 dX12_markOf_18 rfl rfl ?_
  refine xr_bipush (v := 20) X dX12_markOf_19 (by decide) ?_
  refine xr_callV X (xu_s _ _ _) rfl kw_1283 kw_1285 kw_49 cw_X12_began [.int 20] (c_X12_began (x := bg x 23) (v := 20) (xu_s _ _ _) (xu_at (xn1 _ rfl) (xu_s _ _ _)) (bg_le hx)) rfl rfl rfl rfl rfl rfl rfl dX12_markOf_21 ?_
  refine xr_heap (h' := (xu (xu h (m + 11) (.inl (.int, 16, .inl ((bg (bg x 23) 20).1)))) m (.inr (11, [.int 0, .int st, .ref (m + 1), .ref (m + 2), .ref (m + 3), .ref (m + 4), .ref (m + 5), .ref (m + 6), .int ac, .ref (m + 7), .int tp, .int la, .int le, .int cu, .int tk, .int sa, .int ti, .int fa, .int fl, .ref (m + 8), .ref (m + 9), .ref (m + 10), .ref (m + 11), .int (nI (bg (bg x 23) 20).2)])))) ((congrArg (fun z => xu z m _) (xu_in (xn0 _ rfl) (xu_uu _ _ _ _))).trans (xu_uu _ _ _ _)) ?_
  refine xr_iload_n X 2 dX12_markOf_24 rfl rfl ?_
  refine xr_aload_n X 1 dX12_markOf_25 rfl rfl ?_
  refine xr_iload_n X 2 dX12_markOf_26 rfl rfl ?_
  refine xr_callV X (xu_s _ _ _) rfl kw_1279 kw_1281 kw_48 cw_X12_crowdSize [.int (nI p)] (c_X12_crowdSize_4 (x := bg (bg x 23) 20) (p := p) (xu_s _ _ _) (xu_at (xn1 _ rfl) (xu_s _ _ _)) (xu_at (xn1 _ rfl) (xu_at (xne _ rfl) ht)) T (bg_le (bg_le hx)) (by omega) ek) rfl rfl rfl rfl rfl rfl rfl dX12_markOf_27 ?_
  refine xr_heap (h' := (xu (xu h (m + 11) (.inl (.int, 16, .inl ((bg (bg (bg (bg x 23) 20) 13) 10).1)))) m (.inr (11, [.int 0, .int st, .ref (m + 1), .ref (m + 2), .ref (m + 3), .ref (m + 4), .ref (m + 5), .ref (m + 6), .int ac, .ref (m + 7), .int tp, .int la, .int le, .int cu, .int tk, .int sa, .int ti, .int fa, .int fl, .ref (m + 8), .ref (m + 9), .ref (m + 10), .ref (m + 11), .int (nI (bg (bg (bg (bg x 23) 20) 13) 10).2)])))) ((congrArg (fun z => xu z m _) (xu_in (xn0 _ rfl) (xu_uu _ _ _ _))).trans (xu_uu _ _ _ _)) ?_
  refine xr_isub X dX12_markOf_30 ?_
  exact xr_iret X rfl rfl rfl rfl rfl rfl dX12_markOf_31
set_option maxRecDepth 100000 in
theorem c_X12_markOf_5 {l : Launch} {Ω : xW} {h : xH} {sz : Nat} {m : Nat} {st ac tp la le cu tk sa ti fa fl : Int32} {x : trS} {t : Nat → Int32} {np day b : Nat} {kd wh mn : Nat → Nat} {p : Nat} (hm : h m = some (mO m st ac tp la le cu tk sa ti fa fl (nI x.2))) (htr : h (m + 11) = some (.inl (.int, 16, .inl x.1))) (ht : h (m + 4) = some (.inl (.int, 21, .inl t))) (T : tOK t np kd wh mn day b) (hx : x.2 ≤ 16) (hp : p < np) (ek : kd p = 5) : xC l Ω yX12_markOf cX12_markOf 4 (some .int) 3 0 0 [.ref m, .int (nI p)] h sz (some (.int (nI p - 2 * (nI (mn p) - 100)))) (xu (xu h (m + 11) (.inl (.int, 16, .inl ((bg (bg (bg (bg (bg x 23) 20) 14) 13) 10).1)))) m (.inr (11, [.int 0, .int st, .ref (m + 1), .ref (m + 2), .ref (m + 3), .ref (m + 4), .ref (m + 5), .ref (m + 6), .int ac, .ref (m + 7), .int tp, .int la, .int le, .int cu, .int tk, .int sa, .int ti, .int fa, .int fl, .ref (m + 8), .ref (m + 9), .ref (m + 10), .ref (m + 11), .int (nI (bg (bg (bg (bg (bg x 23) 20) 14) 13) 10).2)]))) (sz) := by
  refine xC_of (lv := [(0, .ref m), (1, .int (nI p))]) pn_X12 rfl rfl (fun Γ X hΓ hbs => ?_)
  have X : xX Γ Ω cX12_markOf 4 RX12 "markOf" (some .int) 3 105 0 0 := X
  subst hΓ
  have h6 := T.1
  have hT := T.2.2.2.2.2.2 p hp
  refine xr_aload_n X 0 dX12_markOf_0 rfl rfl ?_
  refine xr_iload_n X 1 dX12_markOf_1 rfl rfl ?_
  refine xr_iconst (v := 0) X dX12_markOf_2 (by decide) ?_
  refine xr_callV X hm rfl kw_1146 kw_1148 kw_37 cw_X12_of [.int (nI p), .int 0] (c_X12_of (p := p) (w := 0) hm ht (nI_toInt (by omega)) (by decide) (by omega)) rfl rfl rfl rfl rfl rfl rfl dX12_markOf_3 ?_
  refine xr_top (y := nI (kd p)) (by rw [show 3 + 3 * p + 0 = 3 + 3 * p by omega]; exact (T.2.2.2.2.2.2 p (by omega)).1) ?_
  refine xr_istore_n (lv' := [(2, .int (nI (kd p))), (0, .ref m), (1, .int (nI p))]) X dX12_markOf_6 rfl rfl rfl ?_
  refine xr_iload_n X 0 dX12_markOf_7 rfl rfl ?_
  refine xr_iconst (v := 4) X dX12_markOf_8 (by decide) ?_
  refine xr_icmp_lt (tgt := 32) X dX12_markOf_9 (by decide) (fun c_9 => absurd c_9 (by rw [ek]; decide)) (fun _ => ?_)
  refine xr_aload_n X 1 dX12_markOf_12 rfl rfl ?_
  refine xr_bipush (v := 23) X dX12_markOf_13 (by decide) ?_
  refine xr_callV X hm rfl kw_1283 kw_1285 kw_49 cw_X12_began [.int 23] (c_X12_began (x := x) (v := 23) hm htr hx) rfl rfl rfl rfl rfl rfl rfl dX12_markOf_15 ?_
  refine xr_aload_n X 1 dX12_markOf_18 rfl rfl ?_
  refine xr_bipush (v := 20) X dX12_markOf_19 (by decide) ?_
  refine xr_callV X (xu_s _ _ _) rfl kw_1283 kw_1285 kw_49 cw_X12_began [.int 20] (c_X12_began (x := bg x 23) (v := 20) (xu_s _ _ _) (xu_at (xn1 _ rfl) (xu_s _ _ _)) (bg_le hx)) rfl rfl rfl rfl rfl rfl rfl dX12_markOf_21 ?_
  refine xr_heap (h' := (xu (xu h (m + 11) (.inl (.int, 16, .inl ((bg (bg x 23) 20).1)))) m (.inr (11, [.int 0, .int st, .ref (m + 1), .ref (m + 2), .ref (m + 3), .ref (m + 4), .ref (m + 5), .ref (m + 6), .int ac, .ref (m + 7), .int tp, .int la, .int le, .int cu, .int tk, .int sa, .int ti, .int fa, .int fl, .ref (m + 8), .ref (m + 9), .ref (m + 10), .ref (m + 11), .int (nI (bg (bg x 23) 20).2)])))) ((congrArg (fun z => xu z m _) (xu_in (xn0 _ rfl) (xu_uu _ _ _ _))).trans (xu_uu _ _ _ _)) ?_
  refine xr_iload_n X 2 dX12_markOf_24 rfl rfl ?_
  refine xr_aload_n X 1 dX12_markOf_25 rfl rfl ?_
  refine xr_iload_n X 2 dX12_markOf_26 rfl rfl ?_
  refine xr_callV X (xu_s _ _ _) rfl kw_1279 kw_1281 kw_48 cw_X12_crowdSize [.int (nI p)] (c_X12_crowdSize_5 (x := bg (bg x 23) 20) (p := p) (xu_s _ _ _) (xu_at (xn1 _ rfl) (xu_s _ _ _)) (xu_at (xn1 _ rfl) (xu_at (xne _ rfl) ht)) T (bg_le (bg_le hx)) (by omega) ek) rfl rfl rfl rfl rfl rfl rfl dX12_markOf_27 ?_
  refine xr_heap (h' := (xu (xu h (m + 11) (.inl (.int, 16, .inl ((bg (bg (bg (bg (bg x 23) 20) 14) 13) 10).1)))) m (.inr (11, [.int 0, .int st, .ref (m + 1), .ref (m + 2), .ref (m + 3), .ref (m + 4), .ref (m + 5), .ref (m + 6), .int ac, .ref (m + 7), .int tp, .int la, .int le, .int cu, .int tk, .int sa, .int ti, .int fa, .int fl, .ref (m + 8), .ref (m + 9), .ref (m + 10), .ref (m + 11), .int (nI (bg (bg (bg (bg (bg x 23) 20) 14) 13) 10).2)])))) ((congrArg (fun z => xu z m _) (xu_in (xn0 _ rfl) (xu_uu _ _ _ _))).trans (xu_uu _ _ _ _)) ?_
  refine xr_isub X dX12_markOf_30 ?_
  exact xr_iret X rfl rfl rfl rfl rfl rfl dX12_markOf_31
set_option maxRecDepth 100000 in
theorem c_X12_sizeOf_1 {l : Launch} {Ω : xW} {h : xH} {sz : Nat} {m : Nat} {st ac tp la le cu tk sa ti fa fl : Int32} {x : trS} {t : Nat → Int32} {np day b : Nat} {kd wh mn : Nat → Nat} {p : Nat} (hm : h m = some (mO m st ac tp la le cu tk sa ti fa fl (nI x.2))) (htr : h (m + 11) = some (.inl (.int, 16, .inl x.1))) (ht : h (m + 4) = some (.inl (.int, 21, .inl t))) (T : tOK t np kd wh mn day b) (hx : x.2 ≤ 16) (hp : p < np) (ek : kd p = 1) : xC l Ω yX12_sizeOf cX12_sizeOf 4 (some .int) 4 0 0 [.ref m, .int (nI p)] h sz (some (.int (nI (mn p) + (nI p + nI (wh p))))) (xu (xu h (m + 11) (.inl (.int, 16, .inl ((bg (bg (bg (bg x 11) 10) 21) 20).1)))) m (.inr (11, [.int 0, .int st, .ref (m + 1), .ref (m + 2), .ref (m + 3), .ref (m + 4), .ref (m + 5), .ref (m + 6), .int ac, .ref (m + 7), .int tp, .int la, .int le, .int cu, .int tk, .int sa, .int ti, .int fa, .int fl, .ref (m + 8), .ref (m + 9), .ref (m + 10), .ref (m + 11), .int (nI (bg (bg (bg (bg x 11) 10) 21) 20).2)]))) (sz) := by
  refine xC_of (lv := [(0, .ref m), (1, .int (nI p))]) pn_X12 rfl rfl (fun Γ X hΓ hbs => ?_)
  have X : xX Γ Ω cX12_sizeOf 4 RX12 "sizeOf" (some .int) 4 140 0 0 := X
  subst hΓ
  have h6 := T.1
  have hT := T.2.2.2.2.2.2 p hp
  refine xr_aload_n X 0 dX12_sizeOf_0 rfl rfl ?_
  refine xr_iload_n X 1 dX12_sizeOf_1 rfl rfl ?_
  refine xr_iconst (v := 0) X dX12_sizeOf_2 (by decide) ?_
  refine xr_callV X hm rfl kw_1146 kw_1148 kw_37 cw_X12_of [.int (nI p), .int 0] (c_X12_of (p := p) (w := 0) hm ht (nI_toInt (by omega)) (by decide) (by omega)) rfl rfl rfl rfl rfl rfl rfl dX12_sizeOf_3 ?_
  refine xr_top (y := nI (kd p)) (by rw [show 3 + 3 * p + 0 = 3 + 3 * p by omega]; exact (T.2.2.2.2.2.2 p (by omega)).1) ?_
  refine xr_istore_n (lv' := [(2, .int (nI (kd p))), (0, .ref m), (1, .int (nI p))]) X dX12_sizeOf_6 rfl rfl rfl ?_
  refine xr_iload_n X 0 dX12_sizeOf_7 rfl rfl ?_
  refine xr_iconst (v := 4) X dX12_sizeOf_8 (by decide) ?_
  refine xr_icmp_lt (tgt := 18) X dX12_sizeOf_9 (by decide) (fun _ => ?_) (fun c_9 => absurd (by rw [ek]; decide) c_9)
  refine xr_iload_n X 0 dX12_sizeOf_18 rfl rfl ?_
  refine xr_iconst (v := 2) X dX12_sizeOf_19 (by decide) ?_
  refine xr_icmp_ne (tgt := 29) X dX12_sizeOf_20 (by decide) (fun _ => ?_) (fun c_20 => absurd c_20 (by rw [ek]; decide))
  refine xr_aload_n X 1 dX12_sizeOf_29 rfl rfl ?_
  refine xr_bipush (v := 11) X dX12_sizeOf_30 (by decide) ?_
  refine xr_callV X hm rfl kw_1283 kw_1285 kw_49 cw_X12_began [.int 11] (c_X12_began (x := x) (v := 11) hm htr hx) rfl rfl rfl rfl rfl rfl rfl dX12_sizeOf_32 ?_
  refine xr_aload_n X 1 dX12_sizeOf_35 rfl rfl ?_
  refine xr_iload_n X 2 dX12_sizeOf_36 rfl rfl ?_
  refine xr_callV X (xu_s _ _ _) rfl kw_1287 kw_1289 kw_50 cw_X12_plainSize [.int (nI p)] (c_X12_plainSize (x := bg x 11) (p := p) (xu_s _ _ _) (xu_at (xn1 _ rfl) (xu_s _ _ _)) (xu_at (xn1 _ rfl) (xu_at (xne _ rfl) ht)) T (bg_le hx) (by omega)) rfl rfl rfl rfl rfl rfl rfl dX12_sizeOf_37 ?_
  refine xr_heap (h' := (xu (xu h (m + 11) (.inl (.int, 16, .inl ((bg (bg x 11) 10).1)))) m (.inr (11, [.int 0, .int st, .ref (m + 1), .ref (m + 2), .ref (m + 3), .ref (m + 4), .ref (m + 5), .ref (m + 6), .int ac, .ref (m + 7), .int tp, .int la, .int le, .int cu, .int tk, .int sa, .int ti, .int fa, .int fl, .ref (m + 8), .ref (m + 9), .ref (m + 10), .ref (m + 11), .int (nI (bg (bg x 11) 10).2)])))) ((congrArg (fun z => xu z m _) (xu_in (xn0 _ rfl) (xu_uu _ _ _ _))).trans (xu_uu _ _ _ _)) ?_
  refine xr_istore_n (lv' := [(3, .int (nI (mn p))), (2, .int (nI (kd p))), (0, .ref m), (1, .int (nI p))]) X dX12_sizeOf_40 rfl rfl rfl ?_
  refine xr_iload_n X 0 dX12_sizeOf_41 rfl rfl ?_
  refine xr_aload_n X 2 dX12_sizeOf_42 rfl rfl ?_
  refine xr_iload_n X 3 dX12_sizeOf_43 rfl rfl ?_
  refine xr_callV X (xu_s _ _ _) rfl kw_1291 kw_1293 kw_51 cw_X12_markOf [.int (nI p)] (c_X12_markOf_1 (x := bg (bg x 11) 10) (p := p) (xu_s _ _ _) (xu_at (xn1 _ rfl) (xu_s _ _ _)) (xu_at (xn1 _ rfl) (xu_at (xne _ rfl) ht)) T (bg_le (bg_le hx)) (by omega) ek) rfl rfl rfl rfl rfl rfl rfl dX12_sizeOf_44 ?_
  refine xr_heap (h' := (xu (xu h (m + 11) (.inl (.int, 16, .inl ((bg (bg (bg (bg x 11) 10) 21) 20).1)))) m (.inr (11, [.int 0, .int st, .ref (m + 1), .ref (m + 2), .ref (m + 3), .ref (m + 4), .ref (m + 5), .ref (m + 6), .int ac, .ref (m + 7), .int tp, .int la, .int le, .int cu, .int tk, .int sa, .int ti, .int fa, .int fl, .ref (m + 8), .ref (m + 9), .ref (m + 10), .ref (m + 11), .int (nI (bg (bg (bg (bg x 11) 10) 21) 20).2)])))) ((congrArg (fun z => xu z m _) (xu_in (xn0 _ rfl) (xu_uu _ _ _ _))).trans (xu_uu _ _ _ _)) ?_
  refine xr_iadd X dX12_sizeOf_47 ?_
  refine xr_istore_n (lv' := [(3, .int ((nI (mn p)) + (nI p + nI (wh p)))), (2, .int (nI (kd p))), (0, .ref m), (1, .int (nI p))]) X dX12_sizeOf_48 rfl rfl rfl ?_
  refine xr_iload_n X 1 dX12_sizeOf_49 rfl rfl ?_
  refine xr_iconst (v := 2) X dX12_sizeOf_50 (by decide) ?_
  refine xr_icmp_ne (tgt := 59) X dX12_sizeOf_51 (by decide) (fun _ => ?_) (fun c_51 => absurd c_51 (by rw [ek]; decide))
  refine xr_iload_n X 0 dX12_sizeOf_59 rfl rfl ?_
  exact xr_iret X rfl rfl rfl rfl rfl rfl dX12_sizeOf_60
set_option maxRecDepth 100000 in
theorem c_X12_sizeOf_2 {l : Launch} {Ω : xW} {h : xH} {sz : Nat} {m : Nat} {st ac tp la le cu tk sa ti fa fl : Int32} {x : trS} {t : Nat → Int32} {np day b : Nat} {kd wh mn : Nat → Nat} {p : Nat} (hm : h m = some (mO m st ac tp la le cu tk sa ti fa fl (nI x.2))) (htr : h (m + 11) = some (.inl (.int, 16, .inl x.1))) (ht : h (m + 4) = some (.inl (.int, 21, .inl t))) (T : tOK t np kd wh mn day b) (hx : x.2 ≤ 16) (hp : p < np) (ek : kd p = 2) : xC l Ω yX12_sizeOf cX12_sizeOf 4 (some .int) 4 0 0 [.ref m, .int (nI p)] h sz (some (.int (-(nI (mn p) + 2 * (nI p + nI (wh p)))))) (xu (xu h (m + 11) (.inl (.int, 16, .inl ((bg (bg (bg (bg (bg (bg x 12) 11) 10) 24) 21) 20).1)))) m (.inr (11, [.int 0, .int st, .ref (m + 1), .ref (m + 2), .ref (m + 3), .ref (m + 4), .ref (m + 5), .ref (m + 6), .int ac, .ref (m + 7), .int tp, .int la, .int le, .int cu, .int tk, .int sa, .int ti, .int fa, .int fl, .ref (m + 8), .ref (m + 9), .ref (m + 10), .ref (m + 11), .int (nI (bg (bg (bg (bg (bg (bg x 12) 11) 10) 24) 21) 20).2)]))) (sz) := by
  refine xC_of (lv := [(0, .ref m), (1, .int (nI p))]) pn_X12 rfl rfl (fun Γ X hΓ hbs => ?_)
  have X : xX Γ Ω cX12_sizeOf 4 RX12 "sizeOf" (some .int) 4 140 0 0 := X
  subst hΓ
  have h6 := T.1
  have hT := T.2.2.2.2.2.2 p hp
  refine xr_aload_n X 0 dX12_sizeOf_0 rfl rfl ?_
  refine xr_iload_n X 1 dX12_sizeOf_1 rfl rfl ?_
  refine xr_iconst (v := 0) X dX12_sizeOf_2 (by decide) ?_
  refine xr_callV X hm rfl kw_1146 kw_1148 kw_37 cw_X12_of [.int (nI p), .int 0] (c_X12_of (p := p) (w := 0) hm ht (nI_toInt (by omega)) (by decide) (by omega)) rfl rfl rfl rfl rfl rfl rfl dX12_sizeOf_3 ?_
  refine xr_top (y := nI (kd p)) (by rw [show 3 + 3 * p + 0 = 3 + 3 * p by omega]; exact (T.2.2.2.2.2.2 p (by omega)).1) ?_
  refine xr_istore_n (lv' := [(2, .int (nI (kd p))), (0, .ref m), (1, .int (nI p))]) X dX12_sizeOf_6 rfl rfl rfl ?_
  refine xr_iload_n X 0 dX12_sizeOf_7 rfl rfl ?_
  refine xr_iconst (v := 4) X dX12_sizeOf_8 (by decide) ?_
  refine xr_icmp_lt (tgt := 18) X dX12_sizeOf_9 (by decide) (fun _ => ?_) (fun c_9 => absurd (by rw [ek]; decide) c_9)
  refine xr_iload_n X 0 dX12_sizeOf_18 rfl rfl ?_
  refine xr_iconst (v := 2) X dX12_sizeOf_19 (by decide) ?_
  refine xr_icmp_ne (tgt := 29) X dX12_sizeOf_20 (by decide) (fun c_20 => absurd (by rw [ek]; decide) c_20) (fun _ => ?_)
  refine xr_aload_n X 1 dX12_sizeOf_23 rfl rfl ?_
  refine xr_bipush (v := 12) X dX12_sizeOf_24 (by decide) ?_
  refine xr_callV X hm rfl kw_1283 kw_1285 kw_49 cw_X12_began [.int 12] (c_X12_began (x := x) (v := 12) hm htr hx) rfl rfl rfl rfl rfl rfl rfl dX12_sizeOf_26 ?_
  refine xr_aload_n X 1 dX12_sizeOf_29 rfl rfl ?_
  refine xr_bipush (v := 11) X dX12_sizeOf_30 (by decide) ?_
  refine xr_callV X (xu_s _ _ _) rfl kw_1283 kw_1285 kw_49 cw_X12_began [.int 11] (c_X12_began (x := bg x 12) (v := 11) (xu_s _ _ _) (xu_at (xn1 _ rfl) (xu_s _ _ _)) (bg_le hx)) rfl rfl rfl rfl rfl rfl rfl dX12_sizeOf_32 ?_
  refine xr_heap (h' := (xu (xu h (m + 11) (.inl (.int, 16, .inl ((bg (bg x 12) 11).1)))) m (.inr (11, [.int 0, .int st, .ref (m + 1), .ref (m + 2), .ref (m + 3), .ref (m + 4), .ref (m + 5), .ref (m + 6), .int ac, .ref (m + 7), .int tp, .int la, .int le, .int cu, .int tk, .int sa, .int ti, .int fa, .int fl, .ref (m + 8), .ref (m + 9), .ref (m + 10), .ref (m + 11), .int (nI (bg (bg x 12) 11).2)])))) ((congrArg (fun z => xu z m _) (xu_in (xn0 _ rfl) (xu_uu _ _ _ _))).trans (xu_uu _ _ _ _)) ?_
  refine xr_aload_n X 1 dX12_sizeOf_35 rfl rfl ?_
  refine xr_iload_n X 2 dX12_sizeOf_36 rfl rfl ?_
  refine xr_callV X (xu_s _ _ _) rfl kw_1287 kw_1289 kw_50 cw_X12_plainSize [.int (nI p)] (c_X12_plainSize (x := bg (bg x 12) 11) (p := p) (xu_s _ _ _) (xu_at (xn1 _ rfl) (xu_s _ _ _)) (xu_at (xn1 _ rfl) (xu_at (xne _ rfl) ht)) T (bg_le (bg_le hx)) (by omega)) rfl rfl rfl rfl rfl rfl rfl dX12_sizeOf_37 ?_
  refine xr_heap (h' := (xu (xu h (m + 11) (.inl (.int, 16, .inl ((bg (bg (bg x 12) 11) 10).1)))) m (.inr (11, [.int 0, .int st, .ref (m + 1), .ref (m + 2), .ref (m + 3), .ref (m + 4), .ref (m + 5), .ref (m + 6), .int ac, .ref (m + 7), .int tp, .int la, .int le, .int cu, .int tk, .int sa, .int ti, .int fa, .int fl, .ref (m + 8), .ref (m + 9), .ref (m + 10), .ref (m + 11), .int (nI (bg (bg (bg x 12) 11) 10).2)])))) ((congrArg (fun z => xu z m _) (xu_in (xn0 _ rfl) (xu_uu _ _ _ _))).trans (xu_uu _ _ _ _)) ?_
  refine xr_istore_n (lv' := [(3, .int (nI (mn p))), (2, .int (nI (kd p))), (0, .ref m), (1, .int (nI p))]) X dX12_sizeOf_40 rfl rfl rfl ?_
  refine xr_iload_n X 0 dX12_sizeOf_41 rfl rfl ?_
  refine xr_aload_n X 2 dX12_sizeOf_42 rfl rfl ?_
  refine xr_iload_n X 3 dX12_sizeOf_43 rfl rfl ?_
  refine xr_callV X (xu_s _ _ _) rfl kw_1291 kw_1293 kw_51 cw_X12_markOf [.int (nI p)] (c_X12_markOf_2 (x := bg (bg (bg x 12) 11) 10) (p := p) (xu_s _ _ _) (xu_at (xn1 _ rfl) (xu_s _ _ _)) (xu_at (xn1 _ rfl) (xu_at (xne _ rfl) ht)) T (bg_le (bg_le (bg_le hx))) (by omega) ek) rfl rfl rfl rfl rfl rfl rfl dX12_sizeOf_44 ?_
  refine xr_heap (h' := (xu (xu h (m + 11) (.inl (.int, 16, .inl ((bg (bg (bg (bg (bg (bg x 12) 11) 10) 24) 21) 20).1)))) m (.inr (11, [.int 0, .int st, .ref (m + 1), .ref (m + 2), .ref (m + 3), .ref (m + 4), .ref (m + 5), .ref (m + 6), .int ac, .ref (m + 7), .int tp, .int la, .int le, .int cu, .int tk, .int sa, .int ti, .int fa, .int fl, .ref (m + 8), .ref (m + 9), .ref (m + 10), .ref (m + 11), .int (nI (bg (bg (bg (bg (bg (bg x 12) 11) 10) 24) 21) 20).2)])))) ((congrArg (fun z => xu z m _) (xu_in (xn0 _ rfl) (xu_uu _ _ _ _))).trans (xu_uu _ _ _ _)) ?_
  refine xr_iadd X dX12_sizeOf_47 ?_
  refine xr_istore_n (lv' := [(3, .int ((nI (mn p)) + (2 * (nI p + nI (wh p))))), (2, .int (nI (kd p))), (0, .ref m), (1, .int (nI p))]) X dX12_sizeOf_48 rfl rfl rfl ?_
  refine xr_iload_n X 1 dX12_sizeOf_49 rfl rfl ?_
  refine xr_iconst (v := 2) X dX12_sizeOf_50 (by decide) ?_
  refine xr_icmp_ne (tgt := 59) X dX12_sizeOf_51 (by decide) (fun c_51 => absurd (by rw [ek]; decide) c_51) (fun _ => ?_)
  refine xr_iload_n X 0 dX12_sizeOf_54 rfl rfl ?_
  refine xr_ineg X dX12_sizeOf_55 ?_
  refine xr_goto (tgt := 60) X dX12_sizeOf_56 (by decide) ?_
  exact xr_iret X rfl rfl rfl rfl rfl rfl dX12_sizeOf_60
set_option maxRecDepth 100000 in
theorem c_X12_sizeOf_3 {l : Launch} {Ω : xW} {h : xH} {sz : Nat} {m : Nat} {st ac tp la le cu tk sa ti fa fl : Int32} {x : trS} {t : Nat → Int32} {np day b : Nat} {kd wh mn : Nat → Nat} {p : Nat} (hm : h m = some (mO m st ac tp la le cu tk sa ti fa fl (nI x.2))) (htr : h (m + 11) = some (.inl (.int, 16, .inl x.1))) (ht : h (m + 4) = some (.inl (.int, 21, .inl t))) (T : tOK t np kd wh mn day b) (hx : x.2 ≤ 16) (hp : p < np) (ek : kd p = 3) : xC l Ω yX12_sizeOf cX12_sizeOf 4 (some .int) 4 0 0 [.ref m, .int (nI p)] h sz (some (.int (nI (mn p) + ((nI p + nI (wh p)) - 1000)))) (xu (xu h (m + 11) (.inl (.int, 16, .inl ((bg (bg (bg (bg (bg x 11) 10) 22) 21) 20).1)))) m (.inr (11, [.int 0, .int st, .ref (m + 1), .ref (m + 2), .ref (m + 3), .ref (m + 4), .ref (m + 5), .ref (m + 6), .int ac, .ref (m + 7), .int tp, .int la, .int le, .int cu, .int tk, .int sa, .int ti, .int fa, .int fl, .ref (m + 8), .ref (m + 9), .ref (m + 10), .ref (m + 11), .int (nI (bg (bg (bg (bg (bg x 11) 10) 22) 21) 20).2)]))) (sz) := by
  refine xC_of (lv := [(0, .ref m), (1, .int (nI p))]) pn_X12 rfl rfl (fun Γ X hΓ hbs => ?_)
  have X : xX Γ Ω cX12_sizeOf 4 RX12 "sizeOf" (some .int) 4 140 0 0 := X
  subst hΓ
  have h6 := T.1
  have hT := T.2.2.2.2.2.2 p hp
  refine xr_aload_n X 0 dX12_sizeOf_0 rfl rfl ?_
  refine xr_iload_n X 1 dX12_sizeOf_1 rfl rfl ?_
  refine xr_iconst (v := 0) X dX12_sizeOf_2 (by decide) ?_
  refine xr_callV X hm rfl kw_1146 kw_1148 kw_37 cw_X12_of [.int (nI p), .int 0] (c_X12_of (p := p) (w := 0) hm ht (nI_toInt (by omega)) (by decide) (by omega)) rfl rfl rfl rfl rfl rfl rfl dX12_sizeOf_3 ?_
  refine xr_top (y := nI (kd p)) (by rw [show 3 + 3 * p + 0 = 3 + 3 * p by omega]; exact (T.2.2.2.2.2.2 p (by omega)).1) ?_
  refine xr_istore_n (lv' := [(2, .int (nI (kd p))), (0, .ref m), (1, .int (nI p))]) X dX12_sizeOf_6 rfl rfl rfl ?_
  refine xr_iload_n X 0 dX12_sizeOf_7 rfl rfl ?_
  refine xr_iconst (v := 4) X dX12_sizeOf_8 (by decide) ?_
  refine xr_icmp_lt (tgt := 18) X dX12_sizeOf_9 (by decide) (fun _ => ?_) (fun c_9 => absurd (by rw [ek]; decide) c_9)
  refine xr_iload_n X 0 dX12_sizeOf_18 rfl rfl ?_
  refine xr_iconst (v := 2) X dX12_sizeOf_19 (by decide) ?_
  refine xr_icmp_ne (tgt := 29) X dX12_sizeOf_20 (by decide) (fun _ => ?_) (fun c_20 => absurd c_20 (by rw [ek]; decide))
  refine xr_aload_n X 1 dX12_sizeOf_29 rfl rfl ?_
  refine xr_bipush (v := 11) X dX12_sizeOf_30 (by decide) ?_
  refine xr_callV X hm rfl kw_1283 kw_1285 kw_49 cw_X12_began [.int 11] (c_X12_began (x := x) (v := 11) hm htr hx) rfl rfl rfl rfl rfl rfl rfl dX12_sizeOf_32 ?_
  refine xr_aload_n X 1 dX12_sizeOf_35 rfl rfl ?_
  refine xr_iload_n X 2 dX12_sizeOf_36 rfl rfl ?_
  refine xr_callV X (xu_s _ _ _) rfl kw_1287 kw_1289 kw_50 cw_X12_plainSize [.int (nI p)] (c_X12_plainSize (x := bg x 11) (p := p) (xu_s _ _ _) (xu_at (xn1 _ rfl) (xu_s _ _ _)) (xu_at (xn1 _ rfl) (xu_at (xne _ rfl) ht)) T (bg_le hx) (by omega)) rfl rfl rfl rfl rfl rfl rfl dX12_sizeOf_37 ?_
  refine xr_heap (h' := (xu (xu h (m + 11) (.inl (.int, 16, .inl ((bg (bg x 11) 10).1)))) m (.inr (11, [.int 0, .int st, .ref (m + 1), .ref (m + 2), .ref (m + 3), .ref (m + 4), .ref (m + 5), .ref (m + 6), .int ac, .ref (m + 7), .int tp, .int la, .int le, .int cu, .int tk, .int sa, .int ti, .int fa, .int fl, .ref (m + 8), .ref (m + 9), .ref (m + 10), .ref (m + 11), .int (nI (bg (bg x 11) 10).2)])))) ((congrArg (fun z => xu z m _) (xu_in (xn0 _ rfl) (xu_uu _ _ _ _))).trans (xu_uu _ _ _ _)) ?_
  refine xr_istore_n (lv' := [(3, .int (nI (mn p))), (2, .int (nI (kd p))), (0, .ref m), (1, .int (nI p))]) X dX12_sizeOf_40 rfl rfl rfl ?_
  refine xr_iload_n X 0 dX12_sizeOf_41 rfl rfl ?_
  refine xr_aload_n X 2 dX12_sizeOf_42 rfl rfl ?_
  refine xr_iload_n X 3 dX12_sizeOf_43 rfl rfl ?_
  refine xr_callV X (xu_s _ _ _) rfl kw_1291 kw_1293 kw_51 cw_X12_markOf [.int (nI p)] (c_X12_markOf_3 (x := bg (bg x 11) 10) (p := p) (xu_s _ _ _) (xu_at (xn1 _ rfl) (xu_s _ _ _)) (xu_at (xn1 _ rfl) (xu_at (xne _ rfl) ht)) T (bg_le (bg_le hx)) (by omega) ek) rfl rfl rfl rfl rfl rfl rfl dX12_sizeOf_44 ?_
  refine xr_heap (h' := (xu (xu h (m + 11) (.inl (.int, 16, .inl ((bg (bg (bg (bg (bg x 11) 10) 22) 21) 20).1)))) m (.inr (11, [.int 0, .int st, .ref (m + 1), .ref (m + 2), .ref (m + 3), .ref (m + 4), .ref (m + 5), .ref (m + 6), .int ac, .ref (m + 7), .int tp, .int la, .int le, .int cu, .int tk, .int sa, .int ti, .int fa, .int fl, .ref (m + 8), .ref (m + 9), .ref (m + 10), .ref (m + 11), .int (nI (bg (bg (bg (bg (bg x 11) 10) 22) 21) 20).2)])))) ((congrArg (fun z => xu z m _) (xu_in (xn0 _ rfl) (xu_uu _ _ _ _))).trans (xu_uu _ _ _ _)) ?_
  refine xr_iadd X dX12_sizeOf_47 ?_
  refine xr_istore_n (lv' := [(3, .int ((nI (mn p)) + ((nI p + nI (wh p)) - 1000))), (2, .int (nI (kd p))), (0, .ref m), (1, .int (nI p))]) X dX12_sizeOf_48 rfl rfl rfl ?_
  refine xr_iload_n X 1 dX12_sizeOf_49 rfl rfl ?_
  refine xr_iconst (v := 2) X dX12_sizeOf_50 (by decide) ?_
  refine xr_icmp_ne (tgt := 59) X dX12_sizeOf_51 (by decide) (fun _ => ?_) (fun c_51 => absurd c_51 (by rw [ek]; decide))
  refine xr_iload_n X 0 dX12_sizeOf_59 rfl rfl ?_
  exact xr_iret X rfl rfl rfl rfl rfl rfl dX12_sizeOf_60
set_option maxRecDepth 100000 in
theorem c_X12_sizeOf_4 {l : Launch} {Ω : xW} {h : xH} {sz : Nat} {m : Nat} {st ac tp la le cu tk sa ti fa fl : Int32} {x : trS} {t : Nat → Int32} {np day b : Nat} {kd wh mn : Nat → Nat} {p : Nat} (hm : h m = some (mO m st ac tp la le cu tk sa ti fa fl (nI x.2))) (htr : h (m + 11) = some (.inl (.int, 16, .inl x.1))) (ht : h (m + 4) = some (.inl (.int, 21, .inl t))) (T : tOK t np kd wh mn day b) (hx : x.2 ≤ 16) (hp : p < np) (ek : kd p = 4) : xC l Ω yX12_sizeOf cX12_sizeOf 4 (some .int) 4 0 0 [.ref m, .int (nI p)] h sz (some (.int (nI (mn p) - 100))) (xu (xu h (m + 11) (.inl (.int, 16, .inl ((bg (bg x 13) 10).1)))) m (.inr (11, [.int 0, .int st, .ref (m + 1), .ref (m + 2), .ref (m + 3), .ref (m + 4), .ref (m + 5), .ref (m + 6), .int ac, .ref (m + 7), .int tp, .int la, .int le, .int cu, .int tk, .int sa, .int ti, .int fa, .int fl, .ref (m + 8), .ref (m + 9), .ref (m + 10), .ref (m + 11), .int (nI (bg (bg x 13) 10).2)]))) (sz) := by
  refine xC_of (lv := [(0, .ref m), (1, .int (nI p))]) pn_X12 rfl rfl (fun Γ X hΓ hbs => ?_)
  have X : xX Γ Ω cX12_sizeOf 4 RX12 "sizeOf" (some .int) 4 140 0 0 := X
  subst hΓ
  have h6 := T.1
  have hT := T.2.2.2.2.2.2 p hp
  refine xr_aload_n X 0 dX12_sizeOf_0 rfl rfl ?_
  refine xr_iload_n X 1 dX12_sizeOf_1 rfl rfl ?_
  refine xr_iconst (v := 0) X dX12_sizeOf_2 (by decide) ?_
  refine xr_callV X hm rfl kw_1146 kw_1148 kw_37 cw_X12_of [.int (nI p), .int 0] (c_X12_of (p := p) (w := 0) hm ht (nI_toInt (by omega)) (by decide) (by omega)) rfl rfl rfl rfl rfl rfl rfl dX12_sizeOf_3 ?_
  refine xr_top (y := nI (kd p)) (by rw [show 3 + 3 * p + 0 = 3 + 3 * p by omega]; exact (T.2.2.2.2.2.2 p (by omega)).1) ?_
  refine xr_istore_n (lv' := [(2, .int (nI (kd p))), (0, .ref m), (1, .int (nI p))]) X dX12_sizeOf_6 rfl rfl rfl ?_
  refine xr_iload_n X 0 dX12_sizeOf_7 rfl rfl ?_
  refine xr_iconst (v := 4) X dX12_sizeOf_8 (by decide) ?_
  refine xr_icmp_lt (tgt := 18) X dX12_sizeOf_9 (by decide) (fun c_9 => absurd c_9 (by rw [ek]; decide)) (fun _ => ?_)
  refine xr_aload_n X 1 dX12_sizeOf_12 rfl rfl ?_
  refine xr_iload_n X 2 dX12_sizeOf_13 rfl rfl ?_
  refine xr_callV X hm rfl kw_1279 kw_1281 kw_48 cw_X12_crowdSize [.int (nI p)] (c_X12_crowdSize_4 (x := x) (p := p) hm htr ht T hx (by omega) ek) rfl rfl rfl rfl rfl rfl rfl dX12_sizeOf_14 ?_
  exact xr_iret X rfl rfl rfl rfl rfl rfl dX12_sizeOf_17
set_option maxRecDepth 100000 in
theorem c_X12_sizeOf_5 {l : Launch} {Ω : xW} {h : xH} {sz : Nat} {m : Nat} {st ac tp la le cu tk sa ti fa fl : Int32} {x : trS} {t : Nat → Int32} {np day b : Nat} {kd wh mn : Nat → Nat} {p : Nat} (hm : h m = some (mO m st ac tp la le cu tk sa ti fa fl (nI x.2))) (htr : h (m + 11) = some (.inl (.int, 16, .inl x.1))) (ht : h (m + 4) = some (.inl (.int, 21, .inl t))) (T : tOK t np kd wh mn day b) (hx : x.2 ≤ 16) (hp : p < np) (ek : kd p = 5) : xC l Ω yX12_sizeOf cX12_sizeOf 4 (some .int) 4 0 0 [.ref m, .int (nI p)] h sz (some (.int (2 * (nI (mn p) - 100)))) (xu (xu h (m + 11) (.inl (.int, 16, .inl ((bg (bg (bg x 14) 13) 10).1)))) m (.inr (11, [.int 0, .int st, .ref (m + 1), .ref (m + 2), .ref (m + 3), .ref (m + 4), .ref (m + 5), .ref (m + 6), .int ac, .ref (m + 7), .int tp, .int la, .int le, .int cu, .int tk, .int sa, .int ti, .int fa, .int fl, .ref (m + 8), .ref (m + 9), .ref (m + 10), .ref (m + 11), .int (nI (bg (bg (bg x 14) 13) 10).2)]))) (sz) := by
  refine xC_of (lv := [(0, .ref m), (1, .int (nI p))]) pn_X12 rfl rfl (fun Γ X hΓ hbs => ?_)
  have X : xX Γ Ω cX12_sizeOf 4 RX12 "sizeOf" (some .int) 4 140 0 0 := X
  subst hΓ
  have h6 := T.1
  have hT := T.2.2.2.2.2.2 p hp
  refine xr_aload_n X 0 dX12_sizeOf_0 rfl rfl ?_
  refine xr_iload_n X 1 dX12_sizeOf_1 rfl rfl ?_
  refine xr_iconst (v := 0) X dX12_sizeOf_2 (by decide) ?_
  refine xr_callV X hm rfl kw_1146 kw_1148 kw_37 cw_X12_of [.int (nI p), .int 0] (c_X12_of (p := p) (w := 0) hm ht (nI_toInt (by omega)) (by decide) (by omega)) rfl rfl rfl rfl rfl rfl rfl dX12_sizeOf_3 ?_
  refine xr_top (y := nI (kd p)) (by rw [show 3 + 3 * p + 0 = 3 + 3 * p by omega]; exact (T.2.2.2.2.2.2 p (by omega)).1) ?_
  refine xr_istore_n (lv' := [(2, .int (nI (kd p))), (0, .ref m), (1, .int (nI p))]) X dX12_sizeOf_6 rfl rfl rfl ?_
  refine xr_iload_n X 0 dX12_sizeOf_7 rfl rfl ?_
  refine xr_iconst (v := 4) X dX12_sizeOf_8 (by decide) ?_
  refine xr_icmp_lt (tgt := 18) X dX12_sizeOf_9 (by decide) (fun c_9 => absurd c_9 (by rw [ek]; decide)) (fun _ => ?_)
  refine xr_aload_n X 1 dX12_sizeOf_12 rfl rfl ?_
  refine xr_iload_n X 2 dX12_sizeOf_13 rfl rfl ?_
  refine xr_callV X hm rfl kw_1279 kw_1281 kw_48 cw_X12_crowdSize [.int (nI p)] (c_X12_crowdSize_5 (x := x) (p := p) hm htr ht T hx (by omega) ek) rfl rfl rfl rfl rfl rfl rfl dX12_sizeOf_14 ?_
  exact xr_iret X rfl rfl rfl rfl rfl rfl dX12_sizeOf_17
set_option maxRecDepth 100000 in
theorem c_X12_ask_1_0 {l : Launch} {Ω : xW} {h : xH} {sz : Nat} {m : Nat} {st ac tp la le cu tk sa ti fa fl : Int32} {x : trS} {t : Nat → Int32} {np day b : Nat} {kd wh mn : Nat → Nat} {p w : Int32} (hm : h m = some (mO m st ac tp la le cu tk sa ti fa fl (nI x.2))) (htr : h (m + 11) = some (.inl (.int, 16, .inl x.1))) (ht : h (m + 4) = some (.inl (.int, 21, .inl t))) (T : tOK t np kd wh mn day b) (hp : 0 ≤ p.toInt ∧ p.toInt < np) (hw : w.toInt = 0) (ek : kd p.toNatClampNeg = 1) : xC l Ω yX12_ask cX12_ask 3 (some .int) 5 0 0 [.ref m, .int p, .int w] h sz (some (.int (nI (mn p.toNatClampNeg) + (nI p.toNatClampNeg + nI (wh p.toNatClampNeg))))) (xu (xu h (m + 11) (.inl (.int, 16, .inl ((bg (bg (bg (bg (x.1, 0) 11) 10) 21) 20).1)))) m (.inr (11, [.int 0, .int st, .ref (m + 1), .ref (m + 2), .ref (m + 3), .ref (m + 4), .ref (m + 5), .ref (m + 6), .int ac, .ref (m + 7), .int tp, .int la, .int le, .int cu, .int tk, .int sa, .int ti, .int fa, .int fl, .ref (m + 8), .ref (m + 9), .ref (m + 10), .ref (m + 11), .int (nI (bg (bg (bg (bg (x.1, 0) 11) 10) 21) 20).2)]))) (sz) := by
  refine xC_of (lv := [(0, .ref m), (1, .int p), (2, .int w)]) pn_X12 rfl rfl (fun Γ X hΓ hbs => ?_)
  have X : xX Γ Ω cX12_ask 3 RX12 "ask" (some .int) 5 175 0 0 := X
  subst hΓ
  have h6 := T.1
  have tnp := (i32_tn hp.1).2
  refine xr_aload_n X 0 dX12_ask_0 rfl rfl ?_
  refine xr_iconst (v := 0) X dX12_ask_1 (by decide) ?_
  refine xr_put (fs' := [.int 0, .int st, .ref (m + 1), .ref (m + 2), .ref (m + 3), .ref (m + 4), .ref (m + 5), .ref (m + 6), .int ac, .ref (m + 7), .int tp, .int la, .int le, .int cu, .int tk, .int sa, .int ti, .int fa, .int fl, .ref (m + 8), .ref (m + 9), .ref (m + 10), .ref (m + 11), .int (nI x.2)]) X (fW_X12_44_11 _) hm rfl rfl rfl rfl dX12_ask_2 ?_
  refine xr_heap (h' := h) (xu_id hm) ?_
  refine xr_aload_n X 0 dX12_ask_5 rfl rfl ?_
  refine xr_iload_n X 1 dX12_ask_6 rfl rfl ?_
  refine xr_callV X hm rfl kw_1190 kw_1192 kw_42 cw_X12_isPerson [.int p] (c_X12_isPerson hm ht T) rfl rfl rfl rfl rfl rfl rfl dX12_ask_7 ?_
  refine xr_if_eq (tgt := 23) X dX12_ask_10 (by decide) (fun c_10 => absurd c_10 (by rw [xb_0]; simp; omega)) (fun _ => ?_)
  refine xr_iload_n X 2 dX12_ask_13 rfl rfl ?_
  refine xr_i2l X dX12_ask_14 ?_
  refine xr_lconst (v := 0) X dX12_ask_15 (by decide) ?_
  refine xr_lconst (v := 1) X dX12_ask_16 (by decide) ?_
  refine xr_callS X kw_1027 kw_1028 cw_X12_in [.long w.toInt64, .long 0, .long 1] c_X12_in rfl rfl rfl rfl rfl rfl rfl dX12_ask_17 ?_
  refine xr_if_ne (tgt := 26) X dX12_ask_20 (by decide) (fun _ => ?_) (fun c_20 => absurd c_20 (by rw [xb_0]; simp [i32_l, k64_0, k64_1]; omega))
  refine xr_aload_n X 0 dX12_ask_26 rfl rfl ?_
  refine xr_iconst (v := 0) X dX12_ask_27 (by decide) ?_
  refine xr_put (fs' := [.int 0, .int st, .ref (m + 1), .ref (m + 2), .ref (m + 3), .ref (m + 4), .ref (m + 5), .ref (m + 6), .int ac, .ref (m + 7), .int tp, .int la, .int le, .int cu, .int tk, .int sa, .int ti, .int fa, .int fl, .ref (m + 8), .ref (m + 9), .ref (m + 10), .ref (m + 11), .int 0]) X (fW_X12_234_11 _) hm rfl rfl rfl rfl dX12_ask_28 ?_
  refine xr_heap (h' := (xu (xu h (m + 11) (.inl (.int, 16, .inl (((x.1, 0)).1)))) m (.inr (11, [.int 0, .int st, .ref (m + 1), .ref (m + 2), .ref (m + 3), .ref (m + 4), .ref (m + 5), .ref (m + 6), .int ac, .ref (m + 7), .int tp, .int la, .int le, .int cu, .int tk, .int sa, .int ti, .int fa, .int fl, .ref (m + 8), .ref (m + 9), .ref (m + 10), .ref (m + 11), .int (nI ((x.1, 0)).2)])))) (congrArg (fun z => xu z m _) (xu_id htr).symm) ?_
  refine xr_iload_n X 2 dX12_ask_31 rfl rfl ?_
  refine xr_if_ne (tgt := 43) X dX12_ask_32 (by decide) (fun c_32 => absurd (by rw [i32_eq, k32_0]; omega) c_32) (fun _ => ?_)
  refine xr_aload_n X 0 dX12_ask_35 rfl rfl ?_
  refine xr_iload_n X 1 dX12_ask_36 rfl rfl ?_
  refine xr_top (y := (nI (p.toNatClampNeg))) ((i32_tn (by omega)).1) ?_
  refine xr_callV X (xu_s _ _ _) rfl kw_1275 kw_1277 kw_47 cw_X12_sizeOf [.int (nI (p.toNatClampNeg))] (c_X12_sizeOf_1 (x := (x.1, 0)) (p := (p.toNatClampNeg)) (xu_s _ _ _) (xu_at (xn1 _ rfl) (xu_s _ _ _)) (xu_at (xn1 _ rfl) (xu_at (xne _ rfl) ht)) T (Nat.zero_le 16) (by omega) ek) rfl rfl rfl rfl rfl rfl rfl dX12_ask_37 ?_
  refine xr_heap (h' := (xu (xu h (m + 11) (.inl (.int, 16, .inl ((bg (bg (bg (bg (x.1, 0) 11) 10) 21) 20).1)))) m (.inr (11, [.int 0, .int st, .ref (m + 1), .ref (m + 2), .ref (m + 3), .ref (m + 4), .ref (m + 5), .ref (m + 6), .int ac, .ref (m + 7), .int tp, .int la, .int le, .int cu, .int tk, .int sa, .int ti, .int fa, .int fl, .ref (m + 8), .ref (m + 9), .ref (m + 10), .ref (m + 11), .int (nI (bg (bg (bg (bg (x.1, 0) 11) 10) 21) 20).2)])))) ((congrArg (fun z => xu z m _) (xu_in (xn0 _ rfl) (xu_uu _ _ _ _))).trans (xu_uu _ _ _ _)) ?_
  refine xr_goto (tgt := 48) X dX12_ask_40 (by decide) ?_
  exact xr_iret X rfl rfl rfl rfl rfl rfl dX12_ask_48
set_option maxRecDepth 100000 in
theorem c_X12_ask_1_1 {l : Launch} {Ω : xW} {h : xH} {sz : Nat} {m : Nat} {st ac tp la le cu tk sa ti fa fl : Int32} {x : trS} {t : Nat → Int32} {np day b : Nat} {kd wh mn : Nat → Nat} {p w : Int32} (hm : h m = some (mO m st ac tp la le cu tk sa ti fa fl (nI x.2))) (htr : h (m + 11) = some (.inl (.int, 16, .inl x.1))) (ht : h (m + 4) = some (.inl (.int, 21, .inl t))) (T : tOK t np kd wh mn day b) (hp : 0 ≤ p.toInt ∧ p.toInt < np) (hw : w.toInt = 1) (ek : kd p.toNatClampNeg = 1) : xC l Ω yX12_ask cX12_ask 3 (some .int) 5 0 0 [.ref m, .int p, .int w] h sz (some (.int (nI p.toNatClampNeg + nI (wh p.toNatClampNeg)))) (xu (xu h (m + 11) (.inl (.int, 16, .inl ((bg (bg (x.1, 0) 21) 20).1)))) m (.inr (11, [.int 0, .int st, .ref (m + 1), .ref (m + 2), .ref (m + 3), .ref (m + 4), .ref (m + 5), .ref (m + 6), .int ac, .ref (m + 7), .int tp, .int la, .int le, .int cu, .int tk, .int sa, .int ti, .int fa, .int fl, .ref (m + 8), .ref (m + 9), .ref (m + 10), .ref (m + 11), .int (nI (bg (bg (x.1, 0) 21) 20).2)]))) (sz) := by
  refine xC_of (lv := [(0, .ref m), (1, .int p), (2, .int w)]) pn_X12 rfl rfl (fun Γ X hΓ hbs => ?_)
  have X : xX Γ Ω cX12_ask 3 RX12 "ask" (some .int) 5 175 0 0 := X
  subst hΓ
  have h6 := T.1
  have tnp := (i32_tn hp.1).2
  refine xr_aload_n X 0 dX12_ask_0 rfl rfl ?_
  refine xr_iconst (v := 0) X dX12_ask_1 (by decide) ?_
  refine xr_put (fs' := [.int 0, .int st, .ref (m + 1), .ref (m + 2), .ref (m + 3), .ref (m + 4), .ref (m + 5), .ref (m + 6), .int ac, .ref (m + 7), .int tp, .int la, .int le, .int cu, .int tk, .int sa, .int ti, .int fa, .int fl, .ref (m + 8), .ref (m + 9), .ref (m + 10), .ref (m + 11), .int (nI x.2)]) X (fW_X12_44_11 _) hm rfl rfl rfl rfl dX12_ask_2 ?_
  refine xr_heap (h' := h) (xu_id hm) ?_
  refine xr_aload_n X 0 dX12_ask_5 rfl rfl ?_
  refine xr_iload_n X 1 dX12_ask_6 rfl rfl ?_
  refine xr_callV X hm rfl kw_1190 kw_1192 kw_42 cw_X12_isPerson [.int p] (c_X12_isPerson hm ht T) rfl rfl rfl rfl rfl rfl rfl dX12_ask_7 ?_
  refine xr_if_eq (tgt := 23) X dX12_ask_10 (by decide) (fun c_10 => absurd c_10 (by rw [xb_0]; simp; omega)) (fun _ => ?_)
  refine xr_iload_n X 2 dX12_ask_13 rfl rfl ?_
  refine xr_i2l X dX12_ask_14 ?_
  refine xr_lconst (v := 0) X dX12_ask_15 (by decide) ?_
  refine xr_lconst (v := 1) X dX12_ask_16 (by decide) ?_
  refine xr_callS X kw_1027 kw_1028 cw_X12_in [.long w.toInt64, .long 0, .long 1] c_X12_in rfl rfl rfl rfl rfl rfl rfl dX12_ask_17 ?_
  refine xr_if_ne (tgt := 26) X dX12_ask_20 (by decide) (fun _ => ?_) (fun c_20 => absurd c_20 (by rw [xb_0]; simp [i32_l, k64_0, k64_1]; omega))
  refine xr_aload_n X 0 dX12_ask_26 rfl rfl ?_
  refine xr_iconst (v := 0) X dX12_ask_27 (by decide) ?_
  refine xr_put (fs' := [.int 0, .int st, .ref (m + 1), .ref (m + 2), .ref (m + 3), .ref (m + 4), .ref (m + 5), .ref (m + 6), .int ac, .ref (m + 7), .int tp, .int la, .int le, .int cu, .int tk, .int sa, .int ti, .int fa, .int fl, .ref (m + 8), .ref (m + 9), .ref (m + 10), .ref (m + 11), .int 0]) X (fW_X12_234_11 _) hm rfl rfl rfl rfl dX12_ask_28 ?_
  refine xr_heap (h' := (xu (xu h (m + 11) (.inl (.int, 16, .inl (((x.1, 0)).1)))) m (.inr (11, [.int 0, .int st, .ref (m + 1), .ref (m + 2), .ref (m + 3), .ref (m + 4), .ref (m + 5), .ref (m + 6), .int ac, .ref (m + 7), .int tp, .int la, .int le, .int cu, .int tk, .int sa, .int ti, .int fa, .int fl, .ref (m + 8), .ref (m + 9), .ref (m + 10), .ref (m + 11), .int (nI ((x.1, 0)).2)])))) (congrArg (fun z => xu z m _) (xu_id htr).symm) ?_
  refine xr_iload_n X 2 dX12_ask_31 rfl rfl ?_
  refine xr_if_ne (tgt := 43) X dX12_ask_32 (by decide) (fun _ => ?_) (fun c_32 => absurd c_32 (by rw [i32_eq, k32_0]; omega))
  refine xr_aload_n X 0 dX12_ask_43 rfl rfl ?_
  refine xr_iload_n X 1 dX12_ask_44 rfl rfl ?_
  refine xr_top (y := (nI (p.toNatClampNeg))) ((i32_tn (by omega)).1) ?_
  refine xr_callV X (xu_s _ _ _) rfl kw_1291 kw_1293 kw_51 cw_X12_markOf [.int (nI (p.toNatClampNeg))] (c_X12_markOf_1 (x := (x.1, 0)) (p := (p.toNatClampNeg)) (xu_s _ _ _) (xu_at (xn1 _ rfl) (xu_s _ _ _)) (xu_at (xn1 _ rfl) (xu_at (xne _ rfl) ht)) T (Nat.zero_le 16) (by omega) ek) rfl rfl rfl rfl rfl rfl rfl dX12_ask_45 ?_
  refine xr_heap (h' := (xu (xu h (m + 11) (.inl (.int, 16, .inl ((bg (bg (x.1, 0) 21) 20).1)))) m (.inr (11, [.int 0, .int st, .ref (m + 1), .ref (m + 2), .ref (m + 3), .ref (m + 4), .ref (m + 5), .ref (m + 6), .int ac, .ref (m + 7), .int tp, .int la, .int le, .int cu, .int tk, .int sa, .int ti, .int fa, .int fl, .ref (m + 8), .ref (m + 9), .ref (m + 10), .ref (m + 11), .int (nI (bg (bg (x.1, 0) 21) 20).2)])))) ((congrArg (fun z => xu z m _) (xu_in (xn0 _ rfl) (xu_uu _ _ _ _))).trans (xu_uu _ _ _ _)) ?_
  exact xr_iret X rfl rfl rfl rfl rfl rfl dX12_ask_48
set_option maxRecDepth 100000 in
theorem c_X12_ask_2_0 {l : Launch} {Ω : xW} {h : xH} {sz : Nat} {m : Nat} {st ac tp la le cu tk sa ti fa fl : Int32} {x : trS} {t : Nat → Int32} {np day b : Nat} {kd wh mn : Nat → Nat} {p w : Int32} (hm : h m = some (mO m st ac tp la le cu tk sa ti fa fl (nI x.2))) (htr : h (m + 11) = some (.inl (.int, 16, .inl x.1))) (ht : h (m + 4) = some (.inl (.int, 21, .inl t))) (T : tOK t np kd wh mn day b) (hp : 0 ≤ p.toInt ∧ p.toInt < np) (hw : w.toInt = 0) (ek : kd p.toNatClampNeg = 2) : xC l Ω yX12_ask cX12_ask 3 (some .int) 5 0 0 [.ref m, .int p, .int w] h sz (some (.int (-(nI (mn p.toNatClampNeg) + 2 * (nI p.toNatClampNeg + nI (wh p.toNatClampNeg)))))) (xu (xu h (m + 11) (.inl (.int, 16, .inl ((bg (bg (bg (bg (bg (bg (x.1, 0) 12) 11) 10) 24) 21) 20).1)))) m (.inr (11, [.int 0, .int st, .ref (m + 1), .ref (m + 2), .ref (m + 3), .ref (m + 4), .ref (m + 5), .ref (m + 6), .int ac, .ref (m + 7), .int tp, .int la, .int le, .int cu, .int tk, .int sa, .int ti, .int fa, .int fl, .ref (m + 8), .ref (m + 9), .ref (m + 10), .ref (m + 11), .int (nI (bg (bg (bg (bg (bg (bg (x.1, 0) 12) 11) 10) 24) 21) 20).2)]))) (sz) := by
  refine xC_of (lv := [(0, .ref m), (1, .int p), (2, .int w)]) pn_X12 rfl rfl (fun Γ X hΓ hbs => ?_)
  have X : xX Γ Ω cX12_ask 3 RX12 "ask" (some .int) 5 175 0 0 := X
  subst hΓ
  have h6 := T.1
  have tnp := (i32_tn hp.1).2
  refine xr_aload_n X 0 dX12_ask_0 rfl rfl ?_
  refine xr_iconst (v := 0) X dX12_ask_1 (by decide) ?_
  refine xr_put (fs' := [.int 0, .int st, .ref (m + 1), .ref (m + 2), .ref (m + 3), .ref (m + 4), .ref (m + 5), .ref (m + 6), .int ac, .ref (m + 7), .int tp, .int la, .int le, .int cu, .int tk, .int sa, .int ti, .int fa, .int fl, .ref (m + 8), .ref (m + 9), .ref (m + 10), .ref (m + 11), .int (nI x.2)]) X (fW_X12_44_11 _) hm rfl rfl rfl rfl dX12_ask_2 ?_
  refine xr_heap (h' := h) (xu_id hm) ?_
  refine xr_aload_n X 0 dX12_ask_5 rfl rfl ?_
  refine xr_iload_n X 1 dX12_ask_6 rfl rfl ?_
  refine xr_callV X hm rfl kw_1190 kw_1192 kw_42 cw_X12_isPerson [.int p] (c_X12_isPerson hm ht T) rfl rfl rfl rfl rfl rfl rfl dX12_ask_7 ?_
  refine xr_if_eq (tgt := 23) X dX12_ask_10 (by decide) (fun c_10 => absurd c_10 (by rw [xb_0]; simp; omega)) (fun _ => ?_)
  refine xr_iload_n X 2 dX12_ask_13 rfl rfl ?_
  refine xr_i2l X dX12_ask_14 ?_
  refine xr_lconst (v := 0) X dX12_ask_15 (by decide) ?_
  refine xr_lconst (v := 1) X dX12_ask_16 (by decide) ?_
  refine xr_callS X kw_1027 kw_1028 cw_X12_in [.long w.toInt64, .long 0, .long 1] c_X12_in rfl rfl rfl rfl rfl rfl rfl dX12_ask_17 ?_
  refine xr_if_ne (tgt := 26) X dX12_ask_20 (by decide) (fun _ => ?_) (fun c_20 => absurd c_20 (by rw [xb_0]; simp [i32_l, k64_0, k64_1]; omega))
  refine xr_aload_n X 0 dX12_ask_26 rfl rfl ?_
  refine xr_iconst (v := 0) X dX12_ask_27 (by decide) ?_
  refine xr_put (fs' := [.int 0, .int st, .ref (m + 1), .ref (m + 2), .ref (m + 3), .ref (m + 4), .ref (m + 5), .ref (m + 6), .int ac, .ref (m + 7), .int tp, .int la, .int le, .int cu, .int tk, .int sa, .int ti, .int fa, .int fl, .ref (m + 8), .ref (m + 9), .ref (m + 10), .ref (m + 11), .int 0]) X (fW_X12_234_11 _) hm rfl rfl rfl rfl dX12_ask_28 ?_
  refine xr_heap (h' := (xu (xu h (m + 11) (.inl (.int, 16, .inl (((x.1, 0)).1)))) m (.inr (11, [.int 0, .int st, .ref (m + 1), .ref (m + 2), .ref (m + 3), .ref (m + 4), .ref (m + 5), .ref (m + 6), .int ac, .ref (m + 7), .int tp, .int la, .int le, .int cu, .int tk, .int sa, .int ti, .int fa, .int fl, .ref (m + 8), .ref (m + 9), .ref (m + 10), .ref (m + 11), .int (nI ((x.1, 0)).2)])))) (congrArg (fun z => xu z m _) (xu_id htr).symm) ?_
  refine xr_iload_n X 2 dX12_ask_31 rfl rfl ?_
  refine xr_if_ne (tgt := 43) X dX12_ask_32 (by decide) (fun c_32 => absurd (by rw [i32_eq, k32_0]; omega) c_32) (fun _ => ?_)
  refine xr_aload_n X 0 dX12_ask_35 rfl rfl ?_
  refine xr_iload_n X 1 dX12_ask_36 rfl rfl ?_
  refine xr_top (y := (nI (p.toNatClampNeg))) ((i32_tn (by omega)).1) ?_
  refine xr_callV X (xu_s _ _ _) rfl kw_1275 kw_1277 kw_47 cw_X12_sizeOf [.int (nI (p.toNatClampNeg))] (c_X12_sizeOf_2 (x := (x.1, 0)) (p := (p.toNatClampNeg)) (xu_s _ _ _) (xu_at (xn1 _ rfl) (xu_s _ _ _)) (xu_at (xn1 _ rfl) (xu_at (xne _ rfl) ht)) T (Nat.zero_le 16) (by omega) ek) rfl rfl rfl rfl rfl rfl rfl dX12_ask_37 ?_
  refine xr_heap (h' := (xu (xu h (m + 11) (.inl (.int, 16, .inl ((bg (bg (bg (bg (bg (bg (x.1, 0) 12) 11) 10) 24) 21) 20).1)))) m (.inr (11, [.int 0, .int st, .ref (m + 1), .ref (m + 2), .ref (m + 3), .ref (m + 4), .ref (m + 5), .ref (m + 6), .int ac, .ref (m + 7), .int tp, .int la, .int le, .int cu, .int tk, .int sa, .int ti, .int fa, .int fl, .ref (m + 8), .ref (m + 9), .ref (m + 10), .ref (m + 11), .int (nI (bg (bg (bg (bg (bg (bg (x.1, 0) 12) 11) 10) 24) 21) 20).2)])))) ((congrArg (fun z => xu z m _) (xu_in (xn0 _ rfl) (xu_uu _ _ _ _))).trans (xu_uu _ _ _ _)) ?_
  refine xr_goto (tgt := 48) X dX12_ask_40 (by decide) ?_
  exact xr_iret X rfl rfl rfl rfl rfl rfl dX12_ask_48
set_option maxRecDepth 100000 in
theorem c_X12_ask_2_1 {l : Launch} {Ω : xW} {h : xH} {sz : Nat} {m : Nat} {st ac tp la le cu tk sa ti fa fl : Int32} {x : trS} {t : Nat → Int32} {np day b : Nat} {kd wh mn : Nat → Nat} {p w : Int32} (hm : h m = some (mO m st ac tp la le cu tk sa ti fa fl (nI x.2))) (htr : h (m + 11) = some (.inl (.int, 16, .inl x.1))) (ht : h (m + 4) = some (.inl (.int, 21, .inl t))) (T : tOK t np kd wh mn day b) (hp : 0 ≤ p.toInt ∧ p.toInt < np) (hw : w.toInt = 1) (ek : kd p.toNatClampNeg = 2) : xC l Ω yX12_ask cX12_ask 3 (some .int) 5 0 0 [.ref m, .int p, .int w] h sz (some (.int (2 * (nI p.toNatClampNeg + nI (wh p.toNatClampNeg))))) (xu (xu h (m + 11) (.inl (.int, 16, .inl ((bg (bg (bg (x.1, 0) 24) 21) 20).1)))) m (.inr (11, [.int 0, .int st, .ref (m + 1), .ref (m + 2), .ref (m + 3), .ref (m + 4), .ref (m + 5), .ref (m + 6), .int ac, .ref (m + 7), .int tp, .int la, .int le, .int cu, .int tk, .int sa, .int ti, .int fa, .int fl, .ref (m + 8), .ref (m + 9), .ref (m + 10), .ref (m + 11), .int (nI (bg (bg (bg (x.1, 0) 24) 21) 20).2)]))) (sz) := by
  refine xC_of (lv := [(0, .ref m), (1, .int p), (2, .int w)]) pn_X12 rfl rfl (fun Γ X hΓ hbs => ?_)
  have X : xX Γ Ω cX12_ask 3 RX12 "ask" (some .int) 5 175 0 0 := X
  subst hΓ
  have h6 := T.1
  have tnp := (i32_tn hp.1).2
  refine xr_aload_n X 0 dX12_ask_0 rfl rfl ?_
  refine xr_iconst (v := 0) X dX12_ask_1 (by decide) ?_
  refine xr_put (fs' := [.int 0, .int st, .ref (m + 1), .ref (m + 2), .ref (m + 3), .ref (m + 4), .ref (m + 5), .ref (m + 6), .int ac, .ref (m + 7), .int tp, .int la, .int le, .int cu, .int tk, .int sa, .int ti, .int fa, .int fl, .ref (m + 8), .ref (m + 9), .ref (m + 10), .ref (m + 11), .int (nI x.2)]) X (fW_X12_44_11 _) hm rfl rfl rfl rfl dX12_ask_2 ?_
  refine xr_heap (h' := h) (xu_id hm) ?_
  refine xr_aload_n X 0 dX12_ask_5 rfl rfl ?_
  refine xr_iload_n X 1 dX12_ask_6 rfl rfl ?_
  refine xr_callV X hm rfl kw_1190 kw_1192 kw_42 cw_X12_isPerson [.int p] (c_X12_isPerson hm ht T) rfl rfl rfl rfl rfl rfl rfl dX12_ask_7 ?_
  refine xr_if_eq (tgt := 23) X dX12_ask_10 (by decide) (fun c_10 => absurd c_10 (by rw [xb_0]; simp; omega)) (fun _ => ?_)
  refine xr_iload_n X 2 dX12_ask_13 rfl rfl ?_
  refine xr_i2l X dX12_ask_14 ?_
  refine xr_lconst (v := 0) X dX12_ask_15 (by decide) ?_
  refine xr_lconst (v := 1) X dX12_ask_16 (by decide) ?_
  refine xr_callS X kw_1027 kw_1028 cw_X12_in [.long w.toInt64, .long 0, .long 1] c_X12_in rfl rfl rfl rfl rfl rfl rfl dX12_ask_17 ?_
  refine xr_if_ne (tgt := 26) X dX12_ask_20 (by decide) (fun _ => ?_) (fun c_20 => absurd c_20 (by rw [xb_0]; simp [i32_l, k64_0, k64_1]; omega))
  refine xr_aload_n X 0 dX12_ask_26 rfl rfl ?_
  refine xr_iconst (v := 0) X dX12_ask_27 (by decide) ?_
  refine xr_put (fs' := [.int 0, .int st, .ref (m + 1), .ref (m + 2), .ref (m + 3), .ref (m + 4), .ref (m + 5), .ref (m + 6), .int ac, .ref (m + 7), .int tp, .int la, .int le, .int cu, .int tk, .int sa, .int ti, .int fa, .int fl, .ref (m + 8), .ref (m + 9), .ref (m + 10), .ref (m + 11), .int 0]) X (fW_X12_234_11 _) hm rfl rfl rfl rfl dX12_ask_28 ?_
  refine xr_heap (h' := (xu (xu h (m + 11) (.inl (.int, 16, .inl (((x.1, 0)).1)))) m (.inr (11, [.int 0, .int st, .ref (m + 1), .ref (m + 2), .ref (m + 3), .ref (m + 4), .ref (m + 5), .ref (m + 6), .int ac, .ref (m + 7), .int tp, .int la, .int le, .int cu, .int tk, .int sa, .int ti, .int fa, .int fl, .ref (m + 8), .ref (m + 9), .ref (m + 10), .ref (m + 11), .int (nI ((x.1, 0)).2)])))) (congrArg (fun z => xu z m _) (xu_id htr).symm) ?_
  refine xr_iload_n X 2 dX12_ask_31 rfl rfl ?_
  refine xr_if_ne (tgt := 43) X dX12_ask_32 (by decide) (fun _ => ?_) (fun c_32 => absurd c_32 (by rw [i32_eq, k32_0]; omega))
  refine xr_aload_n X 0 dX12_ask_43 rfl rfl ?_
  refine xr_iload_n X 1 dX12_ask_44 rfl rfl ?_
  refine xr_top (y := (nI (p.toNatClampNeg))) ((i32_tn (by omega)).1) ?_
  refine xr_callV X (xu_s _ _ _) rfl kw_1291 kw_1293 kw_51 cw_X12_markOf [.int (nI (p.toNatClampNeg))] (c_X12_markOf_2 (x := (x.1, 0)) (p := (p.toNatClampNeg)) (xu_s _ _ _) (xu_at (xn1 _ rfl) (xu_s _ _ _)) (xu_at (xn1 _ rfl) (xu_at (xne _ rfl) ht)) T (Nat.zero_le 16) (by omega) ek) rfl rfl rfl rfl rfl rfl rfl dX12_ask_45 ?_
  refine xr_heap (h' := (xu (xu h (m + 11) (.inl (.int, 16, .inl ((bg (bg (bg (x.1, 0) 24) 21) 20).1)))) m (.inr (11, [.int 0, .int st, .ref (m + 1), .ref (m + 2), .ref (m + 3), .ref (m + 4), .ref (m + 5), .ref (m + 6), .int ac, .ref (m + 7), .int tp, .int la, .int le, .int cu, .int tk, .int sa, .int ti, .int fa, .int fl, .ref (m + 8), .ref (m + 9), .ref (m + 10), .ref (m + 11), .int (nI (bg (bg (bg (x.1, 0) 24) 21) 20).2)])))) ((congrArg (fun z => xu z m _) (xu_in (xn0 _ rfl) (xu_uu _ _ _ _))).trans (xu_uu _ _ _ _)) ?_
  exact xr_iret X rfl rfl rfl rfl rfl rfl dX12_ask_48
set_option maxRecDepth 100000 in
theorem c_X12_ask_3_0 {l : Launch} {Ω : xW} {h : xH} {sz : Nat} {m : Nat} {st ac tp la le cu tk sa ti fa fl : Int32} {x : trS} {t : Nat → Int32} {np day b : Nat} {kd wh mn : Nat → Nat} {p w : Int32} (hm : h m = some (mO m st ac tp la le cu tk sa ti fa fl (nI x.2))) (htr : h (m + 11) = some (.inl (.int, 16, .inl x.1))) (ht : h (m + 4) = some (.inl (.int, 21, .inl t))) (T : tOK t np kd wh mn day b) (hp : 0 ≤ p.toInt ∧ p.toInt < np) (hw : w.toInt = 0) (ek : kd p.toNatClampNeg = 3) : xC l Ω yX12_ask cX12_ask 3 (some .int) 5 0 0 [.ref m, .int p, .int w] h sz (some (.int (nI (mn p.toNatClampNeg) + ((nI p.toNatClampNeg + nI (wh p.toNatClampNeg)) - 1000)))) (xu (xu h (m + 11) (.inl (.int, 16, .inl ((bg (bg (bg (bg (bg (x.1, 0) 11) 10) 22) 21) 20).1)))) m (.inr (11, [.int 0, .int st, .ref (m + 1), .ref (m + 2), .ref (m + 3), .ref (m + 4), .ref (m + 5), .ref (m + 6), .int ac, .ref (m + 7), .int tp, .int la, .int le, .int cu, .int tk, .int sa, .int ti, .int fa, .int fl, .ref (m + 8), .ref (m + 9), .ref (m + 10), .ref (m + 11), .int (nI (bg (bg (bg (bg (bg (x.1, 0) 11) 10) 22) 21) 20).2)]))) (sz) := by
  refine xC_of (lv := [(0, .ref m), (1, .int p), (2, .int w)]) pn_X12 rfl rfl (fun Γ X hΓ hbs => ?_)
  have X : xX Γ Ω cX12_ask 3 RX12 "ask" (some .int) 5 175 0 0 := X
  subst hΓ
  have h6 := T.1
  have tnp := (i32_tn hp.1).2
  refine xr_aload_n X 0 dX12_ask_0 rfl rfl ?_
  refine xr_iconst (v := 0) X dX12_ask_1 (by decide) ?_
  refine xr_put (fs' := [.int 0, .int st, .ref (m + 1), .ref (m + 2), .ref (m + 3), .ref (m + 4), .ref (m + 5), .ref (m + 6), .int ac, .ref (m + 7), .int tp, .int la, .int le, .int cu, .int tk, .int sa, .int ti, .int fa, .int fl, .ref (m + 8), .ref (m + 9), .ref (m + 10), .ref (m + 11), .int (nI x.2)]) X (fW_X12_44_11 _) hm rfl rfl rfl rfl dX12_ask_2 ?_
  refine xr_heap (h' := h) (xu_id hm) ?_
  refine xr_aload_n X 0 dX12_ask_5 rfl rfl ?_
  refine xr_iload_n X 1 dX12_ask_6 rfl rfl ?_
  refine xr_callV X hm rfl kw_1190 kw_1192 kw_42 cw_X12_isPerson [.int p] (c_X12_isPerson hm ht T) rfl rfl rfl rfl rfl rfl rfl dX12_ask_7 ?_
  refine xr_if_eq (tgt := 23) X dX12_ask_10 (by decide) (fun c_10 => absurd c_10 (by rw [xb_0]; simp; omega)) (fun _ => ?_)
  refine xr_iload_n X 2 dX12_ask_13 rfl rfl ?_
  refine xr_i2l X dX12_ask_14 ?_
  refine xr_lconst (v := 0) X dX12_ask_15 (by decide) ?_
  refine xr_lconst (v := 1) X dX12_ask_16 (by decide) ?_
  refine xr_callS X kw_1027 kw_1028 cw_X12_in [.long w.toInt64, .long 0, .long 1] c_X12_in rfl rfl rfl rfl rfl rfl rfl dX12_ask_17 ?_
  refine xr_if_ne (tgt := 26) X dX12_ask_20 (by decide) (fun _ => ?_) (fun c_20 => absurd c_20 (by rw [xb_0]; simp [i32_l, k64_0, k64_1]; omega))
  refine xr_aload_n X 0 dX12_ask_26 rfl rfl ?_
  refine xr_iconst (v := 0) X dX12_ask_27 (by decide) ?_
  refine xr_put (fs' := [.int 0, .int st, .ref (m + 1), .ref (m + 2), .ref (m + 3), .ref (m + 4), .ref (m + 5), .ref (m + 6), .int ac, .ref (m + 7), .int tp, .int la, .int le, .int cu, .int tk, .int sa, .int ti, .int fa, .int fl, .ref (m + 8), .ref (m + 9), .ref (m + 10), .ref (m + 11), .int 0]) X (fW_X12_234_11 _) hm rfl rfl rfl rfl dX12_ask_28 ?_
  refine xr_heap (h' := (xu (xu h (m + 11) (.inl (.int, 16, .inl (((x.1, 0)).1)))) m (.inr (11, [.int 0, .int st, .ref (m + 1), .ref (m + 2), .ref (m + 3), .ref (m + 4), .ref (m + 5), .ref (m + 6), .int ac, .ref (m + 7), .int tp, .int la, .int le, .int cu, .int tk, .int sa, .int ti, .int fa, .int fl, .ref (m + 8), .ref (m + 9), .ref (m + 10), .ref (m + 11), .int (nI ((x.1, 0)).2)])))) (congrArg (fun z => xu z m _) (xu_id htr).symm) ?_
  refine xr_iload_n X 2 dX12_ask_31 rfl rfl ?_
  refine xr_if_ne (tgt := 43) X dX12_ask_32 (by decide) (fun c_32 => absurd (by rw [i32_eq, k32_0]; omega) c_32) (fun _ => ?_)
  refine xr_aload_n X 0 dX12_ask_35 rfl rfl ?_
  refine xr_iload_n X 1 dX12_ask_36 rfl rfl ?_
  refine xr_top (y := (nI (p.toNatClampNeg))) ((i32_tn (by omega)).1) ?_
  refine xr_callV X (xu_s _ _ _) rfl kw_1275 kw_1277 kw_47 cw_X12_sizeOf [.int (nI (p.toNatClampNeg))] (c_X12_sizeOf_3 (x := (x.1, 0)) (p := (p.toNatClampNeg)) (xu_s _ _ _) (xu_at (xn1 _ rfl) (xu_s _ _ _)) (xu_at (xn1 _ rfl) (xu_at (xne _ rfl) ht)) T (Nat.zero_le 16) (by omega) ek) rfl rfl rfl rfl rfl rfl rfl dX12_ask_37 ?_
  refine xr_heap (h' := (xu (xu h (m + 11) (.inl (.int, 16, .inl ((bg (bg (bg (bg (bg (x.1, 0) 11) 10) 22) 21) 20).1)))) m (.inr (11, [.int 0, .int st, .ref (m + 1), .ref (m + 2), .ref (m + 3), .ref (m + 4), .ref (m + 5), .ref (m + 6), .int ac, .ref (m + 7), .int tp, .int la, .int le, .int cu, .int tk, .int sa, .int ti, .int fa, .int fl, .ref (m + 8), .ref (m + 9), .ref (m + 10), .ref (m + 11), .int (nI (bg (bg (bg (bg (bg (x.1, 0) 11) 10) 22) 21) 20).2)])))) ((congrArg (fun z => xu z m _) (xu_in (xn0 _ rfl) (xu_uu _ _ _ _))).trans (xu_uu _ _ _ _)) ?_
  refine xr_goto (tgt := 48) X dX12_ask_40 (by decide) ?_
  exact xr_iret X rfl rfl rfl rfl rfl rfl dX12_ask_48
set_option maxRecDepth 100000 in
theorem c_X12_ask_3_1 {l : Launch} {Ω : xW} {h : xH} {sz : Nat} {m : Nat} {st ac tp la le cu tk sa ti fa fl : Int32} {x : trS} {t : Nat → Int32} {np day b : Nat} {kd wh mn : Nat → Nat} {p w : Int32} (hm : h m = some (mO m st ac tp la le cu tk sa ti fa fl (nI x.2))) (htr : h (m + 11) = some (.inl (.int, 16, .inl x.1))) (ht : h (m + 4) = some (.inl (.int, 21, .inl t))) (T : tOK t np kd wh mn day b) (hp : 0 ≤ p.toInt ∧ p.toInt < np) (hw : w.toInt = 1) (ek : kd p.toNatClampNeg = 3) : xC l Ω yX12_ask cX12_ask 3 (some .int) 5 0 0 [.ref m, .int p, .int w] h sz (some (.int ((nI p.toNatClampNeg + nI (wh p.toNatClampNeg)) - 1000))) (xu (xu h (m + 11) (.inl (.int, 16, .inl ((bg (bg (bg (x.1, 0) 22) 21) 20).1)))) m (.inr (11, [.int 0, .int st, .ref (m + 1), .ref (m + 2), .ref (m + 3), .ref (m + 4), .ref (m + 5), .ref (m + 6), .int ac, .ref (m + 7), .int tp, .int la, .int le, .int cu, .int tk, .int sa, .int ti, .int fa, .int fl, .ref (m + 8), .ref (m + 9), .ref (m + 10), .ref (m + 11), .int (nI (bg (bg (bg (x.1, 0) 22) 21) 20).2)]))) (sz) := by
  refine xC_of (lv := [(0, .ref m), (1, .int p), (2, .int w)]) pn_X12 rfl rfl (fun Γ X hΓ hbs => ?_)
  have X : xX Γ Ω cX12_ask 3 RX12 "ask" (some .int) 5 175 0 0 := X
  subst hΓ
  have h6 := T.1
  have tnp := (i32_tn hp.1).2
  refine xr_aload_n X 0 dX12_ask_0 rfl rfl ?_
  refine xr_iconst (v := 0) X dX12_ask_1 (by decide) ?_
  refine xr_put (fs' := [.int 0, .int st, .ref (m + 1), .ref (m + 2), .ref (m + 3), .ref (m + 4), .ref (m + 5), .ref (m + 6), .int ac, .ref (m + 7), .int tp, .int la, .int le, .int cu, .int tk, .int sa, .int ti, .int fa, .int fl, .ref (m + 8), .ref (m + 9), .ref (m + 10), .ref (m + 11), .int (nI x.2)]) X (fW_X12_44_11 _) hm rfl rfl rfl rfl dX12_ask_2 ?_
  refine xr_heap (h' := h) (xu_id hm) ?_
  refine xr_aload_n X 0 dX12_ask_5 rfl rfl ?_
  refine xr_iload_n X 1 dX12_ask_6 rfl rfl ?_
  refine xr_callV X hm rfl kw_1190 kw_1192 kw_42 cw_X12_isPerson [.int p] (c_X12_isPerson hm ht T) rfl rfl rfl rfl rfl rfl rfl dX12_ask_7 ?_
  refine xr_if_eq (tgt := 23) X dX12_ask_10 (by decide) (fun c_10 => absurd c_10 (by rw [xb_0]; simp; omega)) (fun _ => ?_)
  refine xr_iload_n X 2 dX12_ask_13 rfl rfl ?_
  refine xr_i2l X dX12_ask_14 ?_
  refine xr_lconst (v := 0) X dX12_ask_15 (by decide) ?_
  refine xr_lconst (v := 1) X dX12_ask_16 (by decide) ?_
  refine xr_callS X kw_1027 kw_1028 cw_X12_in [.long w.toInt64, .long 0, .long 1] c_X12_in rfl rfl rfl rfl rfl rfl rfl dX12_ask_17 ?_
  refine xr_if_ne (tgt := 26) X dX12_ask_20 (by decide) (fun _ => ?_) (fun c_20 => absurd c_20 (by rw [xb_0]; simp [i32_l, k64_0, k64_1]; omega))
  refine xr_aload_n X 0 dX12_ask_26 rfl rfl ?_
  refine xr_iconst (v := 0) X dX12_ask_27 (by decide) ?_
  refine xr_put (fs' := [.int 0, .int st, .ref (m + 1), .ref (m + 2), .ref (m + 3), .ref (m + 4), .ref (m + 5), .ref (m + 6), .int ac, .ref (m + 7), .int tp, .int la, .int le, .int cu, .int tk, .int sa, .int ti, .int fa, .int fl, .ref (m + 8), .ref (m + 9), .ref (m + 10), .ref (m + 11), .int 0]) X (fW_X12_234_11 _) hm rfl rfl rfl rfl dX12_ask_28 ?_
  refine xr_heap (h' := (xu (xu h (m + 11) (.inl (.int, 16, .inl (((x.1, 0)).1)))) m (.inr (11, [.int 0, .int st, .ref (m + 1), .ref (m + 2), .ref (m + 3), .ref (m + 4), .ref (m + 5), .ref (m + 6), .int ac, .ref (m + 7), .int tp, .int la, .int le, .int cu, .int tk, .int sa, .int ti, .int fa, .int fl, .ref (m + 8), .ref (m + 9), .ref (m + 10), .ref (m + 11), .int (nI ((x.1, 0)).2)])))) (congrArg (fun z => xu z m _) (xu_id htr).symm) ?_
  refine xr_iload_n X 2 dX12_ask_31 rfl rfl ?_
  refine xr_if_ne (tgt := 43) X dX12_ask_32 (by decide) (fun _ => ?_) (fun c_32 => absurd c_32 (by rw [i32_eq, k32_0]; omega))
  refine xr_aload_n X 0 dX12_ask_43 rfl rfl ?_
  refine xr_iload_n X 1 dX12_ask_44 rfl rfl ?_
  refine xr_top (y := (nI (p.toNatClampNeg))) ((i32_tn (by omega)).1) ?_
  refine xr_callV X (xu_s _ _ _) rfl kw_1291 kw_1293 kw_51 cw_X12_markOf [.int (nI (p.toNatClampNeg))] (c_X12_markOf_3 (x := (x.1, 0)) (p := (p.toNatClampNeg)) (xu_s _ _ _) (xu_at (xn1 _ rfl) (xu_s _ _ _)) (xu_at (xn1 _ rfl) (xu_at (xne _ rfl) ht)) T (Nat.zero_le 16) (by omega) ek) rfl rfl rfl rfl rfl rfl rfl dX12_ask_45 ?_
  refine xr_heap (h' := (xu (xu h (m + 11) (.inl (.int, 16, .inl ((bg (bg (bg (x.1, 0) 22) 21) 20).1)))) m (.inr (11, [.int 0, .int st, .ref (m + 1), .ref (m + 2), .ref (m + 3), .ref (m + 4), .ref (m + 5), .ref (m + 6), .int ac, .ref (m + 7), .int tp, .int la, .int le, .int cu, .int tk, .int sa, .int ti, .int fa, .int fl, .ref (m + 8), .ref (m + 9), .ref (m + 10), .ref (m + 11), .int (nI (bg (bg (bg (x.1, 0) 22) 21) 20).2)])))) ((congrArg (fun z => xu z m _) (xu_in (xn0 _ rfl) (xu_uu _ _ _ _))).trans (xu_uu _ _ _ _)) ?_
  exact xr_iret X rfl rfl rfl rfl rfl rfl dX12_ask_48
set_option maxRecDepth 100000 in
theorem c_X12_ask_4_0 {l : Launch} {Ω : xW} {h : xH} {sz : Nat} {m : Nat} {st ac tp la le cu tk sa ti fa fl : Int32} {x : trS} {t : Nat → Int32} {np day b : Nat} {kd wh mn : Nat → Nat} {p w : Int32} (hm : h m = some (mO m st ac tp la le cu tk sa ti fa fl (nI x.2))) (htr : h (m + 11) = some (.inl (.int, 16, .inl x.1))) (ht : h (m + 4) = some (.inl (.int, 21, .inl t))) (T : tOK t np kd wh mn day b) (hp : 0 ≤ p.toInt ∧ p.toInt < np) (hw : w.toInt = 0) (ek : kd p.toNatClampNeg = 4) : xC l Ω yX12_ask cX12_ask 3 (some .int) 5 0 0 [.ref m, .int p, .int w] h sz (some (.int (nI (mn p.toNatClampNeg) - 100))) (xu (xu h (m + 11) (.inl (.int, 16, .inl ((bg (bg (x.1, 0) 13) 10).1)))) m (.inr (11, [.int 0, .int st, .ref (m + 1), .ref (m + 2), .ref (m + 3), .ref (m + 4), .ref (m + 5), .ref (m + 6), .int ac, .ref (m + 7), .int tp, .int la, .int le, .int cu, .int tk, .int sa, .int ti, .int fa, .int fl, .ref (m + 8), .ref (m + 9), .ref (m + 10), .ref (m + 11), .int (nI (bg (bg (x.1, 0) 13) 10).2)]))) (sz) := by
  refine xC_of (lv := [(0, .ref m), (1, .int p), (2, .int w)]) pn_X12 rfl rfl (fun Γ X hΓ hbs => ?_)
  have X : xX Γ Ω cX12_ask 3 RX12 "ask" (some .int) 5 175 0 0 := X
  subst hΓ
  have h6 := T.1
  have tnp := (i32_tn hp.1).2
  refine xr_aload_n X 0 dX12_ask_0 rfl rfl ?_
  refine xr_iconst (v := 0) X dX12_ask_1 (by decide) ?_
  refine xr_put (fs' := [.int 0, .int st, .ref (m + 1), .ref (m + 2), .ref (m + 3), .ref (m + 4), .ref (m + 5), .ref (m + 6), .int ac, .ref (m + 7), .int tp, .int la, .int le, .int cu, .int tk, .int sa, .int ti, .int fa, .int fl, .ref (m + 8), .ref (m + 9), .ref (m + 10), .ref (m + 11), .int (nI x.2)]) X (fW_X12_44_11 _) hm rfl rfl rfl rfl dX12_ask_2 ?_
  refine xr_heap (h' := h) (xu_id hm) ?_
  refine xr_aload_n X 0 dX12_ask_5 rfl rfl ?_
  refine xr_iload_n X 1 dX12_ask_6 rfl rfl ?_
  refine xr_callV X hm rfl kw_1190 kw_1192 kw_42 cw_X12_isPerson [.int p] (c_X12_isPerson hm ht T) rfl rfl rfl rfl rfl rfl rfl dX12_ask_7 ?_
  refine xr_if_eq (tgt := 23) X dX12_ask_10 (by decide) (fun c_10 => absurd c_10 (by rw [xb_0]; simp; omega)) (fun _ => ?_)
  refine xr_iload_n X 2 dX12_ask_13 rfl rfl ?_
  refine xr_i2l X dX12_ask_14 ?_
  refine xr_lconst (v := 0) X dX12_ask_15 (by decide) ?_
  refine xr_lconst (v := 1) X dX12_ask_16 (by decide) ?_
  refine xr_callS X kw_1027 kw_1028 cw_X12_in [.long w.toInt64, .long 0, .long 1] c_X12_in rfl rfl rfl rfl rfl rfl rfl dX12_ask_17 ?_
  refine xr_if_ne (tgt := 26) X dX12_ask_20 (by decide) (fun _ => ?_) (fun c_20 => absurd c_20 (by rw [xb_0]; simp [i32_l, k64_0, k64_1]; omega))
  refine xr_aload_n X 0 dX12_ask_26 rfl rfl ?_
  refine xr_iconst (v := 0) X dX12_ask_27 (by decide) ?_
  refine xr_put (fs' := [.int 0, .int st, .ref (m + 1), .ref (m + 2), .ref (m + 3), .ref (m + 4), .ref (m + 5), .ref (m + 6), .int ac, .ref (m + 7), .int tp, .int la, .int le, .int cu, .int tk, .int sa, .int ti, .int fa, .int fl, .ref (m + 8), .ref (m + 9), .ref (m + 10), .ref (m + 11), .int 0]) X (fW_X12_234_11 _) hm rfl rfl rfl rfl dX12_ask_28 ?_
  refine xr_heap (h' := (xu (xu h (m + 11) (.inl (.int, 16, .inl (((x.1, 0)).1)))) m (.inr (11, [.int 0, .int st, .ref (m + 1), .ref (m + 2), .ref (m + 3), .ref (m + 4), .ref (m + 5), .ref (m + 6), .int ac, .ref (m + 7), .int tp, .int la, .int le, .int cu, .int tk, .int sa, .int ti, .int fa, .int fl, .ref (m + 8), .ref (m + 9), .ref (m + 10), .ref (m + 11), .int (nI ((x.1, 0)).2)])))) (congrArg (fun z => xu z m _) (xu_id htr).symm) ?_
  refine xr_iload_n X 2 dX12_ask_31 rfl rfl ?_
  refine xr_if_ne (tgt := 43) X dX12_ask_32 (by decide) (fun c_32 => absurd (by rw [i32_eq, k32_0]; omega) c_32) (fun _ => ?_)
  refine xr_aload_n X 0 dX12_ask_35 rfl rfl ?_
  refine xr_iload_n X 1 dX12_ask_36 rfl rfl ?_
  refine xr_top (y := (nI (p.toNatClampNeg))) ((i32_tn (by omega)).1) ?_
  refine xr_callV X (xu_s _ _ _) rfl kw_1275 kw_1277 kw_47 cw_X12_sizeOf [.int (nI (p.toNatClampNeg))] (c_X12_sizeOf_4 (x := (x.1, 0)) (p := (p.toNatClampNeg)) (xu_s _ _ _) (xu_at (xn1 _ rfl) (xu_s _ _ _)) (xu_at (xn1 _ rfl) (xu_at (xne _ rfl) ht)) T (Nat.zero_le 16) (by omega) ek) rfl rfl rfl rfl rfl rfl rfl dX12_ask_37 ?_
  refine xr_heap (h' := (xu (xu h (m + 11) (.inl (.int, 16, .inl ((bg (bg (x.1, 0) 13) 10).1)))) m (.inr (11, [.int 0, .int st, .ref (m + 1), .ref (m + 2), .ref (m + 3), .ref (m + 4), .ref (m + 5), .ref (m + 6), .int ac, .ref (m + 7), .int tp, .int la, .int le, .int cu, .int tk, .int sa, .int ti, .int fa, .int fl, .ref (m + 8), .ref (m + 9), .ref (m + 10), .ref (m + 11), .int (nI (bg (bg (x.1, 0) 13) 10).2)])))) ((congrArg (fun z => xu z m _) (xu_in (xn0 _ rfl) (xu_uu _ _ _ _))).trans (xu_uu _ _ _ _)) ?_
  refine xr_goto (tgt := 48) X dX12_ask_40 (by decide) ?_
  exact xr_iret X rfl rfl rfl rfl rfl rfl dX12_ask_48
set_option maxRecDepth 100000 in
theorem c_X12_ask_4_1 {l : Launch} {Ω : xW} {h : xH} {sz : Nat} {m : Nat} {st ac tp la le cu tk sa ti fa fl : Int32} {x : trS} {t : Nat → Int32} {np day b : Nat} {kd wh mn : Nat → Nat} {p w : Int32} (hm : h m = some (mO m st ac tp la le cu tk sa ti fa fl (nI x.2))) (htr : h (m + 11) = some (.inl (.int, 16, .inl x.1))) (ht : h (m + 4) = some (.inl (.int, 21, .inl t))) (T : tOK t np kd wh mn day b) (hp : 0 ≤ p.toInt ∧ p.toInt < np) (hw : w.toInt = 1) (ek : kd p.toNatClampNeg = 4) : xC l Ω yX12_ask cX12_ask 3 (some .int) 5 0 0 [.ref m, .int p, .int w] h sz (some (.int (nI p.toNatClampNeg - (nI (mn p.toNatClampNeg) - 100)))) (xu (xu h (m + 11) (.inl (.int, 16, .inl ((bg (bg (bg (bg (x.1, 0) 23) 20) 13) 10).1)))) m (.inr (11, [.int 0, .int st, .ref (m + 1), .ref (m + 2), .ref (m + 3), .ref (m + 4), .ref (m + 5), .ref (m + 6), .int ac, .ref (m + 7), .int tp, .int la, .int le, .int cu, .int tk, .int sa, .int ti, .int fa, .int fl, .ref (m + 8), .ref (m + 9), .ref (m + 10), .ref (m + 11), .int (nI (bg (bg (bg (bg (x.1, 0) 23) 20) 13) 10).2)]))) (sz) := by
  refine xC_of (lv := [(0, .ref m), (1, .int p), (2, .int w)]) pn_X12 rfl rfl (fun Γ X hΓ hbs => ?_)
  have X : xX Γ Ω cX12_ask 3 RX12 "ask" (some .int) 5 175 0 0 := X
  subst hΓ
  have h6 := T.1
  have tnp := (i32_tn hp.1).2
  refine xr_aload_n X 0 dX12_ask_0 rfl rfl ?_
  refine xr_iconst (v := 0) X dX12_ask_1 (by decide) ?_
  refine xr_put (fs' := [.int 0, .int st, .ref (m + 1), .ref (m + 2), .ref (m + 3), .ref (m + 4), .ref (m + 5), .ref (m + 6), .int ac, .ref (m + 7), .int tp, .int la, .int le, .int cu, .int tk, .int sa, .int ti, .int fa, .int fl, .ref (m + 8), .ref (m + 9), .ref (m + 10), .ref (m + 11), .int (nI x.2)]) X (fW_X12_44_11 _) hm rfl rfl rfl rfl dX12_ask_2 ?_
  refine xr_heap (h' := h) (xu_id hm) ?_
  refine xr_aload_n X 0 dX12_ask_5 rfl rfl ?_
  refine xr_iload_n X 1 dX12_ask_6 rfl rfl ?_
  refine xr_callV X hm rfl kw_1190 kw_1192 kw_42 cw_X12_isPerson [.int p] (c_X12_isPerson hm ht T) rfl rfl rfl rfl rfl rfl rfl dX12_ask_7 ?_
  refine xr_if_eq (tgt := 23) X dX12_ask_10 (by decide) (fun c_10 => absurd c_10 (by rw [xb_0]; simp; omega)) (fun _ => ?_)
  refine xr_iload_n X 2 dX12_ask_13 rfl rfl ?_
  refine xr_i2l X dX12_ask_14 ?_
  refine xr_lconst (v := 0) X dX12_ask_15 (by decide) ?_
  refine xr_lconst (v := 1) X dX12_ask_16 (by decide) ?_
  refine xr_callS X kw_1027 kw_1028 cw_X12_in [.long w.toInt64, .long 0, .long 1] c_X12_in rfl rfl rfl rfl rfl rfl rfl dX12_ask_17 ?_
  refine xr_if_ne (tgt := 26) X dX12_ask_20 (by decide) (fun _ => ?_) (fun c_20 => absurd c_20 (by rw [xb_0]; simp [i32_l, k64_0, k64_1]; omega))
  refine xr_aload_n X 0 dX12_ask_26 rfl rfl ?_
  refine xr_iconst (v := 0) X dX12_ask_27 (by decide) ?_
  refine xr_put (fs' := [.int 0, .int st, .ref (m + 1), .ref (m + 2), .ref (m + 3), .ref (m + 4), .ref (m + 5), .ref (m + 6), .int ac, .ref (m + 7), .int tp, .int la, .int le, .int cu, .int tk, .int sa, .int ti, .int fa, .int fl, .ref (m + 8), .ref (m + 9), .ref (m + 10), .ref (m + 11), .int 0]) X (fW_X12_234_11 _) hm rfl rfl rfl rfl dX12_ask_28 ?_
  refine xr_heap (h' := (xu (xu h (m + 11) (.inl (.int, 16, .inl (((x.1, 0)).1)))) m (.inr (11, [.int 0, .int st, .ref (m + 1), .ref (m + 2), .ref (m + 3), .ref (m + 4), .ref (m + 5), .ref (m + 6), .int ac, .ref (m + 7), .int tp, .int la, .int le, .int cu, .int tk, .int sa, .int ti, .int fa, .int fl, .ref (m + 8), .ref (m + 9), .ref (m + 10), .ref (m + 11), .int (nI ((x.1, 0)).2)])))) (congrArg (fun z => xu z m _) (xu_id htr).symm) ?_
  refine xr_iload_n X 2 dX12_ask_31 rfl rfl ?_
  refine xr_if_ne (tgt := 43) X dX12_ask_32 (by decide) (fun _ => ?_) (fun c_32 => absurd c_32 (by rw [i32_eq, k32_0]; omega))
  refine xr_aload_n X 0 dX12_ask_43 rfl rfl ?_
  refine xr_iload_n X 1 dX12_ask_44 rfl rfl ?_
  refine xr_top (y := (nI (p.toNatClampNeg))) ((i32_tn (by omega)).1) ?_
  refine xr_callV X (xu_s _ _ _) rfl kw_1291 kw_1293 kw_51 cw_X12_markOf [.int (nI (p.toNatClampNeg))] (c_X12_markOf_4 (x := (x.1, 0)) (p := (p.toNatClampNeg)) (xu_s _ _ _) (xu_at (xn1 _ rfl) (xu_s _ _ _)) (xu_at (xn1 _ rfl) (xu_at (xne _ rfl) ht)) T (Nat.zero_le 16) (by omega) ek) rfl rfl rfl rfl rfl rfl rfl dX12_ask_45 ?_
  refine xr_heap (h' := (xu (xu h (m + 11) (.inl (.int, 16, .inl ((bg (bg (bg (bg (x.1, 0) 23) 20) 13) 10).1)))) m (.inr (11, [.int 0, .int st, .ref (m + 1), .ref (m + 2), .ref (m + 3), .ref (m + 4), .ref (m + 5), .ref (m + 6), .int ac, .ref (m + 7), .int tp, .int la, .int le, .int cu, .int tk, .int sa, .int ti, .int fa, .int fl, .ref (m + 8), .ref (m + 9), .ref (m + 10), .ref (m + 11), .int (nI (bg (bg (bg (bg (x.1, 0) 23) 20) 13) 10).2)])))) ((congrArg (fun z => xu z m _) (xu_in (xn0 _ rfl) (xu_uu _ _ _ _))).trans (xu_uu _ _ _ _)) ?_
  exact xr_iret X rfl rfl rfl rfl rfl rfl dX12_ask_48
set_option maxRecDepth 100000 in
theorem c_X12_ask_5_0 {l : Launch} {Ω : xW} {h : xH} {sz : Nat} {m : Nat} {st ac tp la le cu tk sa ti fa fl : Int32} {x : trS} {t : Nat → Int32} {np day b : Nat} {kd wh mn : Nat → Nat} {p w : Int32} (hm : h m = some (mO m st ac tp la le cu tk sa ti fa fl (nI x.2))) (htr : h (m + 11) = some (.inl (.int, 16, .inl x.1))) (ht : h (m + 4) = some (.inl (.int, 21, .inl t))) (T : tOK t np kd wh mn day b) (hp : 0 ≤ p.toInt ∧ p.toInt < np) (hw : w.toInt = 0) (ek : kd p.toNatClampNeg = 5) : xC l Ω yX12_ask cX12_ask 3 (some .int) 5 0 0 [.ref m, .int p, .int w] h sz (some (.int (2 * (nI (mn p.toNatClampNeg) - 100)))) (xu (xu h (m + 11) (.inl (.int, 16, .inl ((bg (bg (bg (x.1, 0) 14) 13) 10).1)))) m (.inr (11, [.int 0, .int st, .ref (m + 1), .ref (m + 2), .ref (m + 3), .ref (m + 4), .ref (m + 5), .ref (m + 6), .int ac, .ref (m + 7), .int tp, .int la, .int le, .int cu, .int tk, .int sa, .int ti, .int fa, .int fl, .ref (m + 8), .ref (m + 9), .ref (m + 10), .ref (m + 11), .int (nI (bg (bg (bg (x.1, 0) 14) 13) 10).2)]))) (sz) := by
  refine xC_of (lv := [(0, .ref m), (1, .int p), (2, .int w)]) pn_X12 rfl rfl (fun Γ X hΓ hbs => ?_)
  have X : xX Γ Ω cX12_ask 3 RX12 "ask" (some .int) 5 175 0 0 := X
  subst hΓ
  have h6 := T.1
  have tnp := (i32_tn hp.1).2
  refine xr_aload_n X 0 dX12_ask_0 rfl rfl ?_
  refine xr_iconst (v := 0) X dX12_ask_1 (by decide) ?_
  refine xr_put (fs' := [.int 0, .int st, .ref (m + 1), .ref (m + 2), .ref (m + 3), .ref (m + 4), .ref (m + 5), .ref (m + 6), .int ac, .ref (m + 7), .int tp, .int la, .int le, .int cu, .int tk, .int sa, .int ti, .int fa, .int fl, .ref (m + 8), .ref (m + 9), .ref (m + 10), .ref (m + 11), .int (nI x.2)]) X (fW_X12_44_11 _) hm rfl rfl rfl rfl dX12_ask_2 ?_
  refine xr_heap (h' := h) (xu_id hm) ?_
  refine xr_aload_n X 0 dX12_ask_5 rfl rfl ?_
  refine xr_iload_n X 1 dX12_ask_6 rfl rfl ?_
  refine xr_callV X hm rfl kw_1190 kw_1192 kw_42 cw_X12_isPerson [.int p] (c_X12_isPerson hm ht T) rfl rfl rfl rfl rfl rfl rfl dX12_ask_7 ?_
  refine xr_if_eq (tgt := 23) X dX12_ask_10 (by decide) (fun c_10 => absurd c_10 (by rw [xb_0]; simp; omega)) (fun _ => ?_)
  refine xr_iload_n X 2 dX12_ask_13 rfl rfl ?_
  refine xr_i2l X dX12_ask_14 ?_
  refine xr_lconst (v := 0) X dX12_ask_15 (by decide) ?_
  refine xr_lconst (v := 1) X dX12_ask_16 (by decide) ?_
  refine xr_callS X kw_1027 kw_1028 cw_X12_in [.long w.toInt64, .long 0, .long 1] c_X12_in rfl rfl rfl rfl rfl rfl rfl dX12_ask_17 ?_
  refine xr_if_ne (tgt := 26) X dX12_ask_20 (by decide) (fun _ => ?_) (fun c_20 => absurd c_20 (by rw [xb_0]; simp [i32_l, k64_0, k64_1]; omega))
  refine xr_aload_n X 0 dX12_ask_26 rfl rfl ?_
  refine xr_iconst (v := 0) X dX12_ask_27 (by decide) ?_
  refine xr_put (fs' := [.int 0, .int st, .ref (m + 1), .ref (m + 2), .ref (m + 3), .ref (m + 4), .ref (m + 5), .ref (m + 6), .int ac, .ref (m + 7), .int tp, .int la, .int le, .int cu, .int tk, .int sa, .int ti, .int fa, .int fl, .ref (m + 8), .ref (m + 9), .ref (m + 10), .ref (m + 11), .int 0]) X (fW_X12_234_11 _) hm rfl rfl rfl rfl dX12_ask_28 ?_
  refine xr_heap (h' := (xu (xu h (m + 11) (.inl (.int, 16, .inl (((x.1, 0)).1)))) m (.inr (11, [.int 0, .int st, .ref (m + 1), .ref (m + 2), .ref (m + 3), .ref (m + 4), .ref (m + 5), .ref (m + 6), .int ac, .ref (m + 7), .int tp, .int la, .int le, .int cu, .int tk, .int sa, .int ti, .int fa, .int fl, .ref (m + 8), .ref (m + 9), .ref (m + 10), .ref (m + 11), .int (nI ((x.1, 0)).2)])))) (congrArg (fun z => xu z m _) (xu_id htr).symm) ?_
  refine xr_iload_n X 2 dX12_ask_31 rfl rfl ?_
  refine xr_if_ne (tgt := 43) X dX12_ask_32 (by decide) (fun c_32 => absurd (by rw [i32_eq, k32_0]; omega) c_32) (fun _ => ?_)
  refine xr_aload_n X 0 dX12_ask_35 rfl rfl ?_
  refine xr_iload_n X 1 dX12_ask_36 rfl rfl ?_
  refine xr_top (y := (nI (p.toNatClampNeg))) ((i32_tn (by omega)).1) ?_
  refine xr_callV X (xu_s _ _ _) rfl kw_1275 kw_1277 kw_47 cw_X12_sizeOf [.int (nI (p.toNatClampNeg))] (c_X12_sizeOf_5 (x := (x.1, 0)) (p := (p.toNatClampNeg)) (xu_s _ _ _) (xu_at (xn1 _ rfl) (xu_s _ _ _)) (xu_at (xn1 _ rfl) (xu_at (xne _ rfl) ht)) T (Nat.zero_le 16) (by omega) ek) rfl rfl rfl rfl rfl rfl rfl dX12_ask_37 ?_
  refine xr_heap (h' := (xu (xu h (m + 11) (.inl (.int, 16, .inl ((bg (bg (bg (x.1, 0) 14) 13) 10).1)))) m (.inr (11, [.int 0, .int st, .ref (m + 1), .ref (m + 2), .ref (m + 3), .ref (m + 4), .ref (m + 5), .ref (m + 6), .int ac, .ref (m + 7), .int tp, .int la, .int le, .int cu, .int tk, .int sa, .int ti, .int fa, .int fl, .ref (m + 8), .ref (m + 9), .ref (m + 10), .ref (m + 11), .int (nI (bg (bg (bg (x.1, 0) 14) 13) 10).2)])))) ((congrArg (fun z => xu z m _) (xu_in (xn0 _ rfl) (xu_uu _ _ _ _))).trans (xu_uu _ _ _ _)) ?_
  refine xr_goto (tgt := 48) X dX12_ask_40 (by decide) ?_
  exact xr_iret X rfl rfl rfl rfl rfl rfl dX12_ask_48
set_option maxRecDepth 100000 in
theorem c_X12_ask_5_1 {l : Launch} {Ω : xW} {h : xH} {sz : Nat} {m : Nat} {st ac tp la le cu tk sa ti fa fl : Int32} {x : trS} {t : Nat → Int32} {np day b : Nat} {kd wh mn : Nat → Nat} {p w : Int32} (hm : h m = some (mO m st ac tp la le cu tk sa ti fa fl (nI x.2))) (htr : h (m + 11) = some (.inl (.int, 16, .inl x.1))) (ht : h (m + 4) = some (.inl (.int, 21, .inl t))) (T : tOK t np kd wh mn day b) (hp : 0 ≤ p.toInt ∧ p.toInt < np) (hw : w.toInt = 1) (ek : kd p.toNatClampNeg = 5) : xC l Ω yX12_ask cX12_ask 3 (some .int) 5 0 0 [.ref m, .int p, .int w] h sz (some (.int (nI p.toNatClampNeg - 2 * (nI (mn p.toNatClampNeg) - 100)))) (xu (xu h (m + 11) (.inl (.int, 16, .inl ((bg (bg (bg (bg (bg (x.1, 0) 23) 20) 14) 13) 10).1)))) m (.inr (11, [.int 0, .int st, .ref (m + 1), .ref (m + 2), .ref (m + 3), .ref (m + 4), .ref (m + 5), .ref (m + 6), .int ac, .ref (m + 7), .int tp, .int la, .int le, .int cu, .int tk, .int sa, .int ti, .int fa, .int fl, .ref (m + 8), .ref (m + 9), .ref (m + 10), .ref (m + 11), .int (nI (bg (bg (bg (bg (bg (x.1, 0) 23) 20) 14) 13) 10).2)]))) (sz) := by
  refine xC_of (lv := [(0, .ref m), (1, .int p), (2, .int w)]) pn_X12 rfl rfl (fun Γ X hΓ hbs => ?_)
  have X : xX Γ Ω cX12_ask 3 RX12 "ask" (some .int) 5 175 0 0 := X
  subst hΓ
  have h6 := T.1
  have tnp := (i32_tn hp.1).2
  refine xr_aload_n X 0 dX12_ask_0 rfl rfl ?_
  refine xr_iconst (v := 0) X dX12_ask_1 (by decide) ?_
  refine xr_put (fs' := [.int 0, .int st, .ref (m + 1), .ref (m + 2), .ref (m + 3), .ref (m + 4), .ref (m + 5), .ref (m + 6), .int ac, .ref (m + 7), .int tp, .int la, .int le, .int cu, .int tk, .int sa, .int ti, .int fa, .int fl, .ref (m + 8), .ref (m + 9), .ref (m + 10), .ref (m + 11), .int (nI x.2)]) X (fW_X12_44_11 _) hm rfl rfl rfl rfl dX12_ask_2 ?_
  refine xr_heap (h' := h) (xu_id hm) ?_
  refine xr_aload_n X 0 dX12_ask_5 rfl rfl ?_
  refine xr_iload_n X 1 dX12_ask_6 rfl rfl ?_
  refine xr_callV X hm rfl kw_1190 kw_1192 kw_42 cw_X12_isPerson [.int p] (c_X12_isPerson hm ht T) rfl rfl rfl rfl rfl rfl rfl dX12_ask_7 ?_
  refine xr_if_eq (tgt := 23) X dX12_ask_10 (by decide) (fun c_10 => absurd c_10 (by rw [xb_0]; simp; omega)) (fun _ => ?_)
  refine xr_iload_n X 2 dX12_ask_13 rfl rfl ?_
  refine xr_i2l X dX12_ask_14 ?_
  refine xr_lconst (v := 0) X dX12_ask_15 (by decide) ?_
  refine xr_lconst (v := 1) X dX12_ask_16 (by decide) ?_
  refine xr_callS X kw_1027 kw_1028 cw_X12_in [.long w.toInt64, .long 0, .long 1] c_X12_in rfl rfl rfl rfl rfl rfl rfl dX12_ask_17 ?_
  refine xr_if_ne (tgt := 26) X dX12_ask_20 (by decide) (fun _ => ?_) (fun c_20 => absurd c_20 (by rw [xb_0]; simp [i32_l, k64_0, k64_1]; omega))
  refine xr_aload_n X 0 dX12_ask_26 rfl rfl ?_
  refine xr_iconst (v := 0) X dX12_ask_27 (by decide) ?_
  refine xr_put (fs' := [.int 0, .int st, .ref (m + 1), .ref (m + 2), .ref (m + 3), .ref (m + 4), .ref (m + 5), .ref (m + 6), .int ac, .ref (m + 7), .int tp, .int la, .int le, .int cu, .int tk, .int sa, .int ti, .int fa, .int fl, .ref (m + 8), .ref (m + 9), .ref (m + 10), .ref (m + 11), .int 0]) X (fW_X12_234_11 _) hm rfl rfl rfl rfl dX12_ask_28 ?_
  refine xr_heap (h' := (xu (xu h (m + 11) (.inl (.int, 16, .inl (((x.1, 0)).1)))) m (.inr (11, [.int 0, .int st, .ref (m + 1), .ref (m + 2), .ref (m + 3), .ref (m + 4), .ref (m + 5), .ref (m + 6), .int ac, .ref (m + 7), .int tp, .int la, .int le, .int cu, .int tk, .int sa, .int ti, .int fa, .int fl, .ref (m + 8), .ref (m + 9), .ref (m + 10), .ref (m + 11), .int (nI ((x.1, 0)).2)])))) (congrArg (fun z => xu z m _) (xu_id htr).symm) ?_
  refine xr_iload_n X 2 dX12_ask_31 rfl rfl ?_
  refine xr_if_ne (tgt := 43) X dX12_ask_32 (by decide) (fun _ => ?_) (fun c_32 => absurd c_32 (by rw [i32_eq, k32_0]; omega))
  refine xr_aload_n X 0 dX12_ask_43 rfl rfl ?_
  refine xr_iload_n X 1 dX12_ask_44 rfl rfl ?_
  refine xr_top (y := (nI (p.toNatClampNeg))) ((i32_tn (by omega)).1) ?_
  refine xr_callV X (xu_s _ _ _) rfl kw_1291 kw_1293 kw_51 cw_X12_markOf [.int (nI (p.toNatClampNeg))] (c_X12_markOf_5 (x := (x.1, 0)) (p := (p.toNatClampNeg)) (xu_s _ _ _) (xu_at (xn1 _ rfl) (xu_s _ _ _)) (xu_at (xn1 _ rfl) (xu_at (xne _ rfl) ht)) T (Nat.zero_le 16) (by omega) ek) rfl rfl rfl rfl rfl rfl rfl dX12_ask_45 ?_
  refine xr_heap (h' := (xu (xu h (m + 11) (.inl (.int, 16, .inl ((bg (bg (bg (bg (bg (x.1, 0) 23) 20) 14) 13) 10).1)))) m (.inr (11, [.int 0, .int st, .ref (m + 1), .ref (m + 2), .ref (m + 3), .ref (m + 4), .ref (m + 5), .ref (m + 6), .int ac, .ref (m + 7), .int tp, .int la, .int le, .int cu, .int tk, .int sa, .int ti, .int fa, .int fl, .ref (m + 8), .ref (m + 9), .ref (m + 10), .ref (m + 11), .int (nI (bg (bg (bg (bg (bg (x.1, 0) 23) 20) 14) 13) 10).2)])))) ((congrArg (fun z => xu z m _) (xu_in (xn0 _ rfl) (xu_uu _ _ _ _))).trans (xu_uu _ _ _ _)) ?_
  exact xr_iret X rfl rfl rfl rfl rfl rfl dX12_ask_48
set_option maxRecDepth 100000 in
theorem c_X12_ask_bad {l : Launch} {Ω : xW} {h : xH} {sz : Nat} {m : Nat} {st ac tp la le cu tk sa ti fa fl : Int32} {x : trS} {t : Nat → Int32} {np day b : Nat} {kd wh mn : Nat → Nat} {p w : Int32} (hm : h m = some (mO m st ac tp la le cu tk sa ti fa fl (nI x.2))) (htr : h (m + 11) = some (.inl (.int, 16, .inl x.1))) (ht : h (m + 4) = some (.inl (.int, 21, .inl t))) (T : tOK t np kd wh mn day b) (hn : ¬ askOK np p w) : xC l Ω yX12_ask cX12_ask 3 (some .int) 5 0 0 [.ref m, .int p, .int w] h sz (some (.int (-1000001))) h (sz) := by
  refine xC_of (lv := [(0, .ref m), (1, .int p), (2, .int w)]) pn_X12 rfl rfl (fun Γ X hΓ hbs => ?_)
  have X : xX Γ Ω cX12_ask 3 RX12 "ask" (some .int) 5 175 0 0 := X
  subst hΓ
  have h6 := T.1
  unfold askOK at hn
  refine xr_aload_n X 0 dX12_ask_0 rfl rfl ?_
  refine xr_iconst (v := 0) X dX12_ask_1 (by decide) ?_
  refine xr_put (fs' := [.int 0, .int st, .ref (m + 1), .ref (m + 2), .ref (m + 3), .ref (m + 4), .ref (m + 5), .ref (m + 6), .int ac, .ref (m + 7), .int tp, .int la, .int le, .int cu, .int tk, .int sa, .int ti, .int fa, .int fl, .ref (m + 8), .ref (m + 9), .ref (m + 10), .ref (m + 11), .int (nI x.2)]) X (fW_X12_44_11 _) hm rfl rfl rfl rfl dX12_ask_2 ?_
  refine xr_heap (h' := h) (xu_id hm) ?_
  refine xr_aload_n X 0 dX12_ask_5 rfl rfl ?_
  refine xr_iload_n X 1 dX12_ask_6 rfl rfl ?_
  refine xr_callV X hm rfl kw_1190 kw_1192 kw_42 cw_X12_isPerson [.int p] (c_X12_isPerson hm ht T) rfl rfl rfl rfl rfl rfl rfl dX12_ask_7 ?_
  refine xr_if_eq (tgt := 23) X dX12_ask_10 (by decide) (fun c_10 => ?_) (fun c_10 => ?_)
  · have c_10 := of_decide_eq_false (xb_0.mp c_10)
    (try simp (disch := omega) only [nI_toInt, i32_add, i32_sub, i32_mul, i64_addl, i32_l, k32_0, k64_0] at c_10)
    refine xr_ldc (v := (-1000001)) X kw_1031 dX12_ask_23 ?_
    exact xr_iret X rfl rfl rfl rfl rfl rfl dX12_ask_25
  · have c_10 := of_decide_eq_true (xb_1.mp c_10)
    (try simp (disch := omega) only [nI_toInt, i32_add, i32_sub, i32_mul, i64_addl, i32_l, k32_0, k64_0] at c_10)
    refine xr_iload_n X 2 dX12_ask_13 rfl rfl ?_
    refine xr_i2l X dX12_ask_14 ?_
    refine xr_lconst (v := 0) X dX12_ask_15 (by decide) ?_
    refine xr_lconst (v := 1) X dX12_ask_16 (by decide) ?_
    refine xr_callS X kw_1027 kw_1028 cw_X12_in [.long w.toInt64, .long 0, .long 1] c_X12_in rfl rfl rfl rfl rfl rfl rfl dX12_ask_17 ?_
    refine xr_if_ne (tgt := 26) X dX12_ask_20 (by decide) (fun c_20 => ?_) (fun c_20 => ?_)
    · have c_20 := of_decide_eq_true (xb_1.mp c_20)
      (try simp (disch := omega) only [nI_toInt, i32_add, i32_sub, i32_mul, i64_addl, i32_l, k32_0, k32_1, k64_0, k64_1] at c_20)
      exact absurd ⟨c_10, by omega, by omega⟩ hn
    · have c_20 := of_decide_eq_false (xb_0.mp c_20)
      (try simp (disch := omega) only [nI_toInt, i32_add, i32_sub, i32_mul, i64_addl, i32_l, k32_0, k32_1, k64_0, k64_1] at c_20)
      refine xr_ldc (v := (-1000001)) X kw_1031 dX12_ask_23 ?_
      exact xr_iret X rfl rfl rfl rfl rfl rfl dX12_ask_25
