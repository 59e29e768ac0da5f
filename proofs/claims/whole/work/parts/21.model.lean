set_option maxRecDepth 100000 in
theorem c_X12_isOf {l : Launch} {Ω : xW} {h : xH} {sz : Nat} {a b : Int32} [Decidable (isOfP a.toInt b.toInt)]  : xC l Ω yX12_isOf cX12_isOf 2 (some .boolean) 0 0 0 [.int a, .int b] h sz (some (.int (xb (decide (isOfP a.toInt b.toInt))))) h (sz) := by
  refine xC_of (lv := [(0, .int a), (1, .int b)]) pn_X12 rfl rfl (fun Γ X hΓ hbs => ?_)
  have X : xX Γ Ω cX12_isOf 2 RX12 "isOf" (some .boolean) 0 0 0 0 := X
  subst hΓ
  refine xr_iload_n X 1 dX12_isOf_0 rfl rfl ?_
  refine xr_if_eq (tgt := 29) X dX12_isOf_1 (by decide) (fun c_1 => ?_) (fun c_1 => ?_)
  · have c_1 := i32_eq.mp c_1
    (try simp (disch := omega) only [nI_toInt, i32_add, i32_sub, i32_mul, i64_addl, i32_l, k32_0, k64_0] at c_1)
    refine xr_iconst (v := 1) X dX12_isOf_29 (by decide) ?_
    refine xr_goto (tgt := 34) X dX12_isOf_30 (by decide) ?_
    exact xr_zret X rfl rfl (xbT (by unfold isOfP; omega)) rfl rfl rfl rfl dX12_isOf_34
  · have c_1 := mt i32_eq.mpr c_1
    (try simp (disch := omega) only [nI_toInt, i32_add, i32_sub, i32_mul, i64_addl, i32_l, k32_0, k64_0] at c_1)
    refine xr_iload_n X 0 dX12_isOf_4 rfl rfl ?_
    refine xr_iload_n X 1 dX12_isOf_5 rfl rfl ?_
    refine xr_icmp_eq (tgt := 29) X dX12_isOf_6 (by decide) (fun c_6 => ?_) (fun c_6 => ?_)
    · have c_6 := i32_eq.mp c_6
      (try simp (disch := omega) only [nI_toInt, i32_add, i32_sub, i32_mul, i64_addl, i32_l] at c_6)
      refine xr_iconst (v := 1) X dX12_isOf_29 (by decide) ?_
      refine xr_goto (tgt := 34) X dX12_isOf_30 (by decide) ?_
      exact xr_zret X rfl rfl (xbT (by unfold isOfP; omega)) rfl rfl rfl rfl dX12_isOf_34
    · have c_6 := mt i32_eq.mpr c_6
      (try simp (disch := omega) only [nI_toInt, i32_add, i32_sub, i32_mul, i64_addl, i32_l] at c_6)
      refine xr_iload_n X 1 dX12_isOf_9 rfl rfl ?_
      refine xr_iconst (v := 1) X dX12_isOf_10 (by decide) ?_
      refine xr_icmp_ne (tgt := 19) X dX12_isOf_11 (by decide) (fun c_11 => ?_) (fun c_11 => ?_)
      · have c_11 := mt i32_eq.mpr c_11
        (try simp (disch := omega) only [nI_toInt, i32_add, i32_sub, i32_mul, i64_addl, i32_l, k32_1, k64_1] at c_11)
        refine xr_iload_n X 1 dX12_isOf_19 rfl rfl ?_
        refine xr_iconst (v := 4) X dX12_isOf_20 (by decide) ?_
        refine xr_icmp_ne (tgt := 33) X dX12_isOf_21 (by decide) (fun c_21 => ?_) (fun c_21 => ?_)
        · have c_21 := mt i32_eq.mpr c_21
          (try simp (disch := omega) only [nI_toInt, i32_add, i32_sub, i32_mul, i64_addl, i32_l, k32_4] at c_21)
          refine xr_iconst (v := 0) X dX12_isOf_33 (by decide) ?_
          exact xr_zret X rfl rfl (xbF (by unfold isOfP; omega)) rfl rfl rfl rfl dX12_isOf_34
        · have c_21 := i32_eq.mp c_21
          (try simp (disch := omega) only [nI_toInt, i32_add, i32_sub, i32_mul, i64_addl, i32_l, k32_4] at c_21)
          refine xr_iload_n X 0 dX12_isOf_24 rfl rfl ?_
          refine xr_iconst (v := 5) X dX12_isOf_25 (by decide) ?_
          refine xr_icmp_ne (tgt := 33) X dX12_isOf_26 (by decide) (fun c_26 => ?_) (fun c_26 => ?_)
          · have c_26 := mt i32_eq.mpr c_26
            (try simp (disch := omega) only [nI_toInt, i32_add, i32_sub, i32_mul, i64_addl, i32_l, k32_5, k64_5] at c_26)
            refine xr_iconst (v := 0) X dX12_isOf_33 (by decide) ?_
            exact xr_zret X rfl rfl (xbF (by unfold isOfP; omega)) rfl rfl rfl rfl dX12_isOf_34
          · have c_26 := i32_eq.mp c_26
            (try simp (disch := omega) only [nI_toInt, i32_add, i32_sub, i32_mul, i64_addl, i32_l, k32_5, k64_5] at c_26)
            refine xr_iconst (v := 1) X dX12_isOf_29 (by decide) ?_
            refine xr_goto (tgt := 34) X dX12_isOf_30 (by decide) ?_
            exact xr_zret X rfl rfl (xbT (by unfold isOfP; omega)) rfl rfl rfl rfl dX12_isOf_34
      · have c_11 := i32_eq.mp c_11
        (try simp (disch := omega) only [nI_toInt, i32_add, i32_sub, i32_mul, i64_addl, i32_l, k32_1, k64_1] at c_11)
        refine xr_iload_n X 0 dX12_isOf_14 rfl rfl ?_
        refine xr_iconst (v := 4) X dX12_isOf_15 (by decide) ?_
        refine xr_icmp_lt (tgt := 29) X dX12_isOf_16 (by decide) (fun c_16 => ?_) (fun c_16 => ?_)
        · have c_16 := i32_lt.mp c_16
          (try simp (disch := omega) only [nI_toInt, i32_add, i32_sub, i32_mul, i64_addl, i32_l, k32_4] at c_16)
          refine xr_iconst (v := 1) X dX12_isOf_29 (by decide) ?_
          refine xr_goto (tgt := 34) X dX12_isOf_30 (by decide) ?_
          exact xr_zret X rfl rfl (xbT (by unfold isOfP; omega)) rfl rfl rfl rfl dX12_isOf_34
        · have c_16 := mt i32_lt.mpr c_16
          (try simp (disch := omega) only [nI_toInt, i32_add, i32_sub, i32_mul, i64_addl, i32_l, k32_4] at c_16)
          refine xr_iload_n X 1 dX12_isOf_19 rfl rfl ?_
          refine xr_iconst (v := 4) X dX12_isOf_20 (by decide) ?_
          refine xr_icmp_ne (tgt := 33) X dX12_isOf_21 (by decide) (fun c_21 => ?_) (fun c_21 => ?_)
          · have c_21 := mt i32_eq.mpr c_21
            (try simp (disch := omega) only [nI_toInt, i32_add, i32_sub, i32_mul, i64_addl, i32_l, k32_4] at c_21)
            refine xr_iconst (v := 0) X dX12_isOf_33 (by decide) ?_
            exact xr_zret X rfl rfl (xbF (by unfold isOfP; omega)) rfl rfl rfl rfl dX12_isOf_34
          · have c_21 := i32_eq.mp c_21
            (try simp (disch := omega) only [nI_toInt, i32_add, i32_sub, i32_mul, i64_addl, i32_l, k32_4] at c_21)
            refine xr_iload_n X 0 dX12_isOf_24 rfl rfl ?_
            refine xr_iconst (v := 5) X dX12_isOf_25 (by decide) ?_
            refine xr_icmp_ne (tgt := 33) X dX12_isOf_26 (by decide) (fun c_26 => ?_) (fun c_26 => ?_)
            · have c_26 := mt i32_eq.mpr c_26
              (try simp (disch := omega) only [nI_toInt, i32_add, i32_sub, i32_mul, i64_addl, i32_l, k32_5, k64_5] at c_26)
              refine xr_iconst (v := 0) X dX12_isOf_33 (by decide) ?_
              exact xr_zret X rfl rfl (xbF (by unfold isOfP; omega)) rfl rfl rfl rfl dX12_isOf_34
            · have c_26 := i32_eq.mp c_26
              (try simp (disch := omega) only [nI_toInt, i32_add, i32_sub, i32_mul, i64_addl, i32_l, k32_5, k64_5] at c_26)
              refine xr_iconst (v := 1) X dX12_isOf_29 (by decide) ?_
              refine xr_goto (tgt := 34) X dX12_isOf_30 (by decide) ?_
              exact xr_zret X rfl rfl (xbT (by unfold isOfP; omega)) rfl rfl rfl rfl dX12_isOf_34
set_option maxRecDepth 100000 in
theorem c_X12_as {l : Launch} {Ω : xW} {h : xH} {sz : Nat} {m : Nat} {st ac tp la le cu tk sa ti fa fl tr : Int32} {t : Nat → Int32} {np day b : Nat} {kd wh mn : Nat → Nat} {p k2 : Int32} [Decidable (isOfP (nI (kd p.toNatClampNeg)).toInt k2.toInt)] (hm : h m = some (mO m st ac tp la le cu tk sa ti fa fl tr)) (ht : h (m + 4) = some (.inl (.int, 21, .inl t))) (T : tOK t np kd wh mn day b) : xC l Ω yX12_as cX12_as 3 (some .int) 2 0 0 [.ref m, .int p, .int k2] h sz (some (.int (if (0 ≤ p.toInt ∧ p.toInt < np) ∧ 0 ≤ k2.toInt ∧ k2.toInt ≤ 5 then (if isOfP (nI (kd p.toNatClampNeg)).toInt k2.toInt then p else -1000013) else -1000001))) (if (0 ≤ p.toInt ∧ p.toInt < np) ∧ 0 ≤ k2.toInt ∧ k2.toInt ≤ 5 then (if isOfP (nI (kd p.toNatClampNeg)).toInt k2.toInt then (xu h m (.inr (11, [.int 0, .int 0, .ref (m + 1), .ref (m + 2), .ref (m + 3), .ref (m + 4), .ref (m + 5), .ref (m + 6), .int ac, .ref (m + 7), .int tp, .int la, .int le, .int cu, .int tk, .int sa, .int ti, .int fa, .int fl, .ref (m + 8), .ref (m + 9), .ref (m + 10), .ref (m + 11), .int tr]))) else (xu h m (.inr (11, [.int 0, .int 3, .ref (m + 1), .ref (m + 2), .ref (m + 3), .ref (m + 4), .ref (m + 5), .ref (m + 6), .int ac, .ref (m + 7), .int tp, .int la, .int le, .int cu, .int tk, .int sa, .int ti, .int fa, .int fl, .ref (m + 8), .ref (m + 9), .ref (m + 10), .ref (m + 11), .int tr])))) else h) (sz) := by
  refine xC_of (lv := [(0, .ref m), (1, .int p), (2, .int k2)]) pn_X12 rfl rfl (fun Γ X hΓ hbs => ?_)
  have X : xX Γ Ω cX12_as 3 RX12 "as" (some .int) 2 70 0 0 := X
  subst hΓ
  have h6 := T.1
  refine xr_aload_n X 0 dX12_as_0 rfl rfl ?_
  refine xr_iconst (v := 0) X dX12_as_1 (by decide) ?_
  refine xr_put (fs' := [.int 0, .int st, .ref (m + 1), .ref (m + 2), .ref (m + 3), .ref (m + 4), .ref (m + 5), .ref (m + 6), .int ac, .ref (m + 7), .int tp, .int la, .int le, .int cu, .int tk, .int sa, .int ti, .int fa, .int fl, .ref (m + 8), .ref (m + 9), .ref (m + 10), .ref (m + 11), .int tr]) X (fW_X12_44_11 _) hm rfl rfl rfl rfl dX12_as_2 ?_
  refine xr_heap (h' := h) (xu_id hm) ?_
  refine xr_aload_n X 0 dX12_as_5 rfl rfl ?_
  refine xr_iload_n X 1 dX12_as_6 rfl rfl ?_
  refine xr_callV X hm rfl kw_1190 kw_1192 kw_42 cw_X12_isPerson [.int p] (c_X12_isPerson hm ht T) rfl rfl rfl rfl rfl rfl rfl dX12_as_7 ?_
  refine xr_if_eq (tgt := 25) X dX12_as_10 (by decide) (fun c_10 => ?_) (fun c_10 => ?_)
  · have c_10 := of_decide_eq_false (xb_0.mp c_10)
    (try simp (disch := omega) only [nI_toInt, i32_add, i32_sub, i32_mul, i64_addl, i32_l, k32_0, k64_0] at c_10)
    refine xr_ldc (v := (-1000001)) X kw_1031 dX12_as_25 ?_
    exact xr_iret X rfl (xv (if_neg (by omega))) ((if_neg (by omega)).symm) rfl rfl rfl dX12_as_27
  · have c_10 := of_decide_eq_true (xb_1.mp c_10)
    (try simp (disch := omega) only [nI_toInt, i32_add, i32_sub, i32_mul, i64_addl, i32_l, k32_0, k64_0] at c_10)
    refine xr_iload_n X 2 dX12_as_13 rfl rfl ?_
    refine xr_i2l X dX12_as_14 ?_
    refine xr_lconst (v := 0) X dX12_as_15 (by decide) ?_
    refine xr_ldc2 (v := 5) X kw_1218 dX12_as_16 ?_
    refine xr_callS X kw_1027 kw_1028 cw_X12_in [.long k2.toInt64, .long 0, .long 5] c_X12_in rfl rfl rfl rfl rfl rfl rfl dX12_as_19 ?_
    refine xr_if_ne (tgt := 28) X dX12_as_22 (by decide) (fun c_22 => ?_) (fun c_22 => ?_)
    · have c_22 := of_decide_eq_true (xb_1.mp c_22)
      (try simp (disch := omega) only [nI_toInt, i32_add, i32_sub, i32_mul, i64_addl, i32_l, k32_0, k32_5, k64_0, k64_5] at c_22)
      have tn_p := (i32_tn (x := p) (by omega)).2
      have hT := T.2.2.2.2.2.2 p.toNatClampNeg (by omega)
      refine xr_aload_n X 0 dX12_as_28 rfl rfl ?_
      refine xr_iconst (v := 0) X dX12_as_29 (by decide) ?_
      refine xr_put (fs' := [.int 0, .int 0, .ref (m + 1), .ref (m + 2), .ref (m + 3), .ref (m + 4), .ref (m + 5), .ref (m + 6), .int ac, .ref (m + 7), .int tp, .int la, .int le, .int cu, .int tk, .int sa, .int ti, .int fa, .int fl, .ref (m + 8), .ref (m + 9), .ref (m + 10), .ref (m + 11), .int tr]) X (fW_X12_48_11 _) hm rfl rfl rfl rfl dX12_as_30 ?_
      refine xr_aload_n X 0 dX12_as_33 rfl rfl ?_
      refine xr_iload_n X 1 dX12_as_34 rfl rfl ?_
      refine xr_iconst (v := 0) X dX12_as_35 (by decide) ?_
      refine xr_callV X (xu_s _ _ _) rfl kw_1146 kw_1148 kw_37 cw_X12_of [.int p, .int 0] (c_X12_of (p := p.toNatClampNeg) (w := 0) (xu_s _ _ _) (xu_at (xn1 _ rfl) ht) (i32_tn (by omega)).2.symm (by decide) (by omega)) rfl rfl rfl rfl rfl rfl rfl dX12_as_36 ?_
      refine xr_top (y := nI (kd p.toNatClampNeg)) (by rw [show 3 + 3 * p.toNatClampNeg + 0 = 3 + 3 * p.toNatClampNeg by omega]; exact (T.2.2.2.2.2.2 p.toNatClampNeg (by omega)).1) ?_
      refine xr_iload_n X 2 dX12_as_39 rfl rfl ?_
      refine xr_callS X kw_1268 kw_1269 cw_X12_isOf [.int (nI (kd p.toNatClampNeg)), .int k2] c_X12_isOf rfl rfl rfl rfl rfl rfl rfl dX12_as_40 ?_
      refine xr_if_eq (tgt := 50) X dX12_as_43 (by decide) (fun c_43 => ?_) (fun c_43 => ?_)
      · refine xr_aload_n X 0 dX12_as_50 rfl rfl ?_
        refine xr_iconst (v := 3) X dX12_as_51 (by decide) ?_
        refine xr_callV X (xu_s _ _ _) rfl kw_1032 kw_1034 kw_21 cw_X12_finding [.int 3] (c_X12_finding (xu_s _ _ _)) rfl rfl rfl rfl rfl rfl rfl dX12_as_52 ?_
        refine xr_heap (h' := (xu h m (.inr (11, [.int 0, .int 3, .ref (m + 1), .ref (m + 2), .ref (m + 3), .ref (m + 4), .ref (m + 5), .ref (m + 6), .int ac, .ref (m + 7), .int tp, .int la, .int le, .int cu, .int tk, .int sa, .int ti, .int fa, .int fl, .ref (m + 8), .ref (m + 9), .ref (m + 10), .ref (m + 11), .int tr])))) (xu_uu _ _ _ _) ?_
        exact xr_iret X rfl (xv ((if_pos (by omega)).trans (if_neg (of_decide_eq_false (xb_0.mp c_43))))) (((if_pos (by omega)).trans (if_neg (of_decide_eq_false (xb_0.mp c_43)))).symm) rfl rfl rfl dX12_as_55
      · refine xr_iload_n X 1 dX12_as_46 rfl rfl ?_
        refine xr_goto (tgt := 55) X dX12_as_47 (by decide) ?_
        exact xr_iret X rfl (xv ((if_pos (by omega)).trans (if_pos (of_decide_eq_true (xb_1.mp c_43))))) (((if_pos (by omega)).trans (if_pos (of_decide_eq_true (xb_1.mp c_43)))).symm) rfl rfl rfl dX12_as_55
    · have c_22 := of_decide_eq_false (xb_0.mp c_22)
      (try simp (disch := omega) only [nI_toInt, i32_add, i32_sub, i32_mul, i64_addl, i32_l, k32_0, k32_5, k64_0, k64_5] at c_22)
      refine xr_ldc (v := (-1000001)) X kw_1031 dX12_as_25 ?_
      exact xr_iret X rfl (xv (if_neg (by omega))) ((if_neg (by omega)).symm) rfl rfl rfl dX12_as_27
set_option maxRecDepth 100000 in
theorem c_X12_set {l : Launch} {Ω : xW} {h : xH} {sz : Nat} {m : Nat} {st ac tp la le cu tk sa ti fa fl tr : Int32} {lane many item : Nat → Int32} {r i v : Int32} (hm : h m = some (mO m st ac tp la le cu tk sa ti fa fl tr)) (hlane : h (m + 1) = some (.inl (.int, 8, .inl lane))) (hmany : h (m + 2) = some (.inl (.int, 8, .inl many))) (hitem : h (m + 3) = some (.inl (.int, 320, .inl item))) (hM : ∀ q, q < 8 → (many q).toInt ≤ 40) (hMg : ∀ q, q < 8 → 0 ≤ (many q).toInt) : xC l Ω yX12_set cX12_set 4 (some .int) 2 0 0 [.ref m, .int r, .int i, .int v] h sz (some (.int (a_set lane many r i v))) (if 0 ≤ r.toInt ∧ r.toInt < 8 then (if (lane r.toNatClampNeg).toInt < 0 then (xu h m (.inr (11, [.int 0, .int 1, .ref (m + 1), .ref (m + 2), .ref (m + 3), .ref (m + 4), .ref (m + 5), .ref (m + 6), .int ac, .ref (m + 7), .int tp, .int la, .int le, .int cu, .int tk, .int sa, .int ti, .int fa, .int fl, .ref (m + 8), .ref (m + 9), .ref (m + 10), .ref (m + 11), .int tr]))) else if 0 ≤ i.toInt ∧ i.toInt < (many r.toNatClampNeg).toInt then (xu (xu h m (.inr (11, [.int 0, .int 0, .ref (m + 1), .ref (m + 2), .ref (m + 3), .ref (m + 4), .ref (m + 5), .ref (m + 6), .int ac, .ref (m + 7), .int tp, .int la, .int le, .int cu, .int tk, .int sa, .int ti, .int fa, .int fl, .ref (m + 8), .ref (m + 9), .ref (m + 10), .ref (m + 11), .int tr]))) (m + 3) (.inl (.int, 320, .inl (upd item (40 * r.toNatClampNeg + i.toNatClampNeg) (nw (lane r.toNatClampNeg) v))))) else (xu h m (.inr (11, [.int 0, .int 2, .ref (m + 1), .ref (m + 2), .ref (m + 3), .ref (m + 4), .ref (m + 5), .ref (m + 6), .int ac, .ref (m + 7), .int tp, .int la, .int le, .int cu, .int tk, .int sa, .int ti, .int fa, .int fl, .ref (m + 8), .ref (m + 9), .ref (m + 10), .ref (m + 11), .int tr])))) else h) (sz) := by
  refine xC_of (lv := [(0, .ref m), (1, .int r), (2, .int i), (3, .int v)]) pn_X12 rfl rfl (fun Γ X hΓ hbs => ?_)
  have X : xX Γ Ω cX12_set 4 RX12 "set" (some .int) 2 70 0 0 := X
  subst hΓ
  refine xr_aload_n X 0 dX12_set_0 rfl rfl ?_
  refine xr_iconst (v := 0) X dX12_set_1 (by decide) ?_
  refine xr_put (fs' := [.int 0, .int st, .ref (m + 1), .ref (m + 2), .ref (m + 3), .ref (m + 4), .ref (m + 5), .ref (m + 6), .int ac, .ref (m + 7), .int tp, .int la, .int le, .int cu, .int tk, .int sa, .int ti, .int fa, .int fl, .ref (m + 8), .ref (m + 9), .ref (m + 10), .ref (m + 11), .int tr]) X (fW_X12_44_11 _) hm rfl rfl rfl rfl dX12_set_2 ?_
  refine xr_heap (h' := h) (xu_id hm) ?_
  refine xr_iload_n X 1 dX12_set_5 rfl rfl ?_
  refine xr_callS X kw_1023 kw_1024 cw_X12_isRow [.int r] c_X12_isRow rfl rfl rfl rfl rfl rfl rfl dX12_set_6 ?_
  refine xr_if_ne (tgt := 15) X dX12_set_9 (by decide) (fun c_9 => ?_) (fun c_9 => ?_)
  · have c_9 := of_decide_eq_true (xb_1.mp c_9)
    (try simp (disch := omega) only [nI_toInt, i32_add, i32_sub, i32_mul, i64_addl, i32_l, k32_0, k32_8, k64_0, k64_8] at c_9)
    have tnr := (i32_tn (x := r) (by omega)).2
    have hMr := hM r.toNatClampNeg (by omega)
    have hMs := hMg r.toNatClampNeg (by omega)
    refine xr_aload_n X 0 dX12_set_15 rfl rfl ?_
    refine xr_iconst (v := 0) X dX12_set_16 (by decide) ?_
    refine xr_put (fs' := [.int 0, .int 0, .ref (m + 1), .ref (m + 2), .ref (m + 3), .ref (m + 4), .ref (m + 5), .ref (m + 6), .int ac, .ref (m + 7), .int tp, .int la, .int le, .int cu, .int tk, .int sa, .int ti, .int fa, .int fl, .ref (m + 8), .ref (m + 9), .ref (m + 10), .ref (m + 11), .int tr]) X (fW_X12_48_11 _) hm rfl rfl rfl rfl dX12_set_17 ?_
    refine xr_aload_n X 0 dX12_set_20 rfl rfl ?_
    refine xr_get X fF_X12_7_11 (xu_s _ _ _) rfl dX12_set_21 ?_
    refine xr_iload_n X 1 dX12_set_24 rfl rfl ?_
    refine xr_iald (j := r.toNatClampNeg) X (xu_at (xn1 _ rfl) hlane) (xI_c (by omega) (by omega)) dX12_set_25 ?_
    refine xr_if_ge (tgt := 35) X dX12_set_26 (by decide) (fun c_26 => ?_) (fun c_26 => ?_)
    · have c_26 := i32_le.mp c_26
      (try simp (disch := omega) only [nI_toInt, i32_add, i32_sub, i32_mul, i64_addl, i32_l, k32_0, k64_0] at c_26)
      refine xr_iload_n X 2 dX12_set_35 rfl rfl ?_
      refine xr_i2l X dX12_set_36 ?_
      refine xr_lconst (v := 0) X dX12_set_37 (by decide) ?_
      refine xr_aload_n X 0 dX12_set_38 rfl rfl ?_
      refine xr_get X fF_X12_13_11 (xu_s _ _ _) rfl dX12_set_39 ?_
      refine xr_iload_n X 1 dX12_set_42 rfl rfl ?_
      refine xr_iald (j := r.toNatClampNeg) X (xu_at (xn1 _ rfl) hmany) (xI_c (by omega) (by omega)) dX12_set_43 ?_
      refine xr_iconst (v := 1) X dX12_set_44 (by decide) ?_
      refine xr_isub X dX12_set_45 ?_
      refine xr_nm (fun m1 e_m1 => ?_)
      have em1 : m1.toInt = (many r.toNatClampNeg).toInt - 1 := by rw [e_m1, i32_sub (by rw [k32_1]; omega) (by rw [k32_1]; omega), k32_1]
      refine xr_i2l X dX12_set_46 ?_
      refine xr_callS X kw_1027 kw_1028 cw_X12_in [.long i.toInt64, .long 0, .long m1.toInt64] c_X12_in rfl rfl rfl rfl rfl rfl rfl dX12_set_47 ?_
      refine xr_if_ne (tgt := 59) X dX12_set_50 (by decide) (fun c_50 => ?_) (fun c_50 => ?_)
      · have c_50 := of_decide_eq_true (xb_1.mp c_50)
        (try simp (disch := omega) only [nI_toInt, i32_add, i32_sub, i32_mul, i64_addl, i32_l, k32_0, k64_0] at c_50)
        have tni := (i32_tn (x := i) (by omega)).2
        refine xr_aload_n X 0 dX12_set_59 rfl rfl ?_
        refine xr_get X fF_X12_16_11 (xu_s _ _ _) rfl dX12_set_60 ?_
        refine xr_bipush (v := 40) X dX12_set_63 (by decide) ?_
        refine xr_iload_n X 1 dX12_set_65 rfl rfl ?_
        refine xr_imul X dX12_set_66 ?_
        refine xr_iload_n X 2 dX12_set_67 rfl rfl ?_
        refine xr_iadd X dX12_set_68 ?_
        refine xr_aload_n X 0 dX12_set_69 rfl rfl ?_
        refine xr_get X fF_X12_7_11 (xu_s _ _ _) rfl dX12_set_70 ?_
        refine xr_iload_n X 1 dX12_set_73 rfl rfl ?_
        refine xr_iald (j := r.toNatClampNeg) X (xu_at (xn1 _ rfl) hlane) (xI_c (by omega) (by omega)) dX12_set_74 ?_
        refine xr_if_ne (tgt := 83) X dX12_set_75 (by decide) (fun c_75 => ?_) (fun c_75 => ?_)
        · have c_75 := mt i32_eq.mpr c_75
          (try simp (disch := omega) only [nI_toInt, i32_add, i32_sub, i32_mul, i64_addl, i32_l, k32_0, k64_0] at c_75)
          refine xr_aload_n X 0 dX12_set_83 rfl rfl ?_
          refine xr_get X fF_X12_7_11 (xu_s _ _ _) rfl dX12_set_84 ?_
          refine xr_iload_n X 1 dX12_set_87 rfl rfl ?_
          refine xr_iald (j := r.toNatClampNeg) X (xu_at (xn1 _ rfl) hlane) (xI_c (by omega) (by omega)) dX12_set_88 ?_
          refine xr_iconst (v := 1) X dX12_set_89 (by decide) ?_
          refine xr_icmp_ne (tgt := 98) X dX12_set_90 (by decide) (fun c_90 => ?_) (fun c_90 => ?_)
          · have c_90 := mt i32_eq.mpr c_90
            (try simp (disch := omega) only [nI_toInt, i32_add, i32_sub, i32_mul, i64_addl, i32_l, k32_1, k64_1] at c_90)
            refine xr_iload_n X 3 dX12_set_98 rfl rfl ?_
            refine xr_top (y := (nw (lane r.toNatClampNeg) v)) (((if_neg (by omega)).trans (if_neg (by omega))).symm) ?_
            refine xr_iast (j := (40 * r.toNatClampNeg + i.toNatClampNeg)) X (xu_at (xn1 _ rfl) hitem) (xI_40 (by omega) (by omega) (i32_tn (x := i) (by omega)).2.symm (by omega)) dX12_set_99 ?_
            refine xr_aload_n X 0 dX12_set_100 rfl rfl ?_
            refine xr_get X fF_X12_16_11 (xu_at (xn0 _ rfl) (xu_s _ _ _)) rfl dX12_set_101 ?_
            refine xr_bipush (v := 40) X dX12_set_104 (by decide) ?_
            refine xr_iload_n X 1 dX12_set_106 rfl rfl ?_
            refine xr_imul X dX12_set_107 ?_
            refine xr_iload_n X 2 dX12_set_108 rfl rfl ?_
            refine xr_iadd X dX12_set_109 ?_
            refine xr_iald (j := (40 * r.toNatClampNeg + i.toNatClampNeg)) X (xu_s _ _ _) (xI_40 (by omega) (by omega) (i32_tn (x := i) (by omega)).2.symm (by omega)) dX12_set_110 ?_
            refine xr_top (y := (nw (lane r.toNatClampNeg) v)) pk_us ?_
            exact xr_iret X rfl (xv (((if_pos (by omega)).trans (if_neg (by omega))).trans (if_pos (by omega)))) ((((if_pos (by omega)).trans (if_neg (by omega))).trans (if_pos (by omega))).symm) rfl rfl rfl dX12_set_111
          · have c_90 := i32_eq.mp c_90
            (try simp (disch := omega) only [nI_toInt, i32_add, i32_sub, i32_mul, i64_addl, i32_l, k32_1, k64_1] at c_90)
            refine xr_iload_n X 3 dX12_set_93 rfl rfl ?_
            refine xr_i2s X dX12_set_94 ?_
            refine xr_goto (tgt := 99) X dX12_set_95 (by decide) ?_
            refine xr_top (y := (nw (lane r.toNatClampNeg) v)) (((if_neg (by omega)).trans (if_pos (by omega))).symm) ?_
            refine xr_iast (j := (40 * r.toNatClampNeg + i.toNatClampNeg)) X (xu_at (xn1 _ rfl) hitem) (xI_40 (by omega) (by omega) (i32_tn (x := i) (by omega)).2.symm (by omega)) dX12_set_99 ?_
            refine xr_aload_n X 0 dX12_set_100 rfl rfl ?_
            refine xr_get X fF_X12_16_11 (xu_at (xn0 _ rfl) (xu_s _ _ _)) rfl dX12_set_101 ?_
            refine xr_bipush (v := 40) X dX12_set_104 (by decide) ?_
            refine xr_iload_n X 1 dX12_set_106 rfl rfl ?_
            refine xr_imul X dX12_set_107 ?_
            refine xr_iload_n X 2 dX12_set_108 rfl rfl ?_
            refine xr_iadd X dX12_set_109 ?_
            refine xr_iald (j := (40 * r.toNatClampNeg + i.toNatClampNeg)) X (xu_s _ _ _) (xI_40 (by omega) (by omega) (i32_tn (x := i) (by omega)).2.symm (by omega)) dX12_set_110 ?_
            refine xr_top (y := (nw (lane r.toNatClampNeg) v)) pk_us ?_
            exact xr_iret X rfl (xv (((if_pos (by omega)).trans (if_neg (by omega))).trans (if_pos (by omega)))) ((((if_pos (by omega)).trans (if_neg (by omega))).trans (if_pos (by omega))).symm) rfl rfl rfl dX12_set_111
        · have c_75 := i32_eq.mp c_75
          (try simp (disch := omega) only [nI_toInt, i32_add, i32_sub, i32_mul, i64_addl, i32_l, k32_0, k64_0] at c_75)
          refine xr_iload_n X 3 dX12_set_78 rfl rfl ?_
          refine xr_i2b X dX12_set_79 ?_
          refine xr_goto (tgt := 99) X dX12_set_80 (by decide) ?_
          refine xr_top (y := (nw (lane r.toNatClampNeg) v)) ((if_pos (by omega)).symm) ?_
          refine xr_iast (j := (40 * r.toNatClampNeg + i.toNatClampNeg)) X (xu_at (xn1 _ rfl) hitem) (xI_40 (by omega) (by omega) (i32_tn (x := i) (by omega)).2.symm (by omega)) dX12_set_99 ?_
          refine xr_aload_n X 0 dX12_set_100 rfl rfl ?_
          refine xr_get X fF_X12_16_11 (xu_at (xn0 _ rfl) (xu_s _ _ _)) rfl dX12_set_101 ?_
          refine xr_bipush (v := 40) X dX12_set_104 (by decide) ?_
          refine xr_iload_n X 1 dX12_set_106 rfl rfl ?_
          refine xr_imul X dX12_set_107 ?_
          refine xr_iload_n X 2 dX12_set_108 rfl rfl ?_
          refine xr_iadd X dX12_set_109 ?_
          refine xr_iald (j := (40 * r.toNatClampNeg + i.toNatClampNeg)) X (xu_s _ _ _) (xI_40 (by omega) (by omega) (i32_tn (x := i) (by omega)).2.symm (by omega)) dX12_set_110 ?_
          refine xr_top (y := (nw (lane r.toNatClampNeg) v)) pk_us ?_
          exact xr_iret X rfl (xv (((if_pos (by omega)).trans (if_neg (by omega))).trans (if_pos (by omega)))) ((((if_pos (by omega)).trans (if_neg (by omega))).trans (if_pos (by omega))).symm) rfl rfl rfl dX12_set_111
      · have c_50 := of_decide_eq_false (xb_0.mp c_50)
        (try simp (disch := omega) only [nI_toInt, i32_add, i32_sub, i32_mul, i64_addl, i32_l, k32_0, k64_0] at c_50)
        refine xr_aload_n X 0 dX12_set_53 rfl rfl ?_
        refine xr_iconst (v := 2) X dX12_set_54 (by decide) ?_
        refine xr_callV X (xu_s _ _ _) rfl kw_1032 kw_1034 kw_21 cw_X12_finding [.int 2] (c_X12_finding (xu_s _ _ _)) rfl rfl rfl rfl rfl rfl rfl dX12_set_55 ?_
        refine xr_heap (h' := (xu h m (.inr (11, [.int 0, .int 2, .ref (m + 1), .ref (m + 2), .ref (m + 3), .ref (m + 4), .ref (m + 5), .ref (m + 6), .int ac, .ref (m + 7), .int tp, .int la, .int le, .int cu, .int tk, .int sa, .int ti, .int fa, .int fl, .ref (m + 8), .ref (m + 9), .ref (m + 10), .ref (m + 11), .int tr])))) (xu_uu _ _ _ _) ?_
        exact xr_iret X rfl (xv (((if_pos (by omega)).trans (if_neg (by omega))).trans (if_neg (by omega)))) ((((if_pos (by omega)).trans (if_neg (by omega))).trans (if_neg (by omega))).symm) rfl rfl rfl dX12_set_58
    · have c_26 := mt i32_le.mpr c_26
      (try simp (disch := omega) only [nI_toInt, i32_add, i32_sub, i32_mul, i64_addl, i32_l, k32_0, k64_0] at c_26)
      refine xr_aload_n X 0 dX12_set_29 rfl rfl ?_
      refine xr_iconst (v := 1) X dX12_set_30 (by decide) ?_
      refine xr_callV X (xu_s _ _ _) rfl kw_1032 kw_1034 kw_21 cw_X12_finding [.int 1] (c_X12_finding (xu_s _ _ _)) rfl rfl rfl rfl rfl rfl rfl dX12_set_31 ?_
      refine xr_heap (h' := (xu h m (.inr (11, [.int 0, .int 1, .ref (m + 1), .ref (m + 2), .ref (m + 3), .ref (m + 4), .ref (m + 5), .ref (m + 6), .int ac, .ref (m + 7), .int tp, .int la, .int le, .int cu, .int tk, .int sa, .int ti, .int fa, .int fl, .ref (m + 8), .ref (m + 9), .ref (m + 10), .ref (m + 11), .int tr])))) (xu_uu _ _ _ _) ?_
      exact xr_iret X rfl (xv ((if_pos (by omega)).trans (if_pos (by omega)))) (((if_pos (by omega)).trans (if_pos (by omega))).symm) rfl rfl rfl dX12_set_34
  · have c_9 := of_decide_eq_false (xb_0.mp c_9)
    (try simp (disch := omega) only [nI_toInt, i32_add, i32_sub, i32_mul, i64_addl, i32_l, k32_0, k32_8, k64_0, k64_8] at c_9)
    refine xr_ldc (v := (-1000001)) X kw_1031 dX12_set_12 ?_
    exact xr_iret X rfl (xv (if_neg (by omega))) ((if_neg (by omega)).symm) rfl rfl rfl dX12_set_14
set_option maxRecDepth 100000 in
theorem c_X12_drop {l : Launch} {Ω : xW} {h : xH} {sz : Nat} {m : Nat} {st ac tp la le cu tk sa ti fa fl tr : Int32} {lane many item : Nat → Int32} {r : Int32} (hm : h m = some (mO m st ac tp la le cu tk sa ti fa fl tr)) (hlane : h (m + 1) = some (.inl (.int, 8, .inl lane))) (hmany : h (m + 2) = some (.inl (.int, 8, .inl many))) (hitem : h (m + 3) = some (.inl (.int, 320, .inl item))) : xC l Ω yX12_drop cX12_drop 2 (some .int) 2 0 0 [.ref m, .int r] h sz (some (.int (a_drop lane many r))) (if 0 ≤ r.toInt ∧ r.toInt < 8 then (if (lane r.toNatClampNeg).toInt < 0 then (xu h m (.inr (11, [.int 0, .int 1, .ref (m + 1), .ref (m + 2), .ref (m + 3), .ref (m + 4), .ref (m + 5), .ref (m + 6), .int ac, .ref (m + 7), .int tp, .int la, .int le, .int cu, .int tk, .int sa, .int ti, .int fa, .int fl, .ref (m + 8), .ref (m + 9), .ref (m + 10), .ref (m + 11), .int tr]))) else (xu (xu h m (.inr (11, [.int 0, .int 0, .ref (m + 1), .ref (m + 2), .ref (m + 3), .ref (m + 4), .ref (m + 5), .ref (m + 6), .int ac, .ref (m + 7), .int tp, .int la, .int le, .int cu, .int tk, .int sa, .int ti, .int fa, .int fl, .ref (m + 8), .ref (m + 9), .ref (m + 10), .ref (m + 11), .int tr]))) (m + 1) (.inl (.int, 8, .inl (upd lane r.toNatClampNeg (-1)))))) else h) (sz) := by
  refine xC_of (lv := [(0, .ref m), (1, .int r)]) pn_X12 rfl rfl (fun Γ X hΓ hbs => ?_)
  have X : xX Γ Ω cX12_drop 2 RX12 "drop" (some .int) 2 70 0 0 := X
  subst hΓ
  refine xr_aload_n X 0 dX12_drop_0 rfl rfl ?_
  refine xr_iconst (v := 0) X dX12_drop_1 (by decide) ?_
  refine xr_put (fs' := [.int 0, .int st, .ref (m + 1), .ref (m + 2), .ref (m + 3), .ref (m + 4), .ref (m + 5), .ref (m + 6), .int ac, .ref (m + 7), .int tp, .int la, .int le, .int cu, .int tk, .int sa, .int ti, .int fa, .int fl, .ref (m + 8), .ref (m + 9), .ref (m + 10), .ref (m + 11), .int tr]) X (fW_X12_44_11 _) hm rfl rfl rfl rfl dX12_drop_2 ?_
  refine xr_heap (h' := h) (xu_id hm) ?_
  refine xr_iload_n X 1 dX12_drop_5 rfl rfl ?_
  refine xr_callS X kw_1023 kw_1024 cw_X12_isRow [.int r] c_X12_isRow rfl rfl rfl rfl rfl rfl rfl dX12_drop_6 ?_
  refine xr_if_ne (tgt := 15) X dX12_drop_9 (by decide) (fun c_9 => ?_) (fun c_9 => ?_)
  · have c_9 := of_decide_eq_true (xb_1.mp c_9)
    (try simp (disch := omega) only [nI_toInt, i32_add, i32_sub, i32_mul, i64_addl, i32_l, k32_0, k32_8, k64_0, k64_8] at c_9)
    refine xr_aload_n X 0 dX12_drop_15 rfl rfl ?_
    refine xr_iconst (v := 0) X dX12_drop_16 (by decide) ?_
    refine xr_put (fs' := [.int 0, .int 0, .ref (m + 1), .ref (m + 2), .ref (m + 3), .ref (m + 4), .ref (m + 5), .ref (m + 6), .int ac, .ref (m + 7), .int tp, .int la, .int le, .int cu, .int tk, .int sa, .int ti, .int fa, .int fl, .ref (m + 8), .ref (m + 9), .ref (m + 10), .ref (m + 11), .int tr]) X (fW_X12_48_11 _) hm rfl rfl rfl rfl dX12_drop_17 ?_
    refine xr_aload_n X 0 dX12_drop_20 rfl rfl ?_
    refine xr_get X fF_X12_7_11 (xu_s _ _ _) rfl dX12_drop_21 ?_
    refine xr_iload_n X 1 dX12_drop_24 rfl rfl ?_
    refine xr_iald (j := r.toNatClampNeg) X (xu_at (xn1 _ rfl) hlane) (xI_c (by omega) (by omega)) dX12_drop_25 ?_
    refine xr_if_ge (tgt := 35) X dX12_drop_26 (by decide) (fun c_26 => ?_) (fun c_26 => ?_)
    · have c_26 := i32_le.mp c_26
      (try simp (disch := omega) only [nI_toInt, i32_add, i32_sub, i32_mul, i64_addl, i32_l, k32_0, k64_0] at c_26)
      refine xr_aload_n X 0 dX12_drop_35 rfl rfl ?_
      refine xr_get X fF_X12_7_11 (xu_s _ _ _) rfl dX12_drop_36 ?_
      refine xr_iload_n X 1 dX12_drop_39 rfl rfl ?_
      refine xr_iconst (v := (-1)) X dX12_drop_40 (by decide) ?_
      refine xr_iast (j := r.toNatClampNeg) X (xu_at (xn1 _ rfl) hlane) (xI_c (by omega) (by omega)) dX12_drop_41 ?_
      refine xr_aload_n X 0 dX12_drop_42 rfl rfl ?_
      refine xr_get X fF_X12_13_11 (xu_at (xn0 _ rfl) (xu_s _ _ _)) rfl dX12_drop_43 ?_
      refine xr_iload_n X 1 dX12_drop_46 rfl rfl ?_
      refine xr_iald (j := r.toNatClampNeg) X (xu_at (xne _ rfl) (xu_at (xn1 _ rfl) hmany)) (xI_c (by omega) (by omega)) dX12_drop_47 ?_
      exact xr_iret X rfl (xv ((if_pos (by omega)).trans (if_neg (by omega)))) (((if_pos (by omega)).trans (if_neg (by omega))).symm) rfl rfl rfl dX12_drop_48
    · have c_26 := mt i32_le.mpr c_26
      (try simp (disch := omega) only [nI_toInt, i32_add, i32_sub, i32_mul, i64_addl, i32_l, k32_0, k64_0] at c_26)
      refine xr_aload_n X 0 dX12_drop_29 rfl rfl ?_
      refine xr_iconst (v := 1) X dX12_drop_30 (by decide) ?_
      refine xr_callV X (xu_s _ _ _) rfl kw_1032 kw_1034 kw_21 cw_X12_finding [.int 1] (c_X12_finding (xu_s _ _ _)) rfl rfl rfl rfl rfl rfl rfl dX12_drop_31 ?_
      refine xr_heap (h' := (xu h m (.inr (11, [.int 0, .int 1, .ref (m + 1), .ref (m + 2), .ref (m + 3), .ref (m + 4), .ref (m + 5), .ref (m + 6), .int ac, .ref (m + 7), .int tp, .int la, .int le, .int cu, .int tk, .int sa, .int ti, .int fa, .int fl, .ref (m + 8), .ref (m + 9), .ref (m + 10), .ref (m + 11), .int tr])))) (xu_uu _ _ _ _) ?_
      exact xr_iret X rfl (xv ((if_pos (by omega)).trans (if_pos (by omega)))) (((if_pos (by omega)).trans (if_pos (by omega))).symm) rfl rfl rfl dX12_drop_34
  · have c_9 := of_decide_eq_false (xb_0.mp c_9)
    (try simp (disch := omega) only [nI_toInt, i32_add, i32_sub, i32_mul, i64_addl, i32_l, k32_0, k32_8, k64_0, k64_8] at c_9)
    refine xr_ldc (v := (-1000001)) X kw_1031 dX12_drop_12 ?_
    exact xr_iret X rfl (xv (if_neg (by omega))) ((if_neg (by omega)).symm) rfl rfl rfl dX12_drop_14
set_option maxRecDepth 100000 in
theorem l_X12_count {Γ : xΓ} {Ω : xW} {h : xH} {sz : Nat} (X : xX Γ Ω cX12_count 4 RX12 "count" (some .int) 0 0 0 0) {m : Nat} {st ac tp la le cu tk sa ti fa fl tr : Int32} {lane : Nat → Int32} {w : Int32} (hm : h m = some (mO m st ac tp la le cu tk sa ti fa fl tr)) (hlane : h (m + 1) = some (.inl (.int, 8, .inl lane))) : ∀ (j0 k : Nat), k + j0 = 8 → xG Γ Ω 4 (xQ Γ Ω (some (.int (nI (rowsN lane 8)))) h (sz) 0 0) 50 [(3, .int (nI k)), (2, .int (nI (rowsN lane k))), (0, .ref m), (1, .int w)] ([]) h sz 0 0 := by
  intro j0
  induction j0 with
  | zero =>
    intro k hk
    have ek : k = 8 := by omega
    refine xr_iload_n X 0 dX12_count_50 rfl rfl ?_
    refine xr_bipush (v := 8) X dX12_count_51 (by decide) ?_
    refine xr_icmp_ge (tgt := 79) X dX12_count_53 (by decide) (fun _ => ?_) (fun c_53 => absurd (by subst ek; decide) c_53)
    refine xr_iload_n X 1 dX12_count_79 rfl rfl ?_
    exact xr_iret X rfl (by rw [ek]) rfl rfl rfl rfl dX12_count_80
  | succ j0 ih =>
    intro k hk
    have lk : k < 8 := by omega
    refine xr_iload_n X 0 dX12_count_50 rfl rfl ?_
    refine xr_bipush (v := 8) X dX12_count_51 (by decide) ?_
    refine xr_icmp_ge (tgt := 79) X dX12_count_53 (by decide) (fun c_53 => absurd c_53 (by rw [i32_le, k32_8, nI_toInt (by omega)]; omega)) (fun _ => ?_)
    refine xr_iload_n X 1 dX12_count_56 rfl rfl ?_
    refine xr_aload_n X 2 dX12_count_57 rfl rfl ?_
    refine xr_get X fF_X12_7_11 hm rfl dX12_count_58 ?_
    refine xr_iload_n X 0 dX12_count_61 rfl rfl ?_
    refine xr_iald (j := k) X hlane (xI_n (by omega) (by omega)) dX12_count_62 ?_
    refine xr_if_lt (tgt := 70) X dX12_count_63 (by decide) (fun c_63 => ?_) (fun c_63 => ?_)
    · have c_63 := i32_lt.mp c_63
      (try simp (disch := omega) only [nI_toInt, i32_add, i32_sub, i32_mul, i64_addl, i32_l, k32_0, k64_0] at c_63)
      refine xr_iconst (v := 0) X dX12_count_70 (by decide) ?_
      refine xr_iadd X dX12_count_71 ?_
      refine xr_top (y := (nI (rowsN lane (k + 1)))) (by rw [rowsN, if_neg (by omega)]; simp) ?_
      refine xr_istore_n (lv' := [(2, .int (nI (rowsN lane (k + 1)))), (3, .int (nI k)), (0, .ref m), (1, .int w)]) X dX12_count_72 rfl rfl rfl ?_
      refine xr_iinc (v := nI (k + 1)) (lv' := [(3, .int (nI (k + 1))), (2, .int (nI (rowsN lane (k + 1)))), (0, .ref m), (1, .int w)]) X 1 dX12_count_73 rfl (nI_1 _) rfl rfl ?_
      refine xr_goto (tgt := 50) X dX12_count_76 (by decide) ?_
      exact ih (k + 1) (by omega)
    · have c_63 := mt i32_lt.mpr c_63
      (try simp (disch := omega) only [nI_toInt, i32_add, i32_sub, i32_mul, i64_addl, i32_l, k32_0, k64_0] at c_63)
      refine xr_iconst (v := 1) X dX12_count_66 (by decide) ?_
      refine xr_goto (tgt := 71) X dX12_count_67 (by decide) ?_
      refine xr_iadd X dX12_count_71 ?_
      refine xr_top (y := (nI (rowsN lane (k + 1)))) (by rw [rowsN, if_pos (by omega)]; exact nI_1 _) ?_
      refine xr_istore_n (lv' := [(2, .int (nI (rowsN lane (k + 1)))), (3, .int (nI k)), (0, .ref m), (1, .int w)]) X dX12_count_72 rfl rfl rfl ?_
      refine xr_iinc (v := nI (k + 1)) (lv' := [(3, .int (nI (k + 1))), (2, .int (nI (rowsN lane (k + 1)))), (0, .ref m), (1, .int w)]) X 1 dX12_count_73 rfl (nI_1 _) rfl rfl ?_
      refine xr_goto (tgt := 50) X dX12_count_76 (by decide) ?_
      exact ih (k + 1) (by omega)
def a_count (lane : Nat → Int32) (np day b : Nat) (ac tp w : Int32) : Int32 := if w.toInt = 0 then nI (rowsN lane 8) else if w.toInt = 1 then nI np else if w.toInt = 2 then nI day else if w.toInt = 3 then nI b else if w.toInt = 4 then ac else if w.toInt = 5 then tp else -1000001
set_option maxRecDepth 100000 in
theorem c_X12_count {l : Launch} {Ω : xW} {h : xH} {sz : Nat} {m : Nat} {st ac tp la le cu tk sa ti fa fl tr : Int32} {t : Nat → Int32} {np day b : Nat} {kd wh mn : Nat → Nat} {lane : Nat → Int32} {w : Int32} (hm : h m = some (mO m st ac tp la le cu tk sa ti fa fl tr)) (ht : h (m + 4) = some (.inl (.int, 21, .inl t))) (T : tOK t np kd wh mn day b) (hlane : h (m + 1) = some (.inl (.int, 8, .inl lane))) : xC l Ω yX12_count cX12_count 4 (some .int) 0 0 0 [.ref m, .int w] h sz (some (.int (a_count lane np day b ac tp w))) h (sz) := by
  refine xC_of (lv := [(0, .ref m), (1, .int w)]) pn_X12 rfl rfl (fun Γ X hΓ hbs => ?_)
  have X : xX Γ Ω cX12_count 4 RX12 "count" (some .int) 0 0 0 0 := X
  subst hΓ
  refine xr_aload_n X 0 dX12_count_0 rfl rfl ?_
  refine xr_iconst (v := 0) X dX12_count_1 (by decide) ?_
  refine xr_put (fs' := [.int 0, .int st, .ref (m + 1), .ref (m + 2), .ref (m + 3), .ref (m + 4), .ref (m + 5), .ref (m + 6), .int ac, .ref (m + 7), .int tp, .int la, .int le, .int cu, .int tk, .int sa, .int ti, .int fa, .int fl, .ref (m + 8), .ref (m + 9), .ref (m + 10), .ref (m + 11), .int tr]) X (fW_X12_44_11 _) hm rfl rfl rfl rfl dX12_count_2 ?_
  refine xr_heap (h' := h) (xu_id hm) ?_
  refine xr_iconst (v := 0) X dX12_count_5 (by decide) ?_
  refine xr_istore_n (lv' := [(2, .int 0), (0, .ref m), (1, .int w)]) X dX12_count_6 rfl rfl rfl ?_
  refine xr_iload_n X 2 dX12_count_7 rfl rfl ?_
  have hcase : w.toInt = 0 ∨ w.toInt = 1 ∨ w.toInt = 2 ∨ w.toInt = 3 ∨ w.toInt = 4 ∨ w.toInt = 5 ∨ (w.toInt < 0 ∨ 5 < w.toInt) := by omega
  rcases hcase with ew | ew | ew | ew | ew | ew | ew
  · refine xr_tableIn (off := 40) (tgt := 48) X dX12_count_8 (by omega) (by omega) (by rw [ew]; rfl) (by decide) ?_
    refine xr_iconst (v := 0) X dX12_count_48 (by decide) ?_
    refine xr_istore_n (lv' := [(3, .int 0), (2, .int 0), (0, .ref m), (1, .int w)]) X dX12_count_49 rfl rfl rfl ?_
    rw [show a_count lane np day b ac tp w = nI (rowsN lane 8) from if_pos ew]
    exact l_X12_count X hm hlane 8 0 rfl
  · refine xr_tableIn (off := 73) (tgt := 81) X dX12_count_8 (by omega) (by omega) (by rw [ew]; rfl) (by decide) ?_
    refine xr_aload_n X 1 dX12_count_81 rfl rfl ?_
    refine xr_get X fF_X12_19_11 hm rfl dX12_count_82 ?_
    refine xr_iload_n X 2 dX12_count_85 rfl rfl ?_
    refine xr_iconst (v := 1) X dX12_count_86 (by decide) ?_
    refine xr_isub X dX12_count_87 ?_
    refine xr_iald (j := 0) X ht (xI_i (by rw [i32_sub (by rw [k32_1]; omega) (by rw [k32_1]; omega), k32_1]; omega) (by omega)) dX12_count_88 ?_
    exact xr_iret X rfl (xv (((if_neg (by omega)).trans (if_pos (by omega))).trans T.2.1.symm)) rfl rfl rfl rfl dX12_count_89
  · refine xr_tableIn (off := 73) (tgt := 81) X dX12_count_8 (by omega) (by omega) (by rw [ew]; rfl) (by decide) ?_
    refine xr_aload_n X 1 dX12_count_81 rfl rfl ?_
    refine xr_get X fF_X12_19_11 hm rfl dX12_count_82 ?_
    refine xr_iload_n X 2 dX12_count_85 rfl rfl ?_
    refine xr_iconst (v := 1) X dX12_count_86 (by decide) ?_
    refine xr_isub X dX12_count_87 ?_
    refine xr_iald (j := 1) X ht (xI_i (by rw [i32_sub (by rw [k32_1]; omega) (by rw [k32_1]; omega), k32_1]; omega) (by omega)) dX12_count_88 ?_
    exact xr_iret X rfl (xv ((((if_neg (by omega)).trans (if_neg (by omega))).trans (if_pos (by omega))).trans T.2.2.1.symm)) rfl rfl rfl rfl dX12_count_89
  · refine xr_tableIn (off := 73) (tgt := 81) X dX12_count_8 (by omega) (by omega) (by rw [ew]; rfl) (by decide) ?_
    refine xr_aload_n X 1 dX12_count_81 rfl rfl ?_
    refine xr_get X fF_X12_19_11 hm rfl dX12_count_82 ?_
    refine xr_iload_n X 2 dX12_count_85 rfl rfl ?_
    refine xr_iconst (v := 1) X dX12_count_86 (by decide) ?_
    refine xr_isub X dX12_count_87 ?_
    refine xr_iald (j := 2) X ht (xI_i (by rw [i32_sub (by rw [k32_1]; omega) (by rw [k32_1]; omega), k32_1]; omega) (by omega)) dX12_count_88 ?_
    exact xr_iret X rfl (xv (((((if_neg (by omega)).trans (if_neg (by omega))).trans (if_neg (by omega))).trans (if_pos (by omega))).trans T.2.2.2.2.1.symm)) rfl rfl rfl rfl dX12_count_89
  · refine xr_tableIn (off := 82) (tgt := 90) X dX12_count_8 (by omega) (by omega) (by rw [ew]; rfl) (by decide) ?_
    refine xr_aload_n X 1 dX12_count_90 rfl rfl ?_
    refine xr_get X fF_X12_157_11 hm rfl dX12_count_91 ?_
    exact xr_iret X rfl (xv ((((((if_neg (by omega)).trans (if_neg (by omega))).trans (if_neg (by omega))).trans (if_neg (by omega))).trans (if_pos (by omega))))) rfl rfl rfl rfl dX12_count_94
  · refine xr_tableIn (off := 87) (tgt := 95) X dX12_count_8 (by omega) (by omega) (by rw [ew]; rfl) (by decide) ?_
    refine xr_aload_n X 1 dX12_count_95 rfl rfl ?_
    refine xr_get X fF_X12_71_11 hm rfl dX12_count_96 ?_
    exact xr_iret X rfl (xv (((((((if_neg (by omega)).trans (if_neg (by omega))).trans (if_neg (by omega))).trans (if_neg (by omega))).trans (if_neg (by omega))).trans (if_pos (by omega))))) rfl rfl rfl rfl dX12_count_99
  · refine xr_tableOut (tgt := 100) X dX12_count_8 (by omega) (by decide) ?_
    refine xr_ldc (v := (-1000001)) X kw_1031 dX12_count_100 ?_
    exact xr_iret X rfl (xv (((((((if_neg (by omega)).trans (if_neg (by omega))).trans (if_neg (by omega))).trans (if_neg (by omega))).trans (if_neg (by omega))).trans (if_neg (by omega))))) rfl rfl rfl rfl dX12_count_102
set_option maxRecDepth 100000 in
theorem c_X12_trace {l : Launch} {Ω : xW} {h : xH} {sz : Nat} {m : Nat} {st ac tp la le cu tk sa ti fa fl : Int32} {x : trS} {i : Int32} (hm : h m = some (mO m st ac tp la le cu tk sa ti fa fl (nI x.2))) (htr : h (m + 11) = some (.inl (.int, 16, .inl x.1))) (hx : x.2 ≤ 16) : xC l Ω yX12_trace cX12_trace 2 (some .int) 1 0 0 [.ref m, .int i] h sz (some (.int (if 0 ≤ i.toInt ∧ i.toInt < x.2 then x.1 i.toNatClampNeg else -1000000))) h (sz) := by
  refine xC_of (lv := [(0, .ref m), (1, .int i)]) pn_X12 rfl rfl (fun Γ X hΓ hbs => ?_)
  have X : xX Γ Ω cX12_trace 2 RX12 "trace" (some .int) 1 35 0 0 := X
  subst hΓ
  refine xr_aload_n X 0 dX12_trace_0 rfl rfl ?_
  refine xr_iconst (v := 0) X dX12_trace_1 (by decide) ?_
  refine xr_put (fs' := [.int 0, .int st, .ref (m + 1), .ref (m + 2), .ref (m + 3), .ref (m + 4), .ref (m + 5), .ref (m + 6), .int ac, .ref (m + 7), .int tp, .int la, .int le, .int cu, .int tk, .int sa, .int ti, .int fa, .int fl, .ref (m + 8), .ref (m + 9), .ref (m + 10), .ref (m + 11), .int (nI x.2)]) X (fW_X12_44_11 _) hm rfl rfl rfl rfl dX12_trace_2 ?_
  refine xr_heap (h' := h) (xu_id hm) ?_
  refine xr_iload_n X 1 dX12_trace_5 rfl rfl ?_
  refine xr_i2l X dX12_trace_6 ?_
  refine xr_lconst (v := 0) X dX12_trace_7 (by decide) ?_
  refine xr_aload_n X 0 dX12_trace_8 rfl rfl ?_
  refine xr_get X fF_X12_234_11 hm rfl dX12_trace_9 ?_
  refine xr_iconst (v := 1) X dX12_trace_12 (by decide) ?_
  refine xr_isub X dX12_trace_13 ?_
  refine xr_nm (fun t1 e_t1 => ?_)
  have et1 : t1.toInt = (x.2 : Int) - 1 := by rw [e_t1, i32_sub (by rw [k32_1, nI_toInt (by omega)]; omega) (by rw [k32_1, nI_toInt (by omega)]; omega), k32_1, nI_toInt (by omega)]
  refine xr_i2l X dX12_trace_14 ?_
  refine xr_callS X kw_1027 kw_1028 cw_X12_in [.long i.toInt64, .long 0, .long t1.toInt64] c_X12_in rfl rfl rfl rfl rfl rfl rfl dX12_trace_15 ?_
  refine xr_if_eq (tgt := 30) X dX12_trace_18 (by decide) (fun c_18 => ?_) (fun c_18 => ?_)
  · have c_18 := of_decide_eq_false (xb_0.mp c_18)
    (try simp (disch := omega) only [nI_toInt, i32_add, i32_sub, i32_mul, i64_addl, i32_l, k32_0, k64_0] at c_18)
    refine xr_ldc (v := (-1000000)) X kw_1072 dX12_trace_30 ?_
    exact xr_iret X rfl (xv (if_neg (by omega))) rfl rfl rfl rfl dX12_trace_32
  · have c_18 := of_decide_eq_true (xb_1.mp c_18)
    (try simp (disch := omega) only [nI_toInt, i32_add, i32_sub, i32_mul, i64_addl, i32_l, k32_0, k64_0] at c_18)
    refine xr_aload_n X 0 dX12_trace_21 rfl rfl ?_
    refine xr_get X fF_X12_41_11 hm rfl dX12_trace_22 ?_
    refine xr_iload_n X 1 dX12_trace_25 rfl rfl ?_
    refine xr_iald (j := i.toNatClampNeg) X htr (xI_c (by omega) (by omega)) dX12_trace_26 ?_
    refine xr_goto (tgt := 32) X dX12_trace_27 (by decide) ?_
    exact xr_iret X rfl (xv (if_pos (by omega))) rfl rfl rfl rfl dX12_trace_32
