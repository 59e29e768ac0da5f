theorem xmo_at {a N i : Nat} (h : i < N) : va_rf (xmo a N i) = .ref (a + 1 + i) := by simp [xmo, va_rf, h]
set_option maxRecDepth 100000 in
theorem c_X6_isPlace {l : Launch} {Ω : xW} {h : xH} {sz : Nat} {e : Nat} {r : Int32}  : xC l Ω yX6_isPlace cX6_isPlace 2 (some .boolean) 0 0 0 [.ref (e + 1), .int r] h sz (some (.int (xb (decide (0 ≤ r.toInt ∧ r.toInt < 8))))) h (sz) := by
  refine xC_of (lv := [(0, .ref (e + 1)), (1, .int r)]) pn_X6 rfl rfl (fun Γ X hΓ hbs => ?_)
  have X : xX Γ Ω cX6_isPlace 2 RX6 "isPlace" (some .boolean) 0 0 0 0 := X
  subst hΓ
  refine xr_iload_n X 1 dX6_isPlace_0 rfl rfl ?_
  refine xr_if_lt (tgt := 14) X dX6_isPlace_1 (by decide) (fun c_1 => ?_) (fun c_1 => ?_)
  · have c_1 := i32_lt.mp c_1
    (try simp (disch := omega) only [nI_toInt, i32_add, i32_sub, i32_mul, i64_addl, i32_l, k32_0, k64_0] at c_1)
    refine xr_iconst (v := 0) X dX6_isPlace_14 (by decide) ?_
    exact xr_zret X rfl rfl (by first | exact xbT (by omega) | exact xbF (by omega)) rfl rfl rfl rfl dX6_isPlace_15
  · have c_1 := mt i32_lt.mpr c_1
    (try simp (disch := omega) only [nI_toInt, i32_add, i32_sub, i32_mul, i64_addl, i32_l, k32_0, k64_0] at c_1)
    refine xr_iload_n X 1 dX6_isPlace_4 rfl rfl ?_
    refine xr_bipush (v := 8) X dX6_isPlace_5 (by decide) ?_
    refine xr_icmp_ge (tgt := 14) X dX6_isPlace_7 (by decide) (fun c_7 => ?_) (fun c_7 => ?_)
    · have c_7 := i32_le.mp c_7
      (try simp (disch := omega) only [nI_toInt, i32_add, i32_sub, i32_mul, i64_addl, i32_l, k32_8, k64_8] at c_7)
      refine xr_iconst (v := 0) X dX6_isPlace_14 (by decide) ?_
      exact xr_zret X rfl rfl (by first | exact xbT (by omega) | exact xbF (by omega)) rfl rfl rfl rfl dX6_isPlace_15
    · have c_7 := mt i32_le.mpr c_7
      (try simp (disch := omega) only [nI_toInt, i32_add, i32_sub, i32_mul, i64_addl, i32_l, k32_8, k64_8] at c_7)
      refine xr_iconst (v := 1) X dX6_isPlace_10 (by decide) ?_
      refine xr_goto (tgt := 15) X dX6_isPlace_11 (by decide) ?_
      exact xr_zret X rfl rfl (by first | exact xbT (by omega) | exact xbF (by omega)) rfl rfl rfl rfl dX6_isPlace_15
set_option maxRecDepth 100000 in
theorem c_X6_isLane {l : Launch} {Ω : xW} {h : xH} {sz : Nat} {e : Nat} {r : Int32}  : xC l Ω yX6_isLane cX6_isLane 2 (some .boolean) 0 0 0 [.ref (e + 1), .int r] h sz (some (.int (xb (decide (0 ≤ r.toInt ∧ r.toInt < 3))))) h (sz) := by
  refine xC_of (lv := [(0, .ref (e + 1)), (1, .int r)]) pn_X6 rfl rfl (fun Γ X hΓ hbs => ?_)
  have X : xX Γ Ω cX6_isLane 2 RX6 "isLane" (some .boolean) 0 0 0 0 := X
  subst hΓ
  refine xr_iload_n X 1 dX6_isLane_0 rfl rfl ?_
  refine xr_if_lt (tgt := 13) X dX6_isLane_1 (by decide) (fun c_1 => ?_) (fun c_1 => ?_)
  · have c_1 := i32_lt.mp c_1
    (try simp (disch := omega) only [nI_toInt, i32_add, i32_sub, i32_mul, i64_addl, i32_l, k32_0, k64_0] at c_1)
    refine xr_iconst (v := 0) X dX6_isLane_13 (by decide) ?_
    exact xr_zret X rfl rfl (by first | exact xbT (by omega) | exact xbF (by omega)) rfl rfl rfl rfl dX6_isLane_14
  · have c_1 := mt i32_lt.mpr c_1
    (try simp (disch := omega) only [nI_toInt, i32_add, i32_sub, i32_mul, i64_addl, i32_l, k32_0, k64_0] at c_1)
    refine xr_iload_n X 1 dX6_isLane_4 rfl rfl ?_
    refine xr_iconst (v := 3) X dX6_isLane_5 (by decide) ?_
    refine xr_icmp_ge (tgt := 13) X dX6_isLane_6 (by decide) (fun c_6 => ?_) (fun c_6 => ?_)
    · have c_6 := i32_le.mp c_6
      (try simp (disch := omega) only [nI_toInt, i32_add, i32_sub, i32_mul, i64_addl, i32_l, k32_3, k64_3] at c_6)
      refine xr_iconst (v := 0) X dX6_isLane_13 (by decide) ?_
      exact xr_zret X rfl rfl (by first | exact xbT (by omega) | exact xbF (by omega)) rfl rfl rfl rfl dX6_isLane_14
    · have c_6 := mt i32_le.mpr c_6
      (try simp (disch := omega) only [nI_toInt, i32_add, i32_sub, i32_mul, i64_addl, i32_l, k32_3, k64_3] at c_6)
      refine xr_iconst (v := 1) X dX6_isLane_9 (by decide) ?_
      refine xr_goto (tgt := 14) X dX6_isLane_10 (by decide) ?_
      exact xr_zret X rfl rfl (by first | exact xbT (by omega) | exact xbF (by omega)) rfl rfl rfl rfl dX6_isLane_14
theorem sz_m {x lr mr : Int32} (h : x = if lr.toInt < 0 then -1 else mr) (h2 : 0 ≤ mr.toInt) : (lr.toInt < 0 ∧ x.toInt = -1) ∨ (0 ≤ lr.toInt ∧ x.toInt = mr.toInt ∧ x = mr) := by
  subst h
  by_cases c : lr.toInt < 0
  · exact Or.inl ⟨c, by rw [if_pos c]; decide⟩
  · exact Or.inr ⟨by omega, by rw [if_neg c], by rw [if_neg c]⟩
set_option maxRecDepth 100000 in
theorem c_X6_isMissing {l : Launch} {Ω : xW} {h : xH} {sz : Nat} {e : Nat} {lane many sizes : Nat → Int32} {r : Int32} (ho : h (e + 1) = some (.inr (5, [.ref (e + 2), .ref (e + 11), .ref (e + 12)]))) (hsizes : h (e + 12) = some (.inl (.int, 8, .inl sizes))) (hsz : ∀ q, q < 8 → sizes q = if (lane q).toInt < 0 then -1 else many q) (hM : ∀ q, q < 8 → 0 ≤ (many q).toInt ∧ (many q).toInt ≤ 40) : xC l Ω yX6_isMissing cX6_isMissing 2 (some .boolean) 1 0 0 [.ref (e + 1), .int r] h sz (some (.int (xb (decide (0 ≤ r.toInt ∧ r.toInt < 8 → (lane r.toNatClampNeg).toInt < 0))))) h (sz) := by
  refine xC_of (lv := [(0, .ref (e + 1)), (1, .int r)]) pn_X6 rfl rfl (fun Γ X hΓ hbs => ?_)
  have X : xX Γ Ω cX6_isMissing 2 RX6 "isMissing" (some .boolean) 1 35 0 0 := X
  subst hΓ
  refine xr_aload_n X 0 dX6_isMissing_0 rfl rfl ?_
  refine xr_iload_n X 1 dX6_isMissing_1 rfl rfl ?_
  refine xr_callV X ho rfl kw_236 kw_219 kw_220 cw_X6_isPlace [.int r] c_X6_isPlace rfl rfl rfl rfl rfl rfl rfl dX6_isMissing_2 ?_
  refine xr_if_eq (tgt := 18) X dX6_isMissing_5 (by decide) (fun c_5 => ?_) (fun c_5 => ?_)
  · have c_5 := of_decide_eq_false (xb_0.mp c_5)
    (try simp (disch := omega) only [nI_toInt, i32_add, i32_sub, i32_mul, i64_addl, i32_l, k32_0, k32_8, k64_0, k64_8] at c_5)
    refine xr_iconst (v := 1) X dX6_isMissing_18 (by decide) ?_
    refine xr_goto (tgt := 23) X dX6_isMissing_19 (by decide) ?_
    exact xr_zret X rfl rfl (by first | exact xbT (by omega) | exact xbF (by omega)) rfl rfl rfl rfl dX6_isMissing_23
  · have c_5 := of_decide_eq_true (xb_1.mp c_5)
    (try simp (disch := omega) only [nI_toInt, i32_add, i32_sub, i32_mul, i64_addl, i32_l, k32_0, k32_8, k64_0, k64_8] at c_5)
    have tnr := (i32_tn (x := r) (by omega)).2
    have hsr := hsz r.toNatClampNeg (by omega)
    have hMr := hM r.toNatClampNeg (by omega)
    have hsm := sz_m hsr hMr.1
    refine xr_aload_n X 0 dX6_isMissing_8 rfl rfl ?_
    refine xr_get X fF_X6_20_5 ho rfl dX6_isMissing_9 ?_
    refine xr_iload_n X 1 dX6_isMissing_12 rfl rfl ?_
    refine xr_iald (j := r.toNatClampNeg) X hsizes (xI_c (by omega) (by omega)) dX6_isMissing_13 ?_
    refine xr_iconst (v := (-1)) X dX6_isMissing_14 (by decide) ?_
    refine xr_icmp_ne (tgt := 22) X dX6_isMissing_15 (by decide) (fun c_15 => ?_) (fun c_15 => ?_)
    · have c_15 := mt i32_eq.mpr c_15
      (try simp (disch := omega) only [nI_toInt, i32_add, i32_sub, i32_mul, i64_addl, i32_l, k32_m1] at c_15)
      refine xr_iconst (v := 0) X dX6_isMissing_22 (by decide) ?_
      exact xr_zret X rfl rfl (by first | exact xbT (by omega) | exact xbF (by omega)) rfl rfl rfl rfl dX6_isMissing_23
    · have c_15 := i32_eq.mp c_15
      (try simp (disch := omega) only [nI_toInt, i32_add, i32_sub, i32_mul, i64_addl, i32_l, k32_m1] at c_15)
      refine xr_iconst (v := 1) X dX6_isMissing_18 (by decide) ?_
      refine xr_goto (tgt := 23) X dX6_isMissing_19 (by decide) ?_
      exact xr_zret X rfl rfl (by first | exact xbT (by omega) | exact xbF (by omega)) rfl rfl rfl rfl dX6_isMissing_23
set_option maxRecDepth 100000 in
theorem c_X6_areAlike {l : Launch} {Ω : xW} {h : xH} {sz : Nat} {e : Nat} {lanes : Nat → Int32} {a b : Int32} (ho : h (e + 1) = some (.inr (5, [.ref (e + 2), .ref (e + 11), .ref (e + 12)]))) (hlanes : h (e + 11) = some (.inl (.int, 8, .inl lanes))) (ha : 0 ≤ a.toInt ∧ a.toInt < 8) (hb : 0 ≤ b.toInt ∧ b.toInt < 8) : xC l Ω yX6_areAlike cX6_areAlike 3 (some .boolean) 1 0 0 [.ref (e + 1), .int a, .int b] h sz (some (.int (xb (decide ((lanes a.toNatClampNeg).toInt = (lanes b.toNatClampNeg).toInt))))) h (sz) := by
  refine xC_of (lv := [(0, .ref (e + 1)), (1, .int a), (2, .int b)]) pn_X6 rfl rfl (fun Γ X hΓ hbs => ?_)
  have X : xX Γ Ω cX6_areAlike 3 RX6 "areAlike" (some .boolean) 1 35 0 0 := X
  subst hΓ
  refine xr_aload_n X 0 dX6_areAlike_0 rfl rfl ?_
  refine xr_iload_n X 1 dX6_areAlike_1 rfl rfl ?_
  refine xr_callV X ho rfl kw_236 kw_219 kw_220 cw_X6_isPlace [.int a] c_X6_isPlace rfl rfl rfl rfl rfl rfl rfl dX6_areAlike_2 ?_
  refine xr_if_eq (tgt := 35) X dX6_areAlike_5 (by decide) (fun c_5 => absurd c_5 (xb_1.mpr (decide_eq_true ha))) (fun _ => ?_)
  refine xr_aload_n X 0 dX6_areAlike_8 rfl rfl ?_
  refine xr_iload_n X 2 dX6_areAlike_9 rfl rfl ?_
  refine xr_callV X ho rfl kw_236 kw_219 kw_220 cw_X6_isPlace [.int b] c_X6_isPlace rfl rfl rfl rfl rfl rfl rfl dX6_areAlike_10 ?_
  refine xr_if_eq (tgt := 35) X dX6_areAlike_13 (by decide) (fun c_13 => absurd c_13 (xb_1.mpr (decide_eq_true hb))) (fun _ => ?_)
  refine xr_aload_n X 0 dX6_areAlike_16 rfl rfl ?_
  refine xr_get X fF_X6_16_5 ho rfl dX6_areAlike_17 ?_
  refine xr_iload_n X 1 dX6_areAlike_20 rfl rfl ?_
  refine xr_iald (j := a.toNatClampNeg) X hlanes (xI_c ha.1 ha.2) dX6_areAlike_21 ?_
  refine xr_aload_n X 0 dX6_areAlike_22 rfl rfl ?_
  refine xr_get X fF_X6_16_5 ho rfl dX6_areAlike_23 ?_
  refine xr_iload_n X 2 dX6_areAlike_26 rfl rfl ?_
  refine xr_iald (j := b.toNatClampNeg) X hlanes (xI_c hb.1 hb.2) dX6_areAlike_27 ?_
  refine xr_icmp_ne (tgt := 35) X dX6_areAlike_28 (by decide) (fun c_28 => ?_) (fun c_28 => ?_)
  · have c_28 := mt i32_eq.mpr c_28
    (try simp (disch := omega) only [nI_toInt, i32_add, i32_sub, i32_mul, i64_addl, i32_l] at c_28)
    refine xr_iconst (v := 0) X dX6_areAlike_35 (by decide) ?_
    exact xr_zret X rfl rfl (by first | exact xbT (by omega) | exact xbF (by omega)) rfl rfl rfl rfl dX6_areAlike_36
  · have c_28 := i32_eq.mp c_28
    (try simp (disch := omega) only [nI_toInt, i32_add, i32_sub, i32_mul, i64_addl, i32_l] at c_28)
    refine xr_iconst (v := 1) X dX6_areAlike_31 (by decide) ?_
    refine xr_goto (tgt := 36) X dX6_areAlike_32 (by decide) ?_
    exact xr_zret X rfl rfl (by first | exact xbT (by omega) | exact xbF (by omega)) rfl rfl rfl rfl dX6_areAlike_36
set_option maxRecDepth 100000 in
theorem c_X6_reaches {l : Launch} {Ω : xW} {h : xH} {sz : Nat} {e : Nat} {lane many sizes : Nat → Int32} {r : Int32} {i n : Int32} (ho : h (e + 1) = some (.inr (5, [.ref (e + 2), .ref (e + 11), .ref (e + 12)]))) (hsizes : h (e + 12) = some (.inl (.int, 8, .inl sizes))) (hsz : ∀ q, q < 8 → sizes q = if (lane q).toInt < 0 then -1 else many q) (hM : ∀ q, q < 8 → 0 ≤ (many q).toInt ∧ (many q).toInt ≤ 40) : xC l Ω yX6_reaches cX6_reaches 4 (some .boolean) 2 0 0 [.ref (e + 1), .int r, .int i, .int n] h sz (some (.int (xb (decide ((0 ≤ (r).toInt ∧ (r).toInt < 8) ∧ 0 ≤ (lane (r).toNatClampNeg).toInt ∧ 0 ≤ (i).toInt ∧ 0 ≤ (n).toInt ∧ (i).toInt + (n).toInt ≤ (many (r).toNatClampNeg).toInt))))) h (sz) := by
  refine xC_of (lv := [(0, .ref (e + 1)), (1, .int r), (2, .int i), (3, .int n)]) pn_X6 rfl rfl (fun Γ X hΓ hbs => ?_)
  have X : xX Γ Ω cX6_reaches 4 RX6 "reaches" (some .boolean) 2 70 0 0 := X
  subst hΓ
  have rgi := i32_rng i
  have rgn := i32_rng n
  refine xr_aload_n X 0 dX6_reaches_0 rfl rfl ?_
  refine xr_iload_n X 1 dX6_reaches_1 rfl rfl ?_
  refine xr_callV X ho rfl kw_257 kw_250 kw_251 cw_X6_isMissing [.int r] (c_X6_isMissing ho hsizes hsz hM) rfl rfl rfl rfl rfl rfl rfl dX6_reaches_2 ?_
  refine xr_if_ne (tgt := 42) X dX6_reaches_5 (by decide) (fun c_5 => ?_) (fun c_5 => ?_)
  · have c_5 := of_decide_eq_true (xb_1.mp c_5)
    (try simp (disch := omega) only [nI_toInt, i32_add, i32_sub, i32_mul, i64_addl, i32_l, k32_0, k32_8, k64_0, k64_8] at c_5)
    refine xr_iconst (v := 0) X dX6_reaches_42 (by decide) ?_
    exact xr_zret X rfl rfl (by first | exact xbT (by omega) | exact xbF (by omega)) rfl rfl rfl rfl dX6_reaches_43
  · have c_5 := of_decide_eq_false (xb_0.mp c_5)
    (try simp (disch := omega) only [nI_toInt, i32_add, i32_sub, i32_mul, i64_addl, i32_l, k32_0, k32_8, k64_0, k64_8] at c_5)
    have tnr := (i32_tn (x := r) (by omega)).2
    have hsr := hsz r.toNatClampNeg (by omega)
    have hMr := hM r.toNatClampNeg (by omega)
    have hsm := sz_m hsr hMr.1
    refine xr_iload_n X 2 dX6_reaches_8 rfl rfl ?_
    refine xr_if_lt (tgt := 42) X dX6_reaches_9 (by decide) (fun c_9 => ?_) (fun c_9 => ?_)
    · have c_9 := i32_lt.mp c_9
      (try simp (disch := omega) only [nI_toInt, i32_add, i32_sub, i32_mul, i64_addl, i32_l, k32_0, k64_0] at c_9)
      refine xr_iconst (v := 0) X dX6_reaches_42 (by decide) ?_
      exact xr_zret X rfl rfl (by first | exact xbT (by omega) | exact xbF (by omega)) rfl rfl rfl rfl dX6_reaches_43
    · have c_9 := mt i32_lt.mpr c_9
      (try simp (disch := omega) only [nI_toInt, i32_add, i32_sub, i32_mul, i64_addl, i32_l, k32_0, k64_0] at c_9)
      refine xr_iload_n X 3 dX6_reaches_12 rfl rfl ?_
      refine xr_if_lt (tgt := 42) X dX6_reaches_13 (by decide) (fun c_13 => ?_) (fun c_13 => ?_)
      · have c_13 := i32_lt.mp c_13
        (try simp (disch := omega) only [nI_toInt, i32_add, i32_sub, i32_mul, i64_addl, i32_l, k32_0, k64_0] at c_13)
        refine xr_iconst (v := 0) X dX6_reaches_42 (by decide) ?_
        exact xr_zret X rfl rfl (by first | exact xbT (by omega) | exact xbF (by omega)) rfl rfl rfl rfl dX6_reaches_43
      · have c_13 := mt i32_lt.mpr c_13
        (try simp (disch := omega) only [nI_toInt, i32_add, i32_sub, i32_mul, i64_addl, i32_l, k32_0, k64_0] at c_13)
        refine xr_iload_n X 3 dX6_reaches_16 rfl rfl ?_
        refine xr_aload_n X 0 dX6_reaches_17 rfl rfl ?_
        refine xr_get X fF_X6_20_5 ho rfl dX6_reaches_18 ?_
        refine xr_iload_n X 1 dX6_reaches_21 rfl rfl ?_
        refine xr_iald (j := r.toNatClampNeg) X hsizes (xI_c (by omega) (by omega)) dX6_reaches_22 ?_
        refine xr_icmp_gt (tgt := 42) X dX6_reaches_23 (by decide) (fun c_23 => ?_) (fun c_23 => ?_)
        · have c_23 := i32_lt.mp c_23
          (try simp (disch := omega) only [nI_toInt, i32_add, i32_sub, i32_mul, i64_addl, i32_l] at c_23)
          refine xr_iconst (v := 0) X dX6_reaches_42 (by decide) ?_
          exact xr_zret X rfl rfl (by first | exact xbT (by omega) | exact xbF (by omega)) rfl rfl rfl rfl dX6_reaches_43
        · have c_23 := mt i32_lt.mpr c_23
          (try simp (disch := omega) only [nI_toInt, i32_add, i32_sub, i32_mul, i64_addl, i32_l] at c_23)
          refine xr_iload_n X 2 dX6_reaches_26 rfl rfl ?_
          refine xr_aload_n X 0 dX6_reaches_27 rfl rfl ?_
          refine xr_get X fF_X6_20_5 ho rfl dX6_reaches_28 ?_
          refine xr_iload_n X 1 dX6_reaches_31 rfl rfl ?_
          refine xr_iald (j := r.toNatClampNeg) X hsizes (xI_c (by omega) (by omega)) dX6_reaches_32 ?_
          refine xr_iload_n X 3 dX6_reaches_33 rfl rfl ?_
          refine xr_isub X dX6_reaches_34 ?_
          refine xr_nm (fun df e_df => ?_)
          have edf : df.toInt = (sizes r.toNatClampNeg).toInt - n.toInt := by rw [e_df, i32_sub (by omega) (by omega)]
          refine xr_icmp_gt (tgt := 42) X dX6_reaches_35 (by decide) (fun c_35 => ?_) (fun c_35 => ?_)
          · have c_35 := i32_lt.mp c_35
            (try simp (disch := omega) only [nI_toInt, i32_add, i32_sub, i32_mul, i64_addl, i32_l] at c_35)
            refine xr_iconst (v := 0) X dX6_reaches_42 (by decide) ?_
            exact xr_zret X rfl rfl (by first | exact xbT (by omega) | exact xbF (by omega)) rfl rfl rfl rfl dX6_reaches_43
          · have c_35 := mt i32_lt.mpr c_35
            (try simp (disch := omega) only [nI_toInt, i32_add, i32_sub, i32_mul, i64_addl, i32_l] at c_35)
            refine xr_iconst (v := 1) X dX6_reaches_38 (by decide) ?_
            refine xr_goto (tgt := 43) X dX6_reaches_39 (by decide) ?_
            exact xr_zret X rfl rfl (by first | exact xbT (by omega) | exact xbF (by omega)) rfl rfl rfl rfl dX6_reaches_43
set_option maxRecDepth 100000 in
theorem l_X6_howMany {Γ : xΓ} {Ω : xW} {h : xH} {sz : Nat} (X : xX Γ Ω cX6_howMany 3 RX6 "howMany" (some .int) 2 70 0 0) {e : Nat} {lane many sizes : Nat → Int32} (ho : h (e + 1) = some (.inr (5, [.ref (e + 2), .ref (e + 11), .ref (e + 12)]))) (hsizes : h (e + 12) = some (.inl (.int, 8, .inl sizes))) (hsz : ∀ q, q < 8 → sizes q = if (lane q).toInt < 0 then -1 else many q) (hM : ∀ q, q < 8 → 0 ≤ (many q).toInt ∧ (many q).toInt ≤ 40) : ∀ (j0 k : Nat), k + j0 = 8 → xG Γ Ω 3 (xQ Γ Ω (some (.int (nI (rowsN lane 8)))) h (sz) 0 0) 4 [(2, .int (nI k)), (1, .int (nI (rowsN lane k))), (0, .ref (e + 1))] ([]) h sz 0 0 := by
  intro j0
  induction j0 with
  | zero =>
    intro k hk
    have ek : k = 8 := by omega
    refine xr_iload_n X 0 dX6_howMany_4 rfl rfl ?_
    refine xr_bipush (v := 8) X dX6_howMany_5 (by decide) ?_
    refine xr_icmp_ge (tgt := 27) X dX6_howMany_7 (by decide) (fun _ => ?_) (fun c_7 => absurd (by subst ek; decide) c_7)
    refine xr_iload_n X 1 dX6_howMany_27 rfl rfl ?_
    exact xr_iret X rfl (by rw [ek]) rfl rfl rfl rfl dX6_howMany_28
  | succ j0 ih =>
    intro k hk
    have lk : k < 8 := by omega
    refine xr_iload_n X 0 dX6_howMany_4 rfl rfl ?_
    refine xr_bipush (v := 8) X dX6_howMany_5 (by decide) ?_
    refine xr_icmp_ge (tgt := 27) X dX6_howMany_7 (by decide) (fun c_7 => absurd c_7 (by rw [i32_le, k32_8, nI_toInt (by omega)]; omega)) (fun _ => ?_)
    refine xr_aload_n X 2 dX6_howMany_10 rfl rfl ?_
    refine xr_iload_n X 0 dX6_howMany_11 rfl rfl ?_
    refine xr_callV X ho rfl kw_257 kw_250 kw_251 cw_X6_isMissing [.int (nI k)] (c_X6_isMissing ho hsizes hsz hM) rfl rfl rfl rfl rfl rfl rfl dX6_howMany_12 ?_
    refine xr_top (y := (xb (decide ((lane k).toInt < 0)))) (by congr 1; apply decide_eq_decide.mpr; rw [nI_toInt (by omega), nI_clamp (by omega)]; omega) ?_
    refine xr_if_ne (tgt := 21) X dX6_howMany_15 (by decide) (fun c_15 => ?_) (fun c_15 => ?_)
    · have c_15 := of_decide_eq_true (xb_1.mp c_15)
      (try simp (disch := omega) only [nI_toInt, i32_add, i32_sub, i32_mul, i64_addl, i32_l, k32_0, k64_0] at c_15)
      refine xr_iinc (v := nI (k + 1)) (lv' := [(2, .int (nI (k + 1))), (1, .int (nI (rowsN lane k))), (0, .ref (e + 1))]) X 0 dX6_howMany_21 rfl (nI_1 _) rfl rfl ?_
      refine xr_goto (tgt := 4) X dX6_howMany_24 (by decide) ?_
      refine xr_lve (lv' := [(2, .int (nI (k + 1))), (1, .int (nI (rowsN lane (k + 1)))), (0, .ref (e + 1))]) (by rw [rowsN, if_neg (by omega)]; rfl) ?_
      exact ih (k + 1) (by omega)
    · have c_15 := of_decide_eq_false (xb_0.mp c_15)
      (try simp (disch := omega) only [nI_toInt, i32_add, i32_sub, i32_mul, i64_addl, i32_l, k32_0, k64_0] at c_15)
      refine xr_iinc (v := nI ((rowsN lane k) + 1)) (lv' := [(1, .int (nI ((rowsN lane k) + 1))), (2, .int (nI k)), (0, .ref (e + 1))]) X 1 dX6_howMany_18 rfl (nI_1 _) rfl rfl ?_
      refine xr_iinc (v := nI (k + 1)) (lv' := [(2, .int (nI (k + 1))), (1, .int (nI ((rowsN lane k) + 1))), (0, .ref (e + 1))]) X 1 dX6_howMany_21 rfl (nI_1 _) rfl rfl ?_
      refine xr_goto (tgt := 4) X dX6_howMany_24 (by decide) ?_
      refine xr_lve (lv' := [(2, .int (nI (k + 1))), (1, .int (nI (rowsN lane (k + 1)))), (0, .ref (e + 1))]) (by rw [rowsN, if_pos (by omega)]) ?_
      exact ih (k + 1) (by omega)
set_option maxRecDepth 100000 in
theorem c_X6_howMany {l : Launch} {Ω : xW} {h : xH} {sz : Nat} {e : Nat} {lane many sizes : Nat → Int32} (ho : h (e + 1) = some (.inr (5, [.ref (e + 2), .ref (e + 11), .ref (e + 12)]))) (hsizes : h (e + 12) = some (.inl (.int, 8, .inl sizes))) (hsz : ∀ q, q < 8 → sizes q = if (lane q).toInt < 0 then -1 else many q) (hM : ∀ q, q < 8 → 0 ≤ (many q).toInt ∧ (many q).toInt ≤ 40) : xC l Ω yX6_howMany cX6_howMany 3 (some .int) 2 0 0 [.ref (e + 1)] h sz (some (.int (nI (rowsN lane 8)))) h (sz) := by
  refine xC_of (lv := [(0, .ref (e + 1))]) pn_X6 rfl rfl (fun Γ X hΓ hbs => ?_)
  have X : xX Γ Ω cX6_howMany 3 RX6 "howMany" (some .int) 2 70 0 0 := X
  subst hΓ
  refine xr_iconst (v := 0) X dX6_howMany_0 (by decide) ?_
  refine xr_istore_n (lv' := [(1, .int 0), (0, .ref (e + 1))]) X dX6_howMany_1 rfl rfl rfl ?_
  refine xr_iconst (v := 0) X dX6_howMany_2 (by decide) ?_
  refine xr_istore_n (lv' := [(2, .int 0), (1, .int 0), (0, .ref (e + 1))]) X dX6_howMany_3 rfl rfl rfl ?_
  exact l_X6_howMany X ho hsizes hsz hM 8 0 rfl
set_option maxRecDepth 100000 in
theorem c_X6_narrowed {l : Launch} {Ω : xW} {h : xH} {sz : Nat} {v l2 : Int32}  : xC l Ω yX6_narrowed cX6_narrowed 2 (some .int) 0 0 0 [.int v, .int l2] h sz (some (.int (nw l2 v))) h (sz) := by
  refine xC_of (lv := [(0, .int v), (1, .int l2)]) pn_X6 rfl rfl (fun Γ X hΓ hbs => ?_)
  have X : xX Γ Ω cX6_narrowed 2 RX6 "narrowed" (some .int) 0 0 0 0 := X
  subst hΓ
  refine xr_iload_n X 1 dX6_narrowed_0 rfl rfl ?_
  have hcase : l2.toInt = 0 ∨ l2.toInt = 1 ∨ (¬ l2.toInt = 0 ∧ ¬ l2.toInt = 1) := by omega
  rcases hcase with ew | ew | ew
  · refine xr_lookup (off := 27) (tgt := 28) X dX6_narrowed_1 (by decide) (by rw [ew]; decide) (by decide) ?_
    refine xr_iload_n X 0 dX6_narrowed_28 rfl rfl ?_
    refine xr_i2b X dX6_narrowed_29 ?_
    exact xr_iret X rfl (xv (if_pos (by omega))) rfl rfl rfl rfl dX6_narrowed_30
  · refine xr_lookup (off := 30) (tgt := 31) X dX6_narrowed_1 (by decide) (by rw [ew]; decide) (by decide) ?_
    refine xr_iload_n X 0 dX6_narrowed_31 rfl rfl ?_
    refine xr_i2s X dX6_narrowed_32 ?_
    exact xr_iret X rfl (xv ((if_neg (by omega)).trans (if_pos (by omega)))) rfl rfl rfl rfl dX6_narrowed_33
  · refine xr_lookup (off := 33) (tgt := 34) X dX6_narrowed_1 (by decide) (by simp [Op.lookupswitch.offset]; omega) (by decide) ?_
    refine xr_iload_n X 0 dX6_narrowed_34 rfl rfl ?_
    exact xr_iret X rfl (xv ((if_neg (by omega)).trans (if_neg (by omega)))) rfl rfl rfl rfl dX6_narrowed_35
set_option maxRecDepth 100000 in
theorem c_X6_put {l : Launch} {Ω : xW} {h : xH} {sz : Nat} {e : Nat} {lanes sizes : Nat → Int32} {it : Nat → Nat → Int32} {r : Int32} {l2 n : Int32} (ho : h (e + 1) = some (.inr (5, [.ref (e + 2), .ref (e + 11), .ref (e + 12)]))) (hlanes : h (e + 11) = some (.inl (.int, 8, .inl lanes))) (hsizes : h (e + 12) = some (.inl (.int, 8, .inl sizes))) (hout : h (e + 2) = some (.inl (.array .int, 8, .inr (.inr (.inr (.inr (xmo (e + 2) 8))))))) (hin : ∀ q, q < 8 → h (e + 3 + q) = some (.inl (.int, 40, .inl (it q)))) (h0 : 0 ≤ r.toInt) (h8 : r.toInt < 8) (hl : 0 ≤ l2.toInt ∧ l2.toInt < 3) (hn : 0 ≤ n.toInt ∧ n.toInt ≤ 40) : xC l Ω yX6_put cX6_put 4 none 1 0 0 [.ref (e + 1), .int r, .int l2, .int n] h sz (none) (xu (xu (xu h (e + 3 + r.toNatClampNeg) (.inl (.int, 40, .inl (ffl (it r.toNatClampNeg) 0 40)))) (e + 11) (.inl (.int, 8, .inl (upd lanes r.toNatClampNeg l2)))) (e + 12) (.inl (.int, 8, .inl (upd sizes r.toNatClampNeg n)))) (sz) := by
  refine xC_of (lv := [(0, .ref (e + 1)), (1, .int r), (2, .int l2), (3, .int n)]) pn_X6 rfl rfl (fun Γ X hΓ hbs => ?_)
  have X : xX Γ Ω cX6_put 4 RX6 "put" none 1 35 0 0 := X
  subst hΓ
  have tnr := (i32_tn (x := r) h0).2
  refine xr_aload_n X 0 dX6_put_0 rfl rfl ?_
  refine xr_iload_n X 1 dX6_put_1 rfl rfl ?_
  refine xr_callV X ho rfl kw_236 kw_219 kw_220 cw_X6_isPlace [.int r] c_X6_isPlace rfl rfl rfl rfl rfl rfl rfl dX6_put_2 ?_
  refine xr_if_eq (tgt := 50) X dX6_put_5 (by decide) (fun c_5 => absurd c_5 (xb_1.mpr (decide_eq_true (by omega)))) (fun _ => ?_)
  refine xr_aload_n X 0 dX6_put_8 rfl rfl ?_
  refine xr_iload_n X 2 dX6_put_9 rfl rfl ?_
  refine xr_callV X ho rfl kw_237 kw_223 kw_224 cw_X6_isLane [.int l2] c_X6_isLane rfl rfl rfl rfl rfl rfl rfl dX6_put_10 ?_
  refine xr_if_eq (tgt := 50) X dX6_put_13 (by decide) (fun c_13 => absurd c_13 (xb_1.mpr (decide_eq_true (by omega)))) (fun _ => ?_)
  refine xr_iload_n X 3 dX6_put_16 rfl rfl ?_
  refine xr_if_lt (tgt := 50) X dX6_put_17 (by decide) (fun c_17 => absurd c_17 (by rw [i32_lt, k32_0]; omega)) (fun _ => ?_)
  refine xr_iload_n X 3 dX6_put_20 rfl rfl ?_
  refine xr_bipush (v := 40) X dX6_put_21 (by decide) ?_
  refine xr_icmp_gt (tgt := 50) X dX6_put_23 (by decide) (fun c_23 => absurd c_23 (by rw [i32_lt, k32_40]; omega)) (fun _ => ?_)
  refine xr_aload_n X 0 dX6_put_26 rfl rfl ?_
  refine xr_get X fF_X6_13_5 ho rfl dX6_put_27 ?_
  refine xr_iload_n X 1 dX6_put_30 rfl rfl ?_
  refine xr_aald (j := r.toNatClampNeg) (v := .ref (e + 3 + r.toNatClampNeg)) X hout rfl (xI_c (by omega) (by omega)) (xmo_at (by omega)) dX6_put_31 ?_
  refine xr_iconst (v := 0) X dX6_put_32 (by decide) ?_
  refine xr_callS X kw_238 kw_239 cw_J7_fill_53178 [.ref (e + 3 + r.toNatClampNeg), .int 0] (c_J7_fill_53178 (hin r.toNatClampNeg (by omega)) (by omega)) rfl rfl rfl rfl rfl rfl rfl dX6_put_33 ?_
  refine xr_aload_n X 0 dX6_put_36 rfl rfl ?_
  refine xr_get X fF_X6_16_5 (xu_at (by omega) ho) rfl dX6_put_37 ?_
  refine xr_iload_n X 1 dX6_put_40 rfl rfl ?_
  refine xr_iload_n X 2 dX6_put_41 rfl rfl ?_
  refine xr_iast (j := r.toNatClampNeg) X (xu_at (by omega) hlanes) (xI_c (by omega) (by omega)) dX6_put_42 ?_
  refine xr_aload_n X 0 dX6_put_43 rfl rfl ?_
  refine xr_get X fF_X6_20_5 (xu_at (xne _ rfl) (xu_at (by omega) ho)) rfl dX6_put_44 ?_
  refine xr_iload_n X 1 dX6_put_47 rfl rfl ?_
  refine xr_iload_n X 3 dX6_put_48 rfl rfl ?_
  refine xr_iast (j := r.toNatClampNeg) X (xu_at (xne _ rfl) (xu_at (by omega) hsizes)) (xI_c (by omega) (by omega)) dX6_put_49 ?_
  exact xr_vret X rfl rfl rfl rfl rfl rfl dX6_put_50
set_option maxRecDepth 100000 in
theorem c_X6_take {l : Launch} {Ω : xW} {h : xH} {sz : Nat} {e : Nat} {lane many sizes : Nat → Int32} {r : Int32} (ho : h (e + 1) = some (.inr (5, [.ref (e + 2), .ref (e + 11), .ref (e + 12)]))) (hsizes : h (e + 12) = some (.inl (.int, 8, .inl sizes))) (hsz : ∀ q, q < 8 → sizes q = if (lane q).toInt < 0 then -1 else many q) (hM : ∀ q, q < 8 → 0 ≤ (many q).toInt ∧ (many q).toInt ≤ 40) (h0 : 0 ≤ r.toInt) (h8 : r.toInt < 8) (hpr : 0 ≤ (lane r.toNatClampNeg).toInt) : xC l Ω yX6_take cX6_take 3 (some .int) 2 0 0 [.ref (e + 1), .int r] h sz (some (.int (many r.toNatClampNeg))) (xu h (e + 12) (.inl (.int, 8, .inl (upd sizes r.toNatClampNeg (-1))))) (sz) := by
  refine xC_of (lv := [(0, .ref (e + 1)), (1, .int r)]) pn_X6 rfl rfl (fun Γ X hΓ hbs => ?_)
  have X : xX Γ Ω cX6_take 3 RX6 "take" (some .int) 2 70 0 0 := X
  subst hΓ
  have tnr := (i32_tn (x := r) h0).2
  have hsr := hsz r.toNatClampNeg (by omega)
  rw [if_neg (by omega)] at hsr
  refine xr_aload_n X 0 dX6_take_0 rfl rfl ?_
  refine xr_iload_n X 1 dX6_take_1 rfl rfl ?_
  refine xr_callV X ho rfl kw_257 kw_250 kw_251 cw_X6_isMissing [.int r] (c_X6_isMissing ho hsizes hsz hM) rfl rfl rfl rfl rfl rfl rfl dX6_take_2 ?_
  refine xr_if_eq (tgt := 10) X dX6_take_5 (by decide) (fun _ => ?_) (fun c_5 => absurd (xb_0.mpr (decide_eq_false (by omega))) c_5)
  refine xr_aload_n X 0 dX6_take_10 rfl rfl ?_
  refine xr_get X fF_X6_20_5 ho rfl dX6_take_11 ?_
  refine xr_iload_n X 1 dX6_take_14 rfl rfl ?_
  refine xr_iald (j := r.toNatClampNeg) X hsizes (xI_c (by omega) (by omega)) dX6_take_15 ?_
  refine xr_istore_n (lv' := [(2, .int (sizes r.toNatClampNeg)), (0, .ref (e + 1)), (1, .int r)]) X dX6_take_16 rfl rfl rfl ?_
  refine xr_aload_n X 1 dX6_take_17 rfl rfl ?_
  refine xr_get X fF_X6_20_5 ho rfl dX6_take_18 ?_
  refine xr_iload_n X 2 dX6_take_21 rfl rfl ?_
  refine xr_iconst (v := (-1)) X dX6_take_22 (by decide) ?_
  refine xr_iast (j := r.toNatClampNeg) X hsizes (xI_c (by omega) (by omega)) dX6_take_23 ?_
  refine xr_iload_n X 0 dX6_take_24 rfl rfl ?_
  exact xr_iret X rfl (xv hsr.symm) rfl rfl rfl rfl dX6_take_25
set_option maxRecDepth 100000 in
theorem c_X6_item {l : Launch} {Ω : xW} {h : xH} {sz : Nat} {e : Nat} {lane many sizes : Nat → Int32} {it : Nat → Nat → Int32} {r i : Int32} (ho : h (e + 1) = some (.inr (5, [.ref (e + 2), .ref (e + 11), .ref (e + 12)]))) (hsizes : h (e + 12) = some (.inl (.int, 8, .inl sizes))) (hout : h (e + 2) = some (.inl (.array .int, 8, .inr (.inr (.inr (.inr (xmo (e + 2) 8))))))) (hin : ∀ q, q < 8 → h (e + 3 + q) = some (.inl (.int, 40, .inl (it q)))) (hsz : ∀ q, q < 8 → sizes q = if (lane q).toInt < 0 then -1 else many q) (hM : ∀ q, q < 8 → 0 ≤ (many q).toInt ∧ (many q).toInt ≤ 40) (h0 : 0 ≤ r.toInt) (h8 : r.toInt < 8) (hre : 0 ≤ (lane r.toNatClampNeg).toInt ∧ 0 ≤ i.toInt ∧ i.toInt < (many r.toNatClampNeg).toInt) : xC l Ω yX6_item cX6_item 3 (some .int) 3 0 0 [.ref (e + 1), .int r, .int i] h sz (some (.int (it r.toNatClampNeg i.toNatClampNeg))) h (sz) := by
  refine xC_of (lv := [(0, .ref (e + 1)), (1, .int r), (2, .int i)]) pn_X6 rfl rfl (fun Γ X hΓ hbs => ?_)
  have X : xX Γ Ω cX6_item 3 RX6 "item" (some .int) 3 105 0 0 := X
  subst hΓ
  have tnr := (i32_tn (x := r) h0).2
  have tni := (i32_tn (x := i) (by omega)).2
  have hMr := hM r.toNatClampNeg (by omega)
  refine xr_aload_n X 0 dX6_item_0 rfl rfl ?_
  refine xr_iload_n X 1 dX6_item_1 rfl rfl ?_
  refine xr_iload_n X 2 dX6_item_2 rfl rfl ?_
  refine xr_iconst (v := 1) X dX6_item_3 (by decide) ?_
  refine xr_callV X ho rfl kw_262 kw_254 kw_255 cw_X6_reaches [.int r, .int i, .int 1] (c_X6_reaches ho hsizes hsz hM) rfl rfl rfl rfl rfl rfl rfl dX6_item_4 ?_
  refine xr_if_eq (tgt := 21) X dX6_item_7 (by decide) (fun c_7 => absurd c_7 (xb_1.mpr (decide_eq_true (by rw [k32_1]; omega)))) (fun _ => ?_)
  refine xr_aload_n X 0 dX6_item_10 rfl rfl ?_
  refine xr_get X fF_X6_13_5 ho rfl dX6_item_11 ?_
  refine xr_iload_n X 1 dX6_item_14 rfl rfl ?_
  refine xr_aald (j := r.toNatClampNeg) (v := .ref (e + 3 + r.toNatClampNeg)) X hout rfl (xI_c (by omega) (by omega)) (xmo_at (by omega)) dX6_item_15 ?_
  refine xr_iload_n X 2 dX6_item_16 rfl rfl ?_
  refine xr_iald (j := i.toNatClampNeg) X (hin r.toNatClampNeg (by omega)) (xI_c (by omega) (by omega)) dX6_item_17 ?_
  refine xr_goto (tgt := 23) X dX6_item_18 (by decide) ?_
  exact xr_iret X rfl rfl rfl rfl rfl rfl dX6_item_23
set_option maxRecDepth 100000 in
theorem c_X6_write {l : Launch} {Ω : xW} {h : xH} {sz : Nat} {e : Nat} {lane many lanes sizes : Nat → Int32} {it : Nat → Nat → Int32} {r i : Int32} {v : Int32} (ho : h (e + 1) = some (.inr (5, [.ref (e + 2), .ref (e + 11), .ref (e + 12)]))) (hsizes : h (e + 12) = some (.inl (.int, 8, .inl sizes))) (hout : h (e + 2) = some (.inl (.array .int, 8, .inr (.inr (.inr (.inr (xmo (e + 2) 8))))))) (hin : ∀ q, q < 8 → h (e + 3 + q) = some (.inl (.int, 40, .inl (it q)))) (hsz : ∀ q, q < 8 → sizes q = if (lane q).toInt < 0 then -1 else many q) (hM : ∀ q, q < 8 → 0 ≤ (many q).toInt ∧ (many q).toInt ≤ 40) (h0 : 0 ≤ r.toInt) (h8 : r.toInt < 8) (hre : 0 ≤ (lane r.toNatClampNeg).toInt ∧ 0 ≤ i.toInt ∧ i.toInt < (many r.toNatClampNeg).toInt) (hlanes : h (e + 11) = some (.inl (.int, 8, .inl lanes))) : xC l Ω yX6_write cX6_write 4 (some .int) 3 0 0 [.ref (e + 1), .int r, .int i, .int v] h sz (some (.int (nw (lanes r.toNatClampNeg) v))) (xu h (e + 3 + r.toNatClampNeg) (.inl (.int, 40, .inl (upd (it r.toNatClampNeg) i.toNatClampNeg (nw (lanes r.toNatClampNeg) v))))) (sz) := by
  refine xC_of (lv := [(0, .ref (e + 1)), (1, .int r), (2, .int i), (3, .int v)]) pn_X6 rfl rfl (fun Γ X hΓ hbs => ?_)
  have X : xX Γ Ω cX6_write 4 RX6 "write" (some .int) 3 105 0 0 := X
  subst hΓ
  have tnr := (i32_tn (x := r) h0).2
  have tni := (i32_tn (x := i) (by omega)).2
  have hMr := hM r.toNatClampNeg (by omega)
  refine xr_aload_n X 0 dX6_write_0 rfl rfl ?_
  refine xr_iload_n X 1 dX6_write_1 rfl rfl ?_
  refine xr_iload_n X 2 dX6_write_2 rfl rfl ?_
  refine xr_iconst (v := 1) X dX6_write_3 (by decide) ?_
  refine xr_callV X ho rfl kw_262 kw_254 kw_255 cw_X6_reaches [.int r, .int i, .int 1] (c_X6_reaches ho hsizes hsz hM) rfl rfl rfl rfl rfl rfl rfl dX6_write_4 ?_
  refine xr_if_ne (tgt := 13) X dX6_write_7 (by decide) (fun _ => ?_) (fun c_7 => absurd c_7 (xb_1.mpr (decide_eq_true (by rw [k32_1]; omega))))
  refine xr_aload_n X 0 dX6_write_13 rfl rfl ?_
  refine xr_get X fF_X6_13_5 ho rfl dX6_write_14 ?_
  refine xr_iload_n X 1 dX6_write_17 rfl rfl ?_
  refine xr_aald (j := r.toNatClampNeg) (v := .ref (e + 3 + r.toNatClampNeg)) X hout rfl (xI_c (by omega) (by omega)) (xmo_at (by omega)) dX6_write_18 ?_
  refine xr_iload_n X 2 dX6_write_19 rfl rfl ?_
  refine xr_iload_n X 3 dX6_write_20 rfl rfl ?_
  refine xr_aload_n X 0 dX6_write_21 rfl rfl ?_
  refine xr_get X fF_X6_16_5 ho rfl dX6_write_22 ?_
  refine xr_iload_n X 1 dX6_write_25 rfl rfl ?_
  refine xr_iald (j := r.toNatClampNeg) X hlanes (xI_c (by omega) (by omega)) dX6_write_26 ?_
  refine xr_callS X kw_264 kw_265 cw_X6_narrowed [.int v, .int (lanes r.toNatClampNeg)] c_X6_narrowed rfl rfl rfl rfl rfl rfl rfl dX6_write_27 ?_
  refine xr_iast (j := i.toNatClampNeg) X (hin r.toNatClampNeg (by omega)) (xI_c (by omega) (by omega)) dX6_write_30 ?_
  refine xr_aload_n X 0 dX6_write_31 rfl rfl ?_
  refine xr_get X fF_X6_13_5 (xu_at (by omega) ho) rfl dX6_write_32 ?_
  refine xr_iload_n X 1 dX6_write_35 rfl rfl ?_
  refine xr_aald (j := r.toNatClampNeg) (v := .ref (e + 3 + r.toNatClampNeg)) X (xu_at (by omega) hout) rfl (xI_c (by omega) (by omega)) (xmo_at (by omega)) dX6_write_36 ?_
  refine xr_iload_n X 2 dX6_write_37 rfl rfl ?_
  refine xr_iald (j := i.toNatClampNeg) X (xu_s _ _ _) (xI_c (by omega) (by omega)) dX6_write_38 ?_
  refine xr_top (y := (nw (lanes r.toNatClampNeg) v)) pk_us ?_
  exact xr_iret X rfl rfl rfl rfl rfl rfl dX6_write_39
set_option maxRecDepth 100000 in
theorem c_X6_carry {l : Launch} {Ω : xW} {h : xH} {sz : Nat} {e : Nat} {lane many sizes : Nat → Int32} {it : Nat → Nat → Int32} {a i b j n : Int32} (ho : h (e + 1) = some (.inr (5, [.ref (e + 2), .ref (e + 11), .ref (e + 12)]))) (hsizes : h (e + 12) = some (.inl (.int, 8, .inl sizes))) (hout : h (e + 2) = some (.inl (.array .int, 8, .inr (.inr (.inr (.inr (xmo (e + 2) 8))))))) (hin : ∀ q, q < 8 → h (e + 3 + q) = some (.inl (.int, 40, .inl (it q)))) (hsz : ∀ q, q < 8 → sizes q = if (lane q).toInt < 0 then -1 else many q) (hM : ∀ q, q < 8 → 0 ≤ (many q).toInt ∧ (many q).toInt ≤ 40) (ha : 0 ≤ a.toInt ∧ a.toInt < 8) (hb : 0 ≤ b.toInt ∧ b.toInt < 8) (hla : 0 ≤ (lane a.toNatClampNeg).toInt) (hlb : 0 ≤ (lane b.toNatClampNeg).toInt) (hc : 0 ≤ i.toInt ∧ 0 ≤ j.toInt ∧ 0 ≤ n.toInt ∧ i.toInt + n.toInt ≤ (many a.toNatClampNeg).toInt ∧ j.toInt + n.toInt ≤ (many b.toNatClampNeg).toInt) (hab : ¬ a.toNatClampNeg = b.toNatClampNeg) : xC l Ω yX6_carry cX6_carry 6 none 3 0 0 [.ref (e + 1), .int a, .int i, .int b, .int j, .int n] h sz (none) (xu h (e + 3 + b.toNatClampNeg) (.inl (.int, 40, .inl (va_cpy (it a.toNatClampNeg) (it b.toNatClampNeg) i.toNatClampNeg j.toNatClampNeg n.toNatClampNeg)))) (sz) := by
  refine xC_of (lv := [(0, .ref (e + 1)), (1, .int a), (2, .int i), (3, .int b), (4, .int j), (5, .int n)]) pn_X6 rfl rfl (fun Γ X hΓ hbs => ?_)
  have X : xX Γ Ω cX6_carry 6 RX6 "carry" none 3 105 0 0 := X
  subst hΓ
  have tna := (i32_tn (x := a) (by omega)).2
  have tni := (i32_tn (x := i) (by omega)).2
  have tnb := (i32_tn (x := b) (by omega)).2
  have tnj := (i32_tn (x := j) (by omega)).2
  have tnn := (i32_tn (x := n) (by omega)).2
  have hMa := hM a.toNatClampNeg (by omega)
  have hMb := hM b.toNatClampNeg (by omega)
  refine xr_aload_n X 0 dX6_carry_0 rfl rfl ?_
  refine xr_iload_n X 1 dX6_carry_1 rfl rfl ?_
  refine xr_iload_n X 2 dX6_carry_2 rfl rfl ?_
  refine xr_iload X 5 dX6_carry_3 rfl ?_
  refine xr_callV X ho rfl kw_262 kw_254 kw_255 cw_X6_reaches [.int a, .int i, .int n] (c_X6_reaches ho hsizes hsz hM) rfl rfl rfl rfl rfl rfl rfl dX6_carry_5 ?_
  refine xr_if_eq (tgt := 43) X dX6_carry_8 (by decide) (fun c_8 => absurd c_8 (xb_1.mpr (decide_eq_true (by omega)))) (fun _ => ?_)
  refine xr_aload_n X 0 dX6_carry_11 rfl rfl ?_
  refine xr_iload_n X 3 dX6_carry_12 rfl rfl ?_
  refine xr_iload X 4 dX6_carry_13 rfl ?_
  refine xr_iload X 5 dX6_carry_15 rfl ?_
  refine xr_callV X ho rfl kw_262 kw_254 kw_255 cw_X6_reaches [.int b, .int j, .int n] (c_X6_reaches ho hsizes hsz hM) rfl rfl rfl rfl rfl rfl rfl dX6_carry_17 ?_
  refine xr_if_eq (tgt := 43) X dX6_carry_20 (by decide) (fun c_20 => absurd c_20 (xb_1.mpr (decide_eq_true (by omega)))) (fun _ => ?_)
  refine xr_aload_n X 0 dX6_carry_23 rfl rfl ?_
  refine xr_get X fF_X6_13_5 ho rfl dX6_carry_24 ?_
  refine xr_iload_n X 1 dX6_carry_27 rfl rfl ?_
  refine xr_aald (j := a.toNatClampNeg) (v := .ref (e + 3 + a.toNatClampNeg)) X hout rfl (xI_c (by omega) (by omega)) (xmo_at (by omega)) dX6_carry_28 ?_
  refine xr_iload_n X 2 dX6_carry_29 rfl rfl ?_
  refine xr_aload_n X 0 dX6_carry_30 rfl rfl ?_
  refine xr_get X fF_X6_13_5 ho rfl dX6_carry_31 ?_
  refine xr_iload_n X 3 dX6_carry_34 rfl rfl ?_
  refine xr_aald (j := b.toNatClampNeg) (v := .ref (e + 3 + b.toNatClampNeg)) X hout rfl (xI_c (by omega) (by omega)) (xmo_at (by omega)) dX6_carry_35 ?_
  refine xr_iload X 4 dX6_carry_36 rfl ?_
  refine xr_iload X 5 dX6_carry_38 rfl ?_
  refine xr_acopy X kw_279 kw_281 kw_280 kw_61 (hin a.toNatClampNeg (by omega)) (hin b.toNatClampNeg (by omega)) (by omega) (by omega) (by omega) (by omega) (by omega) rfl rfl rfl dX6_carry_40 ?_
  refine xr_heap (h' := (xu h (e + 3 + b.toNatClampNeg) (.inl (.int, 40, .inl (va_cpy (it a.toNatClampNeg) (it b.toNatClampNeg) i.toNatClampNeg j.toNatClampNeg n.toNatClampNeg))))) (by rfl) ?_
  exact xr_vret X rfl rfl rfl rfl rfl rfl dX6_carry_43
set_option maxRecDepth 100000 in
theorem c_X6_carryS {l : Launch} {Ω : xW} {h : xH} {sz : Nat} {e : Nat} {lane many sizes : Nat → Int32} {it : Nat → Nat → Int32} {a i b j n : Int32} (ho : h (e + 1) = some (.inr (5, [.ref (e + 2), .ref (e + 11), .ref (e + 12)]))) (hsizes : h (e + 12) = some (.inl (.int, 8, .inl sizes))) (hout : h (e + 2) = some (.inl (.array .int, 8, .inr (.inr (.inr (.inr (xmo (e + 2) 8))))))) (hin : ∀ q, q < 8 → h (e + 3 + q) = some (.inl (.int, 40, .inl (it q)))) (hsz : ∀ q, q < 8 → sizes q = if (lane q).toInt < 0 then -1 else many q) (hM : ∀ q, q < 8 → 0 ≤ (many q).toInt ∧ (many q).toInt ≤ 40) (ha : 0 ≤ a.toInt ∧ a.toInt < 8) (hb : 0 ≤ b.toInt ∧ b.toInt < 8) (hla : 0 ≤ (lane a.toNatClampNeg).toInt) (hlb : 0 ≤ (lane b.toNatClampNeg).toInt) (hc : 0 ≤ i.toInt ∧ 0 ≤ j.toInt ∧ 0 ≤ n.toInt ∧ i.toInt + n.toInt ≤ (many a.toNatClampNeg).toInt ∧ j.toInt + n.toInt ≤ (many b.toNatClampNeg).toInt) (hab : b = a) : xC l Ω yX6_carry cX6_carry 6 none 3 0 0 [.ref (e + 1), .int a, .int i, .int b, .int j, .int n] h sz (none) (xu h (e + 3 + a.toNatClampNeg) (.inl (.int, 40, .inl (va_cpy (it a.toNatClampNeg) (it a.toNatClampNeg) i.toNatClampNeg j.toNatClampNeg n.toNatClampNeg)))) (sz) := by
  refine xC_of (lv := [(0, .ref (e + 1)), (1, .int a), (2, .int i), (3, .int b), (4, .int j), (5, .int n)]) pn_X6 rfl rfl (fun Γ X hΓ hbs => ?_)
  have X : xX Γ Ω cX6_carry 6 RX6 "carry" none 3 105 0 0 := X
  subst hΓ
  have tna := (i32_tn (x := a) (by omega)).2
  have tni := (i32_tn (x := i) (by omega)).2
  have tnb := (i32_tn (x := b) (by omega)).2
  have tnj := (i32_tn (x := j) (by omega)).2
  have tnn := (i32_tn (x := n) (by omega)).2
  have hMa := hM a.toNatClampNeg (by omega)
  have hMb := hM b.toNatClampNeg (by omega)
  refine xr_aload_n X 0 dX6_carry_0 rfl rfl ?_
  refine xr_iload_n X 1 dX6_carry_1 rfl rfl ?_
  refine xr_iload_n X 2 dX6_carry_2 rfl rfl ?_
  refine xr_iload X 5 dX6_carry_3 rfl ?_
  refine xr_callV X ho rfl kw_262 kw_254 kw_255 cw_X6_reaches [.int a, .int i, .int n] (c_X6_reaches ho hsizes hsz hM) rfl rfl rfl rfl rfl rfl rfl dX6_carry_5 ?_
  refine xr_if_eq (tgt := 43) X dX6_carry_8 (by decide) (fun c_8 => absurd c_8 (xb_1.mpr (decide_eq_true (by omega)))) (fun _ => ?_)
  refine xr_aload_n X 0 dX6_carry_11 rfl rfl ?_
  refine xr_iload_n X 3 dX6_carry_12 rfl rfl ?_
  refine xr_iload X 4 dX6_carry_13 rfl ?_
  refine xr_iload X 5 dX6_carry_15 rfl ?_
  refine xr_callV X ho rfl kw_262 kw_254 kw_255 cw_X6_reaches [.int b, .int j, .int n] (c_X6_reaches ho hsizes hsz hM) rfl rfl rfl rfl rfl rfl rfl dX6_carry_17 ?_
  refine xr_if_eq (tgt := 43) X dX6_carry_20 (by decide) (fun c_20 => absurd c_20 (xb_1.mpr (decide_eq_true (by omega)))) (fun _ => ?_)
  refine xr_aload_n X 0 dX6_carry_23 rfl rfl ?_
  refine xr_get X fF_X6_13_5 ho rfl dX6_carry_24 ?_
  refine xr_iload_n X 1 dX6_carry_27 rfl rfl ?_
  refine xr_aald (j := a.toNatClampNeg) (v := .ref (e + 3 + a.toNatClampNeg)) X hout rfl (xI_c (by omega) (by omega)) (xmo_at (by omega)) dX6_carry_28 ?_
  refine xr_iload_n X 2 dX6_carry_29 rfl rfl ?_
  refine xr_aload_n X 0 dX6_carry_30 rfl rfl ?_
  refine xr_get X fF_X6_13_5 ho rfl dX6_carry_31 ?_
  refine xr_iload_n X 3 dX6_carry_34 rfl rfl ?_
  refine xr_aald (j := a.toNatClampNeg) (v := .ref (e + 3 + a.toNatClampNeg)) X hout rfl (by rw [hab]; exact xI_c (by omega) (by omega)) (xmo_at (by omega)) dX6_carry_35 ?_
  refine xr_iload X 4 dX6_carry_36 rfl ?_
  refine xr_iload X 5 dX6_carry_38 rfl ?_
  refine xr_acopy X kw_279 kw_281 kw_280 kw_61 (hin a.toNatClampNeg (by omega)) (hin a.toNatClampNeg (by omega)) (by omega) (by omega) (by omega) (by omega) (by omega) rfl rfl rfl dX6_carry_40 ?_
  refine xr_heap (h' := (xu h (e + 3 + a.toNatClampNeg) (.inl (.int, 40, .inl (va_cpy (it a.toNatClampNeg) (it a.toNatClampNeg) i.toNatClampNeg j.toNatClampNeg n.toNatClampNeg))))) (by rfl) ?_
  exact xr_vret X rfl rfl rfl rfl rfl rfl dX6_carry_43
set_option maxRecDepth 100000 in
theorem c_X9_clear {l : Launch} {Ω : xW} {h : xH} {sz : Nat} {e : Nat} {n : Int32} (hto : h (e + 28) = some (.inr (8, [.ref (e + 29), .int (n)]))) : xC l Ω yX9_clear cX9_clear 1 none 0 0 0 [.ref (e + 28)] h sz (none) (xu h (e + 28) (.inr (8, [.ref (e + 29), .int (0)]))) (sz) := by
  refine xC_of (lv := [(0, .ref (e + 28))]) pn_X9 rfl rfl (fun Γ X hΓ hbs => ?_)
  have X : xX Γ Ω cX9_clear 1 RX9 "clear" none 0 0 0 0 := X
  subst hΓ
  refine xr_aload_n X 0 dX9_clear_0 rfl rfl ?_
  refine xr_iconst (v := 0) X dX9_clear_1 (by decide) ?_
  refine xr_put (fs' := [.ref (e + 29), .int 0]) X (fW_X9_15_8 _) hto rfl rfl rfl rfl dX9_clear_2 ?_
  exact xr_vret X rfl rfl rfl rfl rfl rfl dX9_clear_5
set_option maxRecDepth 100000 in
theorem c_X9_at {l : Launch} {Ω : xW} {h : xH} {sz : Nat} {e : Nat} {x : trS} {i : Int32} (hto : h (e + 28) = some (.inr (8, [.ref (e + 29), .int (nI x.2)]))) (htl : h (e + 29) = some (.inl (.int, 16, .inl x.1))) (hx : x.2 ≤ 16) : xC l Ω yX9_at cX9_at 2 (some .int) 0 0 0 [.ref (e + 28), .int i] h sz (some (.int (if 0 ≤ i.toInt ∧ i.toInt < x.2 then x.1 i.toNatClampNeg else -1000000))) h (sz) := by
  refine xC_of (lv := [(0, .ref (e + 28)), (1, .int i)]) pn_X9 rfl rfl (fun Γ X hΓ hbs => ?_)
  have X : xX Γ Ω cX9_at 2 RX9 "at" (some .int) 0 0 0 0 := X
  subst hΓ
  refine xr_iload_n X 1 dX9_at_0 rfl rfl ?_
  refine xr_if_lt (tgt := 21) X dX9_at_1 (by decide) (fun c_1 => ?_) (fun c_1 => ?_)
  · have c_1 := i32_lt.mp c_1
    (try simp (disch := omega) only [nI_toInt, i32_add, i32_sub, i32_mul, i64_addl, i32_l, k32_0, k64_0] at c_1)
    refine xr_ldc (v := (-1000000)) X kw_922 dX9_at_21 ?_
    refine xr_goto (tgt := 32) X dX9_at_23 (by decide) ?_
    exact xr_iret X rfl (xv (if_neg (by omega))) rfl rfl rfl rfl dX9_at_32
  · have c_1 := mt i32_lt.mpr c_1
    (try simp (disch := omega) only [nI_toInt, i32_add, i32_sub, i32_mul, i64_addl, i32_l, k32_0, k64_0] at c_1)
    refine xr_iload_n X 1 dX9_at_4 rfl rfl ?_
    refine xr_aload_n X 0 dX9_at_5 rfl rfl ?_
    refine xr_get X fF_X9_15_8 hto rfl dX9_at_6 ?_
    refine xr_icmp_ge (tgt := 21) X dX9_at_9 (by decide) (fun c_9 => ?_) (fun c_9 => ?_)
    · have c_9 := i32_le.mp c_9
      (try simp (disch := omega) only [nI_toInt, i32_add, i32_sub, i32_mul, i64_addl, i32_l] at c_9)
      refine xr_ldc (v := (-1000000)) X kw_922 dX9_at_21 ?_
      refine xr_goto (tgt := 32) X dX9_at_23 (by decide) ?_
      exact xr_iret X rfl (xv (if_neg (by omega))) rfl rfl rfl rfl dX9_at_32
    · have c_9 := mt i32_le.mpr c_9
      (try simp (disch := omega) only [nI_toInt, i32_add, i32_sub, i32_mul, i64_addl, i32_l] at c_9)
      refine xr_iload_n X 1 dX9_at_12 rfl rfl ?_
      refine xr_aload_n X 0 dX9_at_13 rfl rfl ?_
      refine xr_get X fF_X9_11_8 hto rfl dX9_at_14 ?_
      refine xr_alen (v := 16) X htl (show nI 16 = 16 by decide) dX9_at_17 ?_
      refine xr_icmp_lt (tgt := 26) X dX9_at_18 (by decide) (fun c_18 => ?_) (fun c_18 => ?_)
      · have c_18 := i32_lt.mp c_18
        (try simp (disch := omega) only [nI_toInt, i32_add, i32_sub, i32_mul, i64_addl, i32_l, k32_16] at c_18)
        refine xr_aload_n X 0 dX9_at_26 rfl rfl ?_
        refine xr_get X fF_X9_11_8 hto rfl dX9_at_27 ?_
        refine xr_iload_n X 1 dX9_at_30 rfl rfl ?_
        refine xr_iald (j := i.toNatClampNeg) X htl (xI_c (by omega) (by omega)) dX9_at_31 ?_
        exact xr_iret X rfl (xv (if_pos (by omega))) rfl rfl rfl rfl dX9_at_32
      · have c_18 := mt i32_lt.mpr c_18
        (try simp (disch := omega) only [nI_toInt, i32_add, i32_sub, i32_mul, i64_addl, i32_l, k32_16] at c_18)
        refine xr_ldc (v := (-1000000)) X kw_922 dX9_at_21 ?_
        refine xr_goto (tgt := 32) X dX9_at_23 (by decide) ?_
        exact xr_iret X rfl (xv (if_neg (by omega))) rfl rfl rfl rfl dX9_at_32
set_option maxRecDepth 100000 in
theorem c_X9_leave {l : Launch} {Ω : xW} {h : xH} {sz : Nat} {e : Nat} {x : trS} {v : Int32} (hto : h (e + 28) = some (.inr (8, [.ref (e + 29), .int (nI x.2)]))) (htl : h (e + 29) = some (.inl (.int, 16, .inl x.1))) (hx : x.2 ≤ 16) : xC l Ω yX9_leave cX9_leave 2 none 0 0 0 [.ref (e + 28), .int v] h sz (none) (xu (xu h (e + 28) (.inr (8, [.ref (e + 29), .int (nI (bg x v).2)]))) (e + 29) (.inl (.int, 16, .inl ((bg x v).1)))) (sz) := by
  refine xC_of (lv := [(0, .ref (e + 28)), (1, .int v)]) pn_X9 rfl rfl (fun Γ X hΓ hbs => ?_)
  have X : xX Γ Ω cX9_leave 2 RX9 "leave" none 0 0 0 0 := X
  subst hΓ
  refine xr_aload_n X 0 dX9_leave_0 rfl rfl ?_
  refine xr_get X fF_X9_15_8 hto rfl dX9_leave_1 ?_
  refine xr_aload_n X 0 dX9_leave_4 rfl rfl ?_
  refine xr_get X fF_X9_11_8 hto rfl dX9_leave_5 ?_
  refine xr_alen (v := 16) X htl (show nI 16 = 16 by decide) dX9_leave_8 ?_
  refine xr_icmp_ge (tgt := 32) X dX9_leave_9 (by decide) (fun c_9 => ?_) (fun c_9 => ?_)
  · have c_9 := i32_le.mp c_9
    (try simp (disch := omega) only [nI_toInt, i32_add, i32_sub, i32_mul, i64_addl, i32_l, k32_16] at c_9)
    exact xr_vret X rfl rfl (by rw [bg, if_neg (by omega), xu_id (h := h) hto, xu_id htl]) rfl rfl rfl dX9_leave_32
  · have c_9 := mt i32_le.mpr c_9
    (try simp (disch := omega) only [nI_toInt, i32_add, i32_sub, i32_mul, i64_addl, i32_l, k32_16] at c_9)
    refine xr_aload_n X 0 dX9_leave_12 rfl rfl ?_
    refine xr_get X fF_X9_11_8 hto rfl dX9_leave_13 ?_
    refine xr_aload_n X 0 dX9_leave_16 rfl rfl ?_
    refine xr_get X fF_X9_15_8 hto rfl dX9_leave_17 ?_
    refine xr_iload_n X 1 dX9_leave_20 rfl rfl ?_
    refine xr_iast (j := x.2) X htl (xI_n (by omega) (by omega)) dX9_leave_21 ?_
    refine xr_aload_n X 0 dX9_leave_22 rfl rfl ?_
    refine xr_dup X dX9_leave_23 rfl ?_
    refine xr_get X fF_X9_15_8 (xu_at (xne _ rfl) hto) rfl dX9_leave_24 ?_
    refine xr_iconst (v := 1) X dX9_leave_27 (by decide) ?_
    refine xr_iadd X dX9_leave_28 ?_
    refine xr_top (y := (nI (x.2 + 1))) (nI_1 _) ?_
    refine xr_put (fs' := [.ref (e + 29), .int (nI (x.2 + 1))]) X (fW_X9_15_8 _) (xu_at (xne _ rfl) hto) rfl rfl rfl rfl dX9_leave_29 ?_
    exact xr_vret X rfl rfl (by rw [bg, if_pos (show x.2 < 16 by omega)]; exact xu_comm _ (xne _ rfl) _ _) rfl rfl rfl dX9_leave_32
