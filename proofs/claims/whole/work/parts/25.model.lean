set_option maxRecDepth 100000 in
theorem c_X12_byteAt {l : Launch} {Ω : xW} {h : xH} {sz : Nat} {m : Nat} {st ac tp la cu tk sa ti fa fl tr : Int32} {tape : Nat → Int32} {t : Nat → Nat} {L : Nat} {k : Nat} (hm : h m = some (mO m st ac tp la (nI L) cu tk sa ti fa fl tr)) (htape : h (m + 7) = some (.inl (.int, 300, .inl tape))) (hB : ∀ q, q < L → tape q = nI (t q)) (ht : ∀ q, q < L → t q < 256) (hL : L ≤ 300) (hk : k ≤ 300) : xC l Ω yX12_byteAt cX12_byteAt 2 (some .int) 0 0 0 [.ref m, .int (nI k)] h sz (some (.int (byF t L k))) h (sz) := by
  refine xC_of (lv := [(0, .ref m), (1, .int (nI k))]) pn_X12 rfl rfl (fun Γ X hΓ hbs => ?_)
  have X : xX Γ Ω cX12_byteAt 2 RX12 "byteAt" (some .int) 0 0 0 0 := X
  subst hΓ
  refine xr_iload_n X 1 dX12_byteAt_0 rfl rfl ?_
  refine xr_aload_n X 0 dX12_byteAt_1 rfl rfl ?_
  refine xr_get X fF_X12_77_11 hm rfl dX12_byteAt_2 ?_
  refine xr_icmp_ge (tgt := 17) X dX12_byteAt_5 (by decide) (fun c_5 => ?_) (fun c_5 => ?_)
  · have c_5 := i32_le.mp c_5
    (try simp (disch := omega) only [nI_toInt, i32_add, i32_sub, i32_mul, i64_addl, i32_l] at c_5)
    refine xr_ldc (v := (-1000000)) X kw_1072 dX12_byteAt_17 ?_
    exact xr_iret X rfl (xv (if_neg (by omega))) rfl rfl rfl rfl dX12_byteAt_19
  · have c_5 := mt i32_le.mpr c_5
    (try simp (disch := omega) only [nI_toInt, i32_add, i32_sub, i32_mul, i64_addl, i32_l] at c_5)
    refine xr_aload_n X 0 dX12_byteAt_8 rfl rfl ?_
    refine xr_get X fF_X12_28_11 hm rfl dX12_byteAt_9 ?_
    refine xr_iload_n X 1 dX12_byteAt_12 rfl rfl ?_
    refine xr_iald (j := k) X htape (xI_n (by omega) (by omega)) dX12_byteAt_13 ?_
    refine xr_goto (tgt := 19) X dX12_byteAt_14 (by decide) ?_
    exact xr_iret X rfl (xv ((if_pos (by omega)).trans (hB k (by omega)).symm)) rfl rfl rfl rfl dX12_byteAt_19
set_option maxRecDepth 100000 in
theorem c_X12_isLetter {l : Launch} {Ω : xW} {h : xH} {sz : Nat} {c : Int32}  : xC l Ω yX12_isLetter cX12_isLetter 1 (some .boolean) 0 0 0 [.int c] h sz (some (.int (xb (decide (97 ≤ c.toInt ∧ c.toInt ≤ 122))))) h (sz) := by
  refine xC_of (lv := [(0, .int c)]) pn_X12 rfl rfl (fun Γ X hΓ hbs => ?_)
  have X : xX Γ Ω cX12_isLetter 1 RX12 "isLetter" (some .boolean) 0 0 0 0 := X
  subst hΓ
  refine xr_iload_n X 0 dX12_isLetter_0 rfl rfl ?_
  refine xr_bipush (v := 97) X dX12_isLetter_1 (by decide) ?_
  refine xr_icmp_lt (tgt := 16) X dX12_isLetter_3 (by decide) (fun c_3 => ?_) (fun c_3 => ?_)
  · have c_3 := i32_lt.mp c_3
    (try simp (disch := omega) only [nI_toInt, i32_add, i32_sub, i32_mul, i64_addl, i32_l, k32_97] at c_3)
    refine xr_iconst (v := 0) X dX12_isLetter_16 (by decide) ?_
    exact xr_zret X rfl rfl (by first | exact xbT (by omega) | exact xbF (by omega)) rfl rfl rfl rfl dX12_isLetter_17
  · have c_3 := mt i32_lt.mpr c_3
    (try simp (disch := omega) only [nI_toInt, i32_add, i32_sub, i32_mul, i64_addl, i32_l, k32_97] at c_3)
    refine xr_iload_n X 0 dX12_isLetter_6 rfl rfl ?_
    refine xr_bipush (v := 122) X dX12_isLetter_7 (by decide) ?_
    refine xr_icmp_gt (tgt := 16) X dX12_isLetter_9 (by decide) (fun c_9 => ?_) (fun c_9 => ?_)
    · have c_9 := i32_lt.mp c_9
      (try simp (disch := omega) only [nI_toInt, i32_add, i32_sub, i32_mul, i64_addl, i32_l, k32_122] at c_9)
      refine xr_iconst (v := 0) X dX12_isLetter_16 (by decide) ?_
      exact xr_zret X rfl rfl (by first | exact xbT (by omega) | exact xbF (by omega)) rfl rfl rfl rfl dX12_isLetter_17
    · have c_9 := mt i32_lt.mpr c_9
      (try simp (disch := omega) only [nI_toInt, i32_add, i32_sub, i32_mul, i64_addl, i32_l, k32_122] at c_9)
      refine xr_iconst (v := 1) X dX12_isLetter_12 (by decide) ?_
      refine xr_goto (tgt := 17) X dX12_isLetter_13 (by decide) ?_
      exact xr_zret X rfl rfl (by first | exact xbT (by omega) | exact xbF (by omega)) rfl rfl rfl rfl dX12_isLetter_17
set_option maxRecDepth 100000 in
theorem c_X12_isFigure {l : Launch} {Ω : xW} {h : xH} {sz : Nat} {c : Int32}  : xC l Ω yX12_isFigure cX12_isFigure 1 (some .boolean) 0 0 0 [.int c] h sz (some (.int (xb (decide (48 ≤ c.toInt ∧ c.toInt ≤ 57))))) h (sz) := by
  refine xC_of (lv := [(0, .int c)]) pn_X12 rfl rfl (fun Γ X hΓ hbs => ?_)
  have X : xX Γ Ω cX12_isFigure 1 RX12 "isFigure" (some .boolean) 0 0 0 0 := X
  subst hΓ
  refine xr_iload_n X 0 dX12_isFigure_0 rfl rfl ?_
  refine xr_bipush (v := 48) X dX12_isFigure_1 (by decide) ?_
  refine xr_icmp_lt (tgt := 16) X dX12_isFigure_3 (by decide) (fun c_3 => ?_) (fun c_3 => ?_)
  · have c_3 := i32_lt.mp c_3
    (try simp (disch := omega) only [nI_toInt, i32_add, i32_sub, i32_mul, i64_addl, i32_l, k32_48] at c_3)
    refine xr_iconst (v := 0) X dX12_isFigure_16 (by decide) ?_
    exact xr_zret X rfl rfl (by first | exact xbT (by omega) | exact xbF (by omega)) rfl rfl rfl rfl dX12_isFigure_17
  · have c_3 := mt i32_lt.mpr c_3
    (try simp (disch := omega) only [nI_toInt, i32_add, i32_sub, i32_mul, i64_addl, i32_l, k32_48] at c_3)
    refine xr_iload_n X 0 dX12_isFigure_6 rfl rfl ?_
    refine xr_bipush (v := 57) X dX12_isFigure_7 (by decide) ?_
    refine xr_icmp_gt (tgt := 16) X dX12_isFigure_9 (by decide) (fun c_9 => ?_) (fun c_9 => ?_)
    · have c_9 := i32_lt.mp c_9
      (try simp (disch := omega) only [nI_toInt, i32_add, i32_sub, i32_mul, i64_addl, i32_l, k32_57] at c_9)
      refine xr_iconst (v := 0) X dX12_isFigure_16 (by decide) ?_
      exact xr_zret X rfl rfl (by first | exact xbT (by omega) | exact xbF (by omega)) rfl rfl rfl rfl dX12_isFigure_17
    · have c_9 := mt i32_lt.mpr c_9
      (try simp (disch := omega) only [nI_toInt, i32_add, i32_sub, i32_mul, i64_addl, i32_l, k32_57] at c_9)
      refine xr_iconst (v := 1) X dX12_isFigure_12 (by decide) ?_
      refine xr_goto (tgt := 17) X dX12_isFigure_13 (by decide) ?_
      exact xr_zret X rfl rfl (by first | exact xbT (by omega) | exact xbF (by omega)) rfl rfl rfl rfl dX12_isFigure_17
set_option maxRecDepth 100000 in
theorem l_X12_nxA {Γ : xΓ} {Ω : xW} {h : xH} {sz : Nat} (X : xX Γ Ω cX12_next 2 RX12 "next" none 1 35 0 0) {m : Nat} {st ac tp la tk sa ti fa fl tr : Int32} {tape : Nat → Int32} {t : Nat → Nat} {L : Nat} {c0 : Int32} {p s9 : Nat} {Q : State → Prop} (hm : h m = some (mO m st ac tp la (nI L) c0 tk sa ti fa fl tr)) (htape : h (m + 7) = some (.inl (.int, 300, .inl tape))) (hB : ∀ q, q < L → tape q = nI (t q)) (ht : ∀ q, q < L → t q < 256) (hL : L ≤ 300) (hs : s9 ≤ L) (hq : bkP t L s9 = false) (hr : ∀ r, p ≤ r → r < s9 → bkP t L r = true) (K : xG Γ Ω 2 Q 39 [(0, .ref m)] [] (xu h m (.inr (11, [.int 0, .int st, .ref (m + 1), .ref (m + 2), .ref (m + 3), .ref (m + 4), .ref (m + 5), .ref (m + 6), .int ac, .ref (m + 7), .int tp, .int la, .int (nI L), .int (nI s9), .int tk, .int sa, .int ti, .int fa, .int fl, .ref (m + 8), .ref (m + 9), .ref (m + 10), .ref (m + 11), .int tr]))) sz 0 0) : ∀ (j0 k : Nat), k + j0 = s9 → p ≤ k → xG Γ Ω 2 (Q) 0 [(0, .ref m)] ([]) (xu h m (.inr (11, [.int 0, .int st, .ref (m + 1), .ref (m + 2), .ref (m + 3), .ref (m + 4), .ref (m + 5), .ref (m + 6), .int ac, .ref (m + 7), .int tp, .int la, .int (nI L), .int (nI k), .int tk, .int sa, .int ti, .int fa, .int fl, .ref (m + 8), .ref (m + 9), .ref (m + 10), .ref (m + 11), .int tr]))) sz 0 0 := by
  intro j0
  induction j0 with
  | zero =>
    intro k hk hinv
    have ek : k = s9 := by omega
    have bv := byF_v (k := k) ht
    have hq2 := of_decide_eq_false hq
    rw [← ek] at hq2
    refine xr_aload_n X 0 dX12_next_0 rfl rfl ?_
    refine xr_aload_n X 0 dX12_next_1 rfl rfl ?_
    refine xr_get X fF_X12_81_11 (xu_s _ _ _) rfl dX12_next_2 ?_
    refine xr_callV X (xu_s _ _ _) rfl kw_1068 kw_1070 kw_24 cw_X12_byteAt [.int (nI k)] (c_X12_byteAt (t := t) (xu_s _ _ _) (xu_at (xn1 _ rfl) htape) hB ht hL (by omega)) rfl rfl rfl rfl rfl rfl rfl dX12_next_5 ?_
    refine xr_bipush (v := 32) X dX12_next_8 (by decide) ?_
    refine xr_icmp_eq (tgt := 26) X dX12_next_10 (by decide) (fun c_10 => ?_) (fun c_10 => ?_)
    · have c_10 := i32_eq.mp c_10
      (try simp (disch := omega) only [nI_toInt, i32_add, i32_sub, i32_mul, i64_addl, i32_l, k32_32] at c_10)
      exact absurd (show k < L ∧ (t k = 32 ∨ t k = 10) by omega) hq2
    · have c_10 := mt i32_eq.mpr c_10
      (try simp (disch := omega) only [nI_toInt, i32_add, i32_sub, i32_mul, i64_addl, i32_l, k32_32] at c_10)
      refine xr_aload_n X 0 dX12_next_13 rfl rfl ?_
      refine xr_aload_n X 0 dX12_next_14 rfl rfl ?_
      refine xr_get X fF_X12_81_11 (xu_s _ _ _) rfl dX12_next_15 ?_
      refine xr_callV X (xu_s _ _ _) rfl kw_1068 kw_1070 kw_24 cw_X12_byteAt [.int (nI k)] (c_X12_byteAt (t := t) (xu_s _ _ _) (xu_at (xn1 _ rfl) htape) hB ht hL (by omega)) rfl rfl rfl rfl rfl rfl rfl dX12_next_18 ?_
      refine xr_bipush (v := 10) X dX12_next_21 (by decide) ?_
      refine xr_icmp_ne (tgt := 39) X dX12_next_23 (by decide) (fun c_23 => ?_) (fun c_23 => ?_)
      · have c_23 := mt i32_eq.mpr c_23
        (try simp (disch := omega) only [nI_toInt, i32_add, i32_sub, i32_mul, i64_addl, i32_l, k32_10, k64_10] at c_23)
        rw [ek]
        exact K
      · have c_23 := i32_eq.mp c_23
        (try simp (disch := omega) only [nI_toInt, i32_add, i32_sub, i32_mul, i64_addl, i32_l, k32_10, k64_10] at c_23)
        exact absurd (show k < L ∧ (t k = 32 ∨ t k = 10) by omega) hq2
  | succ j0 ih =>
    intro k hk hinv
    have lk : k < s9 := by omega
    have bv := byF_v (k := k) ht
    have hr2 := of_decide_eq_true (hr k hinv lk)
    refine xr_aload_n X 0 dX12_next_0 rfl rfl ?_
    refine xr_aload_n X 0 dX12_next_1 rfl rfl ?_
    refine xr_get X fF_X12_81_11 (xu_s _ _ _) rfl dX12_next_2 ?_
    refine xr_callV X (xu_s _ _ _) rfl kw_1068 kw_1070 kw_24 cw_X12_byteAt [.int (nI k)] (c_X12_byteAt (t := t) (xu_s _ _ _) (xu_at (xn1 _ rfl) htape) hB ht hL (by omega)) rfl rfl rfl rfl rfl rfl rfl dX12_next_5 ?_
    refine xr_bipush (v := 32) X dX12_next_8 (by decide) ?_
    refine xr_icmp_eq (tgt := 26) X dX12_next_10 (by decide) (fun c_10 => ?_) (fun c_10 => ?_)
    · have c_10 := i32_eq.mp c_10
      (try simp (disch := omega) only [nI_toInt, i32_add, i32_sub, i32_mul, i64_addl, i32_l, k32_32] at c_10)
      refine xr_aload_n X 0 dX12_next_26 rfl rfl ?_
      refine xr_dup X dX12_next_27 rfl ?_
      refine xr_get X fF_X12_81_11 (xu_s _ _ _) rfl dX12_next_28 ?_
      refine xr_iconst (v := 1) X dX12_next_31 (by decide) ?_
      refine xr_iadd X dX12_next_32 ?_
      refine xr_top (y := (nI (k + 1))) (nI_1 k) ?_
      refine xr_put (fs' := [.int 0, .int st, .ref (m + 1), .ref (m + 2), .ref (m + 3), .ref (m + 4), .ref (m + 5), .ref (m + 6), .int ac, .ref (m + 7), .int tp, .int la, .int (nI L), .int (nI (k + 1)), .int tk, .int sa, .int ti, .int fa, .int fl, .ref (m + 8), .ref (m + 9), .ref (m + 10), .ref (m + 11), .int tr]) X (fW_X12_81_11 _) (xu_s _ _ _) rfl rfl rfl rfl dX12_next_33 ?_
      refine xr_heap (h' := (xu h m (.inr (11, [.int 0, .int st, .ref (m + 1), .ref (m + 2), .ref (m + 3), .ref (m + 4), .ref (m + 5), .ref (m + 6), .int ac, .ref (m + 7), .int tp, .int la, .int (nI L), .int (nI (k + 1)), .int tk, .int sa, .int ti, .int fa, .int fl, .ref (m + 8), .ref (m + 9), .ref (m + 10), .ref (m + 11), .int tr])))) (xu_uu _ _ _ _) ?_
      refine xr_goto (tgt := 0) X dX12_next_36 (by decide) ?_
      exact ih (k + 1) (by omega) (by omega)
    · have c_10 := mt i32_eq.mpr c_10
      (try simp (disch := omega) only [nI_toInt, i32_add, i32_sub, i32_mul, i64_addl, i32_l, k32_32] at c_10)
      refine xr_aload_n X 0 dX12_next_13 rfl rfl ?_
      refine xr_aload_n X 0 dX12_next_14 rfl rfl ?_
      refine xr_get X fF_X12_81_11 (xu_s _ _ _) rfl dX12_next_15 ?_
      refine xr_callV X (xu_s _ _ _) rfl kw_1068 kw_1070 kw_24 cw_X12_byteAt [.int (nI k)] (c_X12_byteAt (t := t) (xu_s _ _ _) (xu_at (xn1 _ rfl) htape) hB ht hL (by omega)) rfl rfl rfl rfl rfl rfl rfl dX12_next_18 ?_
      refine xr_bipush (v := 10) X dX12_next_21 (by decide) ?_
      refine xr_icmp_ne (tgt := 39) X dX12_next_23 (by decide) (fun c_23 => ?_) (fun c_23 => ?_)
      · have c_23 := mt i32_eq.mpr c_23
        (try simp (disch := omega) only [nI_toInt, i32_add, i32_sub, i32_mul, i64_addl, i32_l, k32_10, k64_10] at c_23)
        exact absurd hr2 (by omega)
      · have c_23 := i32_eq.mp c_23
        (try simp (disch := omega) only [nI_toInt, i32_add, i32_sub, i32_mul, i64_addl, i32_l, k32_10, k64_10] at c_23)
        refine xr_aload_n X 0 dX12_next_26 rfl rfl ?_
        refine xr_dup X dX12_next_27 rfl ?_
        refine xr_get X fF_X12_81_11 (xu_s _ _ _) rfl dX12_next_28 ?_
        refine xr_iconst (v := 1) X dX12_next_31 (by decide) ?_
        refine xr_iadd X dX12_next_32 ?_
        refine xr_top (y := (nI (k + 1))) (nI_1 k) ?_
        refine xr_put (fs' := [.int 0, .int st, .ref (m + 1), .ref (m + 2), .ref (m + 3), .ref (m + 4), .ref (m + 5), .ref (m + 6), .int ac, .ref (m + 7), .int tp, .int la, .int (nI L), .int (nI (k + 1)), .int tk, .int sa, .int ti, .int fa, .int fl, .ref (m + 8), .ref (m + 9), .ref (m + 10), .ref (m + 11), .int tr]) X (fW_X12_81_11 _) (xu_s _ _ _) rfl rfl rfl rfl dX12_next_33 ?_
        refine xr_heap (h' := (xu h m (.inr (11, [.int 0, .int st, .ref (m + 1), .ref (m + 2), .ref (m + 3), .ref (m + 4), .ref (m + 5), .ref (m + 6), .int ac, .ref (m + 7), .int tp, .int la, .int (nI L), .int (nI (k + 1)), .int tk, .int sa, .int ti, .int fa, .int fl, .ref (m + 8), .ref (m + 9), .ref (m + 10), .ref (m + 11), .int tr])))) (xu_uu _ _ _ _) ?_
        refine xr_goto (tgt := 0) X dX12_next_36 (by decide) ?_
        exact ih (k + 1) (by omega) (by omega)
set_option maxRecDepth 100000 in
theorem l_X12_nxB {Γ : xΓ} {Ω : xW} {h : xH} {sz : Nat} (X : xX Γ Ω cX12_next 2 RX12 "next" none 1 35 0 0) {m : Nat} {st ac tp la tk sa ti fa fl tr : Int32} {tape : Nat → Int32} {t : Nat → Nat} {L : Nat} {c0 : Int32} {p s9 : Nat} {c sa9 : Int32} {Q : State → Prop} (hm : h m = some (mO m st ac tp la (nI L) c0 tk sa ti fa fl tr)) (htape : h (m + 7) = some (.inl (.int, 300, .inl tape))) (hB : ∀ q, q < L → tape q = nI (t q)) (ht : ∀ q, q < L → t q < 256) (hL : L ≤ 300) (hs : s9 ≤ L) (hq : ltP t L s9 = false) (hr : ∀ r, p ≤ r → r < s9 → ltP t L r = true) (K : xG Γ Ω 2 Q 104 [(1, .int c), (0, .ref m)] [] (xu h m (.inr (11, [.int 0, .int st, .ref (m + 1), .ref (m + 2), .ref (m + 3), .ref (m + 4), .ref (m + 5), .ref (m + 6), .int ac, .ref (m + 7), .int tp, .int la, .int (nI L), .int (nI s9), .int tk, .int sa9, .int ti, .int fa, .int fl, .ref (m + 8), .ref (m + 9), .ref (m + 10), .ref (m + 11), .int tr]))) sz 0 0) : ∀ (j0 k : Nat), k + j0 = s9 → p ≤ k → xG Γ Ω 2 (Q) 77 [(1, .int c), (0, .ref m)] ([]) (xu h m (.inr (11, [.int 0, .int st, .ref (m + 1), .ref (m + 2), .ref (m + 3), .ref (m + 4), .ref (m + 5), .ref (m + 6), .int ac, .ref (m + 7), .int tp, .int la, .int (nI L), .int (nI k), .int tk, .int sa9, .int ti, .int fa, .int fl, .ref (m + 8), .ref (m + 9), .ref (m + 10), .ref (m + 11), .int tr]))) sz 0 0 := by
  intro j0
  induction j0 with
  | zero =>
    intro k hk hinv
    have ek : k = s9 := by omega
    refine xr_aload_n X 1 dX12_next_77 rfl rfl ?_
    refine xr_aload_n X 1 dX12_next_78 rfl rfl ?_
    refine xr_get X fF_X12_81_11 (xu_s _ _ _) rfl dX12_next_79 ?_
    refine xr_callV X (xu_s _ _ _) rfl kw_1068 kw_1070 kw_24 cw_X12_byteAt [.int (nI k)] (c_X12_byteAt (t := t) (xu_s _ _ _) (xu_at (xn1 _ rfl) htape) hB ht hL (by omega)) rfl rfl rfl rfl rfl rfl rfl dX12_next_82 ?_
    refine xr_callS X kw_1073 kw_1074 cw_X12_isLetter [.int (byF t L k)] c_X12_isLetter rfl rfl rfl rfl rfl rfl rfl dX12_next_85 ?_
    refine xr_top (y := (xb (ltP t L k))) (by rw [by_lt ht]) ?_
    refine xr_if_eq (tgt := 104) X dX12_next_88 (by decide) (fun _ => ?_) (fun c_88 => absurd (xb_0.mpr (by rw [ek]; exact hq)) c_88)
    rw [ek]
    exact K
  | succ j0 ih =>
    intro k hk hinv
    have lk : k < s9 := by omega
    refine xr_aload_n X 1 dX12_next_77 rfl rfl ?_
    refine xr_aload_n X 1 dX12_next_78 rfl rfl ?_
    refine xr_get X fF_X12_81_11 (xu_s _ _ _) rfl dX12_next_79 ?_
    refine xr_callV X (xu_s _ _ _) rfl kw_1068 kw_1070 kw_24 cw_X12_byteAt [.int (nI k)] (c_X12_byteAt (t := t) (xu_s _ _ _) (xu_at (xn1 _ rfl) htape) hB ht hL (by omega)) rfl rfl rfl rfl rfl rfl rfl dX12_next_82 ?_
    refine xr_callS X kw_1073 kw_1074 cw_X12_isLetter [.int (byF t L k)] c_X12_isLetter rfl rfl rfl rfl rfl rfl rfl dX12_next_85 ?_
    refine xr_top (y := (xb (ltP t L k))) (by rw [by_lt ht]) ?_
    refine xr_if_eq (tgt := 104) X dX12_next_88 (by decide) (fun c_88 => absurd c_88 (xb_1.mpr (hr k hinv lk))) (fun _ => ?_)
    refine xr_aload_n X 1 dX12_next_91 rfl rfl ?_
    refine xr_dup X dX12_next_92 rfl ?_
    refine xr_get X fF_X12_81_11 (xu_s _ _ _) rfl dX12_next_93 ?_
    refine xr_iconst (v := 1) X dX12_next_96 (by decide) ?_
    refine xr_iadd X dX12_next_97 ?_
    refine xr_top (y := (nI (k + 1))) (nI_1 k) ?_
    refine xr_put (fs' := [.int 0, .int st, .ref (m + 1), .ref (m + 2), .ref (m + 3), .ref (m + 4), .ref (m + 5), .ref (m + 6), .int ac, .ref (m + 7), .int tp, .int la, .int (nI L), .int (nI (k + 1)), .int tk, .int sa9, .int ti, .int fa, .int fl, .ref (m + 8), .ref (m + 9), .ref (m + 10), .ref (m + 11), .int tr]) X (fW_X12_81_11 _) (xu_s _ _ _) rfl rfl rfl rfl dX12_next_98 ?_
    refine xr_heap (h' := (xu h m (.inr (11, [.int 0, .int st, .ref (m + 1), .ref (m + 2), .ref (m + 3), .ref (m + 4), .ref (m + 5), .ref (m + 6), .int ac, .ref (m + 7), .int tp, .int la, .int (nI L), .int (nI (k + 1)), .int tk, .int sa9, .int ti, .int fa, .int fl, .ref (m + 8), .ref (m + 9), .ref (m + 10), .ref (m + 11), .int tr])))) (xu_uu _ _ _ _) ?_
    refine xr_goto (tgt := 77) X dX12_next_101 (by decide) ?_
    exact ih (k + 1) (by omega) (by omega)
set_option maxRecDepth 100000 in
theorem l_X12_nxC {Γ : xΓ} {Ω : xW} {h : xH} {sz : Nat} (X : xX Γ Ω cX12_next 2 RX12 "next" none 1 35 0 0) {m : Nat} {st ac tp la tk sa ti fa fl tr : Int32} {tape : Nat → Int32} {t : Nat → Nat} {L : Nat} {c0 : Int32} {p s9 : Nat} {c sa9 : Int32} {Q : State → Prop} (hm : h m = some (mO m st ac tp la (nI L) c0 tk sa ti fa fl tr)) (htape : h (m + 7) = some (.inl (.int, 300, .inl tape))) (hB : ∀ q, q < L → tape q = nI (t q)) (ht : ∀ q, q < L → t q < 256) (hL : L ≤ 300) (hs : s9 ≤ L) (hq : fgP t L s9 = false) (hr : ∀ r, p ≤ r → r < s9 → fgP t L r = true) (K : xG Γ Ω 2 Q 146 [(1, .int c), (0, .ref m)] [] (xu h m (.inr (11, [.int 0, .int st, .ref (m + 1), .ref (m + 2), .ref (m + 3), .ref (m + 4), .ref (m + 5), .ref (m + 6), .int ac, .ref (m + 7), .int tp, .int la, .int (nI L), .int (nI s9), .int tk, .int sa9, .int ti, .int fa, .int fl, .ref (m + 8), .ref (m + 9), .ref (m + 10), .ref (m + 11), .int tr]))) sz 0 0) : ∀ (j0 k : Nat), k + j0 = s9 → p ≤ k → xG Γ Ω 2 (Q) 119 [(1, .int c), (0, .ref m)] ([]) (xu h m (.inr (11, [.int 0, .int st, .ref (m + 1), .ref (m + 2), .ref (m + 3), .ref (m + 4), .ref (m + 5), .ref (m + 6), .int ac, .ref (m + 7), .int tp, .int la, .int (nI L), .int (nI k), .int tk, .int sa9, .int ti, .int fa, .int fl, .ref (m + 8), .ref (m + 9), .ref (m + 10), .ref (m + 11), .int tr]))) sz 0 0 := by
  intro j0
  induction j0 with
  | zero =>
    intro k hk hinv
    have ek : k = s9 := by omega
    refine xr_aload_n X 1 dX12_next_119 rfl rfl ?_
    refine xr_aload_n X 1 dX12_next_120 rfl rfl ?_
    refine xr_get X fF_X12_81_11 (xu_s _ _ _) rfl dX12_next_121 ?_
    refine xr_callV X (xu_s _ _ _) rfl kw_1068 kw_1070 kw_24 cw_X12_byteAt [.int (nI k)] (c_X12_byteAt (t := t) (xu_s _ _ _) (xu_at (xn1 _ rfl) htape) hB ht hL (by omega)) rfl rfl rfl rfl rfl rfl rfl dX12_next_124 ?_
    refine xr_callS X kw_1076 kw_1077 cw_X12_isFigure [.int (byF t L k)] c_X12_isFigure rfl rfl rfl rfl rfl rfl rfl dX12_next_127 ?_
    refine xr_top (y := (xb (fgP t L k))) (by rw [by_fg ht]) ?_
    refine xr_if_eq (tgt := 146) X dX12_next_130 (by decide) (fun _ => ?_) (fun c_130 => absurd (xb_0.mpr (by rw [ek]; exact hq)) c_130)
    rw [ek]
    exact K
  | succ j0 ih =>
    intro k hk hinv
    have lk : k < s9 := by omega
    refine xr_aload_n X 1 dX12_next_119 rfl rfl ?_
    refine xr_aload_n X 1 dX12_next_120 rfl rfl ?_
    refine xr_get X fF_X12_81_11 (xu_s _ _ _) rfl dX12_next_121 ?_
    refine xr_callV X (xu_s _ _ _) rfl kw_1068 kw_1070 kw_24 cw_X12_byteAt [.int (nI k)] (c_X12_byteAt (t := t) (xu_s _ _ _) (xu_at (xn1 _ rfl) htape) hB ht hL (by omega)) rfl rfl rfl rfl rfl rfl rfl dX12_next_124 ?_
    refine xr_callS X kw_1076 kw_1077 cw_X12_isFigure [.int (byF t L k)] c_X12_isFigure rfl rfl rfl rfl rfl rfl rfl dX12_next_127 ?_
    refine xr_top (y := (xb (fgP t L k))) (by rw [by_fg ht]) ?_
    refine xr_if_eq (tgt := 146) X dX12_next_130 (by decide) (fun c_130 => absurd c_130 (xb_1.mpr (hr k hinv lk))) (fun _ => ?_)
    refine xr_aload_n X 1 dX12_next_133 rfl rfl ?_
    refine xr_dup X dX12_next_134 rfl ?_
    refine xr_get X fF_X12_81_11 (xu_s _ _ _) rfl dX12_next_135 ?_
    refine xr_iconst (v := 1) X dX12_next_138 (by decide) ?_
    refine xr_iadd X dX12_next_139 ?_
    refine xr_top (y := (nI (k + 1))) (nI_1 k) ?_
    refine xr_put (fs' := [.int 0, .int st, .ref (m + 1), .ref (m + 2), .ref (m + 3), .ref (m + 4), .ref (m + 5), .ref (m + 6), .int ac, .ref (m + 7), .int tp, .int la, .int (nI L), .int (nI (k + 1)), .int tk, .int sa9, .int ti, .int fa, .int fl, .ref (m + 8), .ref (m + 9), .ref (m + 10), .ref (m + 11), .int tr]) X (fW_X12_81_11 _) (xu_s _ _ _) rfl rfl rfl rfl dX12_next_140 ?_
    refine xr_heap (h' := (xu h m (.inr (11, [.int 0, .int st, .ref (m + 1), .ref (m + 2), .ref (m + 3), .ref (m + 4), .ref (m + 5), .ref (m + 6), .int ac, .ref (m + 7), .int tp, .int la, .int (nI L), .int (nI (k + 1)), .int tk, .int sa9, .int ti, .int fa, .int fl, .ref (m + 8), .ref (m + 9), .ref (m + 10), .ref (m + 11), .int tr])))) (xu_uu _ _ _ _) ?_
    refine xr_goto (tgt := 119) X dX12_next_143 (by decide) ?_
    exact ih (k + 1) (by omega) (by omega)
set_option maxRecDepth 100000 in
theorem c_X12_next {l : Launch} {Ω : xW} {h : xH} {sz : Nat} {m : Nat} {st ac tp la tk sa ti fa fl tr : Int32} {tape : Nat → Int32} {t : Nat → Nat} {L : Nat} {p : Nat} (hm : h m = some (mO m st ac tp la (nI L) (nI p) tk sa ti fa fl tr)) (htape : h (m + 7) = some (.inl (.int, 300, .inl tape))) (hB : ∀ q, q < L → tape q = nI (t q)) (ht : ∀ q, q < L → t q < 256) (hL : L ≤ 300) (hp : p ≤ L) : xC l Ω yX12_next cX12_next 2 none 1 0 0 [.ref m] h sz (none) (xu h m (.inr (11, [.int 0, .int st, .ref (m + 1), .ref (m + 2), .ref (m + 3), .ref (m + 4), .ref (m + 5), .ref (m + 6), .int ac, .ref (m + 7), .int tp, .int la, .int (nI L), .int (nI (tE t L p)), .int (nI ((tK t L p + 1) % 5)), .int (nI (tS t L p)), .int (nI (tE t L p)), .int fa, .int fl, .ref (m + 8), .ref (m + 9), .ref (m + 10), .ref (m + 11), .int tr]))) (sz) := by
  refine xC_of (lv := [(0, .ref m)]) pn_X12 rfl rfl (fun Γ X hΓ hbs => ?_)
  have X : xX Γ Ω cX12_next 2 RX12 "next" none 1 35 0 0 := X
  subst hΓ
  obtain ⟨s1, s2, s3, s4⟩ := tS_spec (t := t) hp
  have bv := byF_v (k := (tS t L p)) ht
  refine xr_heap (h' := (xu h m (.inr (11, [.int 0, .int st, .ref (m + 1), .ref (m + 2), .ref (m + 3), .ref (m + 4), .ref (m + 5), .ref (m + 6), .int ac, .ref (m + 7), .int tp, .int la, .int (nI L), .int (nI p), .int tk, .int sa, .int ti, .int fa, .int fl, .ref (m + 8), .ref (m + 9), .ref (m + 10), .ref (m + 11), .int tr])))) (xu_id hm).symm ?_
  refine l_X12_nxA X hm htape hB ht hL s2 s3 s4 ?_ ((tS t L p) - p) p (by omega) (Nat.le_refl p)
  refine xr_aload_n X 0 dX12_next_39 rfl rfl ?_
  refine xr_aload_n X 0 dX12_next_40 rfl rfl ?_
  refine xr_get X fF_X12_81_11 (xu_s _ _ _) rfl dX12_next_41 ?_
  refine xr_put (fs' := [.int 0, .int st, .ref (m + 1), .ref (m + 2), .ref (m + 3), .ref (m + 4), .ref (m + 5), .ref (m + 6), .int ac, .ref (m + 7), .int tp, .int la, .int (nI L), .int (nI (tS t L p)), .int tk, .int (nI (tS t L p)), .int ti, .int fa, .int fl, .ref (m + 8), .ref (m + 9), .ref (m + 10), .ref (m + 11), .int tr]) X (fW_X12_87_11 _) (xu_s _ _ _) rfl rfl rfl rfl dX12_next_44 ?_
  refine xr_heap (h' := (xu h m (.inr (11, [.int 0, .int st, .ref (m + 1), .ref (m + 2), .ref (m + 3), .ref (m + 4), .ref (m + 5), .ref (m + 6), .int ac, .ref (m + 7), .int tp, .int la, .int (nI L), .int (nI (tS t L p)), .int tk, .int (nI (tS t L p)), .int ti, .int fa, .int fl, .ref (m + 8), .ref (m + 9), .ref (m + 10), .ref (m + 11), .int tr])))) (xu_uu _ _ _ _) ?_
  refine xr_aload_n X 0 dX12_next_47 rfl rfl ?_
  refine xr_aload_n X 0 dX12_next_48 rfl rfl ?_
  refine xr_get X fF_X12_81_11 (xu_s _ _ _) rfl dX12_next_49 ?_
  refine xr_callV X (xu_s _ _ _) rfl kw_1068 kw_1070 kw_24 cw_X12_byteAt [.int (nI (tS t L p))] (c_X12_byteAt (t := t) (xu_s _ _ _) (xu_at (xn1 _ rfl) htape) hB ht hL (by omega)) rfl rfl rfl rfl rfl rfl rfl dX12_next_52 ?_
  refine xr_istore_n (lv' := [(1, .int (byF t L (tS t L p))), (0, .ref m)]) X dX12_next_55 rfl rfl rfl ?_
  refine xr_iload_n X 0 dX12_next_56 rfl rfl ?_
  refine xr_ldc (v := (-1000000)) X kw_1072 dX12_next_57 ?_
  refine xr_icmp_ne (tgt := 70) X dX12_next_59 (by decide) (fun c_59 => ?_) (fun c_59 => ?_)
  · have c_59 := mt i32_eq.mpr c_59
    (try simp (disch := omega) only [nI_toInt, i32_add, i32_sub, i32_mul, i64_addl, i32_l, k32_m1000000] at c_59)
    have hsl : (tS t L p) < L := by omega
    refine xr_iload_n X 0 dX12_next_70 rfl rfl ?_
    refine xr_callS X kw_1073 kw_1074 cw_X12_isLetter [.int (byF t L (tS t L p))] c_X12_isLetter rfl rfl rfl rfl rfl rfl rfl dX12_next_71 ?_
    refine xr_top (y := (xb (ltP t L (tS t L p)))) (by rw [by_lt ht]) ?_
    refine xr_if_eq (tgt := 112) X dX12_next_74 (by decide) (fun c_74 => ?_) (fun c_74 => ?_)
    · have c_74 := xb_0.mp c_74
      refine xr_iload_n X 0 dX12_next_112 rfl rfl ?_
      refine xr_callS X kw_1076 kw_1077 cw_X12_isFigure [.int (byF t L (tS t L p))] c_X12_isFigure rfl rfl rfl rfl rfl rfl rfl dX12_next_113 ?_
      refine xr_top (y := (xb (fgP t L (tS t L p)))) (by rw [by_fg ht]) ?_
      refine xr_if_eq (tgt := 171) X dX12_next_116 (by decide) (fun c_116 => ?_) (fun c_116 => ?_)
      · have c_116 := xb_0.mp c_116
        refine xr_aload_n X 1 dX12_next_171 rfl rfl ?_
        refine xr_dup X dX12_next_172 rfl ?_
        refine xr_get X fF_X12_81_11 (xu_s _ _ _) rfl dX12_next_173 ?_
        refine xr_iconst (v := 1) X dX12_next_176 (by decide) ?_
        refine xr_iadd X dX12_next_177 ?_
        refine xr_top (y := (nI ((tS t L p) + 1))) (nI_1 _) ?_
        refine xr_put (fs' := [.int 0, .int st, .ref (m + 1), .ref (m + 2), .ref (m + 3), .ref (m + 4), .ref (m + 5), .ref (m + 6), .int ac, .ref (m + 7), .int tp, .int la, .int (nI L), .int (nI ((tS t L p) + 1)), .int tk, .int (nI (tS t L p)), .int ti, .int fa, .int fl, .ref (m + 8), .ref (m + 9), .ref (m + 10), .ref (m + 11), .int tr]) X (fW_X12_81_11 _) (xu_s _ _ _) rfl rfl rfl rfl dX12_next_178 ?_
        refine xr_heap (h' := (xu h m (.inr (11, [.int 0, .int st, .ref (m + 1), .ref (m + 2), .ref (m + 3), .ref (m + 4), .ref (m + 5), .ref (m + 6), .int ac, .ref (m + 7), .int tp, .int la, .int (nI L), .int (nI ((tS t L p) + 1)), .int tk, .int (nI (tS t L p)), .int ti, .int fa, .int fl, .ref (m + 8), .ref (m + 9), .ref (m + 10), .ref (m + 11), .int tr])))) (xu_uu _ _ _ _) ?_
        refine xr_aload_n X 1 dX12_next_181 rfl rfl ?_
        refine xr_iload_n X 0 dX12_next_182 rfl rfl ?_
        refine xr_bipush (v := 59) X dX12_next_183 (by decide) ?_
        refine xr_icmp_ne (tgt := 192) X dX12_next_185 (by decide) (fun c_185 => ?_) (fun c_185 => ?_)
        · have c_185 := mt i32_eq.mpr c_185
          (try simp (disch := omega) only [nI_toInt, i32_add, i32_sub, i32_mul, i64_addl, i32_l, k32_59] at c_185)
          refine xr_iconst (v := 0) X dX12_next_192 (by decide) ?_
          refine xr_put (fs' := [.int 0, .int st, .ref (m + 1), .ref (m + 2), .ref (m + 3), .ref (m + 4), .ref (m + 5), .ref (m + 6), .int ac, .ref (m + 7), .int tp, .int la, .int (nI L), .int (nI ((tS t L p) + 1)), .int 0, .int (nI (tS t L p)), .int ti, .int fa, .int fl, .ref (m + 8), .ref (m + 9), .ref (m + 10), .ref (m + 11), .int tr]) X (fW_X12_90_11 _) (xu_s _ _ _) rfl rfl rfl rfl dX12_next_193 ?_
          refine xr_heap (h' := (xu h m (.inr (11, [.int 0, .int st, .ref (m + 1), .ref (m + 2), .ref (m + 3), .ref (m + 4), .ref (m + 5), .ref (m + 6), .int ac, .ref (m + 7), .int tp, .int la, .int (nI L), .int (nI ((tS t L p) + 1)), .int 0, .int (nI (tS t L p)), .int ti, .int fa, .int fl, .ref (m + 8), .ref (m + 9), .ref (m + 10), .ref (m + 11), .int tr])))) (xu_uu _ _ _ _) ?_
          refine xr_aload_n X 1 dX12_next_196 rfl rfl ?_
          refine xr_aload_n X 1 dX12_next_197 rfl rfl ?_
          refine xr_get X fF_X12_81_11 (xu_s _ _ _) rfl dX12_next_198 ?_
          refine xr_put (fs' := [.int 0, .int st, .ref (m + 1), .ref (m + 2), .ref (m + 3), .ref (m + 4), .ref (m + 5), .ref (m + 6), .int ac, .ref (m + 7), .int tp, .int la, .int (nI L), .int (nI ((tS t L p) + 1)), .int 0, .int (nI (tS t L p)), .int (nI ((tS t L p) + 1)), .int fa, .int fl, .ref (m + 8), .ref (m + 9), .ref (m + 10), .ref (m + 11), .int tr]) X (fW_X12_99_11 _) (xu_s _ _ _) rfl rfl rfl rfl dX12_next_201 ?_
          refine xr_heap (h' := (xu h m (.inr (11, [.int 0, .int st, .ref (m + 1), .ref (m + 2), .ref (m + 3), .ref (m + 4), .ref (m + 5), .ref (m + 6), .int ac, .ref (m + 7), .int tp, .int la, .int (nI L), .int (nI ((tS t L p) + 1)), .int 0, .int (nI (tS t L p)), .int (nI ((tS t L p) + 1)), .int fa, .int fl, .ref (m + 8), .ref (m + 9), .ref (m + 10), .ref (m + 11), .int tr])))) (xu_uu _ _ _ _) ?_
          exact xr_vret X rfl rfl (by rw [show tK t L p = _ from (tJ_no hsl c_74 c_116).trans (if_neg (by omega)), show tE t L p = _ from tF_no hsl c_74 c_116]; rfl) rfl rfl rfl dX12_next_204
        · have c_185 := i32_eq.mp c_185
          (try simp (disch := omega) only [nI_toInt, i32_add, i32_sub, i32_mul, i64_addl, i32_l, k32_59] at c_185)
          refine xr_iconst (v := 4) X dX12_next_188 (by decide) ?_
          refine xr_goto (tgt := 193) X dX12_next_189 (by decide) ?_
          refine xr_put (fs' := [.int 0, .int st, .ref (m + 1), .ref (m + 2), .ref (m + 3), .ref (m + 4), .ref (m + 5), .ref (m + 6), .int ac, .ref (m + 7), .int tp, .int la, .int (nI L), .int (nI ((tS t L p) + 1)), .int 4, .int (nI (tS t L p)), .int ti, .int fa, .int fl, .ref (m + 8), .ref (m + 9), .ref (m + 10), .ref (m + 11), .int tr]) X (fW_X12_90_11 _) (xu_s _ _ _) rfl rfl rfl rfl dX12_next_193 ?_
          refine xr_heap (h' := (xu h m (.inr (11, [.int 0, .int st, .ref (m + 1), .ref (m + 2), .ref (m + 3), .ref (m + 4), .ref (m + 5), .ref (m + 6), .int ac, .ref (m + 7), .int tp, .int la, .int (nI L), .int (nI ((tS t L p) + 1)), .int 4, .int (nI (tS t L p)), .int ti, .int fa, .int fl, .ref (m + 8), .ref (m + 9), .ref (m + 10), .ref (m + 11), .int tr])))) (xu_uu _ _ _ _) ?_
          refine xr_aload_n X 1 dX12_next_196 rfl rfl ?_
          refine xr_aload_n X 1 dX12_next_197 rfl rfl ?_
          refine xr_get X fF_X12_81_11 (xu_s _ _ _) rfl dX12_next_198 ?_
          refine xr_put (fs' := [.int 0, .int st, .ref (m + 1), .ref (m + 2), .ref (m + 3), .ref (m + 4), .ref (m + 5), .ref (m + 6), .int ac, .ref (m + 7), .int tp, .int la, .int (nI L), .int (nI ((tS t L p) + 1)), .int 4, .int (nI (tS t L p)), .int (nI ((tS t L p) + 1)), .int fa, .int fl, .ref (m + 8), .ref (m + 9), .ref (m + 10), .ref (m + 11), .int tr]) X (fW_X12_99_11 _) (xu_s _ _ _) rfl rfl rfl rfl dX12_next_201 ?_
          refine xr_heap (h' := (xu h m (.inr (11, [.int 0, .int st, .ref (m + 1), .ref (m + 2), .ref (m + 3), .ref (m + 4), .ref (m + 5), .ref (m + 6), .int ac, .ref (m + 7), .int tp, .int la, .int (nI L), .int (nI ((tS t L p) + 1)), .int 4, .int (nI (tS t L p)), .int (nI ((tS t L p) + 1)), .int fa, .int fl, .ref (m + 8), .ref (m + 9), .ref (m + 10), .ref (m + 11), .int tr])))) (xu_uu _ _ _ _) ?_
          exact xr_vret X rfl rfl (by rw [show tK t L p = _ from (tJ_no hsl c_74 c_116).trans (if_pos (by omega)), show tE t L p = _ from tF_no hsl c_74 c_116]; rfl) rfl rfl rfl dX12_next_204
      · have c_116 := xb_1.mp c_116
        obtain ⟨f1, f2, f3, f4⟩ := tF_fg hsl c_74 c_116
        refine l_X12_nxC (sa9 := nI (tS t L p)) X hm htape hB ht hL f2 f3 f4 ?_ (tF t L (tS t L p) - (tS t L p)) (tS t L p) (by omega) (Nat.le_refl _)
        refine xr_aload_n X 1 dX12_next_146 rfl rfl ?_
        refine xr_aload_n X 1 dX12_next_147 rfl rfl ?_
        refine xr_get X fF_X12_81_11 (xu_s _ _ _) rfl dX12_next_148 ?_
        refine xr_aload_n X 1 dX12_next_151 rfl rfl ?_
        refine xr_get X fF_X12_87_11 (xu_s _ _ _) rfl dX12_next_152 ?_
        refine xr_isub X dX12_next_155 ?_
        refine xr_top (y := (nI (tF t L (tS t L p) - (tS t L p)))) (pk_sub (by omega)) ?_
        refine xr_iconst (v := 3) X dX12_next_156 (by decide) ?_
        refine xr_icmp_le (tgt := 164) X dX12_next_157 (by decide) (fun c_157 => ?_) (fun c_157 => ?_)
        · have c_157 := i32_le.mp c_157
          (try simp (disch := omega) only [nI_toInt, i32_add, i32_sub, i32_mul, i64_addl, i32_l, k32_3, k64_3] at c_157)
          refine xr_iconst (v := 3) X dX12_next_164 (by decide) ?_
          refine xr_put (fs' := [.int 0, .int st, .ref (m + 1), .ref (m + 2), .ref (m + 3), .ref (m + 4), .ref (m + 5), .ref (m + 6), .int ac, .ref (m + 7), .int tp, .int la, .int (nI L), .int (nI (tF t L (tS t L p))), .int 3, .int (nI (tS t L p)), .int ti, .int fa, .int fl, .ref (m + 8), .ref (m + 9), .ref (m + 10), .ref (m + 11), .int tr]) X (fW_X12_90_11 _) (xu_s _ _ _) rfl rfl rfl rfl dX12_next_165 ?_
          refine xr_heap (h' := (xu h m (.inr (11, [.int 0, .int st, .ref (m + 1), .ref (m + 2), .ref (m + 3), .ref (m + 4), .ref (m + 5), .ref (m + 6), .int ac, .ref (m + 7), .int tp, .int la, .int (nI L), .int (nI (tF t L (tS t L p))), .int 3, .int (nI (tS t L p)), .int ti, .int fa, .int fl, .ref (m + 8), .ref (m + 9), .ref (m + 10), .ref (m + 11), .int tr])))) (xu_uu _ _ _ _) ?_
          refine xr_goto (tgt := 196) X dX12_next_168 (by decide) ?_
          refine xr_aload_n X 1 dX12_next_196 rfl rfl ?_
          refine xr_aload_n X 1 dX12_next_197 rfl rfl ?_
          refine xr_get X fF_X12_81_11 (xu_s _ _ _) rfl dX12_next_198 ?_
          refine xr_put (fs' := [.int 0, .int st, .ref (m + 1), .ref (m + 2), .ref (m + 3), .ref (m + 4), .ref (m + 5), .ref (m + 6), .int ac, .ref (m + 7), .int tp, .int la, .int (nI L), .int (nI (tF t L (tS t L p))), .int 3, .int (nI (tS t L p)), .int (nI (tF t L (tS t L p))), .int fa, .int fl, .ref (m + 8), .ref (m + 9), .ref (m + 10), .ref (m + 11), .int tr]) X (fW_X12_99_11 _) (xu_s _ _ _) rfl rfl rfl rfl dX12_next_201 ?_
          refine xr_heap (h' := (xu h m (.inr (11, [.int 0, .int st, .ref (m + 1), .ref (m + 2), .ref (m + 3), .ref (m + 4), .ref (m + 5), .ref (m + 6), .int ac, .ref (m + 7), .int tp, .int la, .int (nI L), .int (nI (tF t L (tS t L p))), .int 3, .int (nI (tS t L p)), .int (nI (tF t L (tS t L p))), .int fa, .int fl, .ref (m + 8), .ref (m + 9), .ref (m + 10), .ref (m + 11), .int tr])))) (xu_uu _ _ _ _) ?_
          exact xr_vret X rfl rfl (by rw [show tK t L p = _ from (tJ_fg hsl c_74 c_116).trans (if_pos (show tF t L (tS t L p) - (tS t L p) ≤ 3 by omega))]; rfl) rfl rfl rfl dX12_next_204
        · have c_157 := mt i32_le.mpr c_157
          (try simp (disch := omega) only [nI_toInt, i32_add, i32_sub, i32_mul, i64_addl, i32_l, k32_3, k64_3] at c_157)
          refine xr_iconst (v := 0) X dX12_next_160 (by decide) ?_
          refine xr_goto (tgt := 165) X dX12_next_161 (by decide) ?_
          refine xr_put (fs' := [.int 0, .int st, .ref (m + 1), .ref (m + 2), .ref (m + 3), .ref (m + 4), .ref (m + 5), .ref (m + 6), .int ac, .ref (m + 7), .int tp, .int la, .int (nI L), .int (nI (tF t L (tS t L p))), .int 0, .int (nI (tS t L p)), .int ti, .int fa, .int fl, .ref (m + 8), .ref (m + 9), .ref (m + 10), .ref (m + 11), .int tr]) X (fW_X12_90_11 _) (xu_s _ _ _) rfl rfl rfl rfl dX12_next_165 ?_
          refine xr_heap (h' := (xu h m (.inr (11, [.int 0, .int st, .ref (m + 1), .ref (m + 2), .ref (m + 3), .ref (m + 4), .ref (m + 5), .ref (m + 6), .int ac, .ref (m + 7), .int tp, .int la, .int (nI L), .int (nI (tF t L (tS t L p))), .int 0, .int (nI (tS t L p)), .int ti, .int fa, .int fl, .ref (m + 8), .ref (m + 9), .ref (m + 10), .ref (m + 11), .int tr])))) (xu_uu _ _ _ _) ?_
          refine xr_goto (tgt := 196) X dX12_next_168 (by decide) ?_
          refine xr_aload_n X 1 dX12_next_196 rfl rfl ?_
          refine xr_aload_n X 1 dX12_next_197 rfl rfl ?_
          refine xr_get X fF_X12_81_11 (xu_s _ _ _) rfl dX12_next_198 ?_
          refine xr_put (fs' := [.int 0, .int st, .ref (m + 1), .ref (m + 2), .ref (m + 3), .ref (m + 4), .ref (m + 5), .ref (m + 6), .int ac, .ref (m + 7), .int tp, .int la, .int (nI L), .int (nI (tF t L (tS t L p))), .int 0, .int (nI (tS t L p)), .int (nI (tF t L (tS t L p))), .int fa, .int fl, .ref (m + 8), .ref (m + 9), .ref (m + 10), .ref (m + 11), .int tr]) X (fW_X12_99_11 _) (xu_s _ _ _) rfl rfl rfl rfl dX12_next_201 ?_
          refine xr_heap (h' := (xu h m (.inr (11, [.int 0, .int st, .ref (m + 1), .ref (m + 2), .ref (m + 3), .ref (m + 4), .ref (m + 5), .ref (m + 6), .int ac, .ref (m + 7), .int tp, .int la, .int (nI L), .int (nI (tF t L (tS t L p))), .int 0, .int (nI (tS t L p)), .int (nI (tF t L (tS t L p))), .int fa, .int fl, .ref (m + 8), .ref (m + 9), .ref (m + 10), .ref (m + 11), .int tr])))) (xu_uu _ _ _ _) ?_
          exact xr_vret X rfl rfl (by rw [show tK t L p = _ from (tJ_fg hsl c_74 c_116).trans (if_neg (show ¬ tF t L (tS t L p) - (tS t L p) ≤ 3 by omega))]; rfl) rfl rfl rfl dX12_next_204
    · have c_74 := xb_1.mp c_74
      obtain ⟨f1, f2, f3, f4⟩ := tF_lt hsl c_74
      refine l_X12_nxB (sa9 := nI (tS t L p)) X hm htape hB ht hL f2 f3 f4 ?_ (tF t L (tS t L p) - (tS t L p)) (tS t L p) (by omega) (Nat.le_refl _)
      refine xr_aload_n X 1 dX12_next_104 rfl rfl ?_
      refine xr_iconst (v := 2) X dX12_next_105 (by decide) ?_
      refine xr_put (fs' := [.int 0, .int st, .ref (m + 1), .ref (m + 2), .ref (m + 3), .ref (m + 4), .ref (m + 5), .ref (m + 6), .int ac, .ref (m + 7), .int tp, .int la, .int (nI L), .int (nI (tF t L (tS t L p))), .int 2, .int (nI (tS t L p)), .int ti, .int fa, .int fl, .ref (m + 8), .ref (m + 9), .ref (m + 10), .ref (m + 11), .int tr]) X (fW_X12_90_11 _) (xu_s _ _ _) rfl rfl rfl rfl dX12_next_106 ?_
      refine xr_heap (h' := (xu h m (.inr (11, [.int 0, .int st, .ref (m + 1), .ref (m + 2), .ref (m + 3), .ref (m + 4), .ref (m + 5), .ref (m + 6), .int ac, .ref (m + 7), .int tp, .int la, .int (nI L), .int (nI (tF t L (tS t L p))), .int 2, .int (nI (tS t L p)), .int ti, .int fa, .int fl, .ref (m + 8), .ref (m + 9), .ref (m + 10), .ref (m + 11), .int tr])))) (xu_uu _ _ _ _) ?_
      refine xr_goto (tgt := 196) X dX12_next_109 (by decide) ?_
      refine xr_aload_n X 1 dX12_next_196 rfl rfl ?_
      refine xr_aload_n X 1 dX12_next_197 rfl rfl ?_
      refine xr_get X fF_X12_81_11 (xu_s _ _ _) rfl dX12_next_198 ?_
      refine xr_put (fs' := [.int 0, .int st, .ref (m + 1), .ref (m + 2), .ref (m + 3), .ref (m + 4), .ref (m + 5), .ref (m + 6), .int ac, .ref (m + 7), .int tp, .int la, .int (nI L), .int (nI (tF t L (tS t L p))), .int 2, .int (nI (tS t L p)), .int (nI (tF t L (tS t L p))), .int fa, .int fl, .ref (m + 8), .ref (m + 9), .ref (m + 10), .ref (m + 11), .int tr]) X (fW_X12_99_11 _) (xu_s _ _ _) rfl rfl rfl rfl dX12_next_201 ?_
      refine xr_heap (h' := (xu h m (.inr (11, [.int 0, .int st, .ref (m + 1), .ref (m + 2), .ref (m + 3), .ref (m + 4), .ref (m + 5), .ref (m + 6), .int ac, .ref (m + 7), .int tp, .int la, .int (nI L), .int (nI (tF t L (tS t L p))), .int 2, .int (nI (tS t L p)), .int (nI (tF t L (tS t L p))), .int fa, .int fl, .ref (m + 8), .ref (m + 9), .ref (m + 10), .ref (m + 11), .int tr])))) (xu_uu _ _ _ _) ?_
      exact xr_vret X rfl rfl (by rw [show tK t L p = _ from tJ_lt hsl c_74]; rfl) rfl rfl rfl dX12_next_204
  · have c_59 := i32_eq.mp c_59
    (try simp (disch := omega) only [nI_toInt, i32_add, i32_sub, i32_mul, i64_addl, i32_l, k32_m1000000] at c_59)
    have c_59x : ¬ (tS t L p) < L := by omega
    refine xr_aload_n X 1 dX12_next_62 rfl rfl ?_
    refine xr_iconst (v := 1) X dX12_next_63 (by decide) ?_
    refine xr_put (fs' := [.int 0, .int st, .ref (m + 1), .ref (m + 2), .ref (m + 3), .ref (m + 4), .ref (m + 5), .ref (m + 6), .int ac, .ref (m + 7), .int tp, .int la, .int (nI L), .int (nI (tS t L p)), .int 1, .int (nI (tS t L p)), .int ti, .int fa, .int fl, .ref (m + 8), .ref (m + 9), .ref (m + 10), .ref (m + 11), .int tr]) X (fW_X12_90_11 _) (xu_s _ _ _) rfl rfl rfl rfl dX12_next_64 ?_
    refine xr_heap (h' := (xu h m (.inr (11, [.int 0, .int st, .ref (m + 1), .ref (m + 2), .ref (m + 3), .ref (m + 4), .ref (m + 5), .ref (m + 6), .int ac, .ref (m + 7), .int tp, .int la, .int (nI L), .int (nI (tS t L p)), .int 1, .int (nI (tS t L p)), .int ti, .int fa, .int fl, .ref (m + 8), .ref (m + 9), .ref (m + 10), .ref (m + 11), .int tr])))) (xu_uu _ _ _ _) ?_
    refine xr_goto (tgt := 196) X dX12_next_67 (by decide) ?_
    refine xr_aload_n X 1 dX12_next_196 rfl rfl ?_
    refine xr_aload_n X 1 dX12_next_197 rfl rfl ?_
    refine xr_get X fF_X12_81_11 (xu_s _ _ _) rfl dX12_next_198 ?_
    refine xr_put (fs' := [.int 0, .int st, .ref (m + 1), .ref (m + 2), .ref (m + 3), .ref (m + 4), .ref (m + 5), .ref (m + 6), .int ac, .ref (m + 7), .int tp, .int la, .int (nI L), .int (nI (tS t L p)), .int 1, .int (nI (tS t L p)), .int (nI (tS t L p)), .int fa, .int fl, .ref (m + 8), .ref (m + 9), .ref (m + 10), .ref (m + 11), .int tr]) X (fW_X12_99_11 _) (xu_s _ _ _) rfl rfl rfl rfl dX12_next_201 ?_
    refine xr_heap (h' := (xu h m (.inr (11, [.int 0, .int st, .ref (m + 1), .ref (m + 2), .ref (m + 3), .ref (m + 4), .ref (m + 5), .ref (m + 6), .int ac, .ref (m + 7), .int tp, .int la, .int (nI L), .int (nI (tS t L p)), .int 1, .int (nI (tS t L p)), .int (nI (tS t L p)), .int fa, .int fl, .ref (m + 8), .ref (m + 9), .ref (m + 10), .ref (m + 11), .int tr])))) (xu_uu _ _ _ _) ?_
    exact xr_vret X rfl rfl (by rw [show tK t L p = _ from tJ_e c_59x, show tE t L p = _ from tF_e c_59x]; rfl) rfl rfl rfl dX12_next_204
set_option maxRecDepth 100000 in
theorem c_X12_begin {l : Launch} {Ω : xW} {h : xH} {sz : Nat} {m : Nat} {st ac la le cu tk sa ti fa fl tr : Int32} {tape : Nat → Int32} {t : Nat → Nat} {L : Nat} (hm : h m = some (mO m st ac (nI L) la le cu tk sa ti fa fl tr)) (htape : h (m + 7) = some (.inl (.int, 300, .inl tape))) (hB : ∀ q, q < L → tape q = nI (t q)) (ht : ∀ q, q < L → t q < 256) (hL : L ≤ 300) : xC l Ω yX12_begin cX12_begin 1 none 2 0 0 [.ref m] h sz (none) (xu h m (.inr (11, [.int 0, .int st, .ref (m + 1), .ref (m + 2), .ref (m + 3), .ref (m + 4), .ref (m + 5), .ref (m + 6), .int ac, .ref (m + 7), .int 0, .int la, .int (nI L), .int (nI (tE t L 0)), .int (nI ((tK t L 0 + 1) % 5)), .int (nI (tS t L 0)), .int (nI (tE t L 0)), .int 0, .int fl, .ref (m + 8), .ref (m + 9), .ref (m + 10), .ref (m + 11), .int tr]))) (sz) := by
  refine xC_of (lv := [(0, .ref m)]) pn_X12 rfl rfl (fun Γ X hΓ hbs => ?_)
  have X : xX Γ Ω cX12_begin 1 RX12 "begin" none 2 70 0 0 := X
  subst hΓ
  refine xr_aload_n X 0 dX12_begin_0 rfl rfl ?_
  refine xr_aload_n X 0 dX12_begin_1 rfl rfl ?_
  refine xr_get X fF_X12_71_11 hm rfl dX12_begin_2 ?_
  refine xr_put (fs' := [.int 0, .int st, .ref (m + 1), .ref (m + 2), .ref (m + 3), .ref (m + 4), .ref (m + 5), .ref (m + 6), .int ac, .ref (m + 7), .int (nI L), .int la, .int (nI L), .int cu, .int tk, .int sa, .int ti, .int fa, .int fl, .ref (m + 8), .ref (m + 9), .ref (m + 10), .ref (m + 11), .int tr]) X (fW_X12_77_11 _) hm rfl rfl rfl rfl dX12_begin_5 ?_
  refine xr_aload_n X 0 dX12_begin_8 rfl rfl ?_
  refine xr_iconst (v := 0) X dX12_begin_9 (by decide) ?_
  refine xr_put (fs' := [.int 0, .int st, .ref (m + 1), .ref (m + 2), .ref (m + 3), .ref (m + 4), .ref (m + 5), .ref (m + 6), .int ac, .ref (m + 7), .int 0, .int la, .int (nI L), .int cu, .int tk, .int sa, .int ti, .int fa, .int fl, .ref (m + 8), .ref (m + 9), .ref (m + 10), .ref (m + 11), .int tr]) X (fW_X12_71_11 _) (xu_s _ _ _) rfl rfl rfl rfl dX12_begin_10 ?_
  refine xr_heap (h' := (xu h m (.inr (11, [.int 0, .int st, .ref (m + 1), .ref (m + 2), .ref (m + 3), .ref (m + 4), .ref (m + 5), .ref (m + 6), .int ac, .ref (m + 7), .int 0, .int la, .int (nI L), .int cu, .int tk, .int sa, .int ti, .int fa, .int fl, .ref (m + 8), .ref (m + 9), .ref (m + 10), .ref (m + 11), .int tr])))) (xu_uu _ _ _ _) ?_
  refine xr_aload_n X 0 dX12_begin_13 rfl rfl ?_
  refine xr_iconst (v := 0) X dX12_begin_14 (by decide) ?_
  refine xr_put (fs' := [.int 0, .int st, .ref (m + 1), .ref (m + 2), .ref (m + 3), .ref (m + 4), .ref (m + 5), .ref (m + 6), .int ac, .ref (m + 7), .int 0, .int la, .int (nI L), .int 0, .int tk, .int sa, .int ti, .int fa, .int fl, .ref (m + 8), .ref (m + 9), .ref (m + 10), .ref (m + 11), .int tr]) X (fW_X12_81_11 _) (xu_s _ _ _) rfl rfl rfl rfl dX12_begin_15 ?_
  refine xr_heap (h' := (xu h m (.inr (11, [.int 0, .int st, .ref (m + 1), .ref (m + 2), .ref (m + 3), .ref (m + 4), .ref (m + 5), .ref (m + 6), .int ac, .ref (m + 7), .int 0, .int la, .int (nI L), .int 0, .int tk, .int sa, .int ti, .int fa, .int fl, .ref (m + 8), .ref (m + 9), .ref (m + 10), .ref (m + 11), .int tr])))) (xu_uu _ _ _ _) ?_
  refine xr_aload_n X 0 dX12_begin_18 rfl rfl ?_
  refine xr_iconst (v := 0) X dX12_begin_19 (by decide) ?_
  refine xr_put (fs' := [.int 0, .int st, .ref (m + 1), .ref (m + 2), .ref (m + 3), .ref (m + 4), .ref (m + 5), .ref (m + 6), .int ac, .ref (m + 7), .int 0, .int la, .int (nI L), .int 0, .int tk, .int sa, .int ti, .int 0, .int fl, .ref (m + 8), .ref (m + 9), .ref (m + 10), .ref (m + 11), .int tr]) X (fW_X12_102_11 _) (xu_s _ _ _) rfl rfl rfl rfl dX12_begin_20 ?_
  refine xr_heap (h' := (xu h m (.inr (11, [.int 0, .int st, .ref (m + 1), .ref (m + 2), .ref (m + 3), .ref (m + 4), .ref (m + 5), .ref (m + 6), .int ac, .ref (m + 7), .int 0, .int la, .int (nI L), .int 0, .int tk, .int sa, .int ti, .int 0, .int fl, .ref (m + 8), .ref (m + 9), .ref (m + 10), .ref (m + 11), .int tr])))) (xu_uu _ _ _ _) ?_
  refine xr_aload_n X 0 dX12_begin_23 rfl rfl ?_
  refine xr_callV X (xu_s _ _ _) rfl kw_1064 kw_1066 kw_23 cw_X12_next [] (c_X12_next (p := 0) (xu_s _ _ _) (xu_at (xn1 _ rfl) htape) hB ht hL (Nat.zero_le _)) rfl rfl rfl rfl rfl rfl rfl dX12_begin_24 ?_
  refine xr_heap (h' := (xu h m (.inr (11, [.int 0, .int st, .ref (m + 1), .ref (m + 2), .ref (m + 3), .ref (m + 4), .ref (m + 5), .ref (m + 6), .int ac, .ref (m + 7), .int 0, .int la, .int (nI L), .int (nI (tE t L 0)), .int (nI ((tK t L 0 + 1) % 5)), .int (nI (tS t L 0)), .int (nI (tE t L 0)), .int 0, .int fl, .ref (m + 8), .ref (m + 9), .ref (m + 10), .ref (m + 11), .int tr])))) (xu_uu _ _ _ _) ?_
  exact xr_vret X rfl rfl rfl rfl rfl rfl dX12_begin_27
set_option maxRecDepth 100000 in
theorem c_X12_bad {l : Launch} {Ω : xW} {h : xH} {sz : Nat} {m : Nat} {st ac la fl tr : Int32} {t : Nat → Nat} {L q : Nat} {k : Int32} (hm : h m = some (mO m st ac 0 la (nI L) (nI (tE t L q)) (nI ((tK t L q + 1) % 5)) (nI (tS t L q)) (nI (tE t L q)) 0 fl tr)) : xC l Ω yX12_bad cX12_bad 2 none 0 0 0 [.ref m, .int k] h sz (none) (xu h m (.inr (11, [.int 0, .int st, .ref (m + 1), .ref (m + 2), .ref (m + 3), .ref (m + 4), .ref (m + 5), .ref (m + 6), .int ac, .ref (m + 7), .int 0, .int la, .int (nI L), .int (nI (tE t L q)), .int (nI ((tK t L q + 1) % 5)), .int (nI (tS t L q)), .int (nI (tE t L q)), .int k, .int (nI (tS t L q)), .ref (m + 8), .ref (m + 9), .ref (m + 10), .ref (m + 11), .int tr]))) (sz) := by
  refine xC_of (lv := [(0, .ref m), (1, .int k)]) pn_X12 rfl rfl (fun Γ X hΓ hbs => ?_)
  have X : xX Γ Ω cX12_bad 2 RX12 "bad" none 0 0 0 0 := X
  subst hΓ
  refine xr_aload_n X 0 dX12_bad_0 rfl rfl ?_
  refine xr_get X fF_X12_102_11 hm rfl dX12_bad_1 ?_
  refine xr_if_ne (tgt := 20) X dX12_bad_4 (by decide) (fun c_4 => absurd (by decide) c_4) (fun _ => ?_)
  refine xr_aload_n X 0 dX12_bad_7 rfl rfl ?_
  refine xr_iload_n X 1 dX12_bad_8 rfl rfl ?_
  refine xr_put (fs' := [.int 0, .int st, .ref (m + 1), .ref (m + 2), .ref (m + 3), .ref (m + 4), .ref (m + 5), .ref (m + 6), .int ac, .ref (m + 7), .int 0, .int la, .int (nI L), .int (nI (tE t L q)), .int (nI ((tK t L q + 1) % 5)), .int (nI (tS t L q)), .int (nI (tE t L q)), .int k, .int fl, .ref (m + 8), .ref (m + 9), .ref (m + 10), .ref (m + 11), .int tr]) X (fW_X12_102_11 _) hm rfl rfl rfl rfl dX12_bad_9 ?_
  refine xr_aload_n X 0 dX12_bad_12 rfl rfl ?_
  refine xr_aload_n X 0 dX12_bad_13 rfl rfl ?_
  refine xr_get X fF_X12_87_11 (xu_s _ _ _) rfl dX12_bad_14 ?_
  refine xr_put (fs' := [.int 0, .int st, .ref (m + 1), .ref (m + 2), .ref (m + 3), .ref (m + 4), .ref (m + 5), .ref (m + 6), .int ac, .ref (m + 7), .int 0, .int la, .int (nI L), .int (nI (tE t L q)), .int (nI ((tK t L q + 1) % 5)), .int (nI (tS t L q)), .int (nI (tE t L q)), .int k, .int (nI (tS t L q)), .ref (m + 8), .ref (m + 9), .ref (m + 10), .ref (m + 11), .int tr]) X (fW_X12_108_11 _) (xu_s _ _ _) rfl rfl rfl rfl dX12_bad_17 ?_
  refine xr_heap (h' := (xu h m (.inr (11, [.int 0, .int st, .ref (m + 1), .ref (m + 2), .ref (m + 3), .ref (m + 4), .ref (m + 5), .ref (m + 6), .int ac, .ref (m + 7), .int 0, .int la, .int (nI L), .int (nI (tE t L q)), .int (nI ((tK t L q + 1) % 5)), .int (nI (tS t L q)), .int (nI (tE t L q)), .int k, .int (nI (tS t L q)), .ref (m + 8), .ref (m + 9), .ref (m + 10), .ref (m + 11), .int tr])))) (xu_uu _ _ _ _) ?_
  exact xr_vret X rfl rfl rfl rfl rfl rfl dX12_bad_20
set_option maxRecDepth 100000 in
theorem c_X12_bad1 {l : Launch} {Ω : xW} {h : xH} {sz : Nat} {m : Nat} {st ac la fa fl tr : Int32} {t : Nat → Nat} {L q : Nat} {k : Int32} (hm : h m = some (mO m st ac 0 la (nI L) (nI (tE t L q)) (nI ((tK t L q + 1) % 5)) (nI (tS t L q)) (nI (tE t L q)) fa fl tr)) (hf : ¬ fa = 0) : xC l Ω yX12_bad cX12_bad 2 none 0 0 0 [.ref m, .int k] h sz (none) h (sz) := by
  refine xC_of (lv := [(0, .ref m), (1, .int k)]) pn_X12 rfl rfl (fun Γ X hΓ hbs => ?_)
  have X : xX Γ Ω cX12_bad 2 RX12 "bad" none 0 0 0 0 := X
  subst hΓ
  refine xr_aload_n X 0 dX12_bad_0 rfl rfl ?_
  refine xr_get X fF_X12_102_11 hm rfl dX12_bad_1 ?_
  refine xr_if_ne (tgt := 20) X dX12_bad_4 (by decide) (fun _ => ?_) (fun c_4 => absurd c_4 hf)
  exact xr_vret X rfl rfl rfl rfl rfl rfl dX12_bad_20
set_option maxRecDepth 100000 in
theorem c_X12_must {l : Launch} {Ω : xW} {h : xH} {sz : Nat} {m : Nat} {st ac la fl tr : Int32} {tape : Nat → Int32} {t : Nat → Nat} {L q : Nat} (hm : h m = some (mO m st ac 0 la (nI L) (nI (tE t L q)) (nI ((tK t L q + 1) % 5)) (nI (tS t L q)) (nI (tE t L q)) 0 fl tr)) (htape : h (m + 7) = some (.inl (.int, 300, .inl tape))) (hB : ∀ q, q < L → tape q = nI (t q)) (ht : ∀ q, q < L → t q < 256) (hL : L ≤ 300) (hq : q ≤ L) : xC l Ω yX12_must cX12_must 2 none 2 0 0 [.ref m, .int 1] h sz (none) (xu h m (.inr (11, [.int 0, .int st, .ref (m + 1), .ref (m + 2), .ref (m + 3), .ref (m + 4), .ref (m + 5), .ref (m + 6), .int ac, .ref (m + 7), .int 0, .int la, .int (nI L), .int (nI (tE t L (tE t L q))), .int (nI ((tK t L (tE t L q) + 1) % 5)), .int (nI (tS t L (tE t L q))), .int (nI (tE t L (tE t L q))), .int 0, .int fl, .ref (m + 8), .ref (m + 9), .ref (m + 10), .ref (m + 11), .int tr]))) (sz) := by
  refine xC_of (lv := [(0, .ref m), (1, .int 1)]) pn_X12 rfl rfl (fun Γ X hΓ hbs => ?_)
  have X : xX Γ Ω cX12_must 2 RX12 "must" none 2 70 0 0 := X
  subst hΓ
  have kle := tK_le t L q
  obtain ⟨z1, z2⟩ := tE_rng (t := t) hq
  obtain ⟨y1, y2, -, -⟩ := tS_spec (t := t) hq
  refine xr_iload_n X 1 dX12_must_0 rfl rfl ?_
  refine xr_if_ne (tgt := 9) X dX12_must_1 (by decide) (fun _ => ?_) (fun c_1 => absurd c_1 (by decide))
  refine xr_aload_n X 0 dX12_must_9 rfl rfl ?_
  refine xr_get X fF_X12_102_11 hm rfl dX12_must_10 ?_
  refine xr_if_ne (tgt := 20) X dX12_must_13 (by decide) (fun c_13 => absurd (by decide) c_13) (fun _ => ?_)
  refine xr_aload_n X 0 dX12_must_16 rfl rfl ?_
  refine xr_callV X hm rfl kw_1064 kw_1066 kw_23 cw_X12_next [] (c_X12_next (p := (tE t L q)) hm htape hB ht hL (by omega)) rfl rfl rfl rfl rfl rfl rfl dX12_must_17 ?_
  exact xr_vret X rfl rfl rfl rfl rfl rfl dX12_must_20
set_option maxRecDepth 100000 in
theorem c_X12_must1 {l : Launch} {Ω : xW} {h : xH} {sz : Nat} {m : Nat} {st ac la fa fl tr : Int32} {t : Nat → Nat} {L q : Nat} (hm : h m = some (mO m st ac 0 la (nI L) (nI (tE t L q)) (nI ((tK t L q + 1) % 5)) (nI (tS t L q)) (nI (tE t L q)) fa fl tr)) (hf : ¬ fa = 0) : xC l Ω yX12_must cX12_must 2 none 2 0 0 [.ref m, .int 1] h sz (none) h (sz) := by
  refine xC_of (lv := [(0, .ref m), (1, .int 1)]) pn_X12 rfl rfl (fun Γ X hΓ hbs => ?_)
  have X : xX Γ Ω cX12_must 2 RX12 "must" none 2 70 0 0 := X
  subst hΓ
  refine xr_iload_n X 1 dX12_must_0 rfl rfl ?_
  refine xr_if_ne (tgt := 9) X dX12_must_1 (by decide) (fun _ => ?_) (fun c_1 => absurd c_1 (by decide))
  refine xr_aload_n X 0 dX12_must_9 rfl rfl ?_
  refine xr_get X fF_X12_102_11 hm rfl dX12_must_10 ?_
  refine xr_if_ne (tgt := 20) X dX12_must_13 (by decide) (fun _ => ?_) (fun c_13 => absurd c_13 hf)
  exact xr_vret X rfl rfl rfl rfl rfl rfl dX12_must_20
set_option maxRecDepth 100000 in
theorem c_X12_must0 {l : Launch} {Ω : xW} {h : xH} {sz : Nat} {m : Nat} {st ac la fl tr : Int32} {t : Nat → Nat} {L q : Nat} (hm : h m = some (mO m st ac 0 la (nI L) (nI (tE t L q)) (nI ((tK t L q + 1) % 5)) (nI (tS t L q)) (nI (tE t L q)) 0 fl tr)) : xC l Ω yX12_must cX12_must 2 none 2 0 0 [.ref m, .int 0] h sz (none) (xu h m (.inr (11, [.int 0, .int st, .ref (m + 1), .ref (m + 2), .ref (m + 3), .ref (m + 4), .ref (m + 5), .ref (m + 6), .int ac, .ref (m + 7), .int 0, .int la, .int (nI L), .int (nI (tE t L q)), .int (nI ((tK t L q + 1) % 5)), .int (nI (tS t L q)), .int (nI (tE t L q)), .int 1, .int (nI (tS t L q)), .ref (m + 8), .ref (m + 9), .ref (m + 10), .ref (m + 11), .int tr]))) (sz) := by
  refine xC_of (lv := [(0, .ref m), (1, .int 0)]) pn_X12 rfl rfl (fun Γ X hΓ hbs => ?_)
  have X : xX Γ Ω cX12_must 2 RX12 "must" none 2 70 0 0 := X
  subst hΓ
  refine xr_iload_n X 1 dX12_must_0 rfl rfl ?_
  refine xr_if_ne (tgt := 9) X dX12_must_1 (by decide) (fun c_1 => absurd (by decide) c_1) (fun _ => ?_)
  refine xr_aload_n X 0 dX12_must_4 rfl rfl ?_
  refine xr_iconst (v := 1) X dX12_must_5 (by decide) ?_
  refine xr_callV X hm rfl kw_1084 kw_1086 kw_26 cw_X12_bad [.int 1] (c_X12_bad hm) rfl rfl rfl rfl rfl rfl rfl dX12_must_6 ?_
  refine xr_aload_n X 0 dX12_must_9 rfl rfl ?_
  refine xr_get X fF_X12_102_11 (xu_s _ _ _) rfl dX12_must_10 ?_
  refine xr_if_ne (tgt := 20) X dX12_must_13 (by decide) (fun _ => ?_) (fun c_13 => absurd c_13 (by decide))
  exact xr_vret X rfl rfl rfl rfl rfl rfl dX12_must_20
set_option maxRecDepth 100000 in
theorem c_X12_must2 {l : Launch} {Ω : xW} {h : xH} {sz : Nat} {m : Nat} {st ac la fa fl tr : Int32} {t : Nat → Nat} {L q : Nat} (hm : h m = some (mO m st ac 0 la (nI L) (nI (tE t L q)) (nI ((tK t L q + 1) % 5)) (nI (tS t L q)) (nI (tE t L q)) fa fl tr)) (hf : ¬ fa = 0) : xC l Ω yX12_must cX12_must 2 none 2 0 0 [.ref m, .int 0] h sz (none) h (sz) := by
  refine xC_of (lv := [(0, .ref m), (1, .int 0)]) pn_X12 rfl rfl (fun Γ X hΓ hbs => ?_)
  have X : xX Γ Ω cX12_must 2 RX12 "must" none 2 70 0 0 := X
  subst hΓ
  refine xr_iload_n X 1 dX12_must_0 rfl rfl ?_
  refine xr_if_ne (tgt := 9) X dX12_must_1 (by decide) (fun c_1 => absurd (by decide) c_1) (fun _ => ?_)
  refine xr_aload_n X 0 dX12_must_4 rfl rfl ?_
  refine xr_iconst (v := 1) X dX12_must_5 (by decide) ?_
  refine xr_callV X hm rfl kw_1084 kw_1086 kw_26 cw_X12_bad [.int 1] (c_X12_bad1 hm hf) rfl rfl rfl rfl rfl rfl rfl dX12_must_6 ?_
  refine xr_aload_n X 0 dX12_must_9 rfl rfl ?_
  refine xr_get X fF_X12_102_11 hm rfl dX12_must_10 ?_
  refine xr_if_ne (tgt := 20) X dX12_must_13 (by decide) (fun _ => ?_) (fun c_13 => absurd c_13 hf)
  exact xr_vret X rfl rfl rfl rfl rfl rfl dX12_must_20
set_option maxRecDepth 100000 in
theorem l_X12_name {Γ : xΓ} {Ω : xW} {h : xH} {sz : Nat} (X : xX Γ Ω cX12_name 4 RX12 "name" (some .long) 0 0 0 0) {m : Nat} {st ac la fa fl tr : Int32} {tape : Nat → Int32} {t : Nat → Nat} {L q : Nat} (hm : h m = some (mO m st ac 0 la (nI L) (nI (tE t L q)) (nI ((tK t L q + 1) % 5)) (nI (tS t L q)) (nI (tE t L q)) fa fl tr)) (htape : h (m + 7) = some (.inl (.int, 300, .inl tape))) (hB : ∀ q, q < L → tape q = nI (t q)) (ht : ∀ q, q < L → t q < 256) (hL : L ≤ 300) (hq : q ≤ L) (h1 : tK t L q = 1) (h8 : tE t L q - tS t L q < 8) : ∀ (j0 k : Nat), k + j0 = tE t L q - tS t L q → xG Γ Ω 4 (xQ Γ Ω (some (.long (if fa = 0 then Int64.ofNat (nmv t L q) else 0))) h (sz) 0 0) 7 [(3, .int (nI (tS t L q + k))), (1, .long (Int64.ofNat (nmF t (tS t L q) k))), (0, .ref m)] ([]) h sz 0 0 := by
  intro j0
  induction j0 with
  | zero =>
    intro k hk
    have ek : k = tE t L q - tS t L q := by omega
    have kle := tK_le t L q
    obtain ⟨z1, z2⟩ := tE_rng (t := t) hq
    obtain ⟨y1, y2, -, -⟩ := tS_spec (t := t) hq
    refine xr_iload_n X 0 dX12_name_7 rfl rfl ?_
    refine xr_aload_n X 2 dX12_name_8 rfl rfl ?_
    refine xr_get X fF_X12_99_11 hm rfl dX12_name_9 ?_
    refine xr_icmp_ge (tgt := 56) X dX12_name_12 (by decide) (fun _ => ?_) (fun c_12 => absurd (by rw [i32_le, nI_toInt (by omega), nI_toInt (by omega)]; omega) c_12)
    refine xr_aload_n X 2 dX12_name_56 rfl rfl ?_
    refine xr_get X fF_X12_102_11 hm rfl dX12_name_57 ?_
    refine xr_if_ne (tgt := 67) X dX12_name_60 (by decide) (fun c_60 => ?_) (fun c_60 => ?_)
    · refine xr_lconst (v := 0) X dX12_name_67 (by decide) ?_
      exact xr_lret X rfl (by rw [if_neg c_60] <;> try rfl) rfl rfl rfl rfl dX12_name_68
    · refine xr_lload_n X 1 dX12_name_63 rfl rfl ?_
      refine xr_goto (tgt := 68) X dX12_name_64 (by decide) ?_
      exact xr_lret X rfl (by rw [if_pos c_60, nmv, if_pos ⟨h1, h8⟩, ek] <;> try rfl) rfl rfl rfl rfl dX12_name_68
  | succ j0 ih =>
    intro k hk
    have lk : k < tE t L q - tS t L q := by omega
    have kle := tK_le t L q
    obtain ⟨z1, z2⟩ := tE_rng (t := t) hq
    obtain ⟨y1, y2, -, -⟩ := tS_spec (t := t) hq
    refine xr_iload_n X 0 dX12_name_7 rfl rfl ?_
    refine xr_aload_n X 2 dX12_name_8 rfl rfl ?_
    refine xr_get X fF_X12_99_11 hm rfl dX12_name_9 ?_
    refine xr_icmp_ge (tgt := 56) X dX12_name_12 (by decide) (fun c_12 => absurd c_12 (by rw [i32_le, nI_toInt (by omega), nI_toInt (by omega)]; omega)) (fun _ => ?_)
    refine xr_aload_n X 2 dX12_name_15 rfl rfl ?_
    refine xr_get X fF_X12_90_11 hm rfl dX12_name_16 ?_
    refine xr_iconst (v := 2) X dX12_name_19 (by decide) ?_
    refine xr_icmp_ne (tgt := 56) X dX12_name_20 (by decide) (fun c_20 => absurd (by rw [h1]; decide) c_20) (fun _ => ?_)
    refine xr_aload_n X 2 dX12_name_23 rfl rfl ?_
    refine xr_get X fF_X12_99_11 hm rfl dX12_name_24 ?_
    refine xr_aload_n X 2 dX12_name_27 rfl rfl ?_
    refine xr_get X fF_X12_87_11 hm rfl dX12_name_28 ?_
    refine xr_isub X dX12_name_31 ?_
    refine xr_bipush (v := 8) X dX12_name_32 (by decide) ?_
    refine xr_icmp_ge (tgt := 56) X dX12_name_34 (by decide) (fun c_34 => absurd c_34 (by rw [i32_le, pk_sub (by omega), nI_toInt (by omega), k32_8]; omega)) (fun _ => ?_)
    refine xr_lload_n X 1 dX12_name_37 rfl rfl ?_
    refine xr_bipush (v := 8) X dX12_name_38 (by decide) ?_
    refine xr_lshl X dX12_name_40 ?_
    refine xr_aload_n X 2 dX12_name_41 rfl rfl ?_
    refine xr_get X fF_X12_28_11 hm rfl dX12_name_42 ?_
    refine xr_iload_n X 0 dX12_name_45 rfl rfl ?_
    refine xr_iald (j := (tS t L q + k)) X htape (xI_n (by omega) (by omega)) dX12_name_46 ?_
    refine xr_top (y := (nI (t (tS t L q + k)))) (hB _ (by omega)) ?_
    refine xr_i2l X dX12_name_47 ?_
    refine xr_lor X dX12_name_48 ?_
    refine xr_topl (y := (Int64.ofNat (nmF t (tS t L q) (k + 1)))) (nm_sh (Nat.lt_of_lt_of_le (nmF_lt (fun i hi => ht _ (by omega))) (Nat.le_trans (Nat.pow_le_pow_right (by omega) (show k ≤ 6 by omega)) (by decide))) (ht _ (by omega))) ?_
    refine xr_lstore_n (lv' := [(1, .long (Int64.ofNat (nmF t (tS t L q) (k + 1)))), (3, .int (nI (tS t L q + k))), (0, .ref m)]) X dX12_name_49 rfl rfl rfl ?_
    refine xr_iinc (v := nI ((tS t L q + k) + 1)) (lv' := [(3, .int (nI ((tS t L q + k) + 1))), (1, .long (Int64.ofNat (nmF t (tS t L q) (k + 1)))), (0, .ref m)]) X 1 dX12_name_50 rfl (nI_1 _) rfl rfl ?_
    refine xr_goto (tgt := 7) X dX12_name_53 (by decide) ?_
    refine xr_lve (lv' := [(3, .int (nI (tS t L q + (k + 1)))), (1, .long (Int64.ofNat (nmF t (tS t L q) (k + 1)))), (0, .ref m)]) (rfl) ?_
    exact ih (k + 1) (by omega)
set_option maxRecDepth 100000 in
theorem c_X12_name {l : Launch} {Ω : xW} {h : xH} {sz : Nat} {m : Nat} {st ac la fa fl tr : Int32} {tape : Nat → Int32} {t : Nat → Nat} {L q : Nat} (hm : h m = some (mO m st ac 0 la (nI L) (nI (tE t L q)) (nI ((tK t L q + 1) % 5)) (nI (tS t L q)) (nI (tE t L q)) fa fl tr)) (htape : h (m + 7) = some (.inl (.int, 300, .inl tape))) (hB : ∀ q, q < L → tape q = nI (t q)) (ht : ∀ q, q < L → t q < 256) (hL : L ≤ 300) (hq : q ≤ L) : xC l Ω yX12_name cX12_name 4 (some .long) 0 0 0 [.ref m] h sz (some (.long (if fa = 0 then Int64.ofNat (nmv t L q) else 0))) h (sz) := by
  refine xC_of (lv := [(0, .ref m)]) pn_X12 rfl rfl (fun Γ X hΓ hbs => ?_)
  have X : xX Γ Ω cX12_name 4 RX12 "name" (some .long) 0 0 0 0 := X
  subst hΓ
  have kle := tK_le t L q
  obtain ⟨z1, z2⟩ := tE_rng (t := t) hq
  obtain ⟨y1, y2, -, -⟩ := tS_spec (t := t) hq
  refine xr_lconst (v := 0) X dX12_name_0 (by decide) ?_
  refine xr_lstore_n (lv' := [(1, .long 0), (0, .ref m)]) X dX12_name_1 rfl rfl rfl ?_
  refine xr_aload_n X 1 dX12_name_2 rfl rfl ?_
  refine xr_get X fF_X12_87_11 hm rfl dX12_name_3 ?_
  refine xr_istore_n (lv' := [(3, .int (nI (tS t L q))), (1, .long 0), (0, .ref m)]) X dX12_name_6 rfl rfl rfl ?_
  refine xr_locs (lv' := [(3, .int (nI (tS t L q))), (1, .long 0), (0, .ref m)]) [0, 1, 2] rfl ?_
  by_cases h1 : tK t L q = 1 ∧ tE t L q - tS t L q < 8
  · exact l_X12_name X hm htape hB ht hL hq h1.1 h1.2 (tE t L q - tS t L q) 0 (by omega)
  · refine xr_iload_n X 0 dX12_name_7 rfl rfl ?_
    refine xr_aload_n X 2 dX12_name_8 rfl rfl ?_
    refine xr_get X fF_X12_99_11 hm rfl dX12_name_9 ?_
    refine xr_icmp_ge (tgt := 56) X dX12_name_12 (by decide) (fun c_12 => ?_) (fun c_12 => ?_)
    · have c_12 := i32_le.mp c_12
      (try simp (disch := omega) only [nI_toInt, i32_add, i32_sub, i32_mul, i64_addl, i32_l] at c_12)
      refine xr_aload_n X 2 dX12_name_56 rfl rfl ?_
      refine xr_get X fF_X12_102_11 hm rfl dX12_name_57 ?_
      refine xr_if_ne (tgt := 67) X dX12_name_60 (by decide) (fun c_60 => ?_) (fun c_60 => ?_)
      · refine xr_lconst (v := 0) X dX12_name_67 (by decide) ?_
        exact xr_lret X rfl (by rw [if_neg c_60] <;> try rfl) rfl rfl rfl rfl dX12_name_68
      · refine xr_lload_n X 1 dX12_name_63 rfl rfl ?_
        refine xr_goto (tgt := 68) X dX12_name_64 (by decide) ?_
        exact xr_lret X rfl (by rw [if_pos c_60, nmv, if_neg h1] <;> try rfl) rfl rfl rfl rfl dX12_name_68
    · have c_12 := mt i32_le.mpr c_12
      (try simp (disch := omega) only [nI_toInt, i32_add, i32_sub, i32_mul, i64_addl, i32_l] at c_12)
      refine xr_aload_n X 2 dX12_name_15 rfl rfl ?_
      refine xr_get X fF_X12_90_11 hm rfl dX12_name_16 ?_
      refine xr_iconst (v := 2) X dX12_name_19 (by decide) ?_
      refine xr_icmp_ne (tgt := 56) X dX12_name_20 (by decide) (fun c_20 => ?_) (fun c_20 => ?_)
      · have c_20 := mt i32_eq.mpr c_20
        (try simp (disch := omega) only [nI_toInt, i32_add, i32_sub, i32_mul, i64_addl, i32_l, k32_1, k32_2, k32_5, k64_1, k64_2, k64_5] at c_20)
        refine xr_aload_n X 2 dX12_name_56 rfl rfl ?_
        refine xr_get X fF_X12_102_11 hm rfl dX12_name_57 ?_
        refine xr_if_ne (tgt := 67) X dX12_name_60 (by decide) (fun c_60 => ?_) (fun c_60 => ?_)
        · refine xr_lconst (v := 0) X dX12_name_67 (by decide) ?_
          exact xr_lret X rfl (by rw [if_neg c_60] <;> try rfl) rfl rfl rfl rfl dX12_name_68
        · refine xr_lload_n X 1 dX12_name_63 rfl rfl ?_
          refine xr_goto (tgt := 68) X dX12_name_64 (by decide) ?_
          exact xr_lret X rfl (by rw [if_pos c_60, nmv, if_neg h1] <;> try rfl) rfl rfl rfl rfl dX12_name_68
      · have c_20 := i32_eq.mp c_20
        (try simp (disch := omega) only [nI_toInt, i32_add, i32_sub, i32_mul, i64_addl, i32_l, k32_1, k32_2, k32_5, k64_1, k64_2, k64_5] at c_20)
        refine xr_aload_n X 2 dX12_name_23 rfl rfl ?_
        refine xr_get X fF_X12_99_11 hm rfl dX12_name_24 ?_
        refine xr_aload_n X 2 dX12_name_27 rfl rfl ?_
        refine xr_get X fF_X12_87_11 hm rfl dX12_name_28 ?_
        refine xr_isub X dX12_name_31 ?_
        refine xr_bipush (v := 8) X dX12_name_32 (by decide) ?_
        refine xr_icmp_ge (tgt := 56) X dX12_name_34 (by decide) (fun c_34 => ?_) (fun c_34 => ?_)
        · have c_34 := i32_le.mp c_34
          (try simp (disch := omega) only [nI_toInt, i32_add, i32_sub, i32_mul, i64_addl, i32_l, k32_8, k64_8] at c_34)
          refine xr_aload_n X 2 dX12_name_56 rfl rfl ?_
          refine xr_get X fF_X12_102_11 hm rfl dX12_name_57 ?_
          refine xr_if_ne (tgt := 67) X dX12_name_60 (by decide) (fun c_60 => ?_) (fun c_60 => ?_)
          · refine xr_lconst (v := 0) X dX12_name_67 (by decide) ?_
            exact xr_lret X rfl (by rw [if_neg c_60] <;> try rfl) rfl rfl rfl rfl dX12_name_68
          · refine xr_lload_n X 1 dX12_name_63 rfl rfl ?_
            refine xr_goto (tgt := 68) X dX12_name_64 (by decide) ?_
            exact xr_lret X rfl (by rw [if_pos c_60, nmv, if_neg h1] <;> try rfl) rfl rfl rfl rfl dX12_name_68
        · have c_34 := mt i32_le.mpr c_34
          (try simp (disch := omega) only [nI_toInt, i32_add, i32_sub, i32_mul, i64_addl, i32_l, k32_8, k64_8] at c_34)
          exact absurd (show tK t L q = 1 ∧ tE t L q - tS t L q < 8 by rw [pk_sub (by omega), nI_toInt (by omega)] at c_34; omega) h1
set_option maxRecDepth 100000 in
theorem l_X12_fig {Γ : xΓ} {Ω : xW} {h : xH} {sz : Nat} (X : xX Γ Ω cX12_figures 3 RX12 "figures" (some .int) 0 0 0 0) {m : Nat} {st ac la fa fl tr : Int32} {tape : Nat → Int32} {t : Nat → Nat} {L q : Nat} (hm : h m = some (mO m st ac 0 la (nI L) (nI (tE t L q)) (nI ((tK t L q + 1) % 5)) (nI (tS t L q)) (nI (tE t L q)) fa fl tr)) (htape : h (m + 7) = some (.inl (.int, 300, .inl tape))) (hB : ∀ q, q < L → tape q = nI (t q)) (ht : ∀ q, q < L → t q < 256) (hL : L ≤ 300) (hq : q ≤ L) (h2 : tK t L q = 2) : ∀ (j0 k : Nat), k + j0 = tE t L q - tS t L q → xG Γ Ω 3 (xQ Γ Ω (some (.int (nI (nuv t L q)))) h (sz) 0 0) 7 [(2, .int (nI (tS t L q + k))), (1, .int (nI (fgF t (tS t L q) k))), (0, .ref m)] ([]) h sz 0 0 := by
  intro j0
  induction j0 with
  | zero =>
    intro k hk
    have ek : k = tE t L q - tS t L q := by omega
    have kle := tK_le t L q
    obtain ⟨z1, z2⟩ := tE_rng (t := t) hq
    obtain ⟨y1, y2, -, -⟩ := tS_spec (t := t) hq
    refine xr_iload_n X 0 dX12_figures_7 rfl rfl ?_
    refine xr_aload_n X 2 dX12_figures_8 rfl rfl ?_
    refine xr_get X fF_X12_99_11 hm rfl dX12_figures_9 ?_
    refine xr_icmp_ge (tgt := 44) X dX12_figures_12 (by decide) (fun _ => ?_) (fun c_12 => absurd (by rw [i32_le, nI_toInt (by omega), nI_toInt (by omega)]; omega) c_12)
    refine xr_iload_n X 1 dX12_figures_44 rfl rfl ?_
    exact xr_iret X rfl (by rw [nuv, if_pos h2, ek]) rfl rfl rfl rfl dX12_figures_45
  | succ j0 ih =>
    intro k hk
    have lk : k < tE t L q - tS t L q := by omega
    have kle := tK_le t L q
    obtain ⟨z1, z2⟩ := tE_rng (t := t) hq
    obtain ⟨y1, y2, -, -⟩ := tS_spec (t := t) hq
    obtain ⟨-, w2, w3⟩ := tK_2 h2
    have hk9 := fgF_lt (t := t) (s := tS t L q) (n := k) (fun r a b => w3 r a (by omega))
    have hk8 : 10 ^ k ≤ 10 ^ 3 := Nat.pow_le_pow_right (by omega) (by omega)
    refine xr_iload_n X 0 dX12_figures_7 rfl rfl ?_
    refine xr_aload_n X 2 dX12_figures_8 rfl rfl ?_
    refine xr_get X fF_X12_99_11 hm rfl dX12_figures_9 ?_
    refine xr_icmp_ge (tgt := 44) X dX12_figures_12 (by decide) (fun c_12 => absurd c_12 (by rw [i32_le, nI_toInt (by omega), nI_toInt (by omega)]; omega)) (fun _ => ?_)
    refine xr_aload_n X 2 dX12_figures_15 rfl rfl ?_
    refine xr_get X fF_X12_90_11 hm rfl dX12_figures_16 ?_
    refine xr_iconst (v := 3) X dX12_figures_19 (by decide) ?_
    refine xr_icmp_ne (tgt := 44) X dX12_figures_20 (by decide) (fun c_20 => absurd (by rw [h2]; decide) c_20) (fun _ => ?_)
    refine xr_bipush (v := 10) X dX12_figures_23 (by decide) ?_
    refine xr_iload_n X 1 dX12_figures_25 rfl rfl ?_
    refine xr_imul X dX12_figures_26 ?_
    refine xr_aload_n X 2 dX12_figures_27 rfl rfl ?_
    refine xr_get X fF_X12_28_11 hm rfl dX12_figures_28 ?_
    refine xr_iload_n X 0 dX12_figures_31 rfl rfl ?_
    refine xr_iald (j := (tS t L q + k)) X htape (xI_n (by omega) (by omega)) dX12_figures_32 ?_
    refine xr_top (y := (nI (t (tS t L q + k)))) (hB _ (by omega)) ?_
    refine xr_iadd X dX12_figures_33 ?_
    refine xr_bipush (v := 48) X dX12_figures_34 (by decide) ?_
    refine xr_isub X dX12_figures_36 ?_
    refine xr_top (y := (nI (fgF t (tS t L q) (k + 1)))) (by have w4 := w3 (tS t L q + k) (by omega) (by omega); rw [fgF, show (10 : Int32) = nI 10 from rfl, show (48 : Int32) = nI 48 from rfl, nI_mul, nI_add, pk_sub (by omega)]; congr 1; omega) ?_
    refine xr_istore_n (lv' := [(1, .int (nI (fgF t (tS t L q) (k + 1)))), (2, .int (nI (tS t L q + k))), (0, .ref m)]) X dX12_figures_37 rfl rfl rfl ?_
    refine xr_iinc (v := nI ((tS t L q + k) + 1)) (lv' := [(2, .int (nI ((tS t L q + k) + 1))), (1, .int (nI (fgF t (tS t L q) (k + 1)))), (0, .ref m)]) X 1 dX12_figures_38 rfl (nI_1 _) rfl rfl ?_
    refine xr_goto (tgt := 7) X dX12_figures_41 (by decide) ?_
    refine xr_lve (lv' := [(2, .int (nI (tS t L q + (k + 1)))), (1, .int (nI (fgF t (tS t L q) (k + 1)))), (0, .ref m)]) (rfl) ?_
    exact ih (k + 1) (by omega)
set_option maxRecDepth 100000 in
theorem c_X12_figures {l : Launch} {Ω : xW} {h : xH} {sz : Nat} {m : Nat} {st ac la fa fl tr : Int32} {tape : Nat → Int32} {t : Nat → Nat} {L q : Nat} (hm : h m = some (mO m st ac 0 la (nI L) (nI (tE t L q)) (nI ((tK t L q + 1) % 5)) (nI (tS t L q)) (nI (tE t L q)) fa fl tr)) (htape : h (m + 7) = some (.inl (.int, 300, .inl tape))) (hB : ∀ q, q < L → tape q = nI (t q)) (ht : ∀ q, q < L → t q < 256) (hL : L ≤ 300) (hq : q ≤ L) : xC l Ω yX12_figures cX12_figures 3 (some .int) 0 0 0 [.ref m] h sz (some (.int (nI (nuv t L q)))) h (sz) := by
  refine xC_of (lv := [(0, .ref m)]) pn_X12 rfl rfl (fun Γ X hΓ hbs => ?_)
  have X : xX Γ Ω cX12_figures 3 RX12 "figures" (some .int) 0 0 0 0 := X
  subst hΓ
  have kle := tK_le t L q
  obtain ⟨z1, z2⟩ := tE_rng (t := t) hq
  obtain ⟨y1, y2, -, -⟩ := tS_spec (t := t) hq
  refine xr_iconst (v := 0) X dX12_figures_0 (by decide) ?_
  refine xr_istore_n (lv' := [(1, .int 0), (0, .ref m)]) X dX12_figures_1 rfl rfl rfl ?_
  refine xr_aload_n X 1 dX12_figures_2 rfl rfl ?_
  refine xr_get X fF_X12_87_11 hm rfl dX12_figures_3 ?_
  refine xr_istore_n (lv' := [(2, .int (nI (tS t L q))), (1, .int 0), (0, .ref m)]) X dX12_figures_6 rfl rfl rfl ?_
  refine xr_locs (lv' := [(2, .int (nI (tS t L q))), (1, .int 0), (0, .ref m)]) [0, 1, 2] rfl ?_
  by_cases h2 : tK t L q = 2
  · exact l_X12_fig X hm htape hB ht hL hq h2 (tE t L q - tS t L q) 0 (by omega)
  · refine xr_iload_n X 0 dX12_figures_7 rfl rfl ?_
    refine xr_aload_n X 2 dX12_figures_8 rfl rfl ?_
    refine xr_get X fF_X12_99_11 hm rfl dX12_figures_9 ?_
    refine xr_icmp_ge (tgt := 44) X dX12_figures_12 (by decide) (fun c_12 => ?_) (fun c_12 => ?_)
    · have c_12 := i32_le.mp c_12
      (try simp (disch := omega) only [nI_toInt, i32_add, i32_sub, i32_mul, i64_addl, i32_l] at c_12)
      refine xr_iload_n X 1 dX12_figures_44 rfl rfl ?_
      exact xr_iret X rfl (by rw [nuv, if_neg h2]; rfl) rfl rfl rfl rfl dX12_figures_45
    · have c_12 := mt i32_le.mpr c_12
      (try simp (disch := omega) only [nI_toInt, i32_add, i32_sub, i32_mul, i64_addl, i32_l] at c_12)
      refine xr_aload_n X 2 dX12_figures_15 rfl rfl ?_
      refine xr_get X fF_X12_90_11 hm rfl dX12_figures_16 ?_
      refine xr_iconst (v := 3) X dX12_figures_19 (by decide) ?_
      refine xr_icmp_ne (tgt := 44) X dX12_figures_20 (by decide) (fun c_20 => ?_) (fun c_20 => ?_)
      · have c_20 := mt i32_eq.mpr c_20
        (try simp (disch := omega) only [nI_toInt, i32_add, i32_sub, i32_mul, i64_addl, i32_l, k32_1, k32_3, k32_5, k64_1, k64_3, k64_5] at c_20)
        refine xr_iload_n X 1 dX12_figures_44 rfl rfl ?_
        exact xr_iret X rfl (by rw [nuv, if_neg h2]; rfl) rfl rfl rfl rfl dX12_figures_45
      · have c_20 := i32_eq.mp c_20
        (try simp (disch := omega) only [nI_toInt, i32_add, i32_sub, i32_mul, i64_addl, i32_l, k32_1, k32_3, k32_5, k64_1, k64_3, k64_5] at c_20)
        exact absurd (show tK t L q = 2 by omega) h2
set_option maxRecDepth 100000 in
theorem c_X12_number {l : Launch} {Ω : xW} {h : xH} {sz : Nat} {m : Nat} {st ac la fl tr : Int32} {tape : Nat → Int32} {t : Nat → Nat} {L q : Nat} {hi : Nat} (hm : h m = some (mO m st ac 0 la (nI L) (nI (tE t L q)) (nI ((tK t L q + 1) % 5)) (nI (tS t L q)) (nI (tE t L q)) 0 fl tr)) (htape : h (m + 7) = some (.inl (.int, 300, .inl tape))) (hB : ∀ q, q < L → tape q = nI (t q)) (ht : ∀ q, q < L → t q < 256) (hL : L ≤ 300) (hq : q ≤ L) (h2 : tK t L q = 2) (hv : nuv t L q ≤ hi) (hh : hi < 1000) : xC l Ω yX12_number cX12_number 4 (some .int) 3 0 0 [.ref m, .int 0, .int (nI hi)] h sz (some (.int (nI (nuv t L q)))) (xu h m (.inr (11, [.int 0, .int st, .ref (m + 1), .ref (m + 2), .ref (m + 3), .ref (m + 4), .ref (m + 5), .ref (m + 6), .int ac, .ref (m + 7), .int 0, .int la, .int (nI L), .int (nI (tE t L (tE t L q))), .int (nI ((tK t L (tE t L q) + 1) % 5)), .int (nI (tS t L (tE t L q))), .int (nI (tE t L (tE t L q))), .int 0, .int fl, .ref (m + 8), .ref (m + 9), .ref (m + 10), .ref (m + 11), .int tr]))) (sz) := by
  refine xC_of (lv := [(0, .ref m), (1, .int 0), (2, .int (nI hi))]) pn_X12 rfl rfl (fun Γ X hΓ hbs => ?_)
  have X : xX Γ Ω cX12_number 4 RX12 "number" (some .int) 3 105 0 0 := X
  subst hΓ
  have kle := tK_le t L q
  obtain ⟨z1, z2⟩ := tE_rng (t := t) hq
  obtain ⟨y1, y2, -, -⟩ := tS_spec (t := t) hq
  have nle := nuv_lt t L q hq
  refine xr_aload_n X 0 dX12_number_0 rfl rfl ?_
  refine xr_get X fF_X12_102_11 hm rfl dX12_number_1 ?_
  refine xr_if_le (tgt := 9) X dX12_number_4 (by decide) (fun _ => ?_) (fun c_4 => absurd (by decide) c_4)
  refine xr_aload_n X 0 dX12_number_9 rfl rfl ?_
  refine xr_callV X hm rfl kw_1108 kw_1110 kw_30 cw_X12_figures [] (c_X12_figures hm htape hB ht hL (by omega)) rfl rfl rfl rfl rfl rfl rfl dX12_number_10 ?_
  refine xr_istore_n (lv' := [(3, .int (nI (nuv t L q))), (0, .ref m), (1, .int 0), (2, .int (nI hi))]) X dX12_number_13 rfl rfl rfl ?_
  refine xr_aload_n X 1 dX12_number_14 rfl rfl ?_
  refine xr_get X fF_X12_90_11 hm rfl dX12_number_15 ?_
  refine xr_iconst (v := 3) X dX12_number_18 (by decide) ?_
  refine xr_icmp_ne (tgt := 39) X dX12_number_19 (by decide) (fun c_19 => absurd (by rw [h2]; decide) c_19) (fun _ => ?_)
  refine xr_iload_n X 0 dX12_number_22 rfl rfl ?_
  refine xr_i2l X dX12_number_23 ?_
  refine xr_iload_n X 2 dX12_number_24 rfl rfl ?_
  refine xr_i2l X dX12_number_25 ?_
  refine xr_iload_n X 3 dX12_number_26 rfl rfl ?_
  refine xr_i2l X dX12_number_27 ?_
  refine xr_callS X kw_1027 kw_1028 cw_X12_in [.long ((nI (nuv t L q)).toInt64), .long ((0 : Int32).toInt64), .long ((nI hi).toInt64)] c_X12_in rfl rfl rfl rfl rfl rfl rfl dX12_number_28 ?_
  refine xr_if_ne (tgt := 39) X dX12_number_31 (by decide) (fun _ => ?_) (fun c_31 => absurd c_31 (xb_1.mpr (decide_eq_true (by rw [i32_l, i32_l, i32_l, nI_toInt (by omega), nI_toInt (by omega), k32_0]; omega))))
  refine xr_aload_n X 1 dX12_number_39 rfl rfl ?_
  refine xr_aload_n X 1 dX12_number_40 rfl rfl ?_
  refine xr_get X fF_X12_90_11 hm rfl dX12_number_41 ?_
  refine xr_iconst (v := 3) X dX12_number_44 (by decide) ?_
  refine xr_icmp_ne (tgt := 52) X dX12_number_45 (by decide) (fun c_45 => absurd (by rw [h2]; decide) c_45) (fun _ => ?_)
  refine xr_iconst (v := 1) X dX12_number_48 (by decide) ?_
  refine xr_goto (tgt := 53) X dX12_number_49 (by decide) ?_
  refine xr_callV X hm rfl kw_1092 kw_1094 kw_28 cw_X12_must [.int 1] (c_X12_must hm htape hB ht hL (by omega)) rfl rfl rfl rfl rfl rfl rfl dX12_number_53 ?_
  refine xr_iload_n X 0 dX12_number_56 rfl rfl ?_
  exact xr_iret X rfl rfl rfl rfl rfl rfl dX12_number_57
set_option maxRecDepth 100000 in
theorem c_X12_number2 {l : Launch} {Ω : xW} {h : xH} {sz : Nat} {m : Nat} {st ac la fl tr : Int32} {tape : Nat → Int32} {t : Nat → Nat} {L q : Nat} {hi : Nat} (hm : h m = some (mO m st ac 0 la (nI L) (nI (tE t L q)) (nI ((tK t L q + 1) % 5)) (nI (tS t L q)) (nI (tE t L q)) 0 fl tr)) (htape : h (m + 7) = some (.inl (.int, 300, .inl tape))) (hB : ∀ q, q < L → tape q = nI (t q)) (ht : ∀ q, q < L → t q < 256) (hL : L ≤ 300) (hq : q ≤ L) (h2 : tK t L q = 2) (hv : hi < nuv t L q) (hh : hi < 1000) : xC l Ω yX12_number cX12_number 4 (some .int) 3 0 0 [.ref m, .int 0, .int (nI hi)] h sz (some (.int (nI (nuv t L q)))) (xu h m (.inr (11, [.int 0, .int st, .ref (m + 1), .ref (m + 2), .ref (m + 3), .ref (m + 4), .ref (m + 5), .ref (m + 6), .int ac, .ref (m + 7), .int 0, .int la, .int (nI L), .int (nI (tE t L q)), .int (nI ((tK t L q + 1) % 5)), .int (nI (tS t L q)), .int (nI (tE t L q)), .int 2, .int (nI (tS t L q)), .ref (m + 8), .ref (m + 9), .ref (m + 10), .ref (m + 11), .int tr]))) (sz) := by
  refine xC_of (lv := [(0, .ref m), (1, .int 0), (2, .int (nI hi))]) pn_X12 rfl rfl (fun Γ X hΓ hbs => ?_)
  have X : xX Γ Ω cX12_number 4 RX12 "number" (some .int) 3 105 0 0 := X
  subst hΓ
  have kle := tK_le t L q
  obtain ⟨z1, z2⟩ := tE_rng (t := t) hq
  obtain ⟨y1, y2, -, -⟩ := tS_spec (t := t) hq
  have nle := nuv_lt t L q hq
  refine xr_aload_n X 0 dX12_number_0 rfl rfl ?_
  refine xr_get X fF_X12_102_11 hm rfl dX12_number_1 ?_
  refine xr_if_le (tgt := 9) X dX12_number_4 (by decide) (fun _ => ?_) (fun c_4 => absurd (by decide) c_4)
  refine xr_aload_n X 0 dX12_number_9 rfl rfl ?_
  refine xr_callV X hm rfl kw_1108 kw_1110 kw_30 cw_X12_figures [] (c_X12_figures hm htape hB ht hL (by omega)) rfl rfl rfl rfl rfl rfl rfl dX12_number_10 ?_
  refine xr_istore_n (lv' := [(3, .int (nI (nuv t L q))), (0, .ref m), (1, .int 0), (2, .int (nI hi))]) X dX12_number_13 rfl rfl rfl ?_
  refine xr_aload_n X 1 dX12_number_14 rfl rfl ?_
  refine xr_get X fF_X12_90_11 hm rfl dX12_number_15 ?_
  refine xr_iconst (v := 3) X dX12_number_18 (by decide) ?_
  refine xr_icmp_ne (tgt := 39) X dX12_number_19 (by decide) (fun c_19 => absurd (by rw [h2]; decide) c_19) (fun _ => ?_)
  refine xr_iload_n X 0 dX12_number_22 rfl rfl ?_
  refine xr_i2l X dX12_number_23 ?_
  refine xr_iload_n X 2 dX12_number_24 rfl rfl ?_
  refine xr_i2l X dX12_number_25 ?_
  refine xr_iload_n X 3 dX12_number_26 rfl rfl ?_
  refine xr_i2l X dX12_number_27 ?_
  refine xr_callS X kw_1027 kw_1028 cw_X12_in [.long ((nI (nuv t L q)).toInt64), .long ((0 : Int32).toInt64), .long ((nI hi).toInt64)] c_X12_in rfl rfl rfl rfl rfl rfl rfl dX12_number_28 ?_
  refine xr_if_ne (tgt := 39) X dX12_number_31 (by decide) (fun c_31 => absurd (xb_0.mpr (decide_eq_false (by rw [i32_l, i32_l, i32_l, nI_toInt (by omega), nI_toInt (by omega), k32_0]; omega))) c_31) (fun _ => ?_)
  refine xr_aload_n X 1 dX12_number_34 rfl rfl ?_
  refine xr_iconst (v := 2) X dX12_number_35 (by decide) ?_
  refine xr_callV X hm rfl kw_1084 kw_1086 kw_26 cw_X12_bad [.int 2] (c_X12_bad hm) rfl rfl rfl rfl rfl rfl rfl dX12_number_36 ?_
  refine xr_aload_n X 1 dX12_number_39 rfl rfl ?_
  refine xr_aload_n X 1 dX12_number_40 rfl rfl ?_
  refine xr_get X fF_X12_90_11 (xu_s _ _ _) rfl dX12_number_41 ?_
  refine xr_iconst (v := 3) X dX12_number_44 (by decide) ?_
  refine xr_icmp_ne (tgt := 52) X dX12_number_45 (by decide) (fun c_45 => absurd (by rw [h2]; decide) c_45) (fun _ => ?_)
  refine xr_iconst (v := 1) X dX12_number_48 (by decide) ?_
  refine xr_goto (tgt := 53) X dX12_number_49 (by decide) ?_
  refine xr_callV X (xu_s _ _ _) rfl kw_1092 kw_1094 kw_28 cw_X12_must [.int 1] (c_X12_must1 (xu_s _ _ _) (by decide)) rfl rfl rfl rfl rfl rfl rfl dX12_number_53 ?_
  refine xr_iload_n X 0 dX12_number_56 rfl rfl ?_
  exact xr_iret X rfl rfl rfl rfl rfl rfl dX12_number_57
set_option maxRecDepth 100000 in
theorem c_X12_number1 {l : Launch} {Ω : xW} {h : xH} {sz : Nat} {m : Nat} {st ac la fl tr : Int32} {tape : Nat → Int32} {t : Nat → Nat} {L q : Nat} {hi : Nat} (hm : h m = some (mO m st ac 0 la (nI L) (nI (tE t L q)) (nI ((tK t L q + 1) % 5)) (nI (tS t L q)) (nI (tE t L q)) 0 fl tr)) (htape : h (m + 7) = some (.inl (.int, 300, .inl tape))) (hB : ∀ q, q < L → tape q = nI (t q)) (ht : ∀ q, q < L → t q < 256) (hL : L ≤ 300) (hq : q ≤ L) (h2 : ¬ tK t L q = 2) : xC l Ω yX12_number cX12_number 4 (some .int) 3 0 0 [.ref m, .int 0, .int (nI hi)] h sz (some (.int (nI (nuv t L q)))) (xu h m (.inr (11, [.int 0, .int st, .ref (m + 1), .ref (m + 2), .ref (m + 3), .ref (m + 4), .ref (m + 5), .ref (m + 6), .int ac, .ref (m + 7), .int 0, .int la, .int (nI L), .int (nI (tE t L q)), .int (nI ((tK t L q + 1) % 5)), .int (nI (tS t L q)), .int (nI (tE t L q)), .int 1, .int (nI (tS t L q)), .ref (m + 8), .ref (m + 9), .ref (m + 10), .ref (m + 11), .int tr]))) (sz) := by
  refine xC_of (lv := [(0, .ref m), (1, .int 0), (2, .int (nI hi))]) pn_X12 rfl rfl (fun Γ X hΓ hbs => ?_)
  have X : xX Γ Ω cX12_number 4 RX12 "number" (some .int) 3 105 0 0 := X
  subst hΓ
  have kle := tK_le t L q
  obtain ⟨z1, z2⟩ := tE_rng (t := t) hq
  obtain ⟨y1, y2, -, -⟩ := tS_spec (t := t) hq
  have nle := nuv_lt t L q hq
  refine xr_aload_n X 0 dX12_number_0 rfl rfl ?_
  refine xr_get X fF_X12_102_11 hm rfl dX12_number_1 ?_
  refine xr_if_le (tgt := 9) X dX12_number_4 (by decide) (fun _ => ?_) (fun c_4 => absurd (by decide) c_4)
  refine xr_aload_n X 0 dX12_number_9 rfl rfl ?_
  refine xr_callV X hm rfl kw_1108 kw_1110 kw_30 cw_X12_figures [] (c_X12_figures hm htape hB ht hL (by omega)) rfl rfl rfl rfl rfl rfl rfl dX12_number_10 ?_
  refine xr_istore_n (lv' := [(3, .int (nI (nuv t L q))), (0, .ref m), (1, .int 0), (2, .int (nI hi))]) X dX12_number_13 rfl rfl rfl ?_
  refine xr_aload_n X 1 dX12_number_14 rfl rfl ?_
  refine xr_get X fF_X12_90_11 hm rfl dX12_number_15 ?_
  refine xr_iconst (v := 3) X dX12_number_18 (by decide) ?_
  refine xr_icmp_ne (tgt := 39) X dX12_number_19 (by decide) (fun _ => ?_) (fun c_19 => absurd c_19 (by rw [i32_eq, nI_toInt (by omega), k32_3]; omega))
  refine xr_aload_n X 1 dX12_number_39 rfl rfl ?_
  refine xr_aload_n X 1 dX12_number_40 rfl rfl ?_
  refine xr_get X fF_X12_90_11 hm rfl dX12_number_41 ?_
  refine xr_iconst (v := 3) X dX12_number_44 (by decide) ?_
  refine xr_icmp_ne (tgt := 52) X dX12_number_45 (by decide) (fun _ => ?_) (fun c_45 => absurd c_45 (by rw [i32_eq, nI_toInt (by omega), k32_3]; omega))
  refine xr_iconst (v := 0) X dX12_number_52 (by decide) ?_
  refine xr_callV X hm rfl kw_1092 kw_1094 kw_28 cw_X12_must [.int 0] (c_X12_must0 hm) rfl rfl rfl rfl rfl rfl rfl dX12_number_53 ?_
  refine xr_iload_n X 0 dX12_number_56 rfl rfl ?_
  exact xr_iret X rfl rfl rfl rfl rfl rfl dX12_number_57
set_option maxRecDepth 100000 in
theorem c_X12_numberF {l : Launch} {Ω : xW} {h : xH} {sz : Nat} {m : Nat} {st ac la fa fl tr : Int32} {t : Nat → Nat} {L q : Nat} {hi : Nat} (hm : h m = some (mO m st ac 0 la (nI L) (nI (tE t L q)) (nI ((tK t L q + 1) % 5)) (nI (tS t L q)) (nI (tE t L q)) fa fl tr)) (hf : 0 < fa.toInt) : xC l Ω yX12_number cX12_number 4 (some .int) 3 0 0 [.ref m, .int 0, .int (nI hi)] h sz (some (.int 0)) h (sz) := by
  refine xC_of (lv := [(0, .ref m), (1, .int 0), (2, .int (nI hi))]) pn_X12 rfl rfl (fun Γ X hΓ hbs => ?_)
  have X : xX Γ Ω cX12_number 4 RX12 "number" (some .int) 3 105 0 0 := X
  subst hΓ
  refine xr_aload_n X 0 dX12_number_0 rfl rfl ?_
  refine xr_get X fF_X12_102_11 hm rfl dX12_number_1 ?_
  refine xr_if_le (tgt := 9) X dX12_number_4 (by decide) (fun c_4 => absurd c_4 (by rw [i32_le, k32_0]; omega)) (fun _ => ?_)
  refine xr_iconst (v := 0) X dX12_number_7 (by decide) ?_
  exact xr_iret X rfl rfl rfl rfl rfl rfl dX12_number_8
set_option maxRecDepth 100000 in
theorem c_X12_kindBy {l : Launch} {Ω : xW} {h : xH} {sz : Nat} {w : Int64}  : xC l Ω yX12_kindBy cX12_kindBy 2 (some .int) 0 0 0 [.long w] h sz (some (.int (kdB w.toInt))) h (sz) := by
  refine xC_of (lv := [(0, .long w)]) pn_X12 rfl rfl (fun Γ X hΓ hbs => ?_)
  have X : xX Γ Ω cX12_kindBy 2 RX12 "kindBy" (some .int) 0 0 0 0 := X
  subst hΓ
  refine xr_lload_n X 0 dX12_kindBy_0 rfl rfl ?_
  refine xr_ldc2 (v := 1953658213) X kw_1099 dX12_kindBy_1 ?_
  refine xr_lcmp X dX12_kindBy_4 ?_
  refine xr_if_ne (tgt := 12) X dX12_kindBy_5 (by decide) (fun c_5 => ?_) (fun c_5 => ?_)
  · have c_5 := mt lgc_eq.mpr c_5
    (try simp (disch := omega) only [nI_toInt, i32_add, i32_sub, i32_mul, i64_addl, i32_l, k64_1953658213] at c_5)
    refine xr_lload_n X 0 dX12_kindBy_12 rfl rfl ?_
    refine xr_ldc2 (v := 427121668979) X kw_1100 dX12_kindBy_13 ?_
    refine xr_lcmp X dX12_kindBy_16 ?_
    refine xr_if_ne (tgt := 24) X dX12_kindBy_17 (by decide) (fun c_17 => ?_) (fun c_17 => ?_)
    · have c_17 := mt lgc_eq.mpr c_17
      (try simp (disch := omega) only [nI_toInt, i32_add, i32_sub, i32_mul, i64_addl, i32_l, k64_427121668979] at c_17)
      refine xr_lload_n X 0 dX12_kindBy_24 rfl rfl ?_
      refine xr_ldc2 (v := 427121669988) X kw_1101 dX12_kindBy_25 ?_
      refine xr_lcmp X dX12_kindBy_28 ?_
      refine xr_if_ne (tgt := 36) X dX12_kindBy_29 (by decide) (fun c_29 => ?_) (fun c_29 => ?_)
      · have c_29 := mt lgc_eq.mpr c_29
        (try simp (disch := omega) only [nI_toInt, i32_add, i32_sub, i32_mul, i64_addl, i32_l, k64_427121669988] at c_29)
        refine xr_lload_n X 0 dX12_kindBy_36 rfl rfl ?_
        refine xr_ldc2 (v := 470021006457) X kw_1102 dX12_kindBy_37 ?_
        refine xr_lcmp X dX12_kindBy_40 ?_
        refine xr_if_ne (tgt := 48) X dX12_kindBy_41 (by decide) (fun c_41 => ?_) (fun c_41 => ?_)
        · have c_41 := mt lgc_eq.mpr c_41
          (try simp (disch := omega) only [nI_toInt, i32_add, i32_sub, i32_mul, i64_addl, i32_l, k64_470021006457] at c_41)
          refine xr_lload_n X 0 dX12_kindBy_48 rfl rfl ?_
          refine xr_ldc2 (v := 7106420) X kw_1103 dX12_kindBy_49 ?_
          refine xr_lcmp X dX12_kindBy_52 ?_
          refine xr_if_ne (tgt := 60) X dX12_kindBy_53 (by decide) (fun c_53 => ?_) (fun c_53 => ?_)
          · have c_53 := mt lgc_eq.mpr c_53
            (try simp (disch := omega) only [nI_toInt, i32_add, i32_sub, i32_mul, i64_addl, i32_l, k64_7106420] at c_53)
            refine xr_ldc (v := (-1000000)) X kw_1072 dX12_kindBy_60 ?_
            exact xr_iret X rfl (xv (((((if_neg (by omega)).trans (if_neg (by omega))).trans (if_neg (by omega))).trans (if_neg (by omega))).trans (if_neg (by omega)))) rfl rfl rfl rfl dX12_kindBy_62
          · have c_53 := lgc_eq.mp c_53
            (try simp (disch := omega) only [nI_toInt, i32_add, i32_sub, i32_mul, i64_addl, i32_l, k64_7106420] at c_53)
            refine xr_iconst (v := 3) X dX12_kindBy_56 (by decide) ?_
            refine xr_goto (tgt := 62) X dX12_kindBy_57 (by decide) ?_
            exact xr_iret X rfl (xv (((((if_neg (by omega)).trans (if_neg (by omega))).trans (if_neg (by omega))).trans (if_neg (by omega))).trans (if_pos (by omega)))) rfl rfl rfl rfl dX12_kindBy_62
        · have c_41 := lgc_eq.mp c_41
          (try simp (disch := omega) only [nI_toInt, i32_add, i32_sub, i32_mul, i64_addl, i32_l, k64_470021006457] at c_41)
          refine xr_iconst (v := 5) X dX12_kindBy_44 (by decide) ?_
          refine xr_goto (tgt := 62) X dX12_kindBy_45 (by decide) ?_
          exact xr_iret X rfl (xv ((((if_neg (by omega)).trans (if_neg (by omega))).trans (if_neg (by omega))).trans (if_pos (by omega)))) rfl rfl rfl rfl dX12_kindBy_62
      · have c_29 := lgc_eq.mp c_29
        (try simp (disch := omega) only [nI_toInt, i32_add, i32_sub, i32_mul, i64_addl, i32_l, k64_427121669988] at c_29)
        refine xr_iconst (v := 4) X dX12_kindBy_32 (by decide) ?_
        refine xr_goto (tgt := 62) X dX12_kindBy_33 (by decide) ?_
        exact xr_iret X rfl (xv (((if_neg (by omega)).trans (if_neg (by omega))).trans (if_pos (by omega)))) rfl rfl rfl rfl dX12_kindBy_62
    · have c_17 := lgc_eq.mp c_17
      (try simp (disch := omega) only [nI_toInt, i32_add, i32_sub, i32_mul, i64_addl, i32_l, k64_427121668979] at c_17)
      refine xr_iconst (v := 2) X dX12_kindBy_20 (by decide) ?_
      refine xr_goto (tgt := 62) X dX12_kindBy_21 (by decide) ?_
      exact xr_iret X rfl (xv ((if_neg (by omega)).trans (if_pos (by omega)))) rfl rfl rfl rfl dX12_kindBy_62
  · have c_5 := lgc_eq.mp c_5
    (try simp (disch := omega) only [nI_toInt, i32_add, i32_sub, i32_mul, i64_addl, i32_l, k64_1953658213] at c_5)
    refine xr_iconst (v := 1) X dX12_kindBy_8 (by decide) ?_
    refine xr_goto (tgt := 62) X dX12_kindBy_9 (by decide) ?_
    exact xr_iret X rfl (xv (if_pos (by omega))) rfl rfl rfl rfl dX12_kindBy_62
