/-- the model: its numbers, and its rows at the places behind it -/
abbrev mO (m : Nat) (st ac tp la le cu tk sa ti fa fl tr : Int32) : xE := .inr (11, [.int 0, .int st, .ref (m + 1), .ref (m + 2), .ref (m + 3), .ref (m + 4), .ref (m + 5), .ref (m + 6), .int ac, .ref (m + 7), .int tp, .int la, .int le, .int cu, .int tk, .int sa, .int ti, .int fa, .int fl, .ref (m + 8), .ref (m + 9), .ref (m + 10), .ref (m + 11), .int tr])
set_option maxRecDepth 100000 in
theorem c_X12_in {l : Launch} {Ω : xW} {h : xH} {sz : Nat} {v lo hi : Int64}  : xC l Ω yX12_in cX12_in 6 (some .boolean) 0 0 0 [.long v, .long lo, .long hi] h sz (some (.int (xb (decide (lo.toInt ≤ v.toInt ∧ v.toInt ≤ hi.toInt))))) h (sz) := by
  refine xC_of (lv := [(0, .long v), (2, .long lo), (4, .long hi)]) pn_X12 rfl rfl (fun Γ X hΓ hbs => ?_)
  have X : xX Γ Ω cX12_in 6 RX12 "in" (some .boolean) 0 0 0 0 := X
  subst hΓ
  refine xr_lload_n X 0 dX12_in_0 rfl rfl ?_
  refine xr_lload_n X 1 dX12_in_1 rfl rfl ?_
  refine xr_lcmp X dX12_in_2 ?_
  refine xr_if_lt (tgt := 17) X dX12_in_3 (by decide) (fun c_3 => ?_) (fun c_3 => ?_)
  · have c_3 := lgc_lt.mp c_3
    (try simp (disch := omega) only [nI_toInt, i32_add, i32_sub, i32_mul, i64_addl, i32_l] at c_3)
    refine xr_iconst (v := 0) X dX12_in_17 (by decide) ?_
    exact xr_zret X rfl rfl (by first | exact xbT (by omega) | exact xbF (by omega)) rfl rfl rfl rfl dX12_in_18
  · have c_3 := mt lgc_lt.mpr c_3
    (try simp (disch := omega) only [nI_toInt, i32_add, i32_sub, i32_mul, i64_addl, i32_l] at c_3)
    refine xr_lload_n X 0 dX12_in_6 rfl rfl ?_
    refine xr_lload X 2 dX12_in_7 rfl ?_
    refine xr_lcmp X dX12_in_9 ?_
    refine xr_if_gt (tgt := 17) X dX12_in_10 (by decide) (fun c_10 => ?_) (fun c_10 => ?_)
    · have c_10 := lgc_gt.mp c_10
      (try simp (disch := omega) only [nI_toInt, i32_add, i32_sub, i32_mul, i64_addl, i32_l] at c_10)
      refine xr_iconst (v := 0) X dX12_in_17 (by decide) ?_
      exact xr_zret X rfl rfl (by first | exact xbT (by omega) | exact xbF (by omega)) rfl rfl rfl rfl dX12_in_18
    · have c_10 := mt lgc_gt.mpr c_10
      (try simp (disch := omega) only [nI_toInt, i32_add, i32_sub, i32_mul, i64_addl, i32_l] at c_10)
      refine xr_iconst (v := 1) X dX12_in_13 (by decide) ?_
      refine xr_goto (tgt := 18) X dX12_in_14 (by decide) ?_
      exact xr_zret X rfl rfl (by first | exact xbT (by omega) | exact xbF (by omega)) rfl rfl rfl rfl dX12_in_18
set_option maxRecDepth 100000 in
theorem c_X12_isRow {l : Launch} {Ω : xW} {h : xH} {sz : Nat} {r : Int32}  : xC l Ω yX12_isRow cX12_isRow 1 (some .boolean) 1 0 0 [.int r] h sz (some (.int (xb (decide (0 ≤ r.toInt ∧ r.toInt < 8))))) h (sz) := by
  refine xC_of (lv := [(0, .int r)]) pn_X12 rfl rfl (fun Γ X hΓ hbs => ?_)
  have X : xX Γ Ω cX12_isRow 1 RX12 "isRow" (some .boolean) 1 35 0 0 := X
  subst hΓ
  refine xr_iload_n X 0 dX12_isRow_0 rfl rfl ?_
  refine xr_i2l X dX12_isRow_1 ?_
  refine xr_lconst (v := 0) X dX12_isRow_2 (by decide) ?_
  refine xr_ldc2 (v := 7) X kw_1026 dX12_isRow_3 ?_
  refine xr_callS X kw_1027 kw_1028 cw_X12_in [.long r.toInt64, .long 0, .long 7] c_X12_in rfl rfl rfl rfl rfl rfl rfl dX12_isRow_6 ?_
  exact xr_zret X rfl (xb_nar _) (by simp only [i32_l, k64_0, k64_7]; congr 3; apply decide_eq_decide.mpr; omega) rfl rfl rfl rfl dX12_isRow_9
set_option maxRecDepth 100000 in
theorem c_X12_finding {l : Launch} {Ω : xW} {h : xH} {sz : Nat} {m : Nat} {st ac tp la le cu tk sa ti fa fl tr : Int32} {k : Int32} (hm : h m = some (mO m st ac tp la le cu tk sa ti fa fl tr)) : xC l Ω yX12_finding cX12_finding 2 (some .int) 0 0 0 [.ref m, .int k] h sz (some (.int ((-1000010) - k))) (xu h m (.inr (11, [.int 0, .int k, .ref (m + 1), .ref (m + 2), .ref (m + 3), .ref (m + 4), .ref (m + 5), .ref (m + 6), .int ac, .ref (m + 7), .int tp, .int la, .int le, .int cu, .int tk, .int sa, .int ti, .int fa, .int fl, .ref (m + 8), .ref (m + 9), .ref (m + 10), .ref (m + 11), .int tr]))) (sz) := by
  refine xC_of (lv := [(0, .ref m), (1, .int k)]) pn_X12 rfl rfl (fun Γ X hΓ hbs => ?_)
  have X : xX Γ Ω cX12_finding 2 RX12 "finding" (some .int) 0 0 0 0 := X
  subst hΓ
  refine xr_aload_n X 0 dX12_finding_0 rfl rfl ?_
  refine xr_iload_n X 1 dX12_finding_1 rfl rfl ?_
  refine xr_put (fs' := [.int 0, .int k, .ref (m + 1), .ref (m + 2), .ref (m + 3), .ref (m + 4), .ref (m + 5), .ref (m + 6), .int ac, .ref (m + 7), .int tp, .int la, .int le, .int cu, .int tk, .int sa, .int ti, .int fa, .int fl, .ref (m + 8), .ref (m + 9), .ref (m + 10), .ref (m + 11), .int tr]) X (fW_X12_48_11 _) hm rfl rfl rfl rfl dX12_finding_2 ?_
  refine xr_ldc (v := (-1000010)) X kw_1036 dX12_finding_5 ?_
  refine xr_iload_n X 1 dX12_finding_7 rfl rfl ?_
  refine xr_isub X dX12_finding_8 ?_
  exact xr_iret X rfl rfl rfl rfl rfl rfl dX12_finding_9
def a_row (r l2 n : Int32) : Int32 := if 0 ≤ r.toInt ∧ r.toInt < 8 ∧ 0 ≤ l2.toInt ∧ l2.toInt < 3 ∧ n.toInt ≤ 40 then (if n.toInt < 0 then -1000014 else n) else -1000001
set_option maxRecDepth 100000 in
theorem l_X12_row {Γ : xΓ} {Ω : xW} {h : xH} {sz : Nat} (X : xX Γ Ω cX12_row 5 RX12 "row" (some .int) 2 70 0 0) {m : Nat} {st ac tp la le cu tk sa ti fa fl tr : Int32} {lane many item : Nat → Int32} {r l2 n : Int32} (hm : h m = some (mO m st ac tp la le cu tk sa ti fa fl tr)) (hlane : h (m + 1) = some (.inl (.int, 8, .inl lane))) (hmany : h (m + 2) = some (.inl (.int, 8, .inl many))) (hitem : h (m + 3) = some (.inl (.int, 320, .inl item))) (h0 : 0 ≤ r.toInt) (h8 : r.toInt < 8) : ∀ (j k : Nat), k + j = 40 → xG Γ Ω 5 (xQ Γ Ω (some (.int n)) (xu (xu (xu (xu h m (.inr (11, [.int 0, .int 0, .ref (m + 1), .ref (m + 2), .ref (m + 3), .ref (m + 4), .ref (m + 5), .ref (m + 6), .int ac, .ref (m + 7), .int tp, .int la, .int le, .int cu, .int tk, .int sa, .int ti, .int fa, .int fl, .ref (m + 8), .ref (m + 9), .ref (m + 10), .ref (m + 11), .int tr]))) (m + 1) (.inl (.int, 8, .inl (upd lane r.toNatClampNeg l2)))) (m + 2) (.inl (.int, 8, .inl (upd many r.toNatClampNeg n)))) (m + 3) (.inl (.int, 320, .inl (zf item (40 * r.toNatClampNeg) 40)))) (sz) 0 0) 65 [(4, .int (nI k)), (0, .ref m), (1, .int r), (2, .int l2), (3, .int n)] ([]) (xu (xu (xu (xu h m (.inr (11, [.int 0, .int 0, .ref (m + 1), .ref (m + 2), .ref (m + 3), .ref (m + 4), .ref (m + 5), .ref (m + 6), .int ac, .ref (m + 7), .int tp, .int la, .int le, .int cu, .int tk, .int sa, .int ti, .int fa, .int fl, .ref (m + 8), .ref (m + 9), .ref (m + 10), .ref (m + 11), .int tr]))) (m + 1) (.inl (.int, 8, .inl (upd lane r.toNatClampNeg l2)))) (m + 2) (.inl (.int, 8, .inl (upd many r.toNatClampNeg n)))) (m + 3) (.inl (.int, 320, .inl (zf item (40 * r.toNatClampNeg) k)))) sz 0 0 := by
  intro j
  induction j with
  | zero =>
    intro k hk
    obtain rfl : k = 40 := by omega
    refine xr_iload X 0 dX12_row_65 rfl ?_
    refine xr_bipush (v := 40) X dX12_row_67 (by decide) ?_
    refine xr_icmp_ge (tgt := 91) X dX12_row_69 (by decide) (fun _ => ?_) (fun c_69 => absurd (by decide) c_69)
    refine xr_iload_n X 4 dX12_row_91 rfl rfl ?_
    exact xr_iret X rfl rfl rfl rfl rfl rfl dX12_row_92
  | succ j ih =>
    intro k hk
    refine xr_iload X 0 dX12_row_65 rfl ?_
    refine xr_bipush (v := 40) X dX12_row_67 (by decide) ?_
    refine xr_icmp_ge (tgt := 91) X dX12_row_69 (by decide) (fun c_69 => absurd c_69 (by rw [i32_le, k32_40, nI_toInt (by omega)]; omega)) (fun _ => ?_)
    refine xr_aload_n X 1 dX12_row_72 rfl rfl ?_
    refine xr_get X fF_X12_16_11 (xu_at (xn0 _ rfl) (xu_at (xn0 _ rfl) (xu_at (xn0 _ rfl) (xu_s _ _ _)))) rfl dX12_row_73 ?_
    refine xr_bipush (v := 40) X dX12_row_76 (by decide) ?_
    refine xr_iload_n X 2 dX12_row_78 rfl rfl ?_
    refine xr_imul X dX12_row_79 ?_
    refine xr_iload X 0 dX12_row_80 rfl ?_
    refine xr_iadd X dX12_row_82 ?_
    refine xr_iconst (v := 0) X dX12_row_83 (by decide) ?_
    refine xr_iast (j := (40 * r.toNatClampNeg + k)) X (xu_s _ _ _) (xI_40 h0 h8 (nI_toInt (by omega)) (by omega)) dX12_row_84 ?_
    refine xr_heap (h' := (xu (xu (xu (xu h m (.inr (11, [.int 0, .int 0, .ref (m + 1), .ref (m + 2), .ref (m + 3), .ref (m + 4), .ref (m + 5), .ref (m + 6), .int ac, .ref (m + 7), .int tp, .int la, .int le, .int cu, .int tk, .int sa, .int ti, .int fa, .int fl, .ref (m + 8), .ref (m + 9), .ref (m + 10), .ref (m + 11), .int tr]))) (m + 1) (.inl (.int, 8, .inl (upd lane r.toNatClampNeg l2)))) (m + 2) (.inl (.int, 8, .inl (upd many r.toNatClampNeg n)))) (m + 3) (.inl (.int, 320, .inl (upd (zf item (40 * r.toNatClampNeg) k) (40 * r.toNatClampNeg + k) 0))))) (xu_uu _ _ _ _) ?_
    refine xr_iinc (v := nI (k + 1)) (lv' := [(4, .int (nI (k + 1))), (0, .ref m), (1, .int r), (2, .int l2), (3, .int n)]) X 0 dX12_row_85 rfl (nI_1 _) rfl rfl ?_
    refine xr_goto (tgt := 65) X dX12_row_88 (by decide) ?_
    refine xr_heap (h' := (xu (xu (xu (xu h m (.inr (11, [.int 0, .int 0, .ref (m + 1), .ref (m + 2), .ref (m + 3), .ref (m + 4), .ref (m + 5), .ref (m + 6), .int ac, .ref (m + 7), .int tp, .int la, .int le, .int cu, .int tk, .int sa, .int ti, .int fa, .int fl, .ref (m + 8), .ref (m + 9), .ref (m + 10), .ref (m + 11), .int tr]))) (m + 1) (.inl (.int, 8, .inl (upd lane r.toNatClampNeg l2)))) (m + 2) (.inl (.int, 8, .inl (upd many r.toNatClampNeg n)))) (m + 3) (.inl (.int, 320, .inl (zf item (40 * r.toNatClampNeg) (k + 1)))))) (by rw [zf_s]) ?_
    refine xr_locs [0, 1, 2, 3, 4] rfl ?_
    exact ih (k + 1) (by omega)
set_option maxRecDepth 100000 in
theorem c_X12_row {l : Launch} {Ω : xW} {h : xH} {sz : Nat} {m : Nat} {st ac tp la le cu tk sa ti fa fl tr : Int32} {lane many item : Nat → Int32} {r l2 n : Int32} (hm : h m = some (mO m st ac tp la le cu tk sa ti fa fl tr)) (hlane : h (m + 1) = some (.inl (.int, 8, .inl lane))) (hmany : h (m + 2) = some (.inl (.int, 8, .inl many))) (hitem : h (m + 3) = some (.inl (.int, 320, .inl item))) : xC l Ω yX12_row cX12_row 5 (some .int) 2 0 0 [.ref m, .int r, .int l2, .int n] h sz (some (.int (a_row r l2 n))) (if 0 ≤ r.toInt ∧ r.toInt < 8 ∧ 0 ≤ l2.toInt ∧ l2.toInt < 3 ∧ n.toInt ≤ 40 then (if n.toInt < 0 then (xu h m (.inr (11, [.int 0, .int 4, .ref (m + 1), .ref (m + 2), .ref (m + 3), .ref (m + 4), .ref (m + 5), .ref (m + 6), .int ac, .ref (m + 7), .int tp, .int la, .int le, .int cu, .int tk, .int sa, .int ti, .int fa, .int fl, .ref (m + 8), .ref (m + 9), .ref (m + 10), .ref (m + 11), .int tr]))) else (xu (xu (xu (xu h m (.inr (11, [.int 0, .int 0, .ref (m + 1), .ref (m + 2), .ref (m + 3), .ref (m + 4), .ref (m + 5), .ref (m + 6), .int ac, .ref (m + 7), .int tp, .int la, .int le, .int cu, .int tk, .int sa, .int ti, .int fa, .int fl, .ref (m + 8), .ref (m + 9), .ref (m + 10), .ref (m + 11), .int tr]))) (m + 1) (.inl (.int, 8, .inl (upd lane r.toNatClampNeg l2)))) (m + 2) (.inl (.int, 8, .inl (upd many r.toNatClampNeg n)))) (m + 3) (.inl (.int, 320, .inl (zf item (40 * r.toNatClampNeg) 40))))) else h) (sz) := by
  refine xC_of (lv := [(0, .ref m), (1, .int r), (2, .int l2), (3, .int n)]) pn_X12 rfl rfl (fun Γ X hΓ hbs => ?_)
  have X : xX Γ Ω cX12_row 5 RX12 "row" (some .int) 2 70 0 0 := X
  subst hΓ
  refine xr_aload_n X 0 dX12_row_0 rfl rfl ?_
  refine xr_iconst (v := 0) X dX12_row_1 (by decide) ?_
  refine xr_put (fs' := [.int 0, .int st, .ref (m + 1), .ref (m + 2), .ref (m + 3), .ref (m + 4), .ref (m + 5), .ref (m + 6), .int ac, .ref (m + 7), .int tp, .int la, .int le, .int cu, .int tk, .int sa, .int ti, .int fa, .int fl, .ref (m + 8), .ref (m + 9), .ref (m + 10), .ref (m + 11), .int tr]) X (fW_X12_44_11 _) hm rfl rfl rfl rfl dX12_row_2 ?_
  refine xr_heap (h' := h) (xu_id hm) ?_
  refine xr_iload_n X 1 dX12_row_5 rfl rfl ?_
  refine xr_callS X kw_1023 kw_1024 cw_X12_isRow [.int r] c_X12_isRow rfl rfl rfl rfl rfl rfl rfl dX12_row_6 ?_
  refine xr_if_eq (tgt := 30) X dX12_row_9 (by decide) (fun c_9 => ?_) (fun c_9 => ?_)
  · have c_9 := of_decide_eq_false (xb_0.mp c_9)
    (try simp (disch := omega) only [nI_toInt, i32_add, i32_sub, i32_mul, i64_addl, i32_l, k32_0, k32_8, k64_0, k64_8] at c_9)
    refine xr_ldc (v := (-1000001)) X kw_1031 dX12_row_30 ?_
    exact xr_iret X rfl (xv (if_neg (by omega))) ((if_neg (by omega)).symm) rfl rfl rfl dX12_row_32
  · have c_9 := of_decide_eq_true (xb_1.mp c_9)
    (try simp (disch := omega) only [nI_toInt, i32_add, i32_sub, i32_mul, i64_addl, i32_l, k32_0, k32_8, k64_0, k64_8] at c_9)
    refine xr_iload_n X 2 dX12_row_12 rfl rfl ?_
    refine xr_i2l X dX12_row_13 ?_
    refine xr_lconst (v := 0) X dX12_row_14 (by decide) ?_
    refine xr_ldc2 (v := 2) X kw_1030 dX12_row_15 ?_
    refine xr_callS X kw_1027 kw_1028 cw_X12_in [.long l2.toInt64, .long 0, .long 2] c_X12_in rfl rfl rfl rfl rfl rfl rfl dX12_row_18 ?_
    refine xr_if_eq (tgt := 30) X dX12_row_21 (by decide) (fun c_21 => ?_) (fun c_21 => ?_)
    · have c_21 := of_decide_eq_false (xb_0.mp c_21)
      (try simp (disch := omega) only [nI_toInt, i32_add, i32_sub, i32_mul, i64_addl, i32_l, k32_0, k32_2, k64_0, k64_2] at c_21)
      refine xr_ldc (v := (-1000001)) X kw_1031 dX12_row_30 ?_
      exact xr_iret X rfl (xv (if_neg (by omega))) ((if_neg (by omega)).symm) rfl rfl rfl dX12_row_32
    · have c_21 := of_decide_eq_true (xb_1.mp c_21)
      (try simp (disch := omega) only [nI_toInt, i32_add, i32_sub, i32_mul, i64_addl, i32_l, k32_0, k32_2, k64_0, k64_2] at c_21)
      refine xr_iload_n X 3 dX12_row_24 rfl rfl ?_
      refine xr_bipush (v := 40) X dX12_row_25 (by decide) ?_
      refine xr_icmp_le (tgt := 33) X dX12_row_27 (by decide) (fun c_27 => ?_) (fun c_27 => ?_)
      · have c_27 := i32_le.mp c_27
        (try simp (disch := omega) only [nI_toInt, i32_add, i32_sub, i32_mul, i64_addl, i32_l, k32_40, k64_40] at c_27)
        refine xr_aload_n X 0 dX12_row_33 rfl rfl ?_
        refine xr_iconst (v := 0) X dX12_row_34 (by decide) ?_
        refine xr_put (fs' := [.int 0, .int 0, .ref (m + 1), .ref (m + 2), .ref (m + 3), .ref (m + 4), .ref (m + 5), .ref (m + 6), .int ac, .ref (m + 7), .int tp, .int la, .int le, .int cu, .int tk, .int sa, .int ti, .int fa, .int fl, .ref (m + 8), .ref (m + 9), .ref (m + 10), .ref (m + 11), .int tr]) X (fW_X12_48_11 _) hm rfl rfl rfl rfl dX12_row_35 ?_
        refine xr_iload_n X 3 dX12_row_38 rfl rfl ?_
        refine xr_if_ge (tgt := 48) X dX12_row_39 (by decide) (fun c_39 => ?_) (fun c_39 => ?_)
        · have c_39 := i32_le.mp c_39
          (try simp (disch := omega) only [nI_toInt, i32_add, i32_sub, i32_mul, i64_addl, i32_l, k32_0, k64_0] at c_39)
          refine xr_aload_n X 0 dX12_row_48 rfl rfl ?_
          refine xr_get X fF_X12_7_11 (xu_s _ _ _) rfl dX12_row_49 ?_
          refine xr_iload_n X 1 dX12_row_52 rfl rfl ?_
          refine xr_iload_n X 2 dX12_row_53 rfl rfl ?_
          refine xr_iast (j := r.toNatClampNeg) X (xu_at (xn1 _ rfl) hlane) (xI_c (by omega) (by omega)) dX12_row_54 ?_
          refine xr_aload_n X 0 dX12_row_55 rfl rfl ?_
          refine xr_get X fF_X12_13_11 (xu_at (xn0 _ rfl) (xu_s _ _ _)) rfl dX12_row_56 ?_
          refine xr_iload_n X 1 dX12_row_59 rfl rfl ?_
          refine xr_iload_n X 3 dX12_row_60 rfl rfl ?_
          refine xr_iast (j := r.toNatClampNeg) X (xu_at (xne _ rfl) (xu_at (xn1 _ rfl) hmany)) (xI_c (by omega) (by omega)) dX12_row_61 ?_
          refine xr_iconst (v := 0) X dX12_row_62 (by decide) ?_
          refine xr_istore (lv' := [(4, .int 0), (0, .ref m), (1, .int r), (2, .int l2), (3, .int n)]) X dX12_row_63 rfl rfl ?_
          rw [show a_row r l2 n = n from (if_pos (by omega)).trans (if_neg (by omega)), if_pos (show 0 ≤ r.toInt ∧ r.toInt < 8 ∧ 0 ≤ l2.toInt ∧ l2.toInt < 3 ∧ n.toInt ≤ 40 by omega), if_neg (show ¬ n.toInt < 0 by omega)]
          refine xr_heap (h' := (xu (xu (xu (xu h m (.inr (11, [.int 0, .int 0, .ref (m + 1), .ref (m + 2), .ref (m + 3), .ref (m + 4), .ref (m + 5), .ref (m + 6), .int ac, .ref (m + 7), .int tp, .int la, .int le, .int cu, .int tk, .int sa, .int ti, .int fa, .int fl, .ref (m + 8), .ref (m + 9), .ref (m + 10), .ref (m + 11), .int tr]))) (m + 1) (.inl (.int, 8, .inl (upd lane r.toNatClampNeg l2)))) (m + 2) (.inl (.int, 8, .inl (upd many r.toNatClampNeg n)))) (m + 3) (.inl (.int, 320, .inl (zf item (40 * r.toNatClampNeg) 0))))) (by rw [zf_0]; exact (xu_id (xu_at (xne _ rfl) (xu_at (xne _ rfl) (xu_at (xn1 _ rfl) hitem)))).symm) ?_
          exact l_X12_row X hm hlane hmany hitem (by omega) (by omega) 40 0 rfl
        · have c_39 := mt i32_le.mpr c_39
          (try simp (disch := omega) only [nI_toInt, i32_add, i32_sub, i32_mul, i64_addl, i32_l, k32_0, k64_0] at c_39)
          refine xr_aload_n X 0 dX12_row_42 rfl rfl ?_
          refine xr_iconst (v := 4) X dX12_row_43 (by decide) ?_
          refine xr_callV X (xu_s _ _ _) rfl kw_1032 kw_1034 kw_21 cw_X12_finding [.int 4] (c_X12_finding (xu_s _ _ _)) rfl rfl rfl rfl rfl rfl rfl dX12_row_44 ?_
          refine xr_heap (h' := (xu h m (.inr (11, [.int 0, .int 4, .ref (m + 1), .ref (m + 2), .ref (m + 3), .ref (m + 4), .ref (m + 5), .ref (m + 6), .int ac, .ref (m + 7), .int tp, .int la, .int le, .int cu, .int tk, .int sa, .int ti, .int fa, .int fl, .ref (m + 8), .ref (m + 9), .ref (m + 10), .ref (m + 11), .int tr])))) (xu_uu _ _ _ _) ?_
          exact xr_iret X rfl (xv ((if_pos (by omega)).trans (if_pos (by omega)))) (((if_pos (by omega)).trans (if_pos (by omega))).symm) rfl rfl rfl dX12_row_47
      · have c_27 := mt i32_le.mpr c_27
        (try simp (disch := omega) only [nI_toInt, i32_add, i32_sub, i32_mul, i64_addl, i32_l, k32_40, k64_40] at c_27)
        refine xr_ldc (v := (-1000001)) X kw_1031 dX12_row_30 ?_
        exact xr_iret X rfl (xv (if_neg (by omega))) ((if_neg (by omega)).symm) rfl rfl rfl dX12_row_32
