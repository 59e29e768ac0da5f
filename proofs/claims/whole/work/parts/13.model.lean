set_option maxRecDepth 100000 in
theorem c_X12_done {l : Launch} {Ω : xW} {h : xH} {sz : Nat} {m : Nat} {st ac tp la le cu tk sa ti fa fl tr : Int32} {t : Nat → Int32} {np day b : Nat} {kd wh mn : Nat → Nat} {s : Int32} (hm : h m = some (mO m st ac tp la le cu tk sa ti fa fl tr)) (ht : h (m + 4) = some (.inl (.int, 21, .inl t))) (T : tOK t np kd wh mn day b) : xC l Ω yX12_done cX12_done 2 (some .int) 3 0 0 [.ref m, .int s] h sz (some (.int (a_done kd wh mn np b s))) h (sz) := by
  refine xC_of (lv := [(0, .ref m), (1, .int s)]) pn_X12 rfl rfl (fun Γ X hΓ hbs => ?_)
  have X : xX Γ Ω cX12_done 2 RX12 "done" (some .int) 3 105 0 0 := X
  subst hΓ
  have h6 := T.1
  have h64 := pw_le h6
  have hpp := Nat.two_pow_pos np
  have hb6 := T.2.2.2.2.2.1
  refine xr_aload_n X 0 dX12_done_0 rfl rfl ?_
  refine xr_iconst (v := 0) X dX12_done_1 (by decide) ?_
  refine xr_put (fs' := [.int 0, .int st, .ref (m + 1), .ref (m + 2), .ref (m + 3), .ref (m + 4), .ref (m + 5), .ref (m + 6), .int ac, .ref (m + 7), .int tp, .int la, .int le, .int cu, .int tk, .int sa, .int ti, .int fa, .int fl, .ref (m + 8), .ref (m + 9), .ref (m + 10), .ref (m + 11), .int tr]) X (fW_X12_44_11 _) hm rfl rfl rfl rfl dX12_done_2 ?_
  refine xr_heap (h' := h) (xu_id hm) ?_
  refine xr_aload_n X 0 dX12_done_5 rfl rfl ?_
  refine xr_callV X hm rfl kw_1121 kw_1123 kw_31 cw_X12_isThere [] (c_X12_isThere hm ht T) rfl rfl rfl rfl rfl rfl rfl dX12_done_6 ?_
  refine xr_if_ne (tgt := 17) X dX12_done_9 (by decide) (fun c_9 => ?_) (fun c_9 => ?_)
  · have c_9 := of_decide_eq_true (xb_1.mp c_9)
    (try simp (disch := omega) only [nI_toInt, i32_add, i32_sub, i32_mul, i64_addl, i32_l, k32_0, k64_0] at c_9)
    refine xr_aload_n X 0 dX12_done_17 rfl rfl ?_
    refine xr_iload_n X 1 dX12_done_18 rfl rfl ?_
    refine xr_callV X hm rfl kw_1126 kw_1128 kw_32 cw_X12_isSet [.int s] (c_X12_isSet hm ht T) rfl rfl rfl rfl rfl rfl rfl dX12_done_19 ?_
    refine xr_if_eq (tgt := 41) X dX12_done_22 (by decide) (fun c_22 => ?_) (fun c_22 => ?_)
    · have c_22 := of_decide_eq_false (xb_0.mp c_22)
      (try simp (disch := omega) only [nI_toInt, i32_add, i32_sub, i32_mul, i64_addl, i32_l, k32_0, k32_2, k64_0, k64_2] at c_22)
      refine xr_ldc (v := (-1000001)) X kw_1031 dX12_done_41 ?_
      exact xr_iret X rfl (xv ((if_pos (by omega)).trans (if_neg (by omega)))) rfl rfl rfl rfl dX12_done_43
    · have c_22 := of_decide_eq_true (xb_1.mp c_22)
      (try simp (disch := omega) only [nI_toInt, i32_add, i32_sub, i32_mul, i64_addl, i32_l, k32_0, k32_2, k64_0, k64_2] at c_22)
      have tn_s := (i32_tn (x := s) (by omega)).2
      refine xr_aload_n X 0 dX12_done_25 rfl rfl ?_
      refine xr_iload_n X 1 dX12_done_26 rfl rfl ?_
      refine xr_top (y := (nI (s.toNatClampNeg))) ((i32_tn (by omega)).1) ?_
      refine xr_aload_n X 0 dX12_done_27 rfl rfl ?_
      refine xr_get X fF_X12_19_11 hm rfl dX12_done_28 ?_
      refine xr_iconst (v := 2) X dX12_done_31 (by decide) ?_
      refine xr_iald (j := 2) X ht (xI_e (by decide) (by omega) (by omega)) dX12_done_32 ?_
      refine xr_top (y := (nI b)) T.2.2.2.2.1 ?_
      refine xr_iconst (v := (-1)) X dX12_done_33 (by decide) ?_
      refine xr_iconst (v := 0) X dX12_done_34 (by decide) ?_
      refine xr_callV X hm rfl kw_1138 kw_1140 kw_35 cw_X12_doneBy [.int (nI (s.toNatClampNeg)), .int (nI b), .int (-1), .int 0] (c_X12_doneBy (l2 := (s.toNatClampNeg)) (b2 := b) (hw := 0) (o := (-1)) hm ht T (by omega) (by omega) (by omega)) rfl rfl rfl rfl rfl rfl rfl dX12_done_35 ?_
      refine xr_top (y := nI (dn kd wh mn np (s.toNatClampNeg) b)) (by rw [dnO_n T.1]) ?_
      refine xr_goto (tgt := 43) X dX12_done_38 (by decide) ?_
      exact xr_iret X rfl (xv ((if_pos (by omega)).trans (if_pos (by omega)))) rfl rfl rfl rfl dX12_done_43
  · have c_9 := of_decide_eq_false (xb_0.mp c_9)
    (try simp (disch := omega) only [nI_toInt, i32_add, i32_sub, i32_mul, i64_addl, i32_l, k32_0, k64_0] at c_9)
    refine xr_ldc (v := (-1000002)) X kw_1125 dX12_done_12 ?_
    refine xr_goto (tgt := 43) X dX12_done_14 (by decide) ?_
    exact xr_iret X rfl (xv (if_neg (by omega))) rfl rfl rfl rfl dX12_done_43
set_option maxRecDepth 100000 in
theorem l_X12_agreeing {Γ : xΓ} {Ω : xW} {h : xH} {sz : Nat} (X : xX Γ Ω cX12_agreeing 4 RX12 "agreeing" (some .int) 4 140 0 0) {m : Nat} {st ac tp la le cu tk sa ti fa fl tr : Int32} {t : Nat → Int32} {np day b : Nat} {kd wh mn : Nat → Nat} {i : Int32} (hm : h m = some (mO m st ac tp la le cu tk sa ti fa fl tr)) (ht : h (m + 4) = some (.inl (.int, 21, .inl t))) (T : tOK t np kd wh mn day b) (hi : -1 ≤ i.toInt) : ∀ (j0 k : Nat), k + j0 = 2 ^ np → (∀ q, q < k → ithP (agr kd wh mn np b) i.toInt q = false) → xG Γ Ω 4 (xQ Γ Ω (some (.int (a_agr1 (agr kd wh mn np b) (2 ^ np) i))) h (sz) 0 0) 27 [(3, .int (nI k)), (2, .int (nI (cntB (agr kd wh mn np b) k))), (0, .ref m), (1, .int i)] ([]) h sz 0 0 := by
  intro j0
  induction j0 with
  | zero =>
    intro k hk hinv
    have ek : k = 2 ^ np := by omega
    have h6 := T.1
    have h64 := pw_le h6
    have hpp := Nat.two_pow_pos np
    have hb6 := T.2.2.2.2.2.1
    have hcl := cntB_le (agr kd wh mn np b) k
    refine xr_iload_n X 0 dX12_agreeing_27 rfl rfl ?_
    refine xr_aload_n X 2 dX12_agreeing_28 rfl rfl ?_
    refine xr_callV X hm rfl kw_1130 kw_1132 kw_33 cw_X12_all [] (c_X12_all hm ht T) rfl rfl rfl rfl rfl rfl rfl dX12_agreeing_29 ?_
    refine xr_icmp_gt (tgt := 65) X dX12_agreeing_32 (by decide) (fun _ => ?_) (fun c_32 => absurd (by rw [i32_lt, nI_toInt (by omega), nI_toInt (by omega)]; omega) c_32)
    refine xr_iload_n X 3 dX12_agreeing_65 rfl rfl ?_
    refine xr_if_ge (tgt := 73) X dX12_agreeing_66 (by decide) (fun c_66 => ?_) (fun c_66 => ?_)
    · have c_66 := i32_le.mp c_66
      (try simp (disch := omega) only [nI_toInt, i32_add, i32_sub, i32_mul, i64_addl, i32_l, k32_0, k64_0] at c_66)
      refine xr_ldc (v := (-1000000)) X kw_1072 dX12_agreeing_73 ?_
      exact xr_iret X rfl (xv (by rw [a_agr1, if_neg (by omega), fstB_none (by rw [← ek]; exact hinv)]; rfl)) rfl rfl rfl rfl dX12_agreeing_75
    · have c_66 := mt i32_le.mpr c_66
      (try simp (disch := omega) only [nI_toInt, i32_add, i32_sub, i32_mul, i64_addl, i32_l, k32_0, k64_0] at c_66)
      refine xr_iload_n X 1 dX12_agreeing_69 rfl rfl ?_
      refine xr_goto (tgt := 75) X dX12_agreeing_70 (by decide) ?_
      exact xr_iret X rfl (xv (by rw [a_agr1, if_pos (by omega), ek])) rfl rfl rfl rfl dX12_agreeing_75
  | succ j0 ih =>
    intro k hk hinv
    have lk : k < 2 ^ np := by omega
    have h6 := T.1
    have h64 := pw_le h6
    have hpp := Nat.two_pow_pos np
    have hb6 := T.2.2.2.2.2.1
    have hcl := cntB_le (agr kd wh mn np b) k
    refine xr_iload_n X 0 dX12_agreeing_27 rfl rfl ?_
    refine xr_aload_n X 2 dX12_agreeing_28 rfl rfl ?_
    refine xr_callV X hm rfl kw_1130 kw_1132 kw_33 cw_X12_all [] (c_X12_all hm ht T) rfl rfl rfl rfl rfl rfl rfl dX12_agreeing_29 ?_
    refine xr_icmp_gt (tgt := 65) X dX12_agreeing_32 (by decide) (fun c_32 => absurd c_32 (by rw [i32_lt, nI_toInt (by omega), nI_toInt (by omega)]; omega)) (fun _ => ?_)
    refine xr_aload_n X 2 dX12_agreeing_35 rfl rfl ?_
    refine xr_iload_n X 0 dX12_agreeing_36 rfl rfl ?_
    refine xr_aload_n X 2 dX12_agreeing_37 rfl rfl ?_
    refine xr_get X fF_X12_19_11 hm rfl dX12_agreeing_38 ?_
    refine xr_iconst (v := 2) X dX12_agreeing_41 (by decide) ?_
    refine xr_iald (j := 2) X ht (xI_e (by decide) (by omega) (by omega)) dX12_agreeing_42 ?_
    refine xr_top (y := (nI b)) T.2.2.2.2.1 ?_
    refine xr_callV X hm rfl kw_1134 kw_1136 kw_34 cw_X12_isAgreed [.int (nI k), .int (nI b)] (c_X12_isAgreed (l2 := k) (b2 := b) hm ht T (by omega) (by omega)) rfl rfl rfl rfl rfl rfl rfl dX12_agreeing_43 ?_
    refine xr_if_eq (tgt := 59) X dX12_agreeing_46 (by decide) (fun c_46 => ?_) (fun c_46 => ?_)
    · have c_46 := of_decide_eq_false (xb_0.mp c_46)
      (try simp (disch := omega) only [nI_toInt, i32_add, i32_sub, i32_mul, i64_addl, i32_l] at c_46)
      have c2 : agr kd wh mn np b k = false := decide_eq_false c_46
      refine xr_iinc (v := nI (k + 1)) (lv' := [(3, .int (nI (k + 1))), (2, .int (nI (cntB (agr kd wh mn np b) k))), (0, .ref m), (1, .int i)]) X 0 dX12_agreeing_59 rfl (nI_1 _) rfl rfl ?_
      refine xr_goto (tgt := 27) X dX12_agreeing_62 (by decide) ?_
      refine xr_lve (lv' := [(3, .int (nI (k + 1))), (2, .int (nI (cntB (agr kd wh mn np b) (k + 1)))), (0, .ref m), (1, .int i)]) (by rw [cntB, c2]; rfl) ?_
      exact ih (k + 1) (by omega) (fun q hq => if e : q < k then hinv q e else by obtain rfl : q = k := (by omega); rw [ithP, c2]; rfl)
    · have c_46 := of_decide_eq_true (xb_1.mp c_46)
      (try simp (disch := omega) only [nI_toInt, i32_add, i32_sub, i32_mul, i64_addl, i32_l] at c_46)
      have c2 : agr kd wh mn np b k = true := decide_eq_true c_46
      refine xr_iload_n X 1 dX12_agreeing_49 rfl rfl ?_
      refine xr_iload_n X 3 dX12_agreeing_50 rfl rfl ?_
      refine xr_icmp_ne (tgt := 56) X dX12_agreeing_51 (by decide) (fun c_51 => ?_) (fun c_51 => ?_)
      · have c_51 := mt i32_eq.mpr c_51
        (try simp (disch := omega) only [nI_toInt, i32_add, i32_sub, i32_mul, i64_addl, i32_l] at c_51)
        refine xr_iinc (v := nI ((cntB (agr kd wh mn np b) k) + 1)) (lv' := [(2, .int (nI ((cntB (agr kd wh mn np b) k) + 1))), (3, .int (nI k)), (0, .ref m), (1, .int i)]) X 1 dX12_agreeing_56 rfl (nI_1 _) rfl rfl ?_
        refine xr_iinc (v := nI (k + 1)) (lv' := [(3, .int (nI (k + 1))), (2, .int (nI ((cntB (agr kd wh mn np b) k) + 1))), (0, .ref m), (1, .int i)]) X 1 dX12_agreeing_59 rfl (nI_1 _) rfl rfl ?_
        refine xr_goto (tgt := 27) X dX12_agreeing_62 (by decide) ?_
        refine xr_lve (lv' := [(3, .int (nI (k + 1))), (2, .int (nI (cntB (agr kd wh mn np b) (k + 1)))), (0, .ref m), (1, .int i)]) (by rw [cntB, c2]; rfl) ?_
        exact ih (k + 1) (by omega) (fun q hq => if e : q < k then hinv q e else by obtain rfl : q = k := (by omega); rw [ithP, c2, decide_eq_false (by omega)]; rfl)
      · have c_51 := i32_eq.mp c_51
        (try simp (disch := omega) only [nI_toInt, i32_add, i32_sub, i32_mul, i64_addl, i32_l] at c_51)
        refine xr_iload_n X 0 dX12_agreeing_54 rfl rfl ?_
        exact xr_iret X rfl (xv (by rw [a_agr1, if_neg (by omega), fstB_some (k := k) (by rw [ithP, c2, decide_eq_true (by omega)]; rfl) hinv (by omega)]; rfl)) rfl rfl rfl rfl dX12_agreeing_55
set_option maxRecDepth 100000 in
theorem c_X12_agreeing {l : Launch} {Ω : xW} {h : xH} {sz : Nat} {m : Nat} {st ac tp la le cu tk sa ti fa fl tr : Int32} {t : Nat → Int32} {np day b : Nat} {kd wh mn : Nat → Nat} {i : Int32} (hm : h m = some (mO m st ac tp la le cu tk sa ti fa fl tr)) (ht : h (m + 4) = some (.inl (.int, 21, .inl t))) (T : tOK t np kd wh mn day b) : xC l Ω yX12_agreeing cX12_agreeing 4 (some .int) 4 0 0 [.ref m, .int i] h sz (some (.int (a_agreeing kd wh mn np b i))) h (sz) := by
  refine xC_of (lv := [(0, .ref m), (1, .int i)]) pn_X12 rfl rfl (fun Γ X hΓ hbs => ?_)
  have X : xX Γ Ω cX12_agreeing 4 RX12 "agreeing" (some .int) 4 140 0 0 := X
  subst hΓ
  have h6 := T.1
  have h64 := pw_le h6
  have hpp := Nat.two_pow_pos np
  have hb6 := T.2.2.2.2.2.1
  refine xr_aload_n X 0 dX12_agreeing_0 rfl rfl ?_
  refine xr_iconst (v := 0) X dX12_agreeing_1 (by decide) ?_
  refine xr_put (fs' := [.int 0, .int st, .ref (m + 1), .ref (m + 2), .ref (m + 3), .ref (m + 4), .ref (m + 5), .ref (m + 6), .int ac, .ref (m + 7), .int tp, .int la, .int le, .int cu, .int tk, .int sa, .int ti, .int fa, .int fl, .ref (m + 8), .ref (m + 9), .ref (m + 10), .ref (m + 11), .int tr]) X (fW_X12_44_11 _) hm rfl rfl rfl rfl dX12_agreeing_2 ?_
  refine xr_heap (h' := h) (xu_id hm) ?_
  refine xr_aload_n X 0 dX12_agreeing_5 rfl rfl ?_
  refine xr_callV X hm rfl kw_1121 kw_1123 kw_31 cw_X12_isThere [] (c_X12_isThere hm ht T) rfl rfl rfl rfl rfl rfl rfl dX12_agreeing_6 ?_
  refine xr_if_ne (tgt := 15) X dX12_agreeing_9 (by decide) (fun c_9 => ?_) (fun c_9 => ?_)
  · have c_9 := of_decide_eq_true (xb_1.mp c_9)
    (try simp (disch := omega) only [nI_toInt, i32_add, i32_sub, i32_mul, i64_addl, i32_l, k32_0, k64_0] at c_9)
    refine xr_iload_n X 1 dX12_agreeing_15 rfl rfl ?_
    refine xr_iconst (v := (-1)) X dX12_agreeing_16 (by decide) ?_
    refine xr_icmp_ge (tgt := 23) X dX12_agreeing_17 (by decide) (fun c_17 => ?_) (fun c_17 => ?_)
    · have c_17 := i32_le.mp c_17
      (try simp (disch := omega) only [nI_toInt, i32_add, i32_sub, i32_mul, i64_addl, i32_l, k32_m1] at c_17)
      refine xr_iconst (v := 0) X dX12_agreeing_23 (by decide) ?_
      refine xr_istore_n (lv' := [(2, .int 0), (0, .ref m), (1, .int i)]) X dX12_agreeing_24 rfl rfl rfl ?_
      refine xr_iconst (v := 0) X dX12_agreeing_25 (by decide) ?_
      refine xr_istore_n (lv' := [(3, .int 0), (2, .int 0), (0, .ref m), (1, .int i)]) X dX12_agreeing_26 rfl rfl rfl ?_
      rw [show a_agreeing kd wh mn np b i = a_agr1 (agr kd wh mn np b) (2 ^ np) i from (if_pos (by omega)).trans (if_neg (by omega))]
      exact l_X12_agreeing X hm ht T (by omega) (2 ^ np) 0 (by omega) (fun q hq => absurd hq (by omega))
    · have c_17 := mt i32_le.mpr c_17
      (try simp (disch := omega) only [nI_toInt, i32_add, i32_sub, i32_mul, i64_addl, i32_l, k32_m1] at c_17)
      refine xr_ldc (v := (-1000001)) X kw_1031 dX12_agreeing_20 ?_
      exact xr_iret X rfl (xv ((if_pos (by omega)).trans (if_pos (by omega)))) rfl rfl rfl rfl dX12_agreeing_22
  · have c_9 := of_decide_eq_false (xb_0.mp c_9)
    (try simp (disch := omega) only [nI_toInt, i32_add, i32_sub, i32_mul, i64_addl, i32_l, k32_0, k64_0] at c_9)
    refine xr_ldc (v := (-1000002)) X kw_1125 dX12_agreeing_12 ?_
    exact xr_iret X rfl (xv (if_neg (by omega))) rfl rfl rfl rfl dX12_agreeing_14
set_option maxRecDepth 100000 in
theorem l_X12_fullest {Γ : xΓ} {Ω : xW} {h : xH} {sz : Nat} (X : xX Γ Ω cX12_fullest 3 RX12 "fullest" (some .int) 4 140 0 0) {m : Nat} {st ac tp la le cu tk sa ti fa fl tr : Int32} {t : Nat → Int32} {np day b : Nat} {kd wh mn : Nat → Nat} (hm : h m = some (mO m st ac tp la le cu tk sa ti fa fl tr)) (ht : h (m + 4) = some (.inl (.int, 21, .inl t))) (T : tOK t np kd wh mn day b) : ∀ (j0 k : Nat), k + j0 = 2 ^ np → xG Γ Ω 3 (xQ Γ Ω (some (.int (oN (fuS (agr kd wh mn np b) (2 ^ np))))) h (sz) 0 0) 20 [(2, .int (nI k)), (1, .int (oN (fuS (agr kd wh mn np b) k))), (0, .ref m)] ([]) h sz 0 0 := by
  intro j0
  induction j0 with
  | zero =>
    intro k hk
    have ek : k = 2 ^ np := by omega
    have h6 := T.1
    have h64 := pw_le h6
    have hpp := Nat.two_pow_pos np
    have hb6 := T.2.2.2.2.2.1
    refine xr_iload_n X 0 dX12_fullest_20 rfl rfl ?_
    refine xr_aload_n X 2 dX12_fullest_21 rfl rfl ?_
    refine xr_callV X hm rfl kw_1130 kw_1132 kw_33 cw_X12_all [] (c_X12_all hm ht T) rfl rfl rfl rfl rfl rfl rfl dX12_fullest_22 ?_
    refine xr_icmp_gt (tgt := 67) X dX12_fullest_25 (by decide) (fun _ => ?_) (fun c_25 => absurd (by rw [i32_lt, nI_toInt (by omega), nI_toInt (by omega)]; omega) c_25)
    refine xr_iload_n X 1 dX12_fullest_67 rfl rfl ?_
    exact xr_iret X rfl (by rw [ek]) rfl rfl rfl rfl dX12_fullest_68
  | succ j0 ih =>
    intro k hk
    have lk : k < 2 ^ np := by omega
    have h6 := T.1
    have h64 := pw_le h6
    have hpp := Nat.two_pow_pos np
    have hb6 := T.2.2.2.2.2.1
    refine xr_iload_n X 0 dX12_fullest_20 rfl rfl ?_
    refine xr_aload_n X 2 dX12_fullest_21 rfl rfl ?_
    refine xr_callV X hm rfl kw_1130 kw_1132 kw_33 cw_X12_all [] (c_X12_all hm ht T) rfl rfl rfl rfl rfl rfl rfl dX12_fullest_22 ?_
    refine xr_icmp_gt (tgt := 67) X dX12_fullest_25 (by decide) (fun c_25 => absurd c_25 (by rw [i32_lt, nI_toInt (by omega), nI_toInt (by omega)]; omega)) (fun _ => ?_)
    refine xr_aload_n X 2 dX12_fullest_28 rfl rfl ?_
    refine xr_iload_n X 0 dX12_fullest_29 rfl rfl ?_
    refine xr_aload_n X 2 dX12_fullest_30 rfl rfl ?_
    refine xr_get X fF_X12_19_11 hm rfl dX12_fullest_31 ?_
    refine xr_iconst (v := 2) X dX12_fullest_34 (by decide) ?_
    refine xr_iald (j := 2) X ht (xI_e (by decide) (by omega) (by omega)) dX12_fullest_35 ?_
    refine xr_top (y := (nI b)) T.2.2.2.2.1 ?_
    refine xr_callV X hm rfl kw_1134 kw_1136 kw_34 cw_X12_isAgreed [.int (nI k), .int (nI b)] (c_X12_isAgreed (l2 := k) (b2 := b) hm ht T (by omega) (by omega)) rfl rfl rfl rfl rfl rfl rfl dX12_fullest_36 ?_
    refine xr_if_eq (tgt := 61) X dX12_fullest_39 (by decide) (fun c_39 => ?_) (fun c_39 => ?_)
    · have c_39 := of_decide_eq_false (xb_0.mp c_39)
      (try simp (disch := omega) only [nI_toInt, i32_add, i32_sub, i32_mul, i64_addl, i32_l] at c_39)
      have c2 : agr kd wh mn np b k = false := decide_eq_false c_39
      refine xr_iinc (v := nI (k + 1)) (lv' := [(2, .int (nI (k + 1))), (1, .int (oN (fuS (agr kd wh mn np b) k))), (0, .ref m)]) X 0 dX12_fullest_61 rfl (nI_1 _) rfl rfl ?_
      refine xr_goto (tgt := 20) X dX12_fullest_64 (by decide) ?_
      refine xr_lve (lv' := [(2, .int (nI (k + 1))), (1, .int (oN (fuS (agr kd wh mn np b) (k + 1)))), (0, .ref m)]) (by rw [fuS, if_neg (by simp [fuC, c2])]) ?_
      exact ih (k + 1) (by omega)
    · have c_39 := of_decide_eq_true (xb_1.mp c_39)
      (try simp (disch := omega) only [nI_toInt, i32_add, i32_sub, i32_mul, i64_addl, i32_l] at c_39)
      have c2 : agr kd wh mn np b k = true := decide_eq_true c_39
      refine xr_iload_n X 1 dX12_fullest_42 rfl rfl ?_
      refine xr_ldc (v := (-1000000)) X kw_1072 dX12_fullest_43 ?_
      refine xr_icmp_eq (tgt := 59) X dX12_fullest_45 (by decide) (fun c_45 => ?_) (fun c_45 => ?_)
      · have c9 := oN_none (fun q hq => Nat.lt_of_lt_of_le (fuS_lt hq) (by omega)) c_45
        refine xr_iload_n X 0 dX12_fullest_59 rfl rfl ?_
        refine xr_istore_n (lv' := [(1, .int (nI k)), (2, .int (nI k)), (0, .ref m)]) X dX12_fullest_60 rfl rfl rfl ?_
        refine xr_iinc (v := nI (k + 1)) (lv' := [(2, .int (nI (k + 1))), (1, .int (nI k)), (0, .ref m)]) X 1 dX12_fullest_61 rfl (nI_1 _) rfl rfl ?_
        refine xr_goto (tgt := 20) X dX12_fullest_64 (by decide) ?_
        refine xr_lve (lv' := [(2, .int (nI (k + 1))), (1, .int (oN (fuS (agr kd wh mn np b) (k + 1)))), (0, .ref m)]) (by rw [fuS, if_pos (by simp [fuC, c2, c9])]; rfl) ?_
        exact ih (k + 1) (by omega)
      · obtain ⟨q, e9⟩ := oN_some c_45
        have hq9 := fuS_lt e9
        have hb1 := bcn_le k 6
        have hb2 := bcn_le q 6
        refine xr_iload_n X 0 dX12_fullest_48 rfl rfl ?_
        refine xr_callS X kw_1150 kw_1151 cw_X12_bits [.int (nI k)] (c_X12_bits (l2 := k) (by omega)) rfl rfl rfl rfl rfl rfl rfl dX12_fullest_49 ?_
        refine xr_iload_n X 1 dX12_fullest_52 rfl rfl ?_
        refine xr_top (y := (nI q)) (by rw [e9]; rfl) ?_
        refine xr_callS X kw_1150 kw_1151 cw_X12_bits [.int (nI q)] (c_X12_bits (l2 := q) (by omega)) rfl rfl rfl rfl rfl rfl rfl dX12_fullest_53 ?_
        refine xr_icmp_le (tgt := 61) X dX12_fullest_56 (by decide) (fun c_56 => ?_) (fun c_56 => ?_)
        · have c_56 := i32_le.mp c_56
          (try simp (disch := omega) only [nI_toInt, i32_add, i32_sub, i32_mul, i64_addl, i32_l, k32_6, k64_6] at c_56)
          refine xr_iinc (v := nI (k + 1)) (lv' := [(2, .int (nI (k + 1))), (1, .int (oN (fuS (agr kd wh mn np b) k))), (0, .ref m)]) X 0 dX12_fullest_61 rfl (nI_1 _) rfl rfl ?_
          refine xr_goto (tgt := 20) X dX12_fullest_64 (by decide) ?_
          refine xr_lve (lv' := [(2, .int (nI (k + 1))), (1, .int (oN (fuS (agr kd wh mn np b) (k + 1)))), (0, .ref m)]) (by rw [fuS, if_neg (by simp [fuC, c2, e9]; omega)]) ?_
          exact ih (k + 1) (by omega)
        · have c_56 := mt i32_le.mpr c_56
          (try simp (disch := omega) only [nI_toInt, i32_add, i32_sub, i32_mul, i64_addl, i32_l, k32_6, k64_6] at c_56)
          refine xr_iload_n X 0 dX12_fullest_59 rfl rfl ?_
          refine xr_istore_n (lv' := [(1, .int (nI k)), (2, .int (nI k)), (0, .ref m)]) X dX12_fullest_60 rfl rfl rfl ?_
          refine xr_iinc (v := nI (k + 1)) (lv' := [(2, .int (nI (k + 1))), (1, .int (nI k)), (0, .ref m)]) X 1 dX12_fullest_61 rfl (nI_1 _) rfl rfl ?_
          refine xr_goto (tgt := 20) X dX12_fullest_64 (by decide) ?_
          refine xr_lve (lv' := [(2, .int (nI (k + 1))), (1, .int (oN (fuS (agr kd wh mn np b) (k + 1)))), (0, .ref m)]) (by rw [fuS, if_pos (by simp [fuC, c2, e9]; omega)]; rfl) ?_
          exact ih (k + 1) (by omega)
set_option maxRecDepth 100000 in
theorem c_X12_fullest {l : Launch} {Ω : xW} {h : xH} {sz : Nat} {m : Nat} {st ac tp la le cu tk sa ti fa fl tr : Int32} {t : Nat → Int32} {np day b : Nat} {kd wh mn : Nat → Nat} (hm : h m = some (mO m st ac tp la le cu tk sa ti fa fl tr)) (ht : h (m + 4) = some (.inl (.int, 21, .inl t))) (T : tOK t np kd wh mn day b) : xC l Ω yX12_fullest cX12_fullest 3 (some .int) 4 0 0 [.ref m] h sz (some (.int (a_fullest kd wh mn np b))) h (sz) := by
  refine xC_of (lv := [(0, .ref m)]) pn_X12 rfl rfl (fun Γ X hΓ hbs => ?_)
  have X : xX Γ Ω cX12_fullest 3 RX12 "fullest" (some .int) 4 140 0 0 := X
  subst hΓ
  have h6 := T.1
  have h64 := pw_le h6
  have hpp := Nat.two_pow_pos np
  have hb6 := T.2.2.2.2.2.1
  refine xr_aload_n X 0 dX12_fullest_0 rfl rfl ?_
  refine xr_iconst (v := 0) X dX12_fullest_1 (by decide) ?_
  refine xr_put (fs' := [.int 0, .int st, .ref (m + 1), .ref (m + 2), .ref (m + 3), .ref (m + 4), .ref (m + 5), .ref (m + 6), .int ac, .ref (m + 7), .int tp, .int la, .int le, .int cu, .int tk, .int sa, .int ti, .int fa, .int fl, .ref (m + 8), .ref (m + 9), .ref (m + 10), .ref (m + 11), .int tr]) X (fW_X12_44_11 _) hm rfl rfl rfl rfl dX12_fullest_2 ?_
  refine xr_heap (h' := h) (xu_id hm) ?_
  refine xr_aload_n X 0 dX12_fullest_5 rfl rfl ?_
  refine xr_callV X hm rfl kw_1121 kw_1123 kw_31 cw_X12_isThere [] (c_X12_isThere hm ht T) rfl rfl rfl rfl rfl rfl rfl dX12_fullest_6 ?_
  refine xr_if_ne (tgt := 15) X dX12_fullest_9 (by decide) (fun c_9 => ?_) (fun c_9 => ?_)
  · have c_9 := of_decide_eq_true (xb_1.mp c_9)
    (try simp (disch := omega) only [nI_toInt, i32_add, i32_sub, i32_mul, i64_addl, i32_l, k32_0, k64_0] at c_9)
    refine xr_ldc (v := (-1000000)) X kw_1072 dX12_fullest_15 ?_
    refine xr_istore_n (lv' := [(1, .int (-1000000)), (0, .ref m)]) X dX12_fullest_17 rfl rfl rfl ?_
    refine xr_iconst (v := 0) X dX12_fullest_18 (by decide) ?_
    refine xr_istore_n (lv' := [(2, .int 0), (1, .int (-1000000)), (0, .ref m)]) X dX12_fullest_19 rfl rfl rfl ?_
    rw [show a_fullest kd wh mn np b = oN (fuS (agr kd wh mn np b) (2 ^ np)) from if_pos (by omega)]
    exact l_X12_fullest X hm ht T (2 ^ np) 0 (by omega)
  · have c_9 := of_decide_eq_false (xb_0.mp c_9)
    (try simp (disch := omega) only [nI_toInt, i32_add, i32_sub, i32_mul, i64_addl, i32_l, k32_0, k64_0] at c_9)
    refine xr_ldc (v := (-1000002)) X kw_1125 dX12_fullest_12 ?_
    exact xr_iret X rfl (xv (if_neg (by omega))) rfl rfl rfl rfl dX12_fullest_14
set_option maxRecDepth 100000 in
theorem l_X12_hasAny {Γ : xΓ} {Ω : xW} {h : xH} {sz : Nat} (X : xX Γ Ω cX12_hasAny 5 RX12 "hasAny" (some .boolean) 3 105 0 0) {m : Nat} {st ac tp la le cu tk sa ti fa fl tr : Int32} {t : Nat → Int32} {np day b : Nat} {kd wh mn : Nat → Nat} {o : Int32} {hw : Nat} (hm : h m = some (mO m st ac tp la le cu tk sa ti fa fl tr)) (ht : h (m + 4) = some (.inl (.int, 21, .inl t))) (T : tOK t np kd wh mn day b) (hh : hw ≤ 2) : ∀ (j0 k : Nat), k + j0 = 2 ^ np → (∀ q, q < k → (fun l => decide (dnO kd wh mn np o hw l b = l)) q = false) → xG Γ Ω 5 (xQ Γ Ω (some (.int (xb (exL kd wh mn np b o hw)))) h (sz) 0 0) 5 [(4, .int (nI k)), (3, .int 0), (0, .ref m), (1, .int o), (2, .int (nI hw))] ([]) h sz 0 0 := by
  intro j0
  induction j0 with
  | zero =>
    intro k hk hinv
    have ek : k = 2 ^ np := by omega
    have h6 := T.1
    have h64 := pw_le h6
    have hpp := Nat.two_pow_pos np
    have hb6 := T.2.2.2.2.2.1
    refine xr_iload X 0 dX12_hasAny_5 rfl ?_
    refine xr_aload_n X 2 dX12_hasAny_7 rfl rfl ?_
    refine xr_callV X hm rfl kw_1130 kw_1132 kw_33 cw_X12_all [] (c_X12_all hm ht T) rfl rfl rfl rfl rfl rfl rfl dX12_hasAny_8 ?_
    refine xr_icmp_gt (tgt := 49) X dX12_hasAny_11 (by decide) (fun _ => ?_) (fun c_11 => absurd (by rw [i32_lt, nI_toInt (by omega), nI_toInt (by omega)]; omega) c_11)
    refine xr_iload_n X 1 dX12_hasAny_49 rfl rfl ?_
    exact xr_zret X rfl rfl (xv (by rw [exL, fstB_none (by rw [← ek]; exact hinv)]; rfl)) rfl rfl rfl rfl dX12_hasAny_50
  | succ j0 ih =>
    intro k hk hinv
    have lk : k < 2 ^ np := by omega
    have h6 := T.1
    have h64 := pw_le h6
    have hpp := Nat.two_pow_pos np
    have hb6 := T.2.2.2.2.2.1
    have hd := osum_lt (fun p => dO kd wh mn o hw p k b) np
    have hd9 : dnO kd wh mn np o hw k b = osum (fun p => dO kd wh mn o hw p k b) np := rfl
    refine xr_iload X 0 dX12_hasAny_5 rfl ?_
    refine xr_aload_n X 2 dX12_hasAny_7 rfl rfl ?_
    refine xr_callV X hm rfl kw_1130 kw_1132 kw_33 cw_X12_all [] (c_X12_all hm ht T) rfl rfl rfl rfl rfl rfl rfl dX12_hasAny_8 ?_
    refine xr_icmp_gt (tgt := 49) X dX12_hasAny_11 (by decide) (fun c_11 => absurd c_11 (by rw [i32_lt, nI_toInt (by omega), nI_toInt (by omega)]; omega)) (fun _ => ?_)
    refine xr_iload_n X 1 dX12_hasAny_14 rfl rfl ?_
    refine xr_if_ne (tgt := 49) X dX12_hasAny_15 (by decide) (fun c_15 => absurd (by decide) c_15) (fun _ => ?_)
    refine xr_aload_n X 2 dX12_hasAny_18 rfl rfl ?_
    refine xr_iload X 0 dX12_hasAny_19 rfl ?_
    refine xr_aload_n X 2 dX12_hasAny_21 rfl rfl ?_
    refine xr_get X fF_X12_19_11 hm rfl dX12_hasAny_22 ?_
    refine xr_iconst (v := 2) X dX12_hasAny_25 (by decide) ?_
    refine xr_iald (j := 2) X ht (xI_e (by decide) (by omega) (by omega)) dX12_hasAny_26 ?_
    refine xr_top (y := (nI b)) T.2.2.2.2.1 ?_
    refine xr_iload_n X 3 dX12_hasAny_27 rfl rfl ?_
    refine xr_iload_n X 4 dX12_hasAny_28 rfl rfl ?_
    refine xr_callV X hm rfl kw_1138 kw_1140 kw_35 cw_X12_doneBy [.int (nI k), .int (nI b), .int o, .int (nI hw)] (c_X12_doneBy (l2 := k) (b2 := b) (hw := hw) (o := o) hm ht T (by omega) (by omega) (by omega)) rfl rfl rfl rfl rfl rfl rfl dX12_hasAny_29 ?_
    refine xr_iload X 0 dX12_hasAny_32 rfl ?_
    refine xr_icmp_ne (tgt := 41) X dX12_hasAny_34 (by decide) (fun c_34 => ?_) (fun c_34 => ?_)
    · have c_34 := mt i32_eq.mpr c_34
      (try simp (disch := omega) only [nI_toInt, i32_add, i32_sub, i32_mul, i64_addl, i32_l] at c_34)
      refine xr_iconst (v := 0) X dX12_hasAny_41 (by decide) ?_
      refine xr_istore_n (lv' := [(3, .int 0), (4, .int (nI k)), (0, .ref m), (1, .int o), (2, .int (nI hw))]) X dX12_hasAny_42 rfl rfl rfl ?_
      refine xr_iinc (v := nI (k + 1)) (lv' := [(4, .int (nI (k + 1))), (3, .int 0), (0, .ref m), (1, .int o), (2, .int (nI hw))]) X 1 dX12_hasAny_43 rfl (nI_1 _) rfl rfl ?_
      refine xr_goto (tgt := 5) X dX12_hasAny_46 (by decide) ?_
      exact ih (k + 1) (by omega) (fun q hq => if e : q < k then hinv q e else by obtain rfl : q = k := (by omega); exact decide_eq_false (by omega))
    · have c_34 := i32_eq.mp c_34
      (try simp (disch := omega) only [nI_toInt, i32_add, i32_sub, i32_mul, i64_addl, i32_l] at c_34)
      refine xr_iconst (v := 1) X dX12_hasAny_37 (by decide) ?_
      refine xr_goto (tgt := 42) X dX12_hasAny_38 (by decide) ?_
      refine xr_istore_n (lv' := [(3, .int 1), (4, .int (nI k)), (0, .ref m), (1, .int o), (2, .int (nI hw))]) X dX12_hasAny_42 rfl rfl rfl ?_
      refine xr_iinc (v := nI (k + 1)) (lv' := [(4, .int (nI (k + 1))), (3, .int 1), (0, .ref m), (1, .int o), (2, .int (nI hw))]) X 1 dX12_hasAny_43 rfl (nI_1 _) rfl rfl ?_
      refine xr_goto (tgt := 5) X dX12_hasAny_46 (by decide) ?_
      refine xr_iload X 0 dX12_hasAny_5 rfl ?_
      refine xr_aload_n X 2 dX12_hasAny_7 rfl rfl ?_
      refine xr_callV X hm rfl kw_1130 kw_1132 kw_33 cw_X12_all [] (c_X12_all hm ht T) rfl rfl rfl rfl rfl rfl rfl dX12_hasAny_8 ?_
      refine xr_icmp_gt (tgt := 49) X dX12_hasAny_11 (by decide) (fun c_11 => ?_) (fun c_11 => ?_)
      · have c_11 := i32_lt.mp c_11
        (try simp (disch := omega) only [nI_toInt, i32_add, i32_sub, i32_mul, i64_addl, i32_l, k32_1, k32_2, k64_1, k64_2] at c_11)
        refine xr_iload_n X 1 dX12_hasAny_49 rfl rfl ?_
        exact xr_zret X rfl rfl (xv (by rw [exL, fstB_some (k := k) (decide_eq_true (by omega)) hinv (by omega)]; rfl)) rfl rfl rfl rfl dX12_hasAny_50
      · have c_11 := mt i32_lt.mpr c_11
        (try simp (disch := omega) only [nI_toInt, i32_add, i32_sub, i32_mul, i64_addl, i32_l, k32_1, k32_2, k64_1, k64_2] at c_11)
        refine xr_iload_n X 1 dX12_hasAny_14 rfl rfl ?_
        refine xr_if_ne (tgt := 49) X dX12_hasAny_15 (by decide) (fun _ => ?_) (fun c_15 => absurd c_15 (by decide))
        refine xr_iload_n X 1 dX12_hasAny_49 rfl rfl ?_
        exact xr_zret X rfl rfl (xv (by rw [exL, fstB_some (k := k) (decide_eq_true (by omega)) hinv (by omega)]; rfl)) rfl rfl rfl rfl dX12_hasAny_50
set_option maxRecDepth 100000 in
theorem c_X12_hasAny {l : Launch} {Ω : xW} {h : xH} {sz : Nat} {m : Nat} {st ac tp la le cu tk sa ti fa fl tr : Int32} {t : Nat → Int32} {np day b : Nat} {kd wh mn : Nat → Nat} {o : Int32} {hw : Nat} (hm : h m = some (mO m st ac tp la le cu tk sa ti fa fl tr)) (ht : h (m + 4) = some (.inl (.int, 21, .inl t))) (T : tOK t np kd wh mn day b) (hh : hw ≤ 2) : xC l Ω yX12_hasAny cX12_hasAny 5 (some .boolean) 3 0 0 [.ref m, .int o, .int (nI hw)] h sz (some (.int (xb (exL kd wh mn np b o hw)))) h (sz) := by
  refine xC_of (lv := [(0, .ref m), (1, .int o), (2, .int (nI hw))]) pn_X12 rfl rfl (fun Γ X hΓ hbs => ?_)
  have X : xX Γ Ω cX12_hasAny 5 RX12 "hasAny" (some .boolean) 3 105 0 0 := X
  subst hΓ
  refine xr_iconst (v := 0) X dX12_hasAny_0 (by decide) ?_
  refine xr_istore_n (lv' := [(3, .int 0), (0, .ref m), (1, .int o), (2, .int (nI hw))]) X dX12_hasAny_1 rfl rfl rfl ?_
  refine xr_iconst (v := 0) X dX12_hasAny_2 (by decide) ?_
  refine xr_istore (lv' := [(4, .int 0), (3, .int 0), (0, .ref m), (1, .int o), (2, .int (nI hw))]) X dX12_hasAny_3 rfl rfl ?_
  exact l_X12_hasAny X hm ht T hh (2 ^ np) 0 (by omega) (fun q hq => absurd hq (by omega))
