set_option maxRecDepth 100000 in
theorem l_X12_undo {Γ : xΓ} {Ω : xW} {h : xH} {sz : Nat} (X : xX Γ Ω cX12_undo 2 RX12 "undo" (some .int) 0 0 0 0) {m : Nat} {st tp la le cu tk sa ti fa fl tr : Int32} {a : Nat} {t : Nat → Int32} {was : Nat → Int32} (hm : h m = some (mO m st (nI a) tp la le cu tk sa ti fa fl tr)) (ht : h (m + 4) = some (.inl (.int, 21, .inl t))) (hwas : h (m + 6) = some (.inl (.int, 504, .inl was))) (ha : a ≤ 24) (h1 : 0 < a) : ∀ (j0 k : Nat), k + j0 = 21 → xG Γ Ω 2 (xQ Γ Ω (some (.int (nI (a - 1)))) (xu (xu h m (.inr (11, [.int 0, .int st, .ref (m + 1), .ref (m + 2), .ref (m + 3), .ref (m + 4), .ref (m + 5), .ref (m + 6), .int (nI (a - 1)), .ref (m + 7), .int tp, .int la, .int le, .int cu, .int tk, .int sa, .int ti, .int fa, .int fl, .ref (m + 8), .ref (m + 9), .ref (m + 10), .ref (m + 11), .int tr]))) (m + 4) (.inl (.int, 21, .inl (va_cpy was t (21 * (a - 1)) 0 21)))) (sz) 0 0) 27 [(1, .int (nI k)), (0, .ref m)] ([]) (xu (xu h m (.inr (11, [.int 0, .int st, .ref (m + 1), .ref (m + 2), .ref (m + 3), .ref (m + 4), .ref (m + 5), .ref (m + 6), .int (nI (a - 1)), .ref (m + 7), .int tp, .int la, .int le, .int cu, .int tk, .int sa, .int ti, .int fa, .int fl, .ref (m + 8), .ref (m + 9), .ref (m + 10), .ref (m + 11), .int tr]))) (m + 4) (.inl (.int, 21, .inl (va_cpy was t (21 * (a - 1)) 0 k)))) sz 0 0 := by
  intro j0
  induction j0 with
  | zero =>
    intro k hk
    have ek : k = 21 := by omega
    refine xr_iload_n X 0 dX12_undo_27 rfl rfl ?_
    refine xr_bipush (v := 21) X dX12_undo_28 (by decide) ?_
    refine xr_icmp_ge (tgt := 59) X dX12_undo_30 (by decide) (fun _ => ?_) (fun c_30 => absurd (by subst ek; decide) c_30)
    refine xr_aload_n X 1 dX12_undo_59 rfl rfl ?_
    refine xr_get X fF_X12_157_11 (xu_at (xn0 _ rfl) (xu_s _ _ _)) rfl dX12_undo_60 ?_
    exact xr_iret X rfl rfl (by rw [ek]) rfl rfl rfl dX12_undo_63
  | succ j0 ih =>
    intro k hk
    have lk : k < 21 := by omega
    refine xr_iload_n X 0 dX12_undo_27 rfl rfl ?_
    refine xr_bipush (v := 21) X dX12_undo_28 (by decide) ?_
    refine xr_icmp_ge (tgt := 59) X dX12_undo_30 (by decide) (fun c_30 => absurd c_30 (by rw [i32_le, k32_21, nI_toInt (by omega)]; omega)) (fun _ => ?_)
    refine xr_aload_n X 1 dX12_undo_33 rfl rfl ?_
    refine xr_get X fF_X12_19_11 (xu_at (xn0 _ rfl) (xu_s _ _ _)) rfl dX12_undo_34 ?_
    refine xr_iload_n X 0 dX12_undo_37 rfl rfl ?_
    refine xr_aload_n X 1 dX12_undo_38 rfl rfl ?_
    refine xr_get X fF_X12_25_11 (xu_at (xn0 _ rfl) (xu_s _ _ _)) rfl dX12_undo_39 ?_
    refine xr_bipush (v := 21) X dX12_undo_42 (by decide) ?_
    refine xr_aload_n X 1 dX12_undo_44 rfl rfl ?_
    refine xr_get X fF_X12_157_11 (xu_at (xn0 _ rfl) (xu_s _ _ _)) rfl dX12_undo_45 ?_
    refine xr_imul X dX12_undo_48 ?_
    refine xr_iload_n X 0 dX12_undo_49 rfl rfl ?_
    refine xr_iadd X dX12_undo_50 ?_
    refine xr_iald (j := (21 * (a - 1) + k)) X (xu_at (xne _ rfl) (xu_at (xn1 _ rfl) hwas)) (xI_21 (nI_toInt (by omega)) (by omega) (nI_toInt (by omega)) (by omega) (by omega)) dX12_undo_51 ?_
    refine xr_iast (j := k) X (xu_s _ _ _) (xI_n (by omega) (by omega)) dX12_undo_52 ?_
    refine xr_heap (h' := (xu (xu h m (.inr (11, [.int 0, .int st, .ref (m + 1), .ref (m + 2), .ref (m + 3), .ref (m + 4), .ref (m + 5), .ref (m + 6), .int (nI (a - 1)), .ref (m + 7), .int tp, .int la, .int le, .int cu, .int tk, .int sa, .int ti, .int fa, .int fl, .ref (m + 8), .ref (m + 9), .ref (m + 10), .ref (m + 11), .int tr]))) (m + 4) (.inl (.int, 21, .inl (upd (va_cpy was t (21 * (a - 1)) 0 k) k (was (21 * (a - 1) + k))))))) (xu_uu _ _ _ _) ?_
    refine xr_iinc (v := nI (k + 1)) (lv' := [(1, .int (nI (k + 1))), (0, .ref m)]) X 0 dX12_undo_53 rfl (nI_1 _) rfl rfl ?_
    refine xr_goto (tgt := 27) X dX12_undo_56 (by decide) ?_
    refine xr_heap (h' := (xu (xu h m (.inr (11, [.int 0, .int st, .ref (m + 1), .ref (m + 2), .ref (m + 3), .ref (m + 4), .ref (m + 5), .ref (m + 6), .int (nI (a - 1)), .ref (m + 7), .int tp, .int la, .int le, .int cu, .int tk, .int sa, .int ti, .int fa, .int fl, .ref (m + 8), .ref (m + 9), .ref (m + 10), .ref (m + 11), .int tr]))) (m + 4) (.inl (.int, 21, .inl (va_cpy was t (21 * (a - 1)) 0 (k + 1)))))) (by rw [← cp_s, Nat.zero_add]) ?_
    exact ih (k + 1) (by omega)
set_option maxRecDepth 100000 in
theorem c_X12_undo {l : Launch} {Ω : xW} {h : xH} {sz : Nat} {m : Nat} {st tp la le cu tk sa ti fa fl tr : Int32} {a : Nat} {t : Nat → Int32} {was : Nat → Int32} (hm : h m = some (mO m st (nI a) tp la le cu tk sa ti fa fl tr)) (ht : h (m + 4) = some (.inl (.int, 21, .inl t))) (hwas : h (m + 6) = some (.inl (.int, 504, .inl was))) (ha : a ≤ 24) : xC l Ω yX12_undo cX12_undo 2 (some .int) 0 0 0 [.ref m] h sz (some (.int (if a = 0 then -1000002 else nI (a - 1)))) (if a = 0 then h else (xu (xu h m (.inr (11, [.int 0, .int st, .ref (m + 1), .ref (m + 2), .ref (m + 3), .ref (m + 4), .ref (m + 5), .ref (m + 6), .int (nI (a - 1)), .ref (m + 7), .int tp, .int la, .int le, .int cu, .int tk, .int sa, .int ti, .int fa, .int fl, .ref (m + 8), .ref (m + 9), .ref (m + 10), .ref (m + 11), .int tr]))) (m + 4) (.inl (.int, 21, .inl (va_cpy was t (21 * (a - 1)) 0 21))))) (sz) := by
  refine xC_of (lv := [(0, .ref m)]) pn_X12 rfl rfl (fun Γ X hΓ hbs => ?_)
  have X : xX Γ Ω cX12_undo 2 RX12 "undo" (some .int) 0 0 0 0 := X
  subst hΓ
  refine xr_aload_n X 0 dX12_undo_0 rfl rfl ?_
  refine xr_iconst (v := 0) X dX12_undo_1 (by decide) ?_
  refine xr_put (fs' := [.int 0, .int st, .ref (m + 1), .ref (m + 2), .ref (m + 3), .ref (m + 4), .ref (m + 5), .ref (m + 6), .int (nI a), .ref (m + 7), .int tp, .int la, .int le, .int cu, .int tk, .int sa, .int ti, .int fa, .int fl, .ref (m + 8), .ref (m + 9), .ref (m + 10), .ref (m + 11), .int tr]) X (fW_X12_44_11 _) hm rfl rfl rfl rfl dX12_undo_2 ?_
  refine xr_heap (h' := h) (xu_id hm) ?_
  refine xr_aload_n X 0 dX12_undo_5 rfl rfl ?_
  refine xr_get X fF_X12_157_11 hm rfl dX12_undo_6 ?_
  refine xr_if_ne (tgt := 15) X dX12_undo_9 (by decide) (fun c_9 => ?_) (fun c_9 => ?_)
  · have c_9 := mt i32_eq.mpr c_9
    (try simp (disch := omega) only [nI_toInt, i32_add, i32_sub, i32_mul, i64_addl, i32_l, k32_0, k64_0] at c_9)
    refine xr_aload_n X 0 dX12_undo_15 rfl rfl ?_
    refine xr_dup X dX12_undo_16 rfl ?_
    refine xr_get X fF_X12_157_11 hm rfl dX12_undo_17 ?_
    refine xr_iconst (v := 1) X dX12_undo_20 (by decide) ?_
    refine xr_isub X dX12_undo_21 ?_
    refine xr_top (y := (nI (a - 1))) (by rw [show (1 : Int32) = nI 1 from rfl, pk_sub (by omega)]) ?_
    refine xr_put (fs' := [.int 0, .int st, .ref (m + 1), .ref (m + 2), .ref (m + 3), .ref (m + 4), .ref (m + 5), .ref (m + 6), .int (nI (a - 1)), .ref (m + 7), .int tp, .int la, .int le, .int cu, .int tk, .int sa, .int ti, .int fa, .int fl, .ref (m + 8), .ref (m + 9), .ref (m + 10), .ref (m + 11), .int tr]) X (fW_X12_157_11 _) hm rfl rfl rfl rfl dX12_undo_22 ?_
    refine xr_iconst (v := 0) X dX12_undo_25 (by decide) ?_
    refine xr_istore_n (lv' := [(1, .int 0), (0, .ref m)]) X dX12_undo_26 rfl rfl rfl ?_
    rw [if_neg (show ¬ a = 0 by omega), if_neg (show ¬ a = 0 by omega)]
    refine xr_heap (h' := (xu (xu h m (.inr (11, [.int 0, .int st, .ref (m + 1), .ref (m + 2), .ref (m + 3), .ref (m + 4), .ref (m + 5), .ref (m + 6), .int (nI (a - 1)), .ref (m + 7), .int tp, .int la, .int le, .int cu, .int tk, .int sa, .int ti, .int fa, .int fl, .ref (m + 8), .ref (m + 9), .ref (m + 10), .ref (m + 11), .int tr]))) (m + 4) (.inl (.int, 21, .inl (va_cpy was t (21 * (a - 1)) 0 0))))) (by rw [cp_0]; exact (xu_id (xu_at (xn1 _ rfl) ht)).symm) ?_
    exact l_X12_undo X hm ht hwas ha (by omega) 21 0 rfl
  · have c_9 := i32_eq.mp c_9
    (try simp (disch := omega) only [nI_toInt, i32_add, i32_sub, i32_mul, i64_addl, i32_l, k32_0, k64_0] at c_9)
    refine xr_ldc (v := (-1000002)) X kw_1125 dX12_undo_12 ?_
    exact xr_iret X rfl (xv (if_pos (by omega))) ((if_pos (by omega)).symm) rfl rfl rfl dX12_undo_14
set_option maxRecDepth 100000 in
theorem l_X12_image {Γ : xΓ} {Ω : xW} {h : xH} {sz : Nat} (X : xX Γ Ω cX12_image 3 RX12 "image" (some .int) 1 35 0 0) {m : Nat} {st ac tp la le cu tk sa ti fa fl tr : Int32} {t : Nat → Int32} {np day b : Nat} {kd wh mn : Nat → Nat} {kept : Nat → Int32} {ik : Nat → Int32} {k2 : Int32} (hm : h m = some (mO m st ac tp la le cu tk sa ti fa fl tr)) (ht : h (m + 4) = some (.inl (.int, 21, .inl t))) (T : tOK t np kd wh mn day b) (hkept : h (m + 10) = some (.inl (.int, 42, .inl kept))) (hik : h (m + 9) = some (.inl (.boolean, 2, .inl ik))) (hk2 : 0 ≤ k2.toInt ∧ k2.toInt ≤ 1) : ∀ (j0 k : Nat), k + j0 = 21 → xG Γ Ω 3 (xQ Γ Ω (some (.int 1)) (xu (xu h (m + 10) (.inl (.int, 42, .inl (va_cpy t kept 0 (21 * k2.toNatClampNeg) 21)))) (m + 9) (.inl (.boolean, 2, .inl (upd ik k2.toNatClampNeg 1)))) (sz) 0 0) 30 [(2, .int (nI k)), (0, .ref m), (1, .int k2)] ([]) (xu h (m + 10) (.inl (.int, 42, .inl (va_cpy t kept 0 (21 * k2.toNatClampNeg) k)))) sz 0 0 := by
  intro j0
  induction j0 with
  | zero =>
    intro k hk
    have ek : k = 21 := by omega
    refine xr_iload_n X 0 dX12_image_30 rfl rfl ?_
    refine xr_bipush (v := 21) X dX12_image_31 (by decide) ?_
    refine xr_icmp_ge (tgt := 59) X dX12_image_33 (by decide) (fun _ => ?_) (fun c_33 => absurd (by subst ek; decide) c_33)
    refine xr_aload_n X 1 dX12_image_59 rfl rfl ?_
    refine xr_get X fF_X12_34_11 (xu_at (xn0 _ rfl) hm) rfl dX12_image_60 ?_
    refine xr_iload_n X 2 dX12_image_63 rfl rfl ?_
    refine xr_iconst (v := 1) X dX12_image_64 (by decide) ?_
    refine xr_zast (j := k2.toNatClampNeg) X (xu_at (xne _ rfl) hik) (xI_c (by omega) (by omega)) dX12_image_65 ?_
    refine xr_iconst (v := 1) X dX12_image_66 (by decide) ?_
    exact xr_iret X rfl rfl (by rw [ek]; rfl) rfl rfl rfl dX12_image_67
  | succ j0 ih =>
    intro k hk
    have lk : k < 21 := by omega
    refine xr_iload_n X 0 dX12_image_30 rfl rfl ?_
    refine xr_bipush (v := 21) X dX12_image_31 (by decide) ?_
    refine xr_icmp_ge (tgt := 59) X dX12_image_33 (by decide) (fun c_33 => absurd c_33 (by rw [i32_le, k32_21, nI_toInt (by omega)]; omega)) (fun _ => ?_)
    refine xr_aload_n X 1 dX12_image_36 rfl rfl ?_
    refine xr_get X fF_X12_38_11 (xu_at (xn0 _ rfl) hm) rfl dX12_image_37 ?_
    refine xr_bipush (v := 21) X dX12_image_40 (by decide) ?_
    refine xr_iload_n X 2 dX12_image_42 rfl rfl ?_
    refine xr_imul X dX12_image_43 ?_
    refine xr_iload_n X 0 dX12_image_44 rfl rfl ?_
    refine xr_iadd X dX12_image_45 ?_
    refine xr_aload_n X 1 dX12_image_46 rfl rfl ?_
    refine xr_get X fF_X12_19_11 (xu_at (xn0 _ rfl) hm) rfl dX12_image_47 ?_
    refine xr_iload_n X 0 dX12_image_50 rfl rfl ?_
    refine xr_iald (j := k) X (xu_at (xne _ rfl) ht) (xI_n (by omega) (by omega)) dX12_image_51 ?_
    refine xr_iast (j := (21 * k2.toNatClampNeg + k)) X (xu_s _ _ _) (xI_21 (i32_tn hk2.1).2.symm (by have := (i32_tn hk2.1).2; omega) (nI_toInt (by omega)) (by omega) (by have := (i32_tn hk2.1).2; omega)) dX12_image_52 ?_
    refine xr_heap (h' := (xu h (m + 10) (.inl (.int, 42, .inl (upd (va_cpy t kept 0 (21 * k2.toNatClampNeg) k) (21 * k2.toNatClampNeg + k) (t k)))))) (xu_uu _ _ _ _) ?_
    refine xr_iinc (v := nI (k + 1)) (lv' := [(2, .int (nI (k + 1))), (0, .ref m), (1, .int k2)]) X 0 dX12_image_53 rfl (nI_1 _) rfl rfl ?_
    refine xr_goto (tgt := 30) X dX12_image_56 (by decide) ?_
    refine xr_heap (h' := (xu h (m + 10) (.inl (.int, 42, .inl (va_cpy t kept 0 (21 * k2.toNatClampNeg) (k + 1)))))) (by rw [← cp_s, Nat.zero_add]) ?_
    exact ih (k + 1) (by omega)
set_option maxRecDepth 100000 in
theorem c_X12_image {l : Launch} {Ω : xW} {h : xH} {sz : Nat} {m : Nat} {st ac tp la le cu tk sa ti fa fl tr : Int32} {t : Nat → Int32} {np day b : Nat} {kd wh mn : Nat → Nat} {kept : Nat → Int32} {ik : Nat → Int32} {k2 : Int32} (hm : h m = some (mO m st ac tp la le cu tk sa ti fa fl tr)) (ht : h (m + 4) = some (.inl (.int, 21, .inl t))) (T : tOK t np kd wh mn day b) (hkept : h (m + 10) = some (.inl (.int, 42, .inl kept))) (hik : h (m + 9) = some (.inl (.boolean, 2, .inl ik))) : xC l Ω yX12_image cX12_image 3 (some .int) 1 0 0 [.ref m, .int k2] h sz (some (.int (if 0 ≤ k2.toInt ∧ k2.toInt ≤ 1 then (if 0 < np then 1 else -1000002) else -1000001))) (if 0 ≤ k2.toInt ∧ k2.toInt ≤ 1 then (if 0 < np then (xu (xu h (m + 10) (.inl (.int, 42, .inl (va_cpy t kept 0 (21 * k2.toNatClampNeg) 21)))) (m + 9) (.inl (.boolean, 2, .inl (upd ik k2.toNatClampNeg 1)))) else h) else h) (sz) := by
  refine xC_of (lv := [(0, .ref m), (1, .int k2)]) pn_X12 rfl rfl (fun Γ X hΓ hbs => ?_)
  have X : xX Γ Ω cX12_image 3 RX12 "image" (some .int) 1 35 0 0 := X
  subst hΓ
  refine xr_aload_n X 0 dX12_image_0 rfl rfl ?_
  refine xr_iconst (v := 0) X dX12_image_1 (by decide) ?_
  refine xr_put (fs' := [.int 0, .int st, .ref (m + 1), .ref (m + 2), .ref (m + 3), .ref (m + 4), .ref (m + 5), .ref (m + 6), .int ac, .ref (m + 7), .int tp, .int la, .int le, .int cu, .int tk, .int sa, .int ti, .int fa, .int fl, .ref (m + 8), .ref (m + 9), .ref (m + 10), .ref (m + 11), .int tr]) X (fW_X12_44_11 _) hm rfl rfl rfl rfl dX12_image_2 ?_
  refine xr_heap (h' := h) (xu_id hm) ?_
  refine xr_iload_n X 1 dX12_image_5 rfl rfl ?_
  refine xr_i2l X dX12_image_6 ?_
  refine xr_lconst (v := 0) X dX12_image_7 (by decide) ?_
  refine xr_lconst (v := 1) X dX12_image_8 (by decide) ?_
  refine xr_callS X kw_1027 kw_1028 cw_X12_in [.long k2.toInt64, .long 0, .long 1] c_X12_in rfl rfl rfl rfl rfl rfl rfl dX12_image_9 ?_
  refine xr_if_ne (tgt := 18) X dX12_image_12 (by decide) (fun c_12 => ?_) (fun c_12 => ?_)
  · have c_12 := of_decide_eq_true (xb_1.mp c_12)
    (try simp (disch := omega) only [nI_toInt, i32_add, i32_sub, i32_mul, i64_addl, i32_l, k32_0, k32_1, k64_0, k64_1] at c_12)
    refine xr_aload_n X 0 dX12_image_18 rfl rfl ?_
    refine xr_callV X hm rfl kw_1121 kw_1123 kw_31 cw_X12_isThere [] (c_X12_isThere hm ht T) rfl rfl rfl rfl rfl rfl rfl dX12_image_19 ?_
    refine xr_if_ne (tgt := 28) X dX12_image_22 (by decide) (fun c_22 => ?_) (fun c_22 => ?_)
    · have c_22 := of_decide_eq_true (xb_1.mp c_22)
      (try simp (disch := omega) only [nI_toInt, i32_add, i32_sub, i32_mul, i64_addl, i32_l, k32_0, k64_0] at c_22)
      refine xr_iconst (v := 0) X dX12_image_28 (by decide) ?_
      refine xr_istore_n (lv' := [(2, .int 0), (0, .ref m), (1, .int k2)]) X dX12_image_29 rfl rfl rfl ?_
      rw [if_pos (show 0 ≤ k2.toInt ∧ k2.toInt ≤ 1 by omega), if_pos (show 0 < np by omega), if_pos (show 0 ≤ k2.toInt ∧ k2.toInt ≤ 1 by omega), if_pos (show 0 < np by omega)]
      refine xr_heap (h' := (xu h (m + 10) (.inl (.int, 42, .inl (va_cpy t kept 0 (21 * k2.toNatClampNeg) 0))))) (by rw [cp_0]; exact (xu_id hkept).symm) ?_
      exact l_X12_image X hm ht T hkept hik (by omega) 21 0 rfl
    · have c_22 := of_decide_eq_false (xb_0.mp c_22)
      (try simp (disch := omega) only [nI_toInt, i32_add, i32_sub, i32_mul, i64_addl, i32_l, k32_0, k64_0] at c_22)
      refine xr_ldc (v := (-1000002)) X kw_1125 dX12_image_25 ?_
      exact xr_iret X rfl (xv ((if_pos (by omega)).trans (if_neg (by omega)))) (((if_pos (by omega)).trans (if_neg (by omega))).symm) rfl rfl rfl dX12_image_27
  · have c_12 := of_decide_eq_false (xb_0.mp c_12)
    (try simp (disch := omega) only [nI_toInt, i32_add, i32_sub, i32_mul, i64_addl, i32_l, k32_0, k32_1, k64_0, k64_1] at c_12)
    refine xr_ldc (v := (-1000001)) X kw_1031 dX12_image_15 ?_
    exact xr_iret X rfl (xv (if_neg (by omega))) ((if_neg (by omega)).symm) rfl rfl rfl dX12_image_17
set_option maxRecDepth 100000 in
theorem l_X12_restore {Γ : xΓ} {Ω : xW} {h : xH} {sz : Nat} (X : xX Γ Ω cX12_restore 3 RX12 "restore" (some .int) 1 35 0 0) {m : Nat} {st ac tp la le cu tk sa ti fa fl tr : Int32} {t : Nat → Int32} {kept : Nat → Int32} {ik : Nat → Int32} {k2 : Int32} (hm : h m = some (mO m st ac tp la le cu tk sa ti fa fl tr)) (ht : h (m + 4) = some (.inl (.int, 21, .inl t))) (hkept : h (m + 10) = some (.inl (.int, 42, .inl kept))) (hik : h (m + 9) = some (.inl (.boolean, 2, .inl ik))) (hk2 : 0 ≤ k2.toInt ∧ k2.toInt ≤ 1) : ∀ (j0 k : Nat), k + j0 = 21 → xG Γ Ω 3 (xQ Γ Ω (some (.int 1)) (xu (xu h (m + 4) (.inl (.int, 21, .inl (va_cpy kept t (21 * k2.toNatClampNeg) 0 21)))) m (.inr (11, [.int 0, .int st, .ref (m + 1), .ref (m + 2), .ref (m + 3), .ref (m + 4), .ref (m + 5), .ref (m + 6), .int 0, .ref (m + 7), .int tp, .int la, .int le, .int cu, .int tk, .int sa, .int ti, .int fa, .int fl, .ref (m + 8), .ref (m + 9), .ref (m + 10), .ref (m + 11), .int tr]))) (sz) 0 0) 32 [(2, .int (nI k)), (0, .ref m), (1, .int k2)] ([]) (xu h (m + 4) (.inl (.int, 21, .inl (va_cpy kept t (21 * k2.toNatClampNeg) 0 k)))) sz 0 0 := by
  intro j0
  induction j0 with
  | zero =>
    intro k hk
    have ek : k = 21 := by omega
    refine xr_iload_n X 0 dX12_restore_32 rfl rfl ?_
    refine xr_bipush (v := 21) X dX12_restore_33 (by decide) ?_
    refine xr_icmp_ge (tgt := 61) X dX12_restore_35 (by decide) (fun _ => ?_) (fun c_35 => absurd (by subst ek; decide) c_35)
    refine xr_aload_n X 1 dX12_restore_61 rfl rfl ?_
    refine xr_iconst (v := 0) X dX12_restore_62 (by decide) ?_
    refine xr_put (fs' := [.int 0, .int st, .ref (m + 1), .ref (m + 2), .ref (m + 3), .ref (m + 4), .ref (m + 5), .ref (m + 6), .int 0, .ref (m + 7), .int tp, .int la, .int le, .int cu, .int tk, .int sa, .int ti, .int fa, .int fl, .ref (m + 8), .ref (m + 9), .ref (m + 10), .ref (m + 11), .int tr]) X (fW_X12_157_11 _) (xu_at (xn0 _ rfl) hm) rfl rfl rfl rfl dX12_restore_63 ?_
    refine xr_iconst (v := 1) X dX12_restore_66 (by decide) ?_
    exact xr_iret X rfl rfl (by rw [ek]) rfl rfl rfl dX12_restore_67
  | succ j0 ih =>
    intro k hk
    have lk : k < 21 := by omega
    refine xr_iload_n X 0 dX12_restore_32 rfl rfl ?_
    refine xr_bipush (v := 21) X dX12_restore_33 (by decide) ?_
    refine xr_icmp_ge (tgt := 61) X dX12_restore_35 (by decide) (fun c_35 => absurd c_35 (by rw [i32_le, k32_21, nI_toInt (by omega)]; omega)) (fun _ => ?_)
    refine xr_aload_n X 1 dX12_restore_38 rfl rfl ?_
    refine xr_get X fF_X12_19_11 (xu_at (xn0 _ rfl) hm) rfl dX12_restore_39 ?_
    refine xr_iload_n X 0 dX12_restore_42 rfl rfl ?_
    refine xr_aload_n X 1 dX12_restore_43 rfl rfl ?_
    refine xr_get X fF_X12_38_11 (xu_at (xn0 _ rfl) hm) rfl dX12_restore_44 ?_
    refine xr_bipush (v := 21) X dX12_restore_47 (by decide) ?_
    refine xr_iload_n X 2 dX12_restore_49 rfl rfl ?_
    refine xr_imul X dX12_restore_50 ?_
    refine xr_iload_n X 0 dX12_restore_51 rfl rfl ?_
    refine xr_iadd X dX12_restore_52 ?_
    refine xr_iald (j := (21 * k2.toNatClampNeg + k)) X (xu_at (xne _ rfl) hkept) (xI_21 (i32_tn hk2.1).2.symm (by have := (i32_tn hk2.1).2; omega) (nI_toInt (by omega)) (by omega) (by have := (i32_tn hk2.1).2; omega)) dX12_restore_53 ?_
    refine xr_iast (j := k) X (xu_s _ _ _) (xI_n (by omega) (by omega)) dX12_restore_54 ?_
    refine xr_heap (h' := (xu h (m + 4) (.inl (.int, 21, .inl (upd (va_cpy kept t (21 * k2.toNatClampNeg) 0 k) k (kept (21 * k2.toNatClampNeg + k))))))) (xu_uu _ _ _ _) ?_
    refine xr_iinc (v := nI (k + 1)) (lv' := [(2, .int (nI (k + 1))), (0, .ref m), (1, .int k2)]) X 0 dX12_restore_55 rfl (nI_1 _) rfl rfl ?_
    refine xr_goto (tgt := 32) X dX12_restore_58 (by decide) ?_
    refine xr_heap (h' := (xu h (m + 4) (.inl (.int, 21, .inl (va_cpy kept t (21 * k2.toNatClampNeg) 0 (k + 1)))))) (by rw [← cp_s, Nat.zero_add]) ?_
    exact ih (k + 1) (by omega)
set_option maxRecDepth 100000 in
theorem c_X12_restore {l : Launch} {Ω : xW} {h : xH} {sz : Nat} {m : Nat} {st ac tp la le cu tk sa ti fa fl tr : Int32} {t : Nat → Int32} {kept : Nat → Int32} {ik : Nat → Int32} {k2 : Int32} (hm : h m = some (mO m st ac tp la le cu tk sa ti fa fl tr)) (ht : h (m + 4) = some (.inl (.int, 21, .inl t))) (hkept : h (m + 10) = some (.inl (.int, 42, .inl kept))) (hik : h (m + 9) = some (.inl (.boolean, 2, .inl ik))) : xC l Ω yX12_restore cX12_restore 3 (some .int) 1 0 0 [.ref m, .int k2] h sz (some (.int (if 0 ≤ k2.toInt ∧ k2.toInt ≤ 1 then (if (ik k2.toNatClampNeg).toInt = 0 then -1000002 else 1) else -1000001))) (if 0 ≤ k2.toInt ∧ k2.toInt ≤ 1 then (if (ik k2.toNatClampNeg).toInt = 0 then h else (xu (xu h (m + 4) (.inl (.int, 21, .inl (va_cpy kept t (21 * k2.toNatClampNeg) 0 21)))) m (.inr (11, [.int 0, .int st, .ref (m + 1), .ref (m + 2), .ref (m + 3), .ref (m + 4), .ref (m + 5), .ref (m + 6), .int 0, .ref (m + 7), .int tp, .int la, .int le, .int cu, .int tk, .int sa, .int ti, .int fa, .int fl, .ref (m + 8), .ref (m + 9), .ref (m + 10), .ref (m + 11), .int tr])))) else h) (sz) := by
  refine xC_of (lv := [(0, .ref m), (1, .int k2)]) pn_X12 rfl rfl (fun Γ X hΓ hbs => ?_)
  have X : xX Γ Ω cX12_restore 3 RX12 "restore" (some .int) 1 35 0 0 := X
  subst hΓ
  refine xr_aload_n X 0 dX12_restore_0 rfl rfl ?_
  refine xr_iconst (v := 0) X dX12_restore_1 (by decide) ?_
  refine xr_put (fs' := [.int 0, .int st, .ref (m + 1), .ref (m + 2), .ref (m + 3), .ref (m + 4), .ref (m + 5), .ref (m + 6), .int ac, .ref (m + 7), .int tp, .int la, .int le, .int cu, .int tk, .int sa, .int ti, .int fa, .int fl, .ref (m + 8), .ref (m + 9), .ref (m + 10), .ref (m + 11), .int tr]) X (fW_X12_44_11 _) hm rfl rfl rfl rfl dX12_restore_2 ?_
  refine xr_heap (h' := h) (xu_id hm) ?_
  refine xr_iload_n X 1 dX12_restore_5 rfl rfl ?_
  refine xr_i2l X dX12_restore_6 ?_
  refine xr_lconst (v := 0) X dX12_restore_7 (by decide) ?_
  refine xr_lconst (v := 1) X dX12_restore_8 (by decide) ?_
  refine xr_callS X kw_1027 kw_1028 cw_X12_in [.long k2.toInt64, .long 0, .long 1] c_X12_in rfl rfl rfl rfl rfl rfl rfl dX12_restore_9 ?_
  refine xr_if_ne (tgt := 18) X dX12_restore_12 (by decide) (fun c_12 => ?_) (fun c_12 => ?_)
  · have c_12 := of_decide_eq_true (xb_1.mp c_12)
    (try simp (disch := omega) only [nI_toInt, i32_add, i32_sub, i32_mul, i64_addl, i32_l, k32_0, k32_1, k64_0, k64_1] at c_12)
    refine xr_aload_n X 0 dX12_restore_18 rfl rfl ?_
    refine xr_get X fF_X12_34_11 hm rfl dX12_restore_19 ?_
    refine xr_iload_n X 1 dX12_restore_22 rfl rfl ?_
    refine xr_zald (j := k2.toNatClampNeg) X hik (xI_c (by omega) (by omega)) dX12_restore_23 ?_
    refine xr_if_ne (tgt := 30) X dX12_restore_24 (by decide) (fun c_24 => ?_) (fun c_24 => ?_)
    · have c_24 := mt i32_eq.mpr c_24
      (try simp (disch := omega) only [nI_toInt, i32_add, i32_sub, i32_mul, i64_addl, i32_l, k32_0, k64_0] at c_24)
      refine xr_iconst (v := 0) X dX12_restore_30 (by decide) ?_
      refine xr_istore_n (lv' := [(2, .int 0), (0, .ref m), (1, .int k2)]) X dX12_restore_31 rfl rfl rfl ?_
      rw [if_pos (show 0 ≤ k2.toInt ∧ k2.toInt ≤ 1 by omega), if_neg (show ¬ (ik k2.toNatClampNeg).toInt = 0 by omega), if_pos (show 0 ≤ k2.toInt ∧ k2.toInt ≤ 1 by omega), if_neg (show ¬ (ik k2.toNatClampNeg).toInt = 0 by omega)]
      refine xr_heap (h' := (xu h (m + 4) (.inl (.int, 21, .inl (va_cpy kept t (21 * k2.toNatClampNeg) 0 0))))) (by rw [cp_0]; exact (xu_id ht).symm) ?_
      exact l_X12_restore X hm ht hkept hik (by omega) 21 0 rfl
    · have c_24 := i32_eq.mp c_24
      (try simp (disch := omega) only [nI_toInt, i32_add, i32_sub, i32_mul, i64_addl, i32_l, k32_0, k64_0] at c_24)
      refine xr_ldc (v := (-1000002)) X kw_1125 dX12_restore_27 ?_
      exact xr_iret X rfl (xv ((if_pos (by omega)).trans (if_pos (by omega)))) (((if_pos (by omega)).trans (if_pos (by omega))).symm) rfl rfl rfl dX12_restore_29
  · have c_12 := of_decide_eq_false (xb_0.mp c_12)
    (try simp (disch := omega) only [nI_toInt, i32_add, i32_sub, i32_mul, i64_addl, i32_l, k32_0, k32_1, k64_0, k64_1] at c_12)
    refine xr_ldc (v := (-1000001)) X kw_1031 dX12_restore_15 ?_
    exact xr_iret X rfl (xv (if_neg (by omega))) ((if_neg (by omega)).symm) rfl rfl rfl dX12_restore_17
set_option maxRecDepth 100000 in
theorem l_X12_breaks {Γ : xΓ} {Ω : xW} {h : xH} {sz : Nat} (X : xX Γ Ω cX12_breaks 8 RX12 "breaks" (some .int) 4 140 0 0) {m : Nat} {st ac tp la le cu tk sa ti fa fl tr : Int32} {t : Nat → Int32} {np day b : Nat} {kd wh mn : Nat → Nat} {lane many item : Nat → Int32} {r i n : Int32} (hm : h m = some (mO m st ac tp la le cu tk sa ti fa fl tr)) (ht : h (m + 4) = some (.inl (.int, 21, .inl t))) (T : tOK t np kd wh mn day b) (hlane : h (m + 1) = some (.inl (.int, 8, .inl lane))) (hmany : h (m + 2) = some (.inl (.int, 8, .inl many))) (hitem : h (m + 3) = some (.inl (.int, 320, .inl item))) (hM : ∀ q, q < 8 → (many q).toInt ≤ 40) (ef9 : (40 * r + i).toInt = ((40 * r.toNatClampNeg + i.toNatClampNeg) : Nat)) (en9 : n.toInt = (n.toNatClampNeg : Nat)) (hF : (40 * r.toNatClampNeg + i.toNatClampNeg) + n.toNatClampNeg ≤ 320) (hA : allB (setP item (40 * r.toNatClampNeg + i.toNatClampNeg) np) n.toNatClampNeg = true) : ∀ (j0 k : Nat), k + j0 = n.toNatClampNeg → (∀ q, q < k → brkP kd wh mn np b item (40 * r.toNatClampNeg + i.toNatClampNeg) q = false) → xG Γ Ω 8 (xQ Γ Ω (some (.int (oN (fstB (brkP kd wh mn np b item (40 * r.toNatClampNeg + i.toNatClampNeg)) n.toNatClampNeg)))) (xu h m (.inr (11, [.int 0, .int 0, .ref (m + 1), .ref (m + 2), .ref (m + 3), .ref (m + 4), .ref (m + 5), .ref (m + 6), .int ac, .ref (m + 7), .int tp, .int la, .int le, .int cu, .int tk, .int sa, .int ti, .int fa, .int fl, .ref (m + 8), .ref (m + 9), .ref (m + 10), .ref (m + 11), .int tr]))) (sz) 0 0) 95 [(7, .int (nI k)), (6, .int (nI (befN item (40 * r.toNatClampNeg + i.toNatClampNeg) b k))), (5, .int (40 * r + i)), (4, .int (lackF lane many r i n)), (0, .ref m), (1, .int r), (2, .int i), (3, .int n)] ([]) (xu h m (.inr (11, [.int 0, .int 0, .ref (m + 1), .ref (m + 2), .ref (m + 3), .ref (m + 4), .ref (m + 5), .ref (m + 6), .int ac, .ref (m + 7), .int tp, .int la, .int le, .int cu, .int tk, .int sa, .int ti, .int fa, .int fl, .ref (m + 8), .ref (m + 9), .ref (m + 10), .ref (m + 11), .int tr]))) sz 0 0 := by
  intro j0
  induction j0 with
  | zero =>
    intro k hk hinv
    have ek : k = n.toNatClampNeg := by omega
    have h6 := T.1
    have h64 := pw_le h6
    have hpp := Nat.two_pow_pos np
    have hb6 := T.2.2.2.2.2.1
    refine xr_iload X 0 dX12_breaks_95 rfl ?_
    refine xr_iload_n X 7 dX12_breaks_97 rfl rfl ?_
    refine xr_icmp_ge (tgt := 141) X dX12_breaks_98 (by decide) (fun _ => ?_) (fun c_98 => absurd (by rw [i32_le, nI_toInt (by omega)]; omega) c_98)
    refine xr_ldc (v := (-1000000)) X kw_1072 dX12_breaks_141 ?_
    exact xr_iret X rfl (xv (by rw [fstB_none (by rw [← ek]; exact hinv)]; rfl)) rfl rfl rfl rfl dX12_breaks_143
  | succ j0 ih =>
    intro k hk hinv
    have lk : k < n.toNatClampNeg := by omega
    have h6 := T.1
    have h64 := pw_le h6
    have hpp := Nat.two_pow_pos np
    have hb6 := T.2.2.2.2.2.1
    have hlt := letN_ok hA (k := k) (by omega)
    have hbl := befN_lt (kd := kd) (wh := wh) (mn := mn) hb6 hA (k := k) (by omega)
    refine xr_iload X 0 dX12_breaks_95 rfl ?_
    refine xr_iload_n X 7 dX12_breaks_97 rfl rfl ?_
    refine xr_icmp_ge (tgt := 141) X dX12_breaks_98 (by decide) (fun c_98 => absurd c_98 (by rw [i32_le, nI_toInt (by omega)]; omega)) (fun _ => ?_)
    refine xr_aload_n X 4 dX12_breaks_101 rfl rfl ?_
    refine xr_aload_n X 4 dX12_breaks_102 rfl rfl ?_
    refine xr_get X fF_X12_16_11 (xu_s _ _ _) rfl dX12_breaks_103 ?_
    refine xr_iload X 2 dX12_breaks_106 rfl ?_
    refine xr_iload X 0 dX12_breaks_108 rfl ?_
    refine xr_iadd X dX12_breaks_110 ?_
    refine xr_iald (j := ((40 * r.toNatClampNeg + i.toNatClampNeg) + k)) X (xu_at (xn1 _ rfl) hitem) (xI_i (by rw [i32_add (by rw [nI_toInt (by omega)]; omega) (by rw [nI_toInt (by omega)]; omega), nI_toInt (by omega)]; omega) (by omega)) dX12_breaks_111 ?_
    refine xr_top (y := (nI (letN item (40 * r.toNatClampNeg + i.toNatClampNeg) k))) hlt.1 ?_
    refine xr_iload X 1 dX12_breaks_112 rfl ?_
    refine xr_callV X (xu_s _ _ _) rfl kw_1134 kw_1136 kw_34 cw_X12_isAgreed [.int (nI (letN item (40 * r.toNatClampNeg + i.toNatClampNeg) k)), .int (nI (befN item (40 * r.toNatClampNeg + i.toNatClampNeg) b k))] (c_X12_isAgreed (l2 := (letN item (40 * r.toNatClampNeg + i.toNatClampNeg) k)) (b2 := (befN item (40 * r.toNatClampNeg + i.toNatClampNeg) b k)) (xu_s _ _ _) (xu_at (xn1 _ rfl) ht) T (by omega) (by omega)) rfl rfl rfl rfl rfl rfl rfl dX12_breaks_114 ?_
    refine xr_if_ne (tgt := 123) X dX12_breaks_117 (by decide) (fun c_117 => ?_) (fun c_117 => ?_)
    · have c_117 := of_decide_eq_true (xb_1.mp c_117)
      (try simp (disch := omega) only [nI_toInt, i32_add, i32_sub, i32_mul, i64_addl, i32_l, k32_40, k64_40] at c_117)
      have c2 : brkP kd wh mn np b item (40 * r.toNatClampNeg + i.toNatClampNeg) k = false := by rw [brkP, agr, decide_eq_true c_117]; rfl
      refine xr_aload_n X 4 dX12_breaks_123 rfl rfl ?_
      refine xr_get X fF_X12_16_11 (xu_s _ _ _) rfl dX12_breaks_124 ?_
      refine xr_iload X 2 dX12_breaks_127 rfl ?_
      refine xr_iload X 0 dX12_breaks_129 rfl ?_
      refine xr_iadd X dX12_breaks_131 ?_
      refine xr_iald (j := ((40 * r.toNatClampNeg + i.toNatClampNeg) + k)) X (xu_at (xn1 _ rfl) hitem) (xI_i (by rw [i32_add (by rw [nI_toInt (by omega)]; omega) (by rw [nI_toInt (by omega)]; omega), nI_toInt (by omega)]; omega) (by omega)) dX12_breaks_132 ?_
      refine xr_top (y := (nI (befN item (40 * r.toNatClampNeg + i.toNatClampNeg) b (k + 1)))) hlt.1 ?_
      refine xr_istore (lv' := [(6, .int (nI (befN item (40 * r.toNatClampNeg + i.toNatClampNeg) b (k + 1)))), (7, .int (nI k)), (5, .int (40 * r + i)), (4, .int (lackF lane many r i n)), (0, .ref m), (1, .int r), (2, .int i), (3, .int n)]) X dX12_breaks_133 rfl rfl ?_
      refine xr_iinc (v := nI (k + 1)) (lv' := [(7, .int (nI (k + 1))), (6, .int (nI (befN item (40 * r.toNatClampNeg + i.toNatClampNeg) b (k + 1)))), (5, .int (40 * r + i)), (4, .int (lackF lane many r i n)), (0, .ref m), (1, .int r), (2, .int i), (3, .int n)]) X 1 dX12_breaks_135 rfl (nI_1 _) rfl rfl ?_
      refine xr_goto (tgt := 95) X dX12_breaks_138 (by decide) ?_
      exact ih (k + 1) (by omega) (fun q hq => if e : q < k then hinv q e else by obtain rfl : q = k := (by omega); exact c2)
    · have c_117 := of_decide_eq_false (xb_0.mp c_117)
      (try simp (disch := omega) only [nI_toInt, i32_add, i32_sub, i32_mul, i64_addl, i32_l, k32_40, k64_40] at c_117)
      have c2 : brkP kd wh mn np b item (40 * r.toNatClampNeg + i.toNatClampNeg) k = true := by rw [brkP, agr, decide_eq_false c_117]; rfl
      refine xr_iload X 0 dX12_breaks_120 rfl ?_
      exact xr_iret X rfl (xv (by rw [fstB_some (k := k) c2 hinv (by omega)]; rfl)) rfl rfl rfl rfl dX12_breaks_122
set_option maxRecDepth 100000 in
theorem c_X12_breaks {l : Launch} {Ω : xW} {h : xH} {sz : Nat} {m : Nat} {st ac tp la le cu tk sa ti fa fl tr : Int32} {t : Nat → Int32} {np day b : Nat} {kd wh mn : Nat → Nat} {lane many item : Nat → Int32} {r i n : Int32} (hm : h m = some (mO m st ac tp la le cu tk sa ti fa fl tr)) (ht : h (m + 4) = some (.inl (.int, 21, .inl t))) (T : tOK t np kd wh mn day b) (hlane : h (m + 1) = some (.inl (.int, 8, .inl lane))) (hmany : h (m + 2) = some (.inl (.int, 8, .inl many))) (hitem : h (m + 3) = some (.inl (.int, 320, .inl item))) (hM : ∀ q, q < 8 → (many q).toInt ≤ 40) : xC l Ω yX12_breaks cX12_breaks 8 (some .int) 4 0 0 [.ref m, .int r, .int i, .int n] h sz (some (.int (a_breaks kd wh mn np b lane many item r i n))) (if 0 < np then (if (0 ≤ r.toInt ∧ r.toInt < 8) ∧ 0 ≤ n.toInt ∧ n.toInt ≤ 40 then (if (lackF lane many r i n).toInt ≤ 0 then (if allB (setP item (40 * r.toNatClampNeg + i.toNatClampNeg) np) n.toNatClampNeg = true then (xu h m (.inr (11, [.int 0, .int 0, .ref (m + 1), .ref (m + 2), .ref (m + 3), .ref (m + 4), .ref (m + 5), .ref (m + 6), .int ac, .ref (m + 7), .int tp, .int la, .int le, .int cu, .int tk, .int sa, .int ti, .int fa, .int fl, .ref (m + 8), .ref (m + 9), .ref (m + 10), .ref (m + 11), .int tr]))) else h) else (xu h m (.inr (11, [.int 0, .int (lackF lane many r i n), .ref (m + 1), .ref (m + 2), .ref (m + 3), .ref (m + 4), .ref (m + 5), .ref (m + 6), .int ac, .ref (m + 7), .int tp, .int la, .int le, .int cu, .int tk, .int sa, .int ti, .int fa, .int fl, .ref (m + 8), .ref (m + 9), .ref (m + 10), .ref (m + 11), .int tr])))) else h) else h) (sz) := by
  refine xC_of (lv := [(0, .ref m), (1, .int r), (2, .int i), (3, .int n)]) pn_X12 rfl rfl (fun Γ X hΓ hbs => ?_)
  have X : xX Γ Ω cX12_breaks 8 RX12 "breaks" (some .int) 4 140 0 0 := X
  subst hΓ
  have h6 := T.1
  have h64 := pw_le h6
  have hpp := Nat.two_pow_pos np
  have hb6 := T.2.2.2.2.2.1
  refine xr_aload_n X 0 dX12_breaks_0 rfl rfl ?_
  refine xr_iconst (v := 0) X dX12_breaks_1 (by decide) ?_
  refine xr_put (fs' := [.int 0, .int st, .ref (m + 1), .ref (m + 2), .ref (m + 3), .ref (m + 4), .ref (m + 5), .ref (m + 6), .int ac, .ref (m + 7), .int tp, .int la, .int le, .int cu, .int tk, .int sa, .int ti, .int fa, .int fl, .ref (m + 8), .ref (m + 9), .ref (m + 10), .ref (m + 11), .int tr]) X (fW_X12_44_11 _) hm rfl rfl rfl rfl dX12_breaks_2 ?_
  refine xr_heap (h' := h) (xu_id hm) ?_
  refine xr_aload_n X 0 dX12_breaks_5 rfl rfl ?_
  refine xr_callV X hm rfl kw_1121 kw_1123 kw_31 cw_X12_isThere [] (c_X12_isThere hm ht T) rfl rfl rfl rfl rfl rfl rfl dX12_breaks_6 ?_
  refine xr_if_ne (tgt := 15) X dX12_breaks_9 (by decide) (fun c_9 => ?_) (fun c_9 => ?_)
  · have c_9 := of_decide_eq_true (xb_1.mp c_9)
    (try simp (disch := omega) only [nI_toInt, i32_add, i32_sub, i32_mul, i64_addl, i32_l, k32_0, k64_0] at c_9)
    refine xr_iload_n X 1 dX12_breaks_15 rfl rfl ?_
    refine xr_callS X kw_1023 kw_1024 cw_X12_isRow [.int r] c_X12_isRow rfl rfl rfl rfl rfl rfl rfl dX12_breaks_16 ?_
    refine xr_if_eq (tgt := 34) X dX12_breaks_19 (by decide) (fun c_19 => ?_) (fun c_19 => ?_)
    · have c_19 := of_decide_eq_false (xb_0.mp c_19)
      (try simp (disch := omega) only [nI_toInt, i32_add, i32_sub, i32_mul, i64_addl, i32_l, k32_0, k32_8, k64_0, k64_8] at c_19)
      refine xr_ldc (v := (-1000001)) X kw_1031 dX12_breaks_34 ?_
      exact xr_iret X rfl (xv ((if_pos (show 0 < np by omega)).trans (if_neg (show ¬ ((0 ≤ r.toInt ∧ r.toInt < 8) ∧ 0 ≤ n.toInt ∧ n.toInt ≤ 40) by omega)))) (((if_pos (show 0 < np by omega)).trans (if_neg (show ¬ ((0 ≤ r.toInt ∧ r.toInt < 8) ∧ 0 ≤ n.toInt ∧ n.toInt ≤ 40) by omega))).symm) rfl rfl rfl dX12_breaks_36
    · have c_19 := of_decide_eq_true (xb_1.mp c_19)
      (try simp (disch := omega) only [nI_toInt, i32_add, i32_sub, i32_mul, i64_addl, i32_l, k32_0, k32_8, k64_0, k64_8] at c_19)
      refine xr_iload_n X 3 dX12_breaks_22 rfl rfl ?_
      refine xr_i2l X dX12_breaks_23 ?_
      refine xr_lconst (v := 0) X dX12_breaks_24 (by decide) ?_
      refine xr_ldc2 (v := 40) X kw_1227 dX12_breaks_25 ?_
      refine xr_callS X kw_1027 kw_1028 cw_X12_in [.long n.toInt64, .long 0, .long 40] c_X12_in rfl rfl rfl rfl rfl rfl rfl dX12_breaks_28 ?_
      refine xr_if_ne (tgt := 37) X dX12_breaks_31 (by decide) (fun c_31 => ?_) (fun c_31 => ?_)
      · have c_31 := of_decide_eq_true (xb_1.mp c_31)
        (try simp (disch := omega) only [nI_toInt, i32_add, i32_sub, i32_mul, i64_addl, i32_l, k32_0, k32_40, k64_0, k64_40] at c_31)
        refine xr_aload_n X 0 dX12_breaks_37 rfl rfl ?_
        refine xr_iload_n X 1 dX12_breaks_38 rfl rfl ?_
        refine xr_iload_n X 2 dX12_breaks_39 rfl rfl ?_
        refine xr_iload_n X 3 dX12_breaks_40 rfl rfl ?_
        refine xr_callV X hm rfl kw_1166 kw_1168 kw_40 cw_X12_lacks [.int r, .int i, .int n] (c_X12_lacks hm hlane hmany (by omega) (by omega)) rfl rfl rfl rfl rfl rfl rfl dX12_breaks_41 ?_
        refine xr_istore (lv' := [(4, .int (lackF lane many r i n)), (0, .ref m), (1, .int r), (2, .int i), (3, .int n)]) X dX12_breaks_44 rfl rfl ?_
        refine xr_iload X 0 dX12_breaks_46 rfl ?_
        refine xr_if_le (tgt := 58) X dX12_breaks_48 (by decide) (fun c_48 => ?_) (fun c_48 => ?_)
        · have c_48 := i32_le.mp c_48
          (try simp (disch := omega) only [nI_toInt, i32_add, i32_sub, i32_mul, i64_addl, i32_l, k32_0, k64_0] at c_48)
          have lk0 := lack0 c_48
          have hMr := hM r.toNatClampNeg (by have := (i32_tn (x := r) (by omega)).2; omega)
          have tnr := (i32_tn (x := r) (by omega)).2
          have tni := (i32_tn (x := i) (by omega)).2
          have en9 := ((i32_tn (x := n) (by omega)).2).symm
          have e40 := i32_m40 (x := r) (by omega) (by omega)
          have ef9 : (40 * r + i).toInt = ((40 * r.toNatClampNeg + i.toNatClampNeg) : Nat) := by rw [i32_add (by omega) (by omega), e40]; omega
          refine xr_bipush (v := 40) X dX12_breaks_58 (by decide) ?_
          refine xr_iload_n X 2 dX12_breaks_60 rfl rfl ?_
          refine xr_imul X dX12_breaks_61 ?_
          refine xr_iload_n X 3 dX12_breaks_62 rfl rfl ?_
          refine xr_iadd X dX12_breaks_63 ?_
          refine xr_istore (lv' := [(5, .int ((40 * r) + i)), (4, .int (lackF lane many r i n)), (0, .ref m), (1, .int r), (2, .int i), (3, .int n)]) X dX12_breaks_64 rfl rfl ?_
          refine xr_aload_n X 2 dX12_breaks_66 rfl rfl ?_
          refine xr_iload X 0 dX12_breaks_67 rfl ?_
          refine xr_iload_n X 5 dX12_breaks_69 rfl rfl ?_
          refine xr_callV X hm rfl kw_1170 kw_1172 kw_41 cw_X12_areSets [.int ((40 * r) + i), .int n] (c_X12_areSets (F := 40 * r.toNatClampNeg + i.toNatClampNeg) (N := n.toNatClampNeg) hm ht T hitem ef9 en9 (by omega)) rfl rfl rfl rfl rfl rfl rfl dX12_breaks_70 ?_
          refine xr_if_ne (tgt := 79) X dX12_breaks_73 (by decide) (fun c_73 => ?_) (fun c_73 => ?_)
          · have c_73 := xb_1.mp c_73
            refine xr_aload_n X 2 dX12_breaks_79 rfl rfl ?_
            refine xr_iconst (v := 0) X dX12_breaks_80 (by decide) ?_
            refine xr_put (fs' := [.int 0, .int 0, .ref (m + 1), .ref (m + 2), .ref (m + 3), .ref (m + 4), .ref (m + 5), .ref (m + 6), .int ac, .ref (m + 7), .int tp, .int la, .int le, .int cu, .int tk, .int sa, .int ti, .int fa, .int fl, .ref (m + 8), .ref (m + 9), .ref (m + 10), .ref (m + 11), .int tr]) X (fW_X12_48_11 _) hm rfl rfl rfl rfl dX12_breaks_81 ?_
            refine xr_aload_n X 2 dX12_breaks_84 rfl rfl ?_
            refine xr_get X fF_X12_19_11 (xu_s _ _ _) rfl dX12_breaks_85 ?_
            refine xr_iconst (v := 2) X dX12_breaks_88 (by decide) ?_
            refine xr_iald (j := 2) X (xu_at (xn1 _ rfl) ht) (xI_e (by decide) (by omega) (by omega)) dX12_breaks_89 ?_
            refine xr_top (y := (nI b)) T.2.2.2.2.1 ?_
            refine xr_istore (lv' := [(6, .int (nI b)), (5, .int ((40 * r) + i)), (4, .int (lackF lane many r i n)), (0, .ref m), (1, .int r), (2, .int i), (3, .int n)]) X dX12_breaks_90 rfl rfl ?_
            refine xr_iconst (v := 0) X dX12_breaks_92 (by decide) ?_
            refine xr_istore (lv' := [(7, .int 0), (6, .int (nI b)), (5, .int ((40 * r) + i)), (4, .int (lackF lane many r i n)), (0, .ref m), (1, .int r), (2, .int i), (3, .int n)]) X dX12_breaks_93 rfl rfl ?_
            rw [show a_breaks kd wh mn np b lane many item r i n = _ from ((((if_pos (show 0 < np by omega)).trans (if_pos (show (0 ≤ r.toInt ∧ r.toInt < 8) ∧ 0 ≤ n.toInt ∧ n.toInt ≤ 40 by omega))).trans (if_pos (show (lackF lane many r i n).toInt ≤ 0 by omega))).trans (if_pos (show allB (setP item (40 * r.toNatClampNeg + i.toNatClampNeg) np) n.toNatClampNeg = true by exact c_73))), if_pos (show 0 < np by omega), if_pos (show (0 ≤ r.toInt ∧ r.toInt < 8) ∧ 0 ≤ n.toInt ∧ n.toInt ≤ 40 by omega), if_pos (show (lackF lane many r i n).toInt ≤ 0 by omega), if_pos c_73]
            exact l_X12_breaks X hm ht T hlane hmany hitem hM ef9 en9 (by omega) c_73 n.toNatClampNeg 0 (by omega) (fun q hq => absurd hq (by omega))
          · have c_73 := xb_0.mp c_73
            refine xr_ldc (v := (-1000001)) X kw_1031 dX12_breaks_76 ?_
            exact xr_iret X rfl (xv ((((if_pos (show 0 < np by omega)).trans (if_pos (show (0 ≤ r.toInt ∧ r.toInt < 8) ∧ 0 ≤ n.toInt ∧ n.toInt ≤ 40 by omega))).trans (if_pos (show (lackF lane many r i n).toInt ≤ 0 by omega))).trans (if_neg (show ¬ (allB (setP item (40 * r.toNatClampNeg + i.toNatClampNeg) np) n.toNatClampNeg = true) by simp [c_73])))) (((((if_pos (show 0 < np by omega)).trans (if_pos (show (0 ≤ r.toInt ∧ r.toInt < 8) ∧ 0 ≤ n.toInt ∧ n.toInt ≤ 40 by omega))).trans (if_pos (show (lackF lane many r i n).toInt ≤ 0 by omega))).trans (if_neg (show ¬ (allB (setP item (40 * r.toNatClampNeg + i.toNatClampNeg) np) n.toNatClampNeg = true) by simp [c_73]))).symm) rfl rfl rfl dX12_breaks_78
        · have c_48 := mt i32_le.mpr c_48
          (try simp (disch := omega) only [nI_toInt, i32_add, i32_sub, i32_mul, i64_addl, i32_l, k32_0, k64_0] at c_48)
          refine xr_aload_n X 1 dX12_breaks_51 rfl rfl ?_
          refine xr_iload X 0 dX12_breaks_52 rfl ?_
          refine xr_callV X hm rfl kw_1032 kw_1034 kw_21 cw_X12_finding [.int (lackF lane many r i n)] (c_X12_finding hm) rfl rfl rfl rfl rfl rfl rfl dX12_breaks_54 ?_
          exact xr_iret X rfl (xv (((if_pos (show 0 < np by omega)).trans (if_pos (show (0 ≤ r.toInt ∧ r.toInt < 8) ∧ 0 ≤ n.toInt ∧ n.toInt ≤ 40 by omega))).trans (if_neg (show ¬ ((lackF lane many r i n).toInt ≤ 0) by omega)))) ((((if_pos (show 0 < np by omega)).trans (if_pos (show (0 ≤ r.toInt ∧ r.toInt < 8) ∧ 0 ≤ n.toInt ∧ n.toInt ≤ 40 by omega))).trans (if_neg (show ¬ ((lackF lane many r i n).toInt ≤ 0) by omega))).symm) rfl rfl rfl dX12_breaks_57
      · have c_31 := of_decide_eq_false (xb_0.mp c_31)
        (try simp (disch := omega) only [nI_toInt, i32_add, i32_sub, i32_mul, i64_addl, i32_l, k32_0, k32_40, k64_0, k64_40] at c_31)
        refine xr_ldc (v := (-1000001)) X kw_1031 dX12_breaks_34 ?_
        exact xr_iret X rfl (xv ((if_pos (show 0 < np by omega)).trans (if_neg (show ¬ ((0 ≤ r.toInt ∧ r.toInt < 8) ∧ 0 ≤ n.toInt ∧ n.toInt ≤ 40) by omega)))) (((if_pos (show 0 < np by omega)).trans (if_neg (show ¬ ((0 ≤ r.toInt ∧ r.toInt < 8) ∧ 0 ≤ n.toInt ∧ n.toInt ≤ 40) by omega))).symm) rfl rfl rfl dX12_breaks_36
  · have c_9 := of_decide_eq_false (xb_0.mp c_9)
    (try simp (disch := omega) only [nI_toInt, i32_add, i32_sub, i32_mul, i64_addl, i32_l, k32_0, k64_0] at c_9)
    refine xr_ldc (v := (-1000002)) X kw_1125 dX12_breaks_12 ?_
    exact xr_iret X rfl (xv (if_neg (show ¬ (0 < np) by omega))) ((if_neg (show ¬ (0 < np) by omega)).symm) rfl rfl rfl dX12_breaks_14
