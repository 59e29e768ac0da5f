set_option maxRecDepth 100000 in
theorem l_X12_areSets {Γ : xΓ} {Ω : xW} {h : xH} {sz : Nat} (X : xX Γ Ω cX12_areSets 5 RX12 "areSets" (some .boolean) 2 70 0 0) {m : Nat} {st ac tp la le cu tk sa ti fa fl tr : Int32} {t : Nat → Int32} {np day b : Nat} {kd wh mn : Nat → Nat} {item : Nat → Int32} {f2 n : Int32} {F N : Nat} (hm : h m = some (mO m st ac tp la le cu tk sa ti fa fl tr)) (ht : h (m + 4) = some (.inl (.int, 21, .inl t))) (T : tOK t np kd wh mn day b) (hitem : h (m + 3) = some (.inl (.int, 320, .inl item))) (ef : f2.toInt = (F : Int)) (en : n.toInt = (N : Int)) (hF : F + N ≤ 320) : ∀ (j0 k : Nat), k + j0 = N → xG Γ Ω 5 (xQ Γ Ω (some (.int (xb (allB (setP item F np) N)))) h (sz) 0 0) 5 [(4, .int (nI k)), (3, .int (xb (allB (setP item F np) k))), (0, .ref m), (1, .int f2), (2, .int n)] ([]) h sz 0 0 := by
  intro j0
  induction j0 with
  | zero =>
    intro k hk
    have ek : k = N := by omega
    refine xr_iload X 0 dX12_areSets_5 rfl ?_
    refine xr_iload_n X 4 dX12_areSets_7 rfl rfl ?_
    refine xr_icmp_ge (tgt := 43) X dX12_areSets_8 (by decide) (fun _ => ?_) (fun c_8 => absurd (by rw [i32_le, nI_toInt (by omega)]; omega) c_8)
    refine xr_iload_n X 1 dX12_areSets_43 rfl rfl ?_
    exact xr_zret X rfl (xb_nar _) (by rw [ek]) rfl rfl rfl rfl dX12_areSets_44
  | succ j0 ih =>
    intro k hk
    have lk : k < N := by omega
    have h6 := T.1
    have h64 := pw_le h6
    have hpp := Nat.two_pow_pos np
    have hb6 := T.2.2.2.2.2.1
    refine xr_iload X 0 dX12_areSets_5 rfl ?_
    refine xr_iload_n X 4 dX12_areSets_7 rfl rfl ?_
    refine xr_icmp_ge (tgt := 43) X dX12_areSets_8 (by decide) (fun c_8 => absurd c_8 (by rw [i32_le, nI_toInt (by omega)]; omega)) (fun _ => ?_)
    refine xr_iload_n X 1 dX12_areSets_11 rfl rfl ?_
    refine xr_if_eq (tgt := 35) X dX12_areSets_12 (by decide) (fun c_12 => ?_) (fun c_12 => ?_)
    · have c_12 := xb_0.mp c_12
      refine xr_iconst (v := 0) X dX12_areSets_35 (by decide) ?_
      refine xr_top (y := (xb (allB (setP item F np) (k + 1)))) (by rw [allB, c_12]; rfl) ?_
      refine xr_istore_n (lv' := [(3, .int (xb (allB (setP item F np) (k + 1)))), (4, .int (nI k)), (0, .ref m), (1, .int f2), (2, .int n)]) X dX12_areSets_36 rfl rfl rfl ?_
      refine xr_iinc (v := nI (k + 1)) (lv' := [(4, .int (nI (k + 1))), (3, .int (xb (allB (setP item F np) (k + 1)))), (0, .ref m), (1, .int f2), (2, .int n)]) X 1 dX12_areSets_37 rfl (nI_1 _) rfl rfl ?_
      refine xr_goto (tgt := 5) X dX12_areSets_40 (by decide) ?_
      exact ih (k + 1) (by omega)
    · have c_12 := xb_1.mp c_12
      refine xr_aload_n X 2 dX12_areSets_15 rfl rfl ?_
      refine xr_aload_n X 2 dX12_areSets_16 rfl rfl ?_
      refine xr_get X fF_X12_16_11 hm rfl dX12_areSets_17 ?_
      refine xr_iload_n X 3 dX12_areSets_20 rfl rfl ?_
      refine xr_iload X 0 dX12_areSets_21 rfl ?_
      refine xr_iadd X dX12_areSets_23 ?_
      refine xr_iald (j := (F + k)) X hitem (xI_i (by rw [i32_add (by rw [nI_toInt (by omega)]; omega) (by rw [nI_toInt (by omega)]; omega), nI_toInt (by omega)]; omega) (by omega)) dX12_areSets_24 ?_
      refine xr_callV X hm rfl kw_1126 kw_1128 kw_32 cw_X12_isSet [.int (item (F + k))] (c_X12_isSet hm ht T) rfl rfl rfl rfl rfl rfl rfl dX12_areSets_25 ?_
      refine xr_if_eq (tgt := 35) X dX12_areSets_28 (by decide) (fun c_28 => ?_) (fun c_28 => ?_)
      · have c_28 := of_decide_eq_false (xb_0.mp c_28)
        (try simp (disch := omega) only [nI_toInt, i32_add, i32_sub, i32_mul, i64_addl, i32_l, k32_0, k32_2, k64_0, k64_2] at c_28)
        refine xr_iconst (v := 0) X dX12_areSets_35 (by decide) ?_
        refine xr_top (y := (xb (allB (setP item F np) (k + 1)))) (by rw [allB, c_12, show setP item F np k = false from decide_eq_false c_28]; rfl) ?_
        refine xr_istore_n (lv' := [(3, .int (xb (allB (setP item F np) (k + 1)))), (4, .int (nI k)), (0, .ref m), (1, .int f2), (2, .int n)]) X dX12_areSets_36 rfl rfl rfl ?_
        refine xr_iinc (v := nI (k + 1)) (lv' := [(4, .int (nI (k + 1))), (3, .int (xb (allB (setP item F np) (k + 1)))), (0, .ref m), (1, .int f2), (2, .int n)]) X 1 dX12_areSets_37 rfl (nI_1 _) rfl rfl ?_
        refine xr_goto (tgt := 5) X dX12_areSets_40 (by decide) ?_
        exact ih (k + 1) (by omega)
      · have c_28 := of_decide_eq_true (xb_1.mp c_28)
        (try simp (disch := omega) only [nI_toInt, i32_add, i32_sub, i32_mul, i64_addl, i32_l, k32_0, k32_2, k64_0, k64_2] at c_28)
        refine xr_iconst (v := 1) X dX12_areSets_31 (by decide) ?_
        refine xr_goto (tgt := 36) X dX12_areSets_32 (by decide) ?_
        refine xr_top (y := (xb (allB (setP item F np) (k + 1)))) (by rw [allB, c_12, show setP item F np k = true from decide_eq_true c_28]; rfl) ?_
        refine xr_istore_n (lv' := [(3, .int (xb (allB (setP item F np) (k + 1)))), (4, .int (nI k)), (0, .ref m), (1, .int f2), (2, .int n)]) X dX12_areSets_36 rfl rfl rfl ?_
        refine xr_iinc (v := nI (k + 1)) (lv' := [(4, .int (nI (k + 1))), (3, .int (xb (allB (setP item F np) (k + 1)))), (0, .ref m), (1, .int f2), (2, .int n)]) X 1 dX12_areSets_37 rfl (nI_1 _) rfl rfl ?_
        refine xr_goto (tgt := 5) X dX12_areSets_40 (by decide) ?_
        exact ih (k + 1) (by omega)
set_option maxRecDepth 100000 in
theorem c_X12_areSets {l : Launch} {Ω : xW} {h : xH} {sz : Nat} {m : Nat} {st ac tp la le cu tk sa ti fa fl tr : Int32} {t : Nat → Int32} {np day b : Nat} {kd wh mn : Nat → Nat} {item : Nat → Int32} {f2 n : Int32} {F N : Nat} (hm : h m = some (mO m st ac tp la le cu tk sa ti fa fl tr)) (ht : h (m + 4) = some (.inl (.int, 21, .inl t))) (T : tOK t np kd wh mn day b) (hitem : h (m + 3) = some (.inl (.int, 320, .inl item))) (ef : f2.toInt = (F : Int)) (en : n.toInt = (N : Int)) (hF : F + N ≤ 320) : xC l Ω yX12_areSets cX12_areSets 5 (some .boolean) 2 0 0 [.ref m, .int f2, .int n] h sz (some (.int (xb (allB (setP item F np) N)))) h (sz) := by
  refine xC_of (lv := [(0, .ref m), (1, .int f2), (2, .int n)]) pn_X12 rfl rfl (fun Γ X hΓ hbs => ?_)
  have X : xX Γ Ω cX12_areSets 5 RX12 "areSets" (some .boolean) 2 70 0 0 := X
  subst hΓ
  refine xr_iconst (v := 1) X dX12_areSets_0 (by decide) ?_
  refine xr_istore_n (lv' := [(3, .int 1), (0, .ref m), (1, .int f2), (2, .int n)]) X dX12_areSets_1 rfl rfl rfl ?_
  refine xr_iconst (v := 0) X dX12_areSets_2 (by decide) ?_
  refine xr_istore (lv' := [(4, .int 0), (3, .int 1), (0, .ref m), (1, .int f2), (2, .int n)]) X dX12_areSets_3 rfl rfl ?_
  exact l_X12_areSets X hm ht T hitem ef en hF N 0 (by omega)
set_option maxRecDepth 100000 in
theorem l_X12_keep2 {Γ : xΓ} {Ω : xW} {h : xH} {sz : Nat} (X : xX Γ Ω cX12_keep 2 RX12 "keep" none 0 0 0 0) {m : Nat} {st tp la le cu tk sa ti fa fl tr : Int32} {a : Nat} {t : Nat → Int32} {was : Nat → Int32} {h9 : xH} (hm : h m = some (mO m st (nI a) tp la le cu tk sa ti fa fl tr)) (ht : h (m + 4) = some (.inl (.int, 21, .inl t))) (hwas : h (m + 6) = some (.inl (.int, 504, .inl was))) (ha : a < 24) (hE : (xu (xu h (m + 6) (.inl (.int, 504, .inl (va_cpy t was 0 (21 * a) 21)))) m (.inr (11, [.int 0, .int st, .ref (m + 1), .ref (m + 2), .ref (m + 3), .ref (m + 4), .ref (m + 5), .ref (m + 6), .int (nI (a + 1)), .ref (m + 7), .int tp, .int la, .int le, .int cu, .int tk, .int sa, .int ti, .int fa, .int fl, .ref (m + 8), .ref (m + 9), .ref (m + 10), .ref (m + 11), .int tr]))) = h9) : ∀ (j0 k : Nat), k + j0 = 21 → xG Γ Ω 2 (xQ Γ Ω (none) h9 (sz) 0 0) 51 [(1, .int (nI k)), (0, .ref m)] ([]) (xu h (m + 6) (.inl (.int, 504, .inl (va_cpy t was 0 (21 * a) k)))) sz 0 0 := by
  intro j0
  induction j0 with
  | zero =>
    intro k hk
    have ek : k = 21 := by omega
    refine xr_iload_n X 0 dX12_keep_51 rfl rfl ?_
    refine xr_bipush (v := 21) X dX12_keep_52 (by decide) ?_
    refine xr_icmp_ge (tgt := 83) X dX12_keep_54 (by decide) (fun _ => ?_) (fun c_54 => absurd (by subst ek; decide) c_54)
    refine xr_aload_n X 1 dX12_keep_83 rfl rfl ?_
    refine xr_dup X dX12_keep_84 rfl ?_
    refine xr_get X fF_X12_157_11 (xu_at (xn0 _ rfl) hm) rfl dX12_keep_85 ?_
    refine xr_iconst (v := 1) X dX12_keep_88 (by decide) ?_
    refine xr_iadd X dX12_keep_89 ?_
    refine xr_top (y := (nI (a + 1))) (nI_1 a) ?_
    refine xr_put (fs' := [.int 0, .int st, .ref (m + 1), .ref (m + 2), .ref (m + 3), .ref (m + 4), .ref (m + 5), .ref (m + 6), .int (nI (a + 1)), .ref (m + 7), .int tp, .int la, .int le, .int cu, .int tk, .int sa, .int ti, .int fa, .int fl, .ref (m + 8), .ref (m + 9), .ref (m + 10), .ref (m + 11), .int tr]) X (fW_X12_157_11 _) (xu_at (xn0 _ rfl) hm) rfl rfl rfl rfl dX12_keep_90 ?_
    exact xr_vret X rfl rfl (by rw [ek]; exact hE) rfl rfl rfl dX12_keep_93
  | succ j0 ih =>
    intro k hk
    have lk : k < 21 := by omega
    refine xr_iload_n X 0 dX12_keep_51 rfl rfl ?_
    refine xr_bipush (v := 21) X dX12_keep_52 (by decide) ?_
    refine xr_icmp_ge (tgt := 83) X dX12_keep_54 (by decide) (fun c_54 => absurd c_54 (by rw [i32_le, k32_21, nI_toInt (by omega)]; omega)) (fun _ => ?_)
    refine xr_aload_n X 1 dX12_keep_57 rfl rfl ?_
    refine xr_get X fF_X12_25_11 (xu_at (xn0 _ rfl) hm) rfl dX12_keep_58 ?_
    refine xr_bipush (v := 21) X dX12_keep_61 (by decide) ?_
    refine xr_aload_n X 1 dX12_keep_63 rfl rfl ?_
    refine xr_get X fF_X12_157_11 (xu_at (xn0 _ rfl) hm) rfl dX12_keep_64 ?_
    refine xr_imul X dX12_keep_67 ?_
    refine xr_iload_n X 0 dX12_keep_68 rfl rfl ?_
    refine xr_iadd X dX12_keep_69 ?_
    refine xr_aload_n X 1 dX12_keep_70 rfl rfl ?_
    refine xr_get X fF_X12_19_11 (xu_at (xn0 _ rfl) hm) rfl dX12_keep_71 ?_
    refine xr_iload_n X 0 dX12_keep_74 rfl rfl ?_
    refine xr_iald (j := k) X (xu_at (xne _ rfl) ht) (xI_n (by omega) (by omega)) dX12_keep_75 ?_
    refine xr_iast (j := (21 * a + k)) X (xu_s _ _ _) (xI_21 (nI_toInt (by omega)) (by omega) (nI_toInt (by omega)) (by omega) (by omega)) dX12_keep_76 ?_
    refine xr_heap (h' := (xu h (m + 6) (.inl (.int, 504, .inl (upd (va_cpy t was 0 (21 * a) k) (21 * a + k) (t k)))))) (xu_uu _ _ _ _) ?_
    refine xr_iinc (v := nI (k + 1)) (lv' := [(1, .int (nI (k + 1))), (0, .ref m)]) X 0 dX12_keep_77 rfl (nI_1 _) rfl rfl ?_
    refine xr_goto (tgt := 51) X dX12_keep_80 (by decide) ?_
    refine xr_heap (h' := (xu h (m + 6) (.inl (.int, 504, .inl (va_cpy t was 0 (21 * a) (k + 1)))))) (by rw [← cp_s, Nat.zero_add]) ?_
    exact ih (k + 1) (by omega)
set_option maxRecDepth 100000 in
theorem l_X12_keep1 {Γ : xΓ} {Ω : xW} {h : xH} {sz : Nat} (X : xX Γ Ω cX12_keep 2 RX12 "keep" none 0 0 0 0) {m : Nat} {st tp la le cu tk sa ti fa fl tr : Int32} {a : Nat} {t : Nat → Int32} {was : Nat → Int32} (hm : h m = some (mO m st (nI a) tp la le cu tk sa ti fa fl tr)) (ht : h (m + 4) = some (.inl (.int, 21, .inl t))) (hwas : h (m + 6) = some (.inl (.int, 504, .inl was))) (ha : a = 24) : ∀ (j0 k : Nat), k + j0 = 483 → xG Γ Ω 2 (xQ Γ Ω (none) (xu (xu h (m + 6) (.inl (.int, 504, .inl (keepW t was a)))) m (.inr (11, [.int 0, .int st, .ref (m + 1), .ref (m + 2), .ref (m + 3), .ref (m + 4), .ref (m + 5), .ref (m + 6), .int (nI (keepN a)), .ref (m + 7), .int tp, .int la, .int le, .int cu, .int tk, .int sa, .int ti, .int fa, .int fl, .ref (m + 8), .ref (m + 9), .ref (m + 10), .ref (m + 11), .int tr]))) (sz) 0 0) 11 [(1, .int (nI k)), (0, .ref m)] ([]) (xu h (m + 6) (.inl (.int, 504, .inl (va_cpy was was 21 0 k)))) sz 0 0 := by
  intro j0
  induction j0 with
  | zero =>
    intro k hk
    have ek : k = 483 := by omega
    refine xr_iload_n X 0 dX12_keep_11 rfl rfl ?_
    refine xr_sipush (v := 483) X dX12_keep_12 (by decide) ?_
    refine xr_icmp_ge (tgt := 39) X dX12_keep_15 (by decide) (fun _ => ?_) (fun c_15 => absurd (by subst ek; decide) c_15)
    refine xr_aload_n X 1 dX12_keep_39 rfl rfl ?_
    refine xr_dup X dX12_keep_40 rfl ?_
    refine xr_get X fF_X12_157_11 (xu_at (xn0 _ rfl) hm) rfl dX12_keep_41 ?_
    refine xr_iconst (v := 1) X dX12_keep_44 (by decide) ?_
    refine xr_isub X dX12_keep_45 ?_
    refine xr_top (y := (nI 23)) (by rw [ha]; decide) ?_
    refine xr_put (fs' := [.int 0, .int st, .ref (m + 1), .ref (m + 2), .ref (m + 3), .ref (m + 4), .ref (m + 5), .ref (m + 6), .int (nI 23), .ref (m + 7), .int tp, .int la, .int le, .int cu, .int tk, .int sa, .int ti, .int fa, .int fl, .ref (m + 8), .ref (m + 9), .ref (m + 10), .ref (m + 11), .int tr]) X (fW_X12_157_11 _) (xu_at (xn0 _ rfl) hm) rfl rfl rfl rfl dX12_keep_46 ?_
    refine xr_iconst (v := 0) X dX12_keep_49 (by decide) ?_
    refine xr_istore_n (lv' := [(1, .int 0), (0, .ref m)]) X dX12_keep_50 rfl rfl rfl ?_
    refine xr_heap (h' := (xu (xu (xu h (m + 6) (.inl (.int, 504, .inl (va_cpy was was 21 0 k)))) m (.inr (11, [.int 0, .int st, .ref (m + 1), .ref (m + 2), .ref (m + 3), .ref (m + 4), .ref (m + 5), .ref (m + 6), .int (nI 23), .ref (m + 7), .int tp, .int la, .int le, .int cu, .int tk, .int sa, .int ti, .int fa, .int fl, .ref (m + 8), .ref (m + 9), .ref (m + 10), .ref (m + 11), .int tr]))) (m + 6) (.inl (.int, 504, .inl (va_cpy t (va_cpy was was 21 0 k) 0 (21 * 23) 0))))) (by rw [cp_0]; exact (xu_id (xu_at (xn1 _ rfl) (xu_s _ _ _))).symm) ?_
    rw [ek]
    exact l_X12_keep2 (a := 23) (was := va_cpy was was 21 0 483) (h := (xu (xu h (m + 6) (.inl (.int, 504, .inl (va_cpy was was 21 0 483)))) m (.inr (11, [.int 0, .int st, .ref (m + 1), .ref (m + 2), .ref (m + 3), .ref (m + 4), .ref (m + 5), .ref (m + 6), .int (nI 23), .ref (m + 7), .int tp, .int la, .int le, .int cu, .int tk, .int sa, .int ti, .int fa, .int fl, .ref (m + 8), .ref (m + 9), .ref (m + 10), .ref (m + 11), .int tr])))) X (xu_s _ _ _) (xu_at (xn1 _ rfl) (xu_at (xne _ rfl) ht)) (xu_at (xn1 _ rfl) (xu_s _ _ _)) (by omega) (by rw [show keepN a = 24 from if_pos ha, show keepW t was a = va_cpy t (va_cpy was was 21 0 483) 0 483 21 from if_pos ha]; exact (congrArg (fun z => xu z m _) (xu_in (xn0 _ rfl) (xu_uu _ _ _ _))).trans (xu_uu _ _ _ _)) 21 0 rfl
  | succ j0 ih =>
    intro k hk
    have lk : k < 483 := by omega
    refine xr_iload_n X 0 dX12_keep_11 rfl rfl ?_
    refine xr_sipush (v := 483) X dX12_keep_12 (by decide) ?_
    refine xr_icmp_ge (tgt := 39) X dX12_keep_15 (by decide) (fun c_15 => absurd c_15 (by rw [i32_le, k32_483, nI_toInt (by omega)]; omega)) (fun _ => ?_)
    refine xr_aload_n X 1 dX12_keep_18 rfl rfl ?_
    refine xr_get X fF_X12_25_11 (xu_at (xn0 _ rfl) hm) rfl dX12_keep_19 ?_
    refine xr_iload_n X 0 dX12_keep_22 rfl rfl ?_
    refine xr_aload_n X 1 dX12_keep_23 rfl rfl ?_
    refine xr_get X fF_X12_25_11 (xu_at (xn0 _ rfl) hm) rfl dX12_keep_24 ?_
    refine xr_iload_n X 0 dX12_keep_27 rfl rfl ?_
    refine xr_bipush (v := 21) X dX12_keep_28 (by decide) ?_
    refine xr_iadd X dX12_keep_30 ?_
    refine xr_iald (j := (21 + k)) X (xu_s _ _ _) (xI_i (by rw [i32_add (by rw [nI_toInt (by omega), k32_21]; omega) (by rw [nI_toInt (by omega), k32_21]; omega), nI_toInt (by omega), k32_21]; omega) (by omega)) dX12_keep_31 ?_
    refine xr_top (y := (was (21 + k))) (pk_cpy_out (by omega)) ?_
    refine xr_iast (j := k) X (xu_s _ _ _) (xI_n (by omega) (by omega)) dX12_keep_32 ?_
    refine xr_heap (h' := (xu h (m + 6) (.inl (.int, 504, .inl (upd (va_cpy was was 21 0 k) k (was (21 + k))))))) (xu_uu _ _ _ _) ?_
    refine xr_iinc (v := nI (k + 1)) (lv' := [(1, .int (nI (k + 1))), (0, .ref m)]) X 0 dX12_keep_33 rfl (nI_1 _) rfl rfl ?_
    refine xr_goto (tgt := 11) X dX12_keep_36 (by decide) ?_
    refine xr_heap (h' := (xu h (m + 6) (.inl (.int, 504, .inl (va_cpy was was 21 0 (k + 1)))))) (by rw [← cp_s, Nat.zero_add]) ?_
    exact ih (k + 1) (by omega)
set_option maxRecDepth 100000 in
theorem c_X12_keep {l : Launch} {Ω : xW} {h : xH} {sz : Nat} {m : Nat} {st tp la le cu tk sa ti fa fl tr : Int32} {a : Nat} {t : Nat → Int32} {was : Nat → Int32} (hm : h m = some (mO m st (nI a) tp la le cu tk sa ti fa fl tr)) (ht : h (m + 4) = some (.inl (.int, 21, .inl t))) (hwas : h (m + 6) = some (.inl (.int, 504, .inl was))) (ha : a ≤ 24) : xC l Ω yX12_keep cX12_keep 2 none 0 0 0 [.ref m] h sz (none) (xu (xu h (m + 6) (.inl (.int, 504, .inl (keepW t was a)))) m (.inr (11, [.int 0, .int st, .ref (m + 1), .ref (m + 2), .ref (m + 3), .ref (m + 4), .ref (m + 5), .ref (m + 6), .int (nI (keepN a)), .ref (m + 7), .int tp, .int la, .int le, .int cu, .int tk, .int sa, .int ti, .int fa, .int fl, .ref (m + 8), .ref (m + 9), .ref (m + 10), .ref (m + 11), .int tr]))) (sz) := by
  refine xC_of (lv := [(0, .ref m)]) pn_X12 rfl rfl (fun Γ X hΓ hbs => ?_)
  have X : xX Γ Ω cX12_keep 2 RX12 "keep" none 0 0 0 0 := X
  subst hΓ
  refine xr_aload_n X 0 dX12_keep_0 rfl rfl ?_
  refine xr_get X fF_X12_157_11 hm rfl dX12_keep_1 ?_
  refine xr_bipush (v := 24) X dX12_keep_4 (by decide) ?_
  refine xr_icmp_ne (tgt := 49) X dX12_keep_6 (by decide) (fun c_6 => ?_) (fun c_6 => ?_)
  · have c_6 := mt i32_eq.mpr c_6
    (try simp (disch := omega) only [nI_toInt, i32_add, i32_sub, i32_mul, i64_addl, i32_l, k32_24, k64_24] at c_6)
    refine xr_iconst (v := 0) X dX12_keep_49 (by decide) ?_
    refine xr_istore_n (lv' := [(1, .int 0), (0, .ref m)]) X dX12_keep_50 rfl rfl rfl ?_
    refine xr_heap (h' := (xu h (m + 6) (.inl (.int, 504, .inl (va_cpy t was 0 (21 * a) 0))))) (by rw [cp_0]; exact (xu_id hwas).symm) ?_
    exact l_X12_keep2 X hm ht hwas (by omega) (by rw [show keepN a = a + 1 from if_neg (by omega), show keepW t was a = va_cpy t was 0 (21 * a) 21 from if_neg (by omega)]) 21 0 rfl
  · have c_6 := i32_eq.mp c_6
    (try simp (disch := omega) only [nI_toInt, i32_add, i32_sub, i32_mul, i64_addl, i32_l, k32_24, k64_24] at c_6)
    refine xr_iconst (v := 0) X dX12_keep_9 (by decide) ?_
    refine xr_istore_n (lv' := [(1, .int 0), (0, .ref m)]) X dX12_keep_10 rfl rfl rfl ?_
    refine xr_heap (h' := (xu h (m + 6) (.inl (.int, 504, .inl (va_cpy was was 21 0 0))))) (by rw [cp_0]; exact (xu_id hwas).symm) ?_
    exact l_X12_keep1 X hm ht hwas (by omega) 483 0 rfl
set_option maxRecDepth 100000 in
theorem c_X12_goDay {l : Launch} {Ω : xW} {h : xH} {sz : Nat} {m : Nat} {st tp la le cu tk sa ti fa fl tr : Int32} {a : Nat} {t : Nat → Int32} {was : Nat → Int32} {d2 : Int32} (hm : h m = some (mO m st (nI a) tp la le cu tk sa ti fa fl tr)) (ht : h (m + 4) = some (.inl (.int, 21, .inl t))) (hwas : h (m + 6) = some (.inl (.int, 504, .inl was))) (ha : a ≤ 24) : xC l Ω yX12_goDay cX12_goDay 2 none 1 0 0 [.ref m, .int d2] h sz (none) (xu (xu (xu h (m + 6) (.inl (.int, 504, .inl (keepW t was a)))) m (.inr (11, [.int 0, .int st, .ref (m + 1), .ref (m + 2), .ref (m + 3), .ref (m + 4), .ref (m + 5), .ref (m + 6), .int (nI (keepN a)), .ref (m + 7), .int tp, .int la, .int le, .int cu, .int tk, .int sa, .int ti, .int fa, .int fl, .ref (m + 8), .ref (m + 9), .ref (m + 10), .ref (m + 11), .int tr]))) (m + 4) (.inl (.int, 21, .inl (dayT t d2)))) (sz) := by
  refine xC_of (lv := [(0, .ref m), (1, .int d2)]) pn_X12 rfl rfl (fun Γ X hΓ hbs => ?_)
  have X : xX Γ Ω cX12_goDay 2 RX12 "goDay" none 1 35 0 0 := X
  subst hΓ
  refine xr_aload_n X 0 dX12_goDay_0 rfl rfl ?_
  refine xr_callV X hm rfl kw_1157 kw_1159 kw_39 cw_X12_keep [] (c_X12_keep hm ht hwas ha) rfl rfl rfl rfl rfl rfl rfl dX12_goDay_1 ?_
  refine xr_aload_n X 0 dX12_goDay_4 rfl rfl ?_
  refine xr_get X fF_X12_19_11 (xu_s _ _ _) rfl dX12_goDay_5 ?_
  refine xr_iconst (v := 2) X dX12_goDay_8 (by decide) ?_
  refine xr_iload_n X 1 dX12_goDay_9 rfl rfl ?_
  refine xr_iast (j := 2) X (xu_at (xn1 _ rfl) (xu_at (xne _ rfl) ht)) (xI_e (by decide) (by omega) (by omega)) dX12_goDay_10 ?_
  refine xr_aload_n X 0 dX12_goDay_11 rfl rfl ?_
  refine xr_get X fF_X12_19_11 (xu_at (xn0 _ rfl) (xu_s _ _ _)) rfl dX12_goDay_12 ?_
  refine xr_iconst (v := 1) X dX12_goDay_15 (by decide) ?_
  refine xr_dup2 X dX12_goDay_16 rfl rfl ?_
  refine xr_iald (j := 1) X (xu_s _ _ _) (xI_e (by decide) (by omega) (by omega)) dX12_goDay_17 ?_
  refine xr_top (y := (t 1)) (pk_un (by decide)) ?_
  refine xr_iconst (v := 1) X dX12_goDay_18 (by decide) ?_
  refine xr_iadd X dX12_goDay_19 ?_
  refine xr_iast (j := 1) X (xu_s _ _ _) (xI_e (by decide) (by omega) (by omega)) dX12_goDay_20 ?_
  refine xr_heap (h' := (xu (xu (xu h (m + 6) (.inl (.int, 504, .inl (keepW t was a)))) m (.inr (11, [.int 0, .int st, .ref (m + 1), .ref (m + 2), .ref (m + 3), .ref (m + 4), .ref (m + 5), .ref (m + 6), .int (nI (keepN a)), .ref (m + 7), .int tp, .int la, .int le, .int cu, .int tk, .int sa, .int ti, .int fa, .int fl, .ref (m + 8), .ref (m + 9), .ref (m + 10), .ref (m + 11), .int tr]))) (m + 4) (.inl (.int, 21, .inl (upd (upd t 2 d2) 1 ((t 1) + 1)))))) (xu_uu _ _ _ _) ?_
  exact xr_vret X rfl rfl rfl rfl rfl rfl dX12_goDay_21
