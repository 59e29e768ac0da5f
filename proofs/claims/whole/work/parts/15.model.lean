set_option maxRecDepth 100000 in
theorem l_X12_likeliest {Γ : xΓ} {Ω : xW} {h : xH} {sz : Nat} (X : xX Γ Ω cX12_likeliest 3 RX12 "likeliest" (some .int) 4 140 0 0) {m : Nat} {st ac tp la le cu tk sa ti fa fl tr : Int32} {t : Nat → Int32} {np day b : Nat} {kd wh mn : Nat → Nat} (hm : h m = some (mO m st ac tp la le cu tk sa ti fa fl tr)) (ht : h (m + 4) = some (.inl (.int, 21, .inl t))) (T : tOK t np kd wh mn day b) : ∀ (j0 k : Nat), k + j0 = 2 ^ np - 1 → xG Γ Ω 3 (xQ Γ Ω (some (.int (nI (liS (fun l => ods kd wh mn np b l l) (2 ^ np - 1))))) h (sz) 0 0) 19 [(2, .int (nI (k + 1))), (1, .int (nI (liS (fun l => ods kd wh mn np b l l) k))), (0, .ref m)] ([]) h sz 0 0 := by
  intro j0
  induction j0 with
  | zero =>
    intro k hk
    have ek : k = 2 ^ np - 1 := by omega
    have h6 := T.1
    have h64 := pw_le h6
    have hpp := Nat.two_pow_pos np
    have hb6 := T.2.2.2.2.2.1
    refine xr_iload_n X 0 dX12_likeliest_19 rfl rfl ?_
    refine xr_aload_n X 2 dX12_likeliest_20 rfl rfl ?_
    refine xr_callV X hm rfl kw_1130 kw_1132 kw_33 cw_X12_all [] (c_X12_all hm ht T) rfl rfl rfl rfl rfl rfl rfl dX12_likeliest_21 ?_
    refine xr_icmp_gt (tgt := 54) X dX12_likeliest_24 (by decide) (fun _ => ?_) (fun c_24 => absurd (by rw [i32_lt, nI_toInt (by omega), nI_toInt (by omega)]; omega) c_24)
    refine xr_iload_n X 1 dX12_likeliest_54 rfl rfl ?_
    exact xr_iret X rfl (by rw [ek]) rfl rfl rfl rfl dX12_likeliest_55
  | succ j0 ih =>
    intro k hk
    have lk : k < 2 ^ np - 1 := by omega
    have h6 := T.1
    have h64 := pw_le h6
    have hpp := Nat.two_pow_pos np
    have hb6 := T.2.2.2.2.2.1
    have hli := liS_le (fun l => ods kd wh mn np b l l) k
    have ho1 := ods_lt (wh := wh) T (k + 1) (k + 1)
    have ho2 := ods_lt (wh := wh) T (liS (fun l => ods kd wh mn np b l l) k) (liS (fun l => ods kd wh mn np b l l) k)
    refine xr_iload_n X 0 dX12_likeliest_19 rfl rfl ?_
    refine xr_aload_n X 2 dX12_likeliest_20 rfl rfl ?_
    refine xr_callV X hm rfl kw_1130 kw_1132 kw_33 cw_X12_all [] (c_X12_all hm ht T) rfl rfl rfl rfl rfl rfl rfl dX12_likeliest_21 ?_
    refine xr_icmp_gt (tgt := 54) X dX12_likeliest_24 (by decide) (fun c_24 => absurd c_24 (by rw [i32_lt, nI_toInt (by omega), nI_toInt (by omega)]; omega)) (fun _ => ?_)
    refine xr_aload_n X 2 dX12_likeliest_27 rfl rfl ?_
    refine xr_iload_n X 0 dX12_likeliest_28 rfl rfl ?_
    refine xr_iload_n X 0 dX12_likeliest_29 rfl rfl ?_
    refine xr_callV X hm rfl kw_1232 kw_1234 kw_45 cw_X12_oddsOf [.int (nI (k + 1)), .int (nI (k + 1))] (c_X12_oddsOf (l2 := (k + 1)) (s2 := (k + 1)) hm ht T (by omega) (by omega)) rfl rfl rfl rfl rfl rfl rfl dX12_likeliest_30 ?_
    refine xr_aload_n X 2 dX12_likeliest_33 rfl rfl ?_
    refine xr_iload_n X 1 dX12_likeliest_34 rfl rfl ?_
    refine xr_iload_n X 1 dX12_likeliest_35 rfl rfl ?_
    refine xr_callV X hm rfl kw_1232 kw_1234 kw_45 cw_X12_oddsOf [.int (nI (liS (fun l => ods kd wh mn np b l l) k)), .int (nI (liS (fun l => ods kd wh mn np b l l) k))] (c_X12_oddsOf (l2 := (liS (fun l => ods kd wh mn np b l l) k)) (s2 := (liS (fun l => ods kd wh mn np b l l) k)) hm ht T (by omega) (by omega)) rfl rfl rfl rfl rfl rfl rfl dX12_likeliest_36 ?_
    refine xr_icmp_le (tgt := 46) X dX12_likeliest_39 (by decide) (fun c_39 => ?_) (fun c_39 => ?_)
    · have c_39 := i32_le.mp c_39
      (try simp (disch := omega) only [nI_toInt, i32_add, i32_sub, i32_mul, i64_addl, i32_l, k32_1, k64_1] at c_39)
      refine xr_iload_n X 1 dX12_likeliest_46 rfl rfl ?_
      refine xr_top (y := (nI (liS (fun l => ods kd wh mn np b l l) (k + 1)))) (by rw [liS, if_neg (show ¬ ods kd wh mn np b (liS (fun l => ods kd wh mn np b l l) k) (liS (fun l => ods kd wh mn np b l l) k) < ods kd wh mn np b (k + 1) (k + 1) by omega)]) ?_
      refine xr_istore_n (lv' := [(1, .int (nI (liS (fun l => ods kd wh mn np b l l) (k + 1)))), (2, .int (nI (k + 1))), (0, .ref m)]) X dX12_likeliest_47 rfl rfl rfl ?_
      refine xr_iinc (v := nI ((k + 1) + 1)) (lv' := [(2, .int (nI ((k + 1) + 1))), (1, .int (nI (liS (fun l => ods kd wh mn np b l l) (k + 1)))), (0, .ref m)]) X 1 dX12_likeliest_48 rfl (nI_1 _) rfl rfl ?_
      refine xr_goto (tgt := 19) X dX12_likeliest_51 (by decide) ?_
      exact ih (k + 1) (by omega)
    · have c_39 := mt i32_le.mpr c_39
      (try simp (disch := omega) only [nI_toInt, i32_add, i32_sub, i32_mul, i64_addl, i32_l, k32_1, k64_1] at c_39)
      refine xr_iload_n X 0 dX12_likeliest_42 rfl rfl ?_
      refine xr_goto (tgt := 47) X dX12_likeliest_43 (by decide) ?_
      refine xr_top (y := (nI (liS (fun l => ods kd wh mn np b l l) (k + 1)))) (by rw [liS, if_pos (show ods kd wh mn np b (liS (fun l => ods kd wh mn np b l l) k) (liS (fun l => ods kd wh mn np b l l) k) < ods kd wh mn np b (k + 1) (k + 1) by omega)]) ?_
      refine xr_istore_n (lv' := [(1, .int (nI (liS (fun l => ods kd wh mn np b l l) (k + 1)))), (2, .int (nI (k + 1))), (0, .ref m)]) X dX12_likeliest_47 rfl rfl rfl ?_
      refine xr_iinc (v := nI ((k + 1) + 1)) (lv' := [(2, .int (nI ((k + 1) + 1))), (1, .int (nI (liS (fun l => ods kd wh mn np b l l) (k + 1)))), (0, .ref m)]) X 1 dX12_likeliest_48 rfl (nI_1 _) rfl rfl ?_
      refine xr_goto (tgt := 19) X dX12_likeliest_51 (by decide) ?_
      exact ih (k + 1) (by omega)
set_option maxRecDepth 100000 in
theorem c_X12_likeliest {l : Launch} {Ω : xW} {h : xH} {sz : Nat} {m : Nat} {st ac tp la le cu tk sa ti fa fl tr : Int32} {t : Nat → Int32} {np day b : Nat} {kd wh mn : Nat → Nat} (hm : h m = some (mO m st ac tp la le cu tk sa ti fa fl tr)) (ht : h (m + 4) = some (.inl (.int, 21, .inl t))) (T : tOK t np kd wh mn day b) : xC l Ω yX12_likeliest cX12_likeliest 3 (some .int) 4 0 0 [.ref m] h sz (some (.int (a_likeliest kd wh mn np b))) h (sz) := by
  refine xC_of (lv := [(0, .ref m)]) pn_X12 rfl rfl (fun Γ X hΓ hbs => ?_)
  have X : xX Γ Ω cX12_likeliest 3 RX12 "likeliest" (some .int) 4 140 0 0 := X
  subst hΓ
  have h6 := T.1
  have h64 := pw_le h6
  have hpp := Nat.two_pow_pos np
  have hb6 := T.2.2.2.2.2.1
  refine xr_aload_n X 0 dX12_likeliest_0 rfl rfl ?_
  refine xr_iconst (v := 0) X dX12_likeliest_1 (by decide) ?_
  refine xr_put (fs' := [.int 0, .int st, .ref (m + 1), .ref (m + 2), .ref (m + 3), .ref (m + 4), .ref (m + 5), .ref (m + 6), .int ac, .ref (m + 7), .int tp, .int la, .int le, .int cu, .int tk, .int sa, .int ti, .int fa, .int fl, .ref (m + 8), .ref (m + 9), .ref (m + 10), .ref (m + 11), .int tr]) X (fW_X12_44_11 _) hm rfl rfl rfl rfl dX12_likeliest_2 ?_
  refine xr_heap (h' := h) (xu_id hm) ?_
  refine xr_aload_n X 0 dX12_likeliest_5 rfl rfl ?_
  refine xr_callV X hm rfl kw_1121 kw_1123 kw_31 cw_X12_isThere [] (c_X12_isThere hm ht T) rfl rfl rfl rfl rfl rfl rfl dX12_likeliest_6 ?_
  refine xr_if_ne (tgt := 15) X dX12_likeliest_9 (by decide) (fun c_9 => ?_) (fun c_9 => ?_)
  · have c_9 := of_decide_eq_true (xb_1.mp c_9)
    (try simp (disch := omega) only [nI_toInt, i32_add, i32_sub, i32_mul, i64_addl, i32_l, k32_0, k64_0] at c_9)
    refine xr_iconst (v := 0) X dX12_likeliest_15 (by decide) ?_
    refine xr_istore_n (lv' := [(1, .int 0), (0, .ref m)]) X dX12_likeliest_16 rfl rfl rfl ?_
    refine xr_iconst (v := 1) X dX12_likeliest_17 (by decide) ?_
    refine xr_istore_n (lv' := [(2, .int 1), (1, .int 0), (0, .ref m)]) X dX12_likeliest_18 rfl rfl rfl ?_
    rw [show a_likeliest kd wh mn np b = nI (liS (fun l => ods kd wh mn np b l l) (2 ^ np - 1)) from if_pos (by omega)]
    exact l_X12_likeliest X hm ht T (2 ^ np - 1) 0 (by omega)
  · have c_9 := of_decide_eq_false (xb_0.mp c_9)
    (try simp (disch := omega) only [nI_toInt, i32_add, i32_sub, i32_mul, i64_addl, i32_l, k32_0, k64_0] at c_9)
    refine xr_ldc (v := (-1000002)) X kw_1125 dX12_likeliest_12 ?_
    exact xr_iret X rfl (xv (if_neg (by omega))) rfl rfl rfl rfl dX12_likeliest_14
set_option maxRecDepth 100000 in
set_option maxRecDepth 100000 in
theorem l_X12_comes {Γ : xΓ} {Ω : xW} {h : xH} {sz : Nat} (X : xX Γ Ω cX12_comes 8 RX12 "comes" (some .int) 4 140 0 0) {m : Nat} {st ac tp la le cu tk sa ti fa fl tr : Int32} {t : Nat → Int32} {np day b : Nat} {kd wh mn : Nat → Nat} {l3 s w : Int32} {up : Nat} (hm : h m = some (mO m st ac tp la le cu tk sa ti fa fl tr)) (ht : h (m + 4) = some (.inl (.int, 21, .inl t))) (T : tOK t np kd wh mn day b) (hup : up < 2 ^ 31) (hw : 0 ≤ w.toInt ∧ w.toInt ≤ 1) : ∀ (n2 x y : Nat), y ≤ n2 → x < 2 ^ 31 → y < 2 ^ 31 → Nat.gcd x y = Nat.gcd up (odi kd np) → xG Γ Ω 8 (xQ Γ Ω (some (.int (nI ((if w.toInt = 0 then up else odi kd np) / Nat.gcd up (odi kd np))))) h (sz) 0 0) 62 [(6, .int (nI y)), (5, .int (nI x)), (4, .int (nI up)), (0, .ref m), (1, .int l3), (2, .int s), (3, .int w)] ([]) h sz 0 0 := by
  intro n2
  induction n2 with
  | zero =>
    intro x y hy hx0 hy0 hg
    obtain rfl : y = 0 := by omega
    have hpo := odA_pos kd np
    have hgp : 0 < Nat.gcd up (odi kd np) := Nat.gcd_pos_of_pos_right _ hpo
    have ho := odi_lt (wh := wh) T
    rw [Nat.gcd_zero_right] at hg
    refine xr_iload X 0 dX12_comes_62 rfl ?_
    refine xr_if_eq (tgt := 85) X dX12_comes_64 (by decide) (fun _ => ?_) (fun c_64 => absurd rfl c_64)
    have hg9 : Nat.gcd up (odi kd np) = x := hg.symm
    refine xr_iload_n X 6 dX12_comes_85 rfl rfl ?_
    refine xr_if_ne (tgt := 94) X dX12_comes_86 (by decide) (fun c_86 => ?_) (fun c_86 => ?_)
    · have c_86 := mt i32_eq.mpr c_86
      (try simp (disch := omega) only [nI_toInt, i32_add, i32_sub, i32_mul, i64_addl, i32_l, k32_0, k64_0] at c_86)
      refine xr_aload_n X 3 dX12_comes_94 rfl rfl ?_
      refine xr_callV X hm rfl kw_1236 kw_1238 kw_46 cw_X12_oddsIn [] (c_X12_oddsIn hm ht T) rfl rfl rfl rfl rfl rfl rfl dX12_comes_95 ?_
      refine xr_iload X 1 dX12_comes_98 rfl ?_
      refine xr_idiv X dX12_comes_100 (nI_ne0 (by omega) (by omega)) ?_
      exact xr_iret X rfl (xv (by rw [if_neg (by omega), hg9, pk_div (by omega) (by omega) (by omega)])) rfl rfl rfl rfl dX12_comes_101
    · have c_86 := i32_eq.mp c_86
      (try simp (disch := omega) only [nI_toInt, i32_add, i32_sub, i32_mul, i64_addl, i32_l, k32_0, k64_0] at c_86)
      refine xr_iload X 2 dX12_comes_89 rfl ?_
      refine xr_goto (tgt := 98) X dX12_comes_91 (by decide) ?_
      refine xr_iload X 1 dX12_comes_98 rfl ?_
      refine xr_idiv X dX12_comes_100 (nI_ne0 (by omega) (by omega)) ?_
      exact xr_iret X rfl (xv (by rw [if_pos (by omega), hg9, pk_div (by omega) (by omega) (by omega)])) rfl rfl rfl rfl dX12_comes_101
  | succ n2 ih =>
    intro x y hy hx0 hy0 hg
    have hpo := odA_pos kd np
    have hgp : 0 < Nat.gcd up (odi kd np) := Nat.gcd_pos_of_pos_right _ hpo
    have ho := odi_lt (wh := wh) T
    refine xr_iload X 0 dX12_comes_62 rfl ?_
    refine xr_if_eq (tgt := 85) X dX12_comes_64 (by decide) (fun c_64 => ?_) (fun c_64 => ?_)
    · have c9 : y = 0 := by have c8 := i32_eq.mp c_64; rw [nI_toInt hy0, k32_0] at c8; omega
      subst c9
      rw [Nat.gcd_zero_right] at hg
      have hg9 : Nat.gcd up (odi kd np) = x := hg.symm
      refine xr_iload_n X 6 dX12_comes_85 rfl rfl ?_
      refine xr_if_ne (tgt := 94) X dX12_comes_86 (by decide) (fun c_86 => ?_) (fun c_86 => ?_)
      · have c_86 := mt i32_eq.mpr c_86
        (try simp (disch := omega) only [nI_toInt, i32_add, i32_sub, i32_mul, i64_addl, i32_l, k32_0, k64_0] at c_86)
        refine xr_aload_n X 3 dX12_comes_94 rfl rfl ?_
        refine xr_callV X hm rfl kw_1236 kw_1238 kw_46 cw_X12_oddsIn [] (c_X12_oddsIn hm ht T) rfl rfl rfl rfl rfl rfl rfl dX12_comes_95 ?_
        refine xr_iload X 1 dX12_comes_98 rfl ?_
        refine xr_idiv X dX12_comes_100 (nI_ne0 (by omega) (by omega)) ?_
        exact xr_iret X rfl (xv (by rw [if_neg (by omega), hg9, pk_div (by omega) (by omega) (by omega)])) rfl rfl rfl rfl dX12_comes_101
      · have c_86 := i32_eq.mp c_86
        (try simp (disch := omega) only [nI_toInt, i32_add, i32_sub, i32_mul, i64_addl, i32_l, k32_0, k64_0] at c_86)
        refine xr_iload X 2 dX12_comes_89 rfl ?_
        refine xr_goto (tgt := 98) X dX12_comes_91 (by decide) ?_
        refine xr_iload X 1 dX12_comes_98 rfl ?_
        refine xr_idiv X dX12_comes_100 (nI_ne0 (by omega) (by omega)) ?_
        exact xr_iret X rfl (xv (by rw [if_pos (by omega), hg9, pk_div (by omega) (by omega) (by omega)])) rfl rfl rfl rfl dX12_comes_101
    · have c9 : 0 < y := Nat.pos_of_ne_zero (fun q => c_64 (by rw [q]; rfl))
      refine xr_iload X 1 dX12_comes_67 rfl ?_
      refine xr_iload X 0 dX12_comes_69 rfl ?_
      refine xr_irem X dX12_comes_71 c_64 ?_
      refine xr_top (y := (nI (x % y))) (pk_rem hx0 c9 hy0) ?_
      refine xr_istore (lv' := [(7, .int (nI (x % y))), (6, .int (nI y)), (5, .int (nI x)), (4, .int (nI up)), (0, .ref m), (1, .int l3), (2, .int s), (3, .int w)]) X dX12_comes_72 rfl rfl ?_
      refine xr_iload X 1 dX12_comes_74 rfl ?_
      refine xr_istore (lv' := [(5, .int (nI y)), (7, .int (nI (x % y))), (6, .int (nI y)), (4, .int (nI up)), (0, .ref m), (1, .int l3), (2, .int s), (3, .int w)]) X dX12_comes_76 rfl rfl ?_
      refine xr_iload X 1 dX12_comes_78 rfl ?_
      refine xr_istore (lv' := [(6, .int (nI (x % y))), (5, .int (nI y)), (7, .int (nI (x % y))), (4, .int (nI up)), (0, .ref m), (1, .int l3), (2, .int s), (3, .int w)]) X dX12_comes_80 rfl rfl ?_
      refine xr_goto (tgt := 62) X dX12_comes_82 (by decide) ?_
      refine xr_locs (lv' := [(6, .int (nI (x % y))), (5, .int (nI y)), (4, .int (nI up)), (0, .ref m), (1, .int l3), (2, .int s), (3, .int w)]) [0, 1, 3, 4, 5, 6, 7] rfl ?_
      exact ih y (x % y) (by have := Nat.mod_lt x c9; omega) hy0 (Nat.lt_of_le_of_lt (Nat.mod_le _ _) hx0) (by rw [← hg, Nat.gcd_comm x y, Nat.gcd_rec y x, Nat.gcd_comm])
set_option maxRecDepth 100000 in
theorem c_X12_comes {l : Launch} {Ω : xW} {h : xH} {sz : Nat} {m : Nat} {st ac tp la le cu tk sa ti fa fl tr : Int32} {t : Nat → Int32} {np day b : Nat} {kd wh mn : Nat → Nat} {l3 s w : Int32} (hm : h m = some (mO m st ac tp la le cu tk sa ti fa fl tr)) (ht : h (m + 4) = some (.inl (.int, 21, .inl t))) (T : tOK t np kd wh mn day b) : xC l Ω yX12_comes cX12_comes 8 (some .int) 4 0 0 [.ref m, .int l3, .int s, .int w] h sz (some (.int (a_comes kd wh mn np b l3 s w))) h (sz) := by
  refine xC_of (lv := [(0, .ref m), (1, .int l3), (2, .int s), (3, .int w)]) pn_X12 rfl rfl (fun Γ X hΓ hbs => ?_)
  have X : xX Γ Ω cX12_comes 8 RX12 "comes" (some .int) 4 140 0 0 := X
  subst hΓ
  have h6 := T.1
  have h64 := pw_le h6
  have hpp := Nat.two_pow_pos np
  have hb6 := T.2.2.2.2.2.1
  have ho := odi_lt (wh := wh) T
  refine xr_aload_n X 0 dX12_comes_0 rfl rfl ?_
  refine xr_iconst (v := 0) X dX12_comes_1 (by decide) ?_
  refine xr_put (fs' := [.int 0, .int st, .ref (m + 1), .ref (m + 2), .ref (m + 3), .ref (m + 4), .ref (m + 5), .ref (m + 6), .int ac, .ref (m + 7), .int tp, .int la, .int le, .int cu, .int tk, .int sa, .int ti, .int fa, .int fl, .ref (m + 8), .ref (m + 9), .ref (m + 10), .ref (m + 11), .int tr]) X (fW_X12_44_11 _) hm rfl rfl rfl rfl dX12_comes_2 ?_
  refine xr_heap (h' := h) (xu_id hm) ?_
  refine xr_aload_n X 0 dX12_comes_5 rfl rfl ?_
  refine xr_callV X hm rfl kw_1121 kw_1123 kw_31 cw_X12_isThere [] (c_X12_isThere hm ht T) rfl rfl rfl rfl rfl rfl rfl dX12_comes_6 ?_
  refine xr_if_ne (tgt := 15) X dX12_comes_9 (by decide) (fun c_9 => ?_) (fun c_9 => ?_)
  · have c_9 := of_decide_eq_true (xb_1.mp c_9)
    (try simp (disch := omega) only [nI_toInt, i32_add, i32_sub, i32_mul, i64_addl, i32_l, k32_0, k64_0] at c_9)
    refine xr_aload_n X 0 dX12_comes_15 rfl rfl ?_
    refine xr_iload_n X 1 dX12_comes_16 rfl rfl ?_
    refine xr_callV X hm rfl kw_1126 kw_1128 kw_32 cw_X12_isSet [.int l3] (c_X12_isSet hm ht T) rfl rfl rfl rfl rfl rfl rfl dX12_comes_17 ?_
    refine xr_if_eq (tgt := 41) X dX12_comes_20 (by decide) (fun c_20 => ?_) (fun c_20 => ?_)
    · have c_20 := of_decide_eq_false (xb_0.mp c_20)
      (try simp (disch := omega) only [nI_toInt, i32_add, i32_sub, i32_mul, i64_addl, i32_l, k32_0, k32_2, k64_0, k64_2] at c_20)
      refine xr_ldc (v := (-1000001)) X kw_1031 dX12_comes_41 ?_
      exact xr_iret X rfl (xv ((if_pos (by omega)).trans (if_neg (by omega)))) rfl rfl rfl rfl dX12_comes_43
    · have c_20 := of_decide_eq_true (xb_1.mp c_20)
      (try simp (disch := omega) only [nI_toInt, i32_add, i32_sub, i32_mul, i64_addl, i32_l, k32_0, k32_2, k64_0, k64_2] at c_20)
      refine xr_aload_n X 0 dX12_comes_23 rfl rfl ?_
      refine xr_iload_n X 2 dX12_comes_24 rfl rfl ?_
      refine xr_callV X hm rfl kw_1126 kw_1128 kw_32 cw_X12_isSet [.int s] (c_X12_isSet hm ht T) rfl rfl rfl rfl rfl rfl rfl dX12_comes_25 ?_
      refine xr_if_eq (tgt := 41) X dX12_comes_28 (by decide) (fun c_28 => ?_) (fun c_28 => ?_)
      · have c_28 := of_decide_eq_false (xb_0.mp c_28)
        (try simp (disch := omega) only [nI_toInt, i32_add, i32_sub, i32_mul, i64_addl, i32_l, k32_0, k32_2, k64_0, k64_2] at c_28)
        refine xr_ldc (v := (-1000001)) X kw_1031 dX12_comes_41 ?_
        exact xr_iret X rfl (xv ((if_pos (by omega)).trans (if_neg (by omega)))) rfl rfl rfl rfl dX12_comes_43
      · have c_28 := of_decide_eq_true (xb_1.mp c_28)
        (try simp (disch := omega) only [nI_toInt, i32_add, i32_sub, i32_mul, i64_addl, i32_l, k32_0, k32_2, k64_0, k64_2] at c_28)
        refine xr_iload_n X 3 dX12_comes_31 rfl rfl ?_
        refine xr_i2l X dX12_comes_32 ?_
        refine xr_lconst (v := 0) X dX12_comes_33 (by decide) ?_
        refine xr_lconst (v := 1) X dX12_comes_34 (by decide) ?_
        refine xr_callS X kw_1027 kw_1028 cw_X12_in [.long w.toInt64, .long 0, .long 1] c_X12_in rfl rfl rfl rfl rfl rfl rfl dX12_comes_35 ?_
        refine xr_if_ne (tgt := 44) X dX12_comes_38 (by decide) (fun c_38 => ?_) (fun c_38 => ?_)
        · have c_38 := of_decide_eq_true (xb_1.mp c_38)
          (try simp (disch := omega) only [nI_toInt, i32_add, i32_sub, i32_mul, i64_addl, i32_l, k32_0, k32_1, k64_0, k64_1] at c_38)
          have tn_l3 := (i32_tn (x := l3) (by omega)).2
          have tn_s := (i32_tn (x := s) (by omega)).2
          have ho1 := ods_lt (wh := wh) T l3.toNatClampNeg s.toNatClampNeg
          refine xr_aload_n X 0 dX12_comes_44 rfl rfl ?_
          refine xr_iload_n X 1 dX12_comes_45 rfl rfl ?_
          refine xr_top (y := (nI (l3.toNatClampNeg))) ((i32_tn (by omega)).1) ?_
          refine xr_iload_n X 2 dX12_comes_46 rfl rfl ?_
          refine xr_top (y := (nI (s.toNatClampNeg))) ((i32_tn (by omega)).1) ?_
          refine xr_callV X hm rfl kw_1232 kw_1234 kw_45 cw_X12_oddsOf [.int (nI (l3.toNatClampNeg)), .int (nI (s.toNatClampNeg))] (c_X12_oddsOf (l2 := (l3.toNatClampNeg)) (s2 := (s.toNatClampNeg)) hm ht T (by omega) (by omega)) rfl rfl rfl rfl rfl rfl rfl dX12_comes_47 ?_
          refine xr_istore (lv' := [(4, .int (nI (ods kd wh mn np b (l3.toNatClampNeg) (s.toNatClampNeg)))), (0, .ref m), (1, .int l3), (2, .int s), (3, .int w)]) X dX12_comes_50 rfl rfl ?_
          refine xr_iload X 0 dX12_comes_52 rfl ?_
          refine xr_istore (lv' := [(5, .int (nI (ods kd wh mn np b (l3.toNatClampNeg) (s.toNatClampNeg)))), (4, .int (nI (ods kd wh mn np b (l3.toNatClampNeg) (s.toNatClampNeg)))), (0, .ref m), (1, .int l3), (2, .int s), (3, .int w)]) X dX12_comes_54 rfl rfl ?_
          refine xr_aload_n X 2 dX12_comes_56 rfl rfl ?_
          refine xr_callV X hm rfl kw_1236 kw_1238 kw_46 cw_X12_oddsIn [] (c_X12_oddsIn hm ht T) rfl rfl rfl rfl rfl rfl rfl dX12_comes_57 ?_
          refine xr_istore (lv' := [(6, .int (nI (odi kd np))), (5, .int (nI (ods kd wh mn np b (l3.toNatClampNeg) (s.toNatClampNeg)))), (4, .int (nI (ods kd wh mn np b (l3.toNatClampNeg) (s.toNatClampNeg)))), (0, .ref m), (1, .int l3), (2, .int s), (3, .int w)]) X dX12_comes_60 rfl rfl ?_
          rw [show a_comes kd wh mn np b l3 s w = _ from (if_pos (by omega)).trans (if_pos (by omega))]
          refine xr_locs (lv' := [(6, .int (nI (odi kd np))), (5, .int (nI (ods kd wh mn np b (l3.toNatClampNeg) (s.toNatClampNeg)))), (4, .int (nI (ods kd wh mn np b (l3.toNatClampNeg) (s.toNatClampNeg)))), (0, .ref m), (1, .int l3), (2, .int s), (3, .int w)]) [0, 1, 2, 3, 4, 5, 6] rfl ?_
          exact l_X12_comes X hm ht T (by omega) (by omega) (odi kd np) _ _ (Nat.le_refl _) (by omega) (by omega) rfl
        · have c_38 := of_decide_eq_false (xb_0.mp c_38)
          (try simp (disch := omega) only [nI_toInt, i32_add, i32_sub, i32_mul, i64_addl, i32_l, k32_0, k32_1, k64_0, k64_1] at c_38)
          refine xr_ldc (v := (-1000001)) X kw_1031 dX12_comes_41 ?_
          exact xr_iret X rfl (xv ((if_pos (by omega)).trans (if_neg (by omega)))) rfl rfl rfl rfl dX12_comes_43
  · have c_9 := of_decide_eq_false (xb_0.mp c_9)
    (try simp (disch := omega) only [nI_toInt, i32_add, i32_sub, i32_mul, i64_addl, i32_l, k32_0, k64_0] at c_9)
    refine xr_ldc (v := (-1000002)) X kw_1125 dX12_comes_12 ?_
    exact xr_iret X rfl (xv (if_neg (by omega))) rfl rfl rfl rfl dX12_comes_14
set_option maxRecDepth 100000 in
theorem c_X12_lacks {l : Launch} {Ω : xW} {h : xH} {sz : Nat} {m : Nat} {st ac tp la le cu tk sa ti fa fl tr : Int32} {lane many : Nat → Int32} {r i n : Int32} (hm : h m = some (mO m st ac tp la le cu tk sa ti fa fl tr)) (hlane : h (m + 1) = some (.inl (.int, 8, .inl lane))) (hmany : h (m + 2) = some (.inl (.int, 8, .inl many))) (h0 : 0 ≤ r.toInt) (h8 : r.toInt < 8) : xC l Ω yX12_lacks cX12_lacks 4 (some .int) 0 0 0 [.ref m, .int r, .int i, .int n] h sz (some (.int (lackF lane many r i n))) h (sz) := by
  refine xC_of (lv := [(0, .ref m), (1, .int r), (2, .int i), (3, .int n)]) pn_X12 rfl rfl (fun Γ X hΓ hbs => ?_)
  have X : xX Γ Ω cX12_lacks 4 RX12 "lacks" (some .int) 0 0 0 0 := X
  subst hΓ
  have rg1 := i32_rng i
  have rg2 := i32_rng n
  refine xr_aload_n X 0 dX12_lacks_0 rfl rfl ?_
  refine xr_get X fF_X12_7_11 hm rfl dX12_lacks_1 ?_
  refine xr_iload_n X 1 dX12_lacks_4 rfl rfl ?_
  refine xr_iald (j := r.toNatClampNeg) X hlane (xI_c (by omega) (by omega)) dX12_lacks_5 ?_
  refine xr_if_ge (tgt := 13) X dX12_lacks_6 (by decide) (fun c_6 => ?_) (fun c_6 => ?_)
  · have c_6 := i32_le.mp c_6
    (try simp (disch := omega) only [nI_toInt, i32_add, i32_sub, i32_mul, i64_addl, i32_l, k32_0, k64_0] at c_6)
    refine xr_iload_n X 2 dX12_lacks_13 rfl rfl ?_
    refine xr_if_lt (tgt := 33) X dX12_lacks_14 (by decide) (fun c_14 => ?_) (fun c_14 => ?_)
    · have c_14 := i32_lt.mp c_14
      (try simp (disch := omega) only [nI_toInt, i32_add, i32_sub, i32_mul, i64_addl, i32_l, k32_0, k64_0] at c_14)
      refine xr_iconst (v := 2) X dX12_lacks_33 (by decide) ?_
      refine xr_goto (tgt := 38) X dX12_lacks_34 (by decide) ?_
      exact xr_iret X rfl (xv ((if_neg (by omega)).trans (if_pos (by omega)))) rfl rfl rfl rfl dX12_lacks_38
    · have c_14 := mt i32_lt.mpr c_14
      (try simp (disch := omega) only [nI_toInt, i32_add, i32_sub, i32_mul, i64_addl, i32_l, k32_0, k64_0] at c_14)
      refine xr_iload_n X 2 dX12_lacks_17 rfl rfl ?_
      refine xr_i2l X dX12_lacks_18 ?_
      refine xr_iload_n X 3 dX12_lacks_19 rfl rfl ?_
      refine xr_i2l X dX12_lacks_20 ?_
      refine xr_ladd X dX12_lacks_21 ?_
      refine xr_aload_n X 0 dX12_lacks_22 rfl rfl ?_
      refine xr_get X fF_X12_13_11 hm rfl dX12_lacks_23 ?_
      refine xr_iload_n X 1 dX12_lacks_26 rfl rfl ?_
      refine xr_iald (j := r.toNatClampNeg) X hmany (xI_c (by omega) (by omega)) dX12_lacks_27 ?_
      refine xr_i2l X dX12_lacks_28 ?_
      refine xr_lcmp X dX12_lacks_29 ?_
      refine xr_if_le (tgt := 37) X dX12_lacks_30 (by decide) (fun c_30 => ?_) (fun c_30 => ?_)
      · have c_30 := lgc_le.mp c_30
        (try simp (disch := omega) only [nI_toInt, i32_add, i32_sub, i32_mul, i64_addl, i32_l] at c_30)
        refine xr_iconst (v := 0) X dX12_lacks_37 (by decide) ?_
        exact xr_iret X rfl (xv ((if_neg (by omega)).trans (if_neg (by omega)))) rfl rfl rfl rfl dX12_lacks_38
      · have c_30 := mt lgc_le.mpr c_30
        (try simp (disch := omega) only [nI_toInt, i32_add, i32_sub, i32_mul, i64_addl, i32_l] at c_30)
        refine xr_iconst (v := 2) X dX12_lacks_33 (by decide) ?_
        refine xr_goto (tgt := 38) X dX12_lacks_34 (by decide) ?_
        exact xr_iret X rfl (xv ((if_neg (by omega)).trans (if_pos (by omega)))) rfl rfl rfl rfl dX12_lacks_38
  · have c_6 := mt i32_le.mpr c_6
    (try simp (disch := omega) only [nI_toInt, i32_add, i32_sub, i32_mul, i64_addl, i32_l, k32_0, k64_0] at c_6)
    refine xr_iconst (v := 1) X dX12_lacks_9 (by decide) ?_
    refine xr_goto (tgt := 38) X dX12_lacks_10 (by decide) ?_
    exact xr_iret X rfl (xv (if_pos (by omega))) rfl rfl rfl rfl dX12_lacks_38
