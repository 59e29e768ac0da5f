set_option maxRecDepth 100000 in
theorem l_X12_layA {Γ : xΓ} {Ω : xW} {h : xH} {sz : Nat} (X : xX Γ Ω cX12_layChains 5 RX12 "layChains" none 4 140 0 0) {m : Nat} {st ac tp la le cu tk sa ti fa fl tr : Int32} {t : Nat → Int32} {np day b : Nat} {kd wh mn : Nat → Nat} {chained : Nat → Int32} {Q : State → Prop} (hm : h m = some (mO m st ac tp la le cu tk sa ti fa fl tr)) (ht : h (m + 4) = some (.inl (.int, 21, .inl t))) (T : tOK t np kd wh mn day b) (hchained : h (m + 8) = some (.inl (.int, 384, .inl chained))) (K : xG Γ Ω 5 Q 23 [(0, .ref m)] [] (xu h (m + 8) (.inl (.int, 384, .inl (laC kd wh mn np chained 1)))) sz 0 0) : ∀ (j0 k : Nat), k + j0 = 2 ^ np → xG Γ Ω 5 (Q) 2 [(1, .int (nI k)), (0, .ref m)] ([]) (xu h (m + 8) (.inl (.int, 384, .inl (va_cpy (fun q => nI (chN kd wh mn np 0 q)) chained 0 (64 * 0) k)))) sz 0 0 := by
  intro j0
  induction j0 with
  | zero =>
    intro k hk
    have ek : k = 2 ^ np := by omega
    have h6 := T.1
    have h64 := pw_le h6
    have hpp := Nat.two_pow_pos np
    have hb6 := T.2.2.2.2.2.1
    refine xr_iload_n X 0 dX12_layChains_2 rfl rfl ?_
    refine xr_aload_n X 1 dX12_layChains_3 rfl rfl ?_
    refine xr_callV X (xu_at (xn0 _ rfl) hm) rfl kw_1130 kw_1132 kw_33 cw_X12_all [] (c_X12_all (xu_at (xn0 _ rfl) hm) (xu_at (xne _ rfl) ht) T) rfl rfl rfl rfl rfl rfl rfl dX12_layChains_4 ?_
    refine xr_icmp_gt (tgt := 23) X dX12_layChains_7 (by decide) (fun _ => ?_) (fun c_7 => absurd (by rw [i32_lt, nI_toInt (by omega), nI_toInt (by omega)]; omega) c_7)
    refine xr_locs (lv' := [(0, .ref m)]) [1] rfl ?_
    rw [ek]
    exact K
  | succ j0 ih =>
    intro k hk
    have lk : k < 2 ^ np := by omega
    have h6 := T.1
    have h64 := pw_le h6
    have hpp := Nat.two_pow_pos np
    have hb6 := T.2.2.2.2.2.1
    refine xr_iload_n X 0 dX12_layChains_2 rfl rfl ?_
    refine xr_aload_n X 1 dX12_layChains_3 rfl rfl ?_
    refine xr_callV X (xu_at (xn0 _ rfl) hm) rfl kw_1130 kw_1132 kw_33 cw_X12_all [] (c_X12_all (xu_at (xn0 _ rfl) hm) (xu_at (xne _ rfl) ht) T) rfl rfl rfl rfl rfl rfl rfl dX12_layChains_4 ?_
    refine xr_icmp_gt (tgt := 23) X dX12_layChains_7 (by decide) (fun c_7 => absurd c_7 (by rw [i32_lt, nI_toInt (by omega), nI_toInt (by omega)]; omega)) (fun _ => ?_)
    refine xr_aload_n X 1 dX12_layChains_10 rfl rfl ?_
    refine xr_get X fF_X12_31_11 (xu_at (xn0 _ rfl) hm) rfl dX12_layChains_11 ?_
    refine xr_iload_n X 0 dX12_layChains_14 rfl rfl ?_
    refine xr_iconst (v := 1) X dX12_layChains_15 (by decide) ?_
    refine xr_iast (j := (64 * 0 + k)) X (xu_s _ _ _) (xI_i (by rw [nI_toInt (by omega)]; omega) (by omega)) dX12_layChains_16 ?_
    refine xr_heap (h' := (xu h (m + 8) (.inl (.int, 384, .inl (upd (va_cpy (fun q => nI (chN kd wh mn np 0 q)) chained 0 (64 * 0) k) (64 * 0 + k) 1))))) (xu_uu _ _ _ _) ?_
    refine xr_iinc (v := nI (k + 1)) (lv' := [(1, .int (nI (k + 1))), (0, .ref m)]) X 0 dX12_layChains_17 rfl (nI_1 _) rfl rfl ?_
    refine xr_goto (tgt := 2) X dX12_layChains_20 (by decide) ?_
    refine xr_heap (h' := (xu h (m + 8) (.inl (.int, 384, .inl (va_cpy (fun q => nI (chN kd wh mn np 0 q)) chained 0 (64 * 0) (k + 1)))))) (by rw [← cp_s]; rfl) ?_
    exact ih (k + 1) (by omega)
set_option maxRecDepth 100000 in
theorem l_X12_layD {Γ : xΓ} {Ω : xW} {h : xH} {sz : Nat} (X : xX Γ Ω cX12_layChains 5 RX12 "layChains" none 4 140 0 0) {m : Nat} {st ac tp la le cu tk sa ti fa fl tr : Int32} {t : Nat → Int32} {np day b : Nat} {kd wh mn : Nat → Nat} {c9 : Nat → Int32} {q e : Nat} {Q : State → Prop} (hm : h m = some (mO m st ac tp la le cu tk sa ti fa fl tr)) (ht : h (m + 4) = some (.inl (.int, 21, .inl t))) (T : tOK t np kd wh mn day b) (hc9 : h (m + 8) = some (.inl (.int, 384, .inl c9))) (hcv : ∀ l, l < 2 ^ np → c9 (64 * e + l) = nI (chN kd wh mn np e l)) (hq : q < 2 ^ np) (he : e < 5) (K : xG Γ Ω 5 Q 91 [(3, .int (nI (chN kd wh mn np (e + 1) q))), (2, .int (nI q)), (1, .int (nI (e + 1))), (0, .ref m)] [] h sz 0 0) : ∀ (j0 k : Nat), k + j0 = 2 ^ np → xG Γ Ω 5 (Q) 45 [(4, .int (nI k)), (3, .int (nI (suB (fun l => if agr kd wh mn np q l = true then chN kd wh mn np e l else 0) k))), (2, .int (nI q)), (1, .int (nI (e + 1))), (0, .ref m)] ([]) h sz 0 0 := by
  intro j0
  induction j0 with
  | zero =>
    intro k hk
    have ek : k = 2 ^ np := by omega
    have h6 := T.1
    have h64 := pw_le h6
    have hpp := Nat.two_pow_pos np
    have hb6 := T.2.2.2.2.2.1
    refine xr_iload X 0 dX12_layChains_45 rfl ?_
    refine xr_aload_n X 4 dX12_layChains_47 rfl rfl ?_
    refine xr_callV X hm rfl kw_1130 kw_1132 kw_33 cw_X12_all [] (c_X12_all hm ht T) rfl rfl rfl rfl rfl rfl rfl dX12_layChains_48 ?_
    refine xr_icmp_gt (tgt := 91) X dX12_layChains_51 (by decide) (fun _ => ?_) (fun c_51 => absurd (by rw [i32_lt, nI_toInt (by omega), nI_toInt (by omega)]; omega) c_51)
    refine xr_locs (lv' := [(3, .int (nI (suB (fun l => if agr kd wh mn np q l = true then chN kd wh mn np e l else 0) k))), (2, .int (nI q)), (1, .int (nI (e + 1))), (0, .ref m)]) [1, 2, 3, 4] rfl ?_
    rw [ek]
    exact K
  | succ j0 ih =>
    intro k hk
    have lk : k < 2 ^ np := by omega
    have h6 := T.1
    have h64 := pw_le h6
    have hpp := Nat.two_pow_pos np
    have hb6 := T.2.2.2.2.2.1
    refine xr_iload X 0 dX12_layChains_45 rfl ?_
    refine xr_aload_n X 4 dX12_layChains_47 rfl rfl ?_
    refine xr_callV X hm rfl kw_1130 kw_1132 kw_33 cw_X12_all [] (c_X12_all hm ht T) rfl rfl rfl rfl rfl rfl rfl dX12_layChains_48 ?_
    refine xr_icmp_gt (tgt := 91) X dX12_layChains_51 (by decide) (fun c_51 => absurd c_51 (by rw [i32_lt, nI_toInt (by omega), nI_toInt (by omega)]; omega)) (fun _ => ?_)
    refine xr_iload_n X 1 dX12_layChains_54 rfl rfl ?_
    refine xr_aload_n X 4 dX12_layChains_55 rfl rfl ?_
    refine xr_iload X 0 dX12_layChains_56 rfl ?_
    refine xr_iload_n X 2 dX12_layChains_58 rfl rfl ?_
    refine xr_callV X hm rfl kw_1134 kw_1136 kw_34 cw_X12_isAgreed [.int (nI k), .int (nI q)] (c_X12_isAgreed (l2 := k) (b2 := q) hm ht T (by omega) (by omega)) rfl rfl rfl rfl rfl rfl rfl dX12_layChains_59 ?_
    refine xr_if_eq (tgt := 82) X dX12_layChains_62 (by decide) (fun c_62 => ?_) (fun c_62 => ?_)
    · have c_62 := of_decide_eq_false (xb_0.mp c_62)
      (try simp (disch := omega) only [nI_toInt, i32_add, i32_sub, i32_mul, i64_addl, i32_l] at c_62)
      have c2 : ¬ agr kd wh mn np q k = true := by rw [agr, decide_eq_false c_62]; simp
      refine xr_iconst (v := 0) X dX12_layChains_82 (by decide) ?_
      refine xr_iadd X dX12_layChains_83 ?_
      refine xr_top (y := (nI (suB (fun l => if agr kd wh mn np q l = true then chN kd wh mn np e l else 0) (k + 1)))) (by rw [suB, if_neg c2]; simp) ?_
      refine xr_istore_n (lv' := [(3, .int (nI (suB (fun l => if agr kd wh mn np q l = true then chN kd wh mn np e l else 0) (k + 1)))), (4, .int (nI k)), (2, .int (nI q)), (1, .int (nI (e + 1))), (0, .ref m)]) X dX12_layChains_84 rfl rfl rfl ?_
      refine xr_iinc (v := nI (k + 1)) (lv' := [(4, .int (nI (k + 1))), (3, .int (nI (suB (fun l => if agr kd wh mn np q l = true then chN kd wh mn np e l else 0) (k + 1)))), (2, .int (nI q)), (1, .int (nI (e + 1))), (0, .ref m)]) X 1 dX12_layChains_85 rfl (nI_1 _) rfl rfl ?_
      refine xr_goto (tgt := 45) X dX12_layChains_88 (by decide) ?_
      exact ih (k + 1) (by omega)
    · have c_62 := of_decide_eq_true (xb_1.mp c_62)
      (try simp (disch := omega) only [nI_toInt, i32_add, i32_sub, i32_mul, i64_addl, i32_l] at c_62)
      have c2 : agr kd wh mn np q k = true := decide_eq_true c_62
      refine xr_aload_n X 4 dX12_layChains_65 rfl rfl ?_
      refine xr_get X fF_X12_31_11 hm rfl dX12_layChains_66 ?_
      refine xr_bipush (v := 64) X dX12_layChains_69 (by decide) ?_
      refine xr_iload_n X 3 dX12_layChains_71 rfl rfl ?_
      refine xr_iconst (v := 1) X dX12_layChains_72 (by decide) ?_
      refine xr_isub X dX12_layChains_73 ?_
      refine xr_top (y := (nI e)) (by rw [show (1 : Int32) = nI 1 from rfl, pk_sub (by omega)]; rfl) ?_
      refine xr_imul X dX12_layChains_74 ?_
      refine xr_iload X 0 dX12_layChains_75 rfl ?_
      refine xr_iadd X dX12_layChains_77 ?_
      refine xr_iald (j := (64 * e + k)) X hc9 (xI_64 (nI_toInt (by omega)) (by omega) (nI_toInt (by omega)) (by omega)) dX12_layChains_78 ?_
      refine xr_top (y := (nI (chN kd wh mn np e k))) (hcv k lk) ?_
      refine xr_goto (tgt := 83) X dX12_layChains_79 (by decide) ?_
      refine xr_iadd X dX12_layChains_83 ?_
      refine xr_top (y := (nI (suB (fun l => if agr kd wh mn np q l = true then chN kd wh mn np e l else 0) (k + 1)))) (by rw [suB, if_pos c2, nI_add]) ?_
      refine xr_istore_n (lv' := [(3, .int (nI (suB (fun l => if agr kd wh mn np q l = true then chN kd wh mn np e l else 0) (k + 1)))), (4, .int (nI k)), (2, .int (nI q)), (1, .int (nI (e + 1))), (0, .ref m)]) X dX12_layChains_84 rfl rfl rfl ?_
      refine xr_iinc (v := nI (k + 1)) (lv' := [(4, .int (nI (k + 1))), (3, .int (nI (suB (fun l => if agr kd wh mn np q l = true then chN kd wh mn np e l else 0) (k + 1)))), (2, .int (nI q)), (1, .int (nI (e + 1))), (0, .ref m)]) X 1 dX12_layChains_85 rfl (nI_1 _) rfl rfl ?_
      refine xr_goto (tgt := 45) X dX12_layChains_88 (by decide) ?_
      exact ih (k + 1) (by omega)
set_option maxRecDepth 100000 in
theorem l_X12_layC {Γ : xΓ} {Ω : xW} {h : xH} {sz : Nat} (X : xX Γ Ω cX12_layChains 5 RX12 "layChains" none 4 140 0 0) {m : Nat} {st ac tp la le cu tk sa ti fa fl tr : Int32} {t : Nat → Int32} {np day b : Nat} {kd wh mn : Nat → Nat} {chained : Nat → Int32} {e : Nat} {Q : State → Prop} (hm : h m = some (mO m st ac tp la le cu tk sa ti fa fl tr)) (ht : h (m + 4) = some (.inl (.int, 21, .inl t))) (T : tOK t np kd wh mn day b) (hchained : h (m + 8) = some (.inl (.int, 384, .inl chained))) (he : e < 5) (K : xG Γ Ω 5 Q 109 [(1, .int (nI (e + 1))), (0, .ref m)] [] (xu h (m + 8) (.inl (.int, 384, .inl (laC kd wh mn np chained (e + 2))))) sz 0 0) : ∀ (j0 k : Nat), k + j0 = 2 ^ np → xG Γ Ω 5 (Q) 32 [(2, .int (nI k)), (1, .int (nI (e + 1))), (0, .ref m)] ([]) (xu h (m + 8) (.inl (.int, 384, .inl (va_cpy (fun q => nI (chN kd wh mn np (e + 1) q)) (laC kd wh mn np chained (e + 1)) 0 (64 * (e + 1)) k)))) sz 0 0 := by
  intro j0
  induction j0 with
  | zero =>
    intro k hk
    have ek : k = 2 ^ np := by omega
    have h6 := T.1
    have h64 := pw_le h6
    have hpp := Nat.two_pow_pos np
    have hb6 := T.2.2.2.2.2.1
    refine xr_iload_n X 0 dX12_layChains_32 rfl rfl ?_
    refine xr_aload_n X 2 dX12_layChains_33 rfl rfl ?_
    refine xr_callV X (xu_at (xn0 _ rfl) hm) rfl kw_1130 kw_1132 kw_33 cw_X12_all [] (c_X12_all (xu_at (xn0 _ rfl) hm) (xu_at (xne _ rfl) ht) T) rfl rfl rfl rfl rfl rfl rfl dX12_layChains_34 ?_
    refine xr_icmp_gt (tgt := 109) X dX12_layChains_37 (by decide) (fun _ => ?_) (fun c_37 => absurd (by rw [i32_lt, nI_toInt (by omega), nI_toInt (by omega)]; omega) c_37)
    refine xr_locs (lv' := [(1, .int (nI (e + 1))), (0, .ref m)]) [1, 2] rfl ?_
    rw [ek]
    exact K
  | succ j0 ih =>
    intro k hk
    have lk : k < 2 ^ np := by omega
    have h6 := T.1
    have h64 := pw_le h6
    have hpp := Nat.two_pow_pos np
    have hb6 := T.2.2.2.2.2.1
    refine xr_iload_n X 0 dX12_layChains_32 rfl rfl ?_
    refine xr_aload_n X 2 dX12_layChains_33 rfl rfl ?_
    refine xr_callV X (xu_at (xn0 _ rfl) hm) rfl kw_1130 kw_1132 kw_33 cw_X12_all [] (c_X12_all (xu_at (xn0 _ rfl) hm) (xu_at (xne _ rfl) ht) T) rfl rfl rfl rfl rfl rfl rfl dX12_layChains_34 ?_
    refine xr_icmp_gt (tgt := 109) X dX12_layChains_37 (by decide) (fun c_37 => absurd c_37 (by rw [i32_lt, nI_toInt (by omega), nI_toInt (by omega)]; omega)) (fun _ => ?_)
    refine xr_iconst (v := 0) X dX12_layChains_40 (by decide) ?_
    refine xr_istore_n (lv' := [(3, .int 0), (2, .int (nI k)), (1, .int (nI (e + 1))), (0, .ref m)]) X dX12_layChains_41 rfl rfl rfl ?_
    refine xr_iconst (v := 0) X dX12_layChains_42 (by decide) ?_
    refine xr_istore (lv' := [(4, .int 0), (3, .int 0), (2, .int (nI k)), (1, .int (nI (e + 1))), (0, .ref m)]) X dX12_layChains_43 rfl rfl ?_
    refine xr_locs (lv' := [(4, .int 0), (3, .int 0), (2, .int (nI k)), (1, .int (nI (e + 1))), (0, .ref m)]) [0, 1, 2, 3, 4] rfl ?_
    refine l_X12_layD (q := k) (e := e) X (xu_at (xn0 _ rfl) hm) (xu_at (xne _ rfl) ht) T (xu_s _ _ _) (fun l hl => by rw [pk_cpy_out (by omega)]; exact laC_at T.1 (by omega) hl) lk he ?_ (2 ^ np) 0 (by omega)
    refine xr_aload_n X 3 dX12_layChains_91 rfl rfl ?_
    refine xr_get X fF_X12_31_11 (xu_at (xn0 _ rfl) hm) rfl dX12_layChains_92 ?_
    refine xr_bipush (v := 64) X dX12_layChains_95 (by decide) ?_
    refine xr_iload_n X 2 dX12_layChains_97 rfl rfl ?_
    refine xr_imul X dX12_layChains_98 ?_
    refine xr_iload_n X 1 dX12_layChains_99 rfl rfl ?_
    refine xr_iadd X dX12_layChains_100 ?_
    refine xr_iload_n X 0 dX12_layChains_101 rfl rfl ?_
    refine xr_iast (j := (64 * (e + 1) + k)) X (xu_s _ _ _) (xI_64 (nI_toInt (by omega)) (by omega) (nI_toInt (by omega)) (by omega)) dX12_layChains_102 ?_
    refine xr_heap (h' := (xu h (m + 8) (.inl (.int, 384, .inl (upd (va_cpy (fun q => nI (chN kd wh mn np (e + 1) q)) (laC kd wh mn np chained (e + 1)) 0 (64 * (e + 1)) k) (64 * (e + 1) + k) (nI (chN kd wh mn np (e + 1) k))))))) (xu_uu _ _ _ _) ?_
    refine xr_iinc (v := nI (k + 1)) (lv' := [(2, .int (nI (k + 1))), (3, .int (nI (chN kd wh mn np (e + 1) k))), (1, .int (nI (e + 1))), (0, .ref m)]) X 1 dX12_layChains_103 rfl (nI_1 _) rfl rfl ?_
    refine xr_goto (tgt := 32) X dX12_layChains_106 (by decide) ?_
    refine xr_locs (lv' := [(2, .int (nI (k + 1))), (1, .int (nI (e + 1))), (0, .ref m)]) [0, 2, 3] rfl ?_
    refine xr_heap (h' := (xu h (m + 8) (.inl (.int, 384, .inl (va_cpy (fun q => nI (chN kd wh mn np (e + 1) q)) (laC kd wh mn np chained (e + 1)) 0 (64 * (e + 1)) (k + 1)))))) (by rw [← cp_s, Nat.zero_add]) ?_
    exact ih (k + 1) (by omega)
set_option maxRecDepth 100000 in
theorem l_X12_layB {Γ : xΓ} {Ω : xW} {h : xH} {sz : Nat} (X : xX Γ Ω cX12_layChains 5 RX12 "layChains" none 4 140 0 0) {m : Nat} {st ac tp la le cu tk sa ti fa fl tr : Int32} {t : Nat → Int32} {np day b : Nat} {kd wh mn : Nat → Nat} {chained : Nat → Int32} (hm : h m = some (mO m st ac tp la le cu tk sa ti fa fl tr)) (ht : h (m + 4) = some (.inl (.int, 21, .inl t))) (T : tOK t np kd wh mn day b) (hchained : h (m + 8) = some (.inl (.int, 384, .inl chained))) : ∀ (j0 k : Nat), k + j0 = 5 → xG Γ Ω 5 (xQ Γ Ω (none) (xu h (m + 8) (.inl (.int, 384, .inl (laC kd wh mn np chained 6)))) (sz) 0 0) 25 [(1, .int (nI (k + 1))), (0, .ref m)] ([]) (xu h (m + 8) (.inl (.int, 384, .inl (laC kd wh mn np chained (k + 1))))) sz 0 0 := by
  intro j0
  induction j0 with
  | zero =>
    intro k hk
    have ek : k = 5 := by omega
    refine xr_iload_n X 0 dX12_layChains_25 rfl rfl ?_
    refine xr_iconst (v := 5) X dX12_layChains_26 (by decide) ?_
    refine xr_icmp_gt (tgt := 115) X dX12_layChains_27 (by decide) (fun _ => ?_) (fun c_27 => absurd (by subst ek; decide) c_27)
    exact xr_vret X rfl rfl (by rw [ek]) rfl rfl rfl dX12_layChains_115
  | succ j0 ih =>
    intro k hk
    have lk : k < 5 := by omega
    refine xr_iload_n X 0 dX12_layChains_25 rfl rfl ?_
    refine xr_iconst (v := 5) X dX12_layChains_26 (by decide) ?_
    refine xr_icmp_gt (tgt := 115) X dX12_layChains_27 (by decide) (fun c_27 => absurd c_27 (by rw [i32_lt, k32_5, nI_toInt (by omega)]; omega)) (fun _ => ?_)
    refine xr_iconst (v := 0) X dX12_layChains_30 (by decide) ?_
    refine xr_istore_n (lv' := [(2, .int 0), (1, .int (nI (k + 1))), (0, .ref m)]) X dX12_layChains_31 rfl rfl rfl ?_
    refine xr_heap (h' := (xu h (m + 8) (.inl (.int, 384, .inl (va_cpy (fun q => nI (chN kd wh mn np (k + 1) q)) (laC kd wh mn np chained (k + 1)) 0 (64 * (k + 1)) 0))))) (by rw [cp_0]) ?_
    refine l_X12_layC (e := k) X hm ht T hchained (by omega) ?_ (2 ^ np) 0 (by omega)
    refine xr_iinc (v := nI ((k + 1) + 1)) (lv' := [(1, .int (nI ((k + 1) + 1))), (0, .ref m)]) X 0 dX12_layChains_109 rfl (nI_1 _) rfl rfl ?_
    refine xr_goto (tgt := 25) X dX12_layChains_112 (by decide) ?_
    refine xr_heap (h' := (xu h (m + 8) (.inl (.int, 384, .inl (laC kd wh mn np chained ((k + 1) + 1)))))) (rfl) ?_
    exact ih (k + 1) (by omega)
set_option maxRecDepth 100000 in
theorem c_X12_layChains {l : Launch} {Ω : xW} {h : xH} {sz : Nat} {m : Nat} {st ac tp la le cu tk sa ti fa fl tr : Int32} {t : Nat → Int32} {np day b : Nat} {kd wh mn : Nat → Nat} {chained : Nat → Int32} (hm : h m = some (mO m st ac tp la le cu tk sa ti fa fl tr)) (ht : h (m + 4) = some (.inl (.int, 21, .inl t))) (T : tOK t np kd wh mn day b) (hchained : h (m + 8) = some (.inl (.int, 384, .inl chained))) : xC l Ω yX12_layChains cX12_layChains 5 none 4 0 0 [.ref m] h sz (none) (xu h (m + 8) (.inl (.int, 384, .inl (laC kd wh mn np chained 6)))) (sz) := by
  refine xC_of (lv := [(0, .ref m)]) pn_X12 rfl rfl (fun Γ X hΓ hbs => ?_)
  have X : xX Γ Ω cX12_layChains 5 RX12 "layChains" none 4 140 0 0 := X
  subst hΓ
  refine xr_iconst (v := 0) X dX12_layChains_0 (by decide) ?_
  refine xr_istore_n (lv' := [(1, .int 0), (0, .ref m)]) X dX12_layChains_1 rfl rfl rfl ?_
  refine xr_heap (h' := (xu h (m + 8) (.inl (.int, 384, .inl (va_cpy (fun q => nI (chN kd wh mn np 0 q)) chained 0 (64 * 0) 0))))) (by rw [cp_0]; exact (xu_id hchained).symm) ?_
  refine l_X12_layA X hm ht T hchained ?_ (2 ^ np) 0 (by omega)
  refine xr_iconst (v := 1) X dX12_layChains_23 (by decide) ?_
  refine xr_istore_n (lv' := [(1, .int 1), (0, .ref m)]) X dX12_layChains_24 rfl rfl rfl ?_
  exact l_X12_layB X hm ht T hchained 5 0 rfl
set_option maxRecDepth 100000 in
theorem l_X12_chIn {Γ : xΓ} {Ω : xW} {h : xH} {sz : Nat} (X : xX Γ Ω cX12_chains 6 RX12 "chains" (some .int) 5 175 0 0) {m : Nat} {st ac tp la le cu tk sa ti fa fl tr : Int32} {t : Nat → Int32} {np day b : Nat} {kd wh mn : Nat → Nat} {chained : Nat → Int32} {n k2 : Int32} {d L9 : Nat} {Q : State → Prop} (hm : h m = some (mO m st ac tp la le cu tk sa ti fa fl tr)) (ht : h (m + 4) = some (.inl (.int, 21, .inl t))) (T : tOK t np kd wh mn day b) (hchained : h (m + 8) = some (.inl (.int, 384, .inl chained))) (hn : 1 ≤ n.toInt ∧ n.toInt ≤ 5) (hk0 : 0 ≤ k2.toInt) (hkn : k2.toInt < n.toInt) (hd : d < n.toNatClampNeg) (hfb : fcl kd wh mn np b n.toNatClampNeg d < 2 ^ np) (hL : L9 < 2 ^ np) (hQ : fcQ kd wh mn np (fcl kd wh mn np b n.toNatClampNeg d) n.toNatClampNeg d L9 = true) (hQ2 : ∀ q, q < L9 → fcQ kd wh mn np (fcl kd wh mn np b n.toNatClampNeg d) n.toNatClampNeg d q = false) (K : xG Γ Ω 6 Q 132 [(5, .int (nI L9)), (4, .int (nI d)), (3, .int (nI (fcl kd wh mn np b n.toNatClampNeg d))), (0, .ref m), (1, .int n), (2, .int k2)] [] (xu h (m + 8) (.inl (.int, 384, .inl (laC kd wh mn np chained 6)))) sz 0 0) : ∀ (j0 k : Nat), k + j0 = L9 → xG Γ Ω 6 (Q) 96 [(5, .int (nI k)), (4, .int (nI d)), (3, .int (nI (fcl kd wh mn np b n.toNatClampNeg d))), (0, .ref m), (1, .int n), (2, .int k2)] ([]) (xu h (m + 8) (.inl (.int, 384, .inl (laC kd wh mn np chained 6)))) sz 0 0 := by
  intro j0
  induction j0 with
  | zero =>
    intro k hk
    have ek : k = L9 := by omega
    have h6 := T.1
    have h64 := pw_le h6
    have hpp := Nat.two_pow_pos np
    have hb6 := T.2.2.2.2.2.1
    have enn := (i32_tn (x := n) (by omega)).2
    have hQ9 := hQ
    rw [← ek, fcQ, Bool.and_eq_true] at hQ9
    have hA9 := of_decide_eq_true hQ9.1
    have hP9 := of_decide_eq_true hQ9.2
    have hlt9 := chN_lt (kd := kd) (wh := wh) (mn := mn) T.1 (d := (n.toNatClampNeg - d - 1)) (by omega) k
    refine xr_aload_n X 3 dX12_chains_96 rfl rfl ?_
    refine xr_iload X 0 dX12_chains_97 rfl ?_
    refine xr_iload_n X 2 dX12_chains_99 rfl rfl ?_
    refine xr_callV X (xu_at (xn0 _ rfl) hm) rfl kw_1134 kw_1136 kw_34 cw_X12_isAgreed [.int (nI k), .int (nI (fcl kd wh mn np b n.toNatClampNeg d))] (c_X12_isAgreed (l2 := k) (b2 := (fcl kd wh mn np b n.toNatClampNeg d)) (xu_at (xn0 _ rfl) hm) (xu_at (xne _ rfl) ht) T (by omega) (by omega)) rfl rfl rfl rfl rfl rfl rfl dX12_chains_100 ?_
    refine xr_if_eq (tgt := 126) X dX12_chains_103 (by decide) (fun c_103 => absurd c_103 (by rw [xb_0]; simp [hA9])) (fun _ => ?_)
    refine xr_aload_n X 3 dX12_chains_106 rfl rfl ?_
    refine xr_get X fF_X12_31_11 (xu_at (xn0 _ rfl) hm) rfl dX12_chains_107 ?_
    refine xr_bipush (v := 64) X dX12_chains_110 (by decide) ?_
    refine xr_iload_n X 4 dX12_chains_112 rfl rfl ?_
    refine xr_iload X 1 dX12_chains_113 rfl ?_
    refine xr_isub X dX12_chains_115 ?_
    refine xr_nm (fun nd e_nd => ?_)
    have end1 : nd.toInt = (n.toNatClampNeg : Int) - d := by rw [e_nd, i32_sub (by rw [nI_toInt (by omega)]; omega) (by rw [nI_toInt (by omega)]; omega), nI_toInt (by omega)]; omega
    refine xr_iconst (v := 1) X dX12_chains_116 (by decide) ?_
    refine xr_isub X dX12_chains_117 ?_
    refine xr_top (y := (nI (n.toNatClampNeg - d - 1))) (by rw [i32_eq, i32_sub (by rw [k32_1]; omega) (by rw [k32_1]; omega), k32_1, nI_toInt (by omega)]; omega) ?_
    refine xr_imul X dX12_chains_118 ?_
    refine xr_iload X 0 dX12_chains_119 rfl ?_
    refine xr_iadd X dX12_chains_121 ?_
    refine xr_iald (j := (64 * (n.toNatClampNeg - d - 1) + k)) X (xu_s _ _ _) (xI_64 (nI_toInt (by omega)) (by omega) (nI_toInt (by omega)) (by omega)) dX12_chains_122 ?_
    refine xr_top (y := (nI (chN kd wh mn np (n.toNatClampNeg - d - 1) k))) (laC_at T.1 (by omega) (by omega)) ?_
    refine xr_if_ne (tgt := 132) X dX12_chains_123 (by decide) (fun _ => ?_) (fun c_123 => absurd c_123 (nI_ne0 hP9 hlt9))
    rw [ek]
    exact K
  | succ j0 ih =>
    intro k hk
    have lk : k < L9 := by omega
    have h6 := T.1
    have h64 := pw_le h6
    have hpp := Nat.two_pow_pos np
    have hb6 := T.2.2.2.2.2.1
    have enn := (i32_tn (x := n) (by omega)).2
    have hlt9 := chN_lt (kd := kd) (wh := wh) (mn := mn) T.1 (d := (n.toNatClampNeg - d - 1)) (by omega) k
    refine xr_aload_n X 3 dX12_chains_96 rfl rfl ?_
    refine xr_iload X 0 dX12_chains_97 rfl ?_
    refine xr_iload_n X 2 dX12_chains_99 rfl rfl ?_
    refine xr_callV X (xu_at (xn0 _ rfl) hm) rfl kw_1134 kw_1136 kw_34 cw_X12_isAgreed [.int (nI k), .int (nI (fcl kd wh mn np b n.toNatClampNeg d))] (c_X12_isAgreed (l2 := k) (b2 := (fcl kd wh mn np b n.toNatClampNeg d)) (xu_at (xn0 _ rfl) hm) (xu_at (xne _ rfl) ht) T (by omega) (by omega)) rfl rfl rfl rfl rfl rfl rfl dX12_chains_100 ?_
    refine xr_if_eq (tgt := 126) X dX12_chains_103 (by decide) (fun c_103 => ?_) (fun c_103 => ?_)
    · have c_103 := of_decide_eq_false (xb_0.mp c_103)
      (try simp (disch := omega) only [nI_toInt, i32_add, i32_sub, i32_mul, i64_addl, i32_l] at c_103)
      refine xr_iinc (v := nI (k + 1)) (lv' := [(5, .int (nI (k + 1))), (4, .int (nI d)), (3, .int (nI (fcl kd wh mn np b n.toNatClampNeg d))), (0, .ref m), (1, .int n), (2, .int k2)]) X 0 dX12_chains_126 rfl (nI_1 _) rfl rfl ?_
      refine xr_goto (tgt := 96) X dX12_chains_129 (by decide) ?_
      exact ih (k + 1) (by omega)
    · have c_103 := of_decide_eq_true (xb_1.mp c_103)
      (try simp (disch := omega) only [nI_toInt, i32_add, i32_sub, i32_mul, i64_addl, i32_l] at c_103)
      refine xr_aload_n X 3 dX12_chains_106 rfl rfl ?_
      refine xr_get X fF_X12_31_11 (xu_at (xn0 _ rfl) hm) rfl dX12_chains_107 ?_
      refine xr_bipush (v := 64) X dX12_chains_110 (by decide) ?_
      refine xr_iload_n X 4 dX12_chains_112 rfl rfl ?_
      refine xr_iload X 1 dX12_chains_113 rfl ?_
      refine xr_isub X dX12_chains_115 ?_
      refine xr_nm (fun nd e_nd => ?_)
      have end1 : nd.toInt = (n.toNatClampNeg : Int) - d := by rw [e_nd, i32_sub (by rw [nI_toInt (by omega)]; omega) (by rw [nI_toInt (by omega)]; omega), nI_toInt (by omega)]; omega
      refine xr_iconst (v := 1) X dX12_chains_116 (by decide) ?_
      refine xr_isub X dX12_chains_117 ?_
      refine xr_top (y := (nI (n.toNatClampNeg - d - 1))) (by rw [i32_eq, i32_sub (by rw [k32_1]; omega) (by rw [k32_1]; omega), k32_1, nI_toInt (by omega)]; omega) ?_
      refine xr_imul X dX12_chains_118 ?_
      refine xr_iload X 0 dX12_chains_119 rfl ?_
      refine xr_iadd X dX12_chains_121 ?_
      refine xr_iald (j := (64 * (n.toNatClampNeg - d - 1) + k)) X (xu_s _ _ _) (xI_64 (nI_toInt (by omega)) (by omega) (nI_toInt (by omega)) (by omega)) dX12_chains_122 ?_
      refine xr_top (y := (nI (chN kd wh mn np (n.toNatClampNeg - d - 1) k))) (laC_at T.1 (by omega) (by omega)) ?_
      refine xr_if_ne (tgt := 132) X dX12_chains_123 (by decide) (fun c_123 => ?_) (fun c_123 => ?_)
      · have c_123 := mt i32_eq.mpr c_123
        (try simp (disch := omega) only [nI_toInt, i32_add, i32_sub, i32_mul, i64_addl, i32_l, k32_0, k32_1, k64_0, k64_1] at c_123)
        exact absurd (show fcQ kd wh mn np (fcl kd wh mn np b n.toNatClampNeg d) n.toNatClampNeg d k = true by rw [fcQ, agr, decide_eq_true c_103, decide_eq_true (by omega)]; rfl) (by rw [hQ2 k lk]; simp)
      · have c_123 := i32_eq.mp c_123
        (try simp (disch := omega) only [nI_toInt, i32_add, i32_sub, i32_mul, i64_addl, i32_l, k32_0, k32_1, k64_0, k64_1] at c_123)
        refine xr_iinc (v := nI (k + 1)) (lv' := [(5, .int (nI (k + 1))), (4, .int (nI d)), (3, .int (nI (fcl kd wh mn np b n.toNatClampNeg d))), (0, .ref m), (1, .int n), (2, .int k2)]) X 0 dX12_chains_126 rfl (nI_1 _) rfl rfl ?_
        refine xr_goto (tgt := 96) X dX12_chains_129 (by decide) ?_
        exact ih (k + 1) (by omega)
set_option maxRecDepth 100000 in
theorem l_X12_chOut {Γ : xΓ} {Ω : xW} {h : xH} {sz : Nat} (X : xX Γ Ω cX12_chains 6 RX12 "chains" (some .int) 5 175 0 0) {m : Nat} {st ac tp la le cu tk sa ti fa fl tr : Int32} {t : Nat → Int32} {np day b : Nat} {kd wh mn : Nat → Nat} {chained : Nat → Int32} {n k2 : Int32} (hm : h m = some (mO m st ac tp la le cu tk sa ti fa fl tr)) (ht : h (m + 4) = some (.inl (.int, 21, .inl t))) (T : tOK t np kd wh mn day b) (hchained : h (m + 8) = some (.inl (.int, 384, .inl chained))) (hn : 1 ≤ n.toInt ∧ n.toInt ≤ 5) (hk0 : 0 ≤ k2.toInt) (hkn : k2.toInt < n.toInt) : ∀ (j0 d : Nat), d + j0 = k2.toNatClampNeg + 1 → (fcl kd wh mn np b n.toNatClampNeg d < 2 ^ np ∧ 0 < chN kd wh mn np (n.toNatClampNeg - d) (fcl kd wh mn np b n.toNatClampNeg d)) → xG Γ Ω 6 (xQ Γ Ω (some (.int (nI (fcl kd wh mn np b n.toNatClampNeg (k2.toNatClampNeg + 1))))) (xu h (m + 8) (.inl (.int, 384, .inl (laC kd wh mn np chained 6)))) (sz) 0 0) 87 [(4, .int (nI d)), (3, .int (nI (fcl kd wh mn np b n.toNatClampNeg d))), (0, .ref m), (1, .int n), (2, .int k2)] ([]) (xu h (m + 8) (.inl (.int, 384, .inl (laC kd wh mn np chained 6)))) sz 0 0 := by
  intro j0
  induction j0 with
  | zero =>
    intro d hk hinv
    have ek : d = k2.toNatClampNeg + 1 := by omega
    have tk := (i32_tn hk0).2
    refine xr_iload X 0 dX12_chains_87 rfl ?_
    refine xr_iload_n X 4 dX12_chains_89 rfl rfl ?_
    refine xr_icmp_gt (tgt := 141) X dX12_chains_90 (by decide) (fun _ => ?_) (fun c_90 => absurd (by rw [i32_lt, nI_toInt (by omega)]; omega) c_90)
    refine xr_iload_n X 1 dX12_chains_141 rfl rfl ?_
    exact xr_iret X rfl (by rw [ek]) rfl rfl rfl rfl dX12_chains_142
  | succ j0 ih =>
    intro d hk hinv
    have lk : d < k2.toNatClampNeg + 1 := by omega
    have h6 := T.1
    have h64 := pw_le h6
    have hpp := Nat.two_pow_pos np
    have hb6 := T.2.2.2.2.2.1
    have tk := (i32_tn hk0).2
    have enn := (i32_tn (x := n) (by omega)).2
    refine xr_iload X 0 dX12_chains_87 rfl ?_
    refine xr_iload_n X 4 dX12_chains_89 rfl rfl ?_
    refine xr_icmp_gt (tgt := 141) X dX12_chains_90 (by decide) (fun c_90 => absurd c_90 (by rw [i32_lt, nI_toInt (by omega)]; omega)) (fun _ => ?_)
    refine xr_iconst (v := 0) X dX12_chains_93 (by decide) ?_
    refine xr_istore (lv' := [(5, .int 0), (4, .int (nI d)), (3, .int (nI (fcl kd wh mn np b n.toNatClampNeg d))), (0, .ref m), (1, .int n), (2, .int k2)]) X dX12_chains_94 rfl rfl ?_
    obtain ⟨L9, e9, l9, q9, r9, p9⟩ := fcl_step (by omega) hinv.2
    refine l_X12_chIn (L9 := L9) (d := d) X hm ht T hchained hn hk0 hkn (by omega) hinv.1 l9 q9 r9 ?_ L9 0 (by omega)
    refine xr_iload X 0 dX12_chains_132 rfl ?_
    refine xr_istore_n (lv' := [(3, .int (nI L9)), (5, .int (nI L9)), (4, .int (nI d)), (0, .ref m), (1, .int n), (2, .int k2)]) X dX12_chains_134 rfl rfl rfl ?_
    refine xr_iinc (v := nI (d + 1)) (lv' := [(4, .int (nI (d + 1))), (3, .int (nI L9)), (5, .int (nI L9)), (0, .ref m), (1, .int n), (2, .int k2)]) X 2 dX12_chains_135 rfl (nI_1 _) rfl rfl ?_
    refine xr_goto (tgt := 87) X dX12_chains_138 (by decide) ?_
    refine xr_locs (lv' := [(4, .int (nI (d + 1))), (3, .int (nI L9)), (0, .ref m), (1, .int n), (2, .int k2)]) [0, 1, 3, 4, 5] rfl ?_
    refine xr_lve (lv' := [(4, .int (nI (d + 1))), (3, .int (nI (fcl kd wh mn np b n.toNatClampNeg (d + 1)))), (0, .ref m), (1, .int n), (2, .int k2)]) (by rw [e9]) ?_
    exact ih (d + 1) (by omega) ⟨by rw [e9]; exact l9, by rw [e9]; exact p9⟩
set_option maxRecDepth 100000 in
theorem c_X12_chains {l : Launch} {Ω : xW} {h : xH} {sz : Nat} {m : Nat} {st ac tp la le cu tk sa ti fa fl tr : Int32} {t : Nat → Int32} {np day b : Nat} {kd wh mn : Nat → Nat} {chained : Nat → Int32} {n k2 : Int32} (hm : h m = some (mO m st ac tp la le cu tk sa ti fa fl tr)) (ht : h (m + 4) = some (.inl (.int, 21, .inl t))) (T : tOK t np kd wh mn day b) (hchained : h (m + 8) = some (.inl (.int, 384, .inl chained))) : xC l Ω yX12_chains cX12_chains 6 (some .int) 5 0 0 [.ref m, .int n, .int k2] h sz (some (.int (a_chains kd wh mn np b n k2))) (if 0 < np then (if (1 ≤ n.toInt ∧ n.toInt ≤ 5) ∧ -1 ≤ k2.toInt then (xu h (m + 8) (.inl (.int, 384, .inl (laC kd wh mn np chained 6)))) else h) else h) (sz) := by
  refine xC_of (lv := [(0, .ref m), (1, .int n), (2, .int k2)]) pn_X12 rfl rfl (fun Γ X hΓ hbs => ?_)
  have X : xX Γ Ω cX12_chains 6 RX12 "chains" (some .int) 5 175 0 0 := X
  subst hΓ
  have h6 := T.1
  have h64 := pw_le h6
  have hpp := Nat.two_pow_pos np
  have hb6 := T.2.2.2.2.2.1
  refine xr_aload_n X 0 dX12_chains_0 rfl rfl ?_
  refine xr_iconst (v := 0) X dX12_chains_1 (by decide) ?_
  refine xr_put (fs' := [.int 0, .int st, .ref (m + 1), .ref (m + 2), .ref (m + 3), .ref (m + 4), .ref (m + 5), .ref (m + 6), .int ac, .ref (m + 7), .int tp, .int la, .int le, .int cu, .int tk, .int sa, .int ti, .int fa, .int fl, .ref (m + 8), .ref (m + 9), .ref (m + 10), .ref (m + 11), .int tr]) X (fW_X12_44_11 _) hm rfl rfl rfl rfl dX12_chains_2 ?_
  refine xr_heap (h' := h) (xu_id hm) ?_
  refine xr_aload_n X 0 dX12_chains_5 rfl rfl ?_
  refine xr_callV X hm rfl kw_1121 kw_1123 kw_31 cw_X12_isThere [] (c_X12_isThere hm ht T) rfl rfl rfl rfl rfl rfl rfl dX12_chains_6 ?_
  refine xr_if_ne (tgt := 15) X dX12_chains_9 (by decide) (fun c_9 => ?_) (fun c_9 => ?_)
  · have c_9 := of_decide_eq_true (xb_1.mp c_9)
    (try simp (disch := omega) only [nI_toInt, i32_add, i32_sub, i32_mul, i64_addl, i32_l, k32_0, k64_0] at c_9)
    refine xr_iload_n X 1 dX12_chains_15 rfl rfl ?_
    refine xr_i2l X dX12_chains_16 ?_
    refine xr_lconst (v := 1) X dX12_chains_17 (by decide) ?_
    refine xr_ldc2 (v := 5) X kw_1218 dX12_chains_18 ?_
    refine xr_callS X kw_1027 kw_1028 cw_X12_in [.long n.toInt64, .long 1, .long 5] c_X12_in rfl rfl rfl rfl rfl rfl rfl dX12_chains_21 ?_
    refine xr_if_eq (tgt := 32) X dX12_chains_24 (by decide) (fun c_24 => ?_) (fun c_24 => ?_)
    · have c_24 := of_decide_eq_false (xb_0.mp c_24)
      (try simp (disch := omega) only [nI_toInt, i32_add, i32_sub, i32_mul, i64_addl, i32_l, k32_1, k32_5, k64_1, k64_5] at c_24)
      refine xr_ldc (v := (-1000001)) X kw_1031 dX12_chains_32 ?_
      exact xr_iret X rfl (xv ((if_pos (by omega)).trans (if_neg (by omega)))) (((if_pos (by omega)).trans (if_neg (by omega))).symm) rfl rfl rfl dX12_chains_34
    · have c_24 := of_decide_eq_true (xb_1.mp c_24)
      (try simp (disch := omega) only [nI_toInt, i32_add, i32_sub, i32_mul, i64_addl, i32_l, k32_1, k32_5, k64_1, k64_5] at c_24)
      refine xr_iload_n X 2 dX12_chains_27 rfl rfl ?_
      refine xr_iconst (v := (-1)) X dX12_chains_28 (by decide) ?_
      refine xr_icmp_ge (tgt := 35) X dX12_chains_29 (by decide) (fun c_29 => ?_) (fun c_29 => ?_)
      · have c_29 := i32_le.mp c_29
        (try simp (disch := omega) only [nI_toInt, i32_add, i32_sub, i32_mul, i64_addl, i32_l, k32_m1] at c_29)
        have enn := (i32_tn (x := n) (by omega)).2
        have hlt9 := chN_lt (kd := kd) (wh := wh) (mn := mn) T.1 (d := n.toNatClampNeg) (by omega) b
        refine xr_aload_n X 0 dX12_chains_35 rfl rfl ?_
        refine xr_callV X hm rfl kw_1219 kw_1221 kw_44 cw_X12_layChains [] (c_X12_layChains hm ht T hchained) rfl rfl rfl rfl rfl rfl rfl dX12_chains_36 ?_
        refine xr_aload_n X 0 dX12_chains_39 rfl rfl ?_
        refine xr_get X fF_X12_19_11 (xu_at (xn0 _ rfl) hm) rfl dX12_chains_40 ?_
        refine xr_iconst (v := 2) X dX12_chains_43 (by decide) ?_
        refine xr_iald (j := 2) X (xu_at (xne _ rfl) ht) (xI_e (by decide) (by omega) (by omega)) dX12_chains_44 ?_
        refine xr_top (y := (nI b)) T.2.2.2.2.1 ?_
        refine xr_istore_n (lv' := [(3, .int (nI b)), (0, .ref m), (1, .int n), (2, .int k2)]) X dX12_chains_45 rfl rfl rfl ?_
        refine xr_iload_n X 3 dX12_chains_46 rfl rfl ?_
        refine xr_if_ge (tgt := 62) X dX12_chains_47 (by decide) (fun c_47 => ?_) (fun c_47 => ?_)
        · have c_47 := i32_le.mp c_47
          (try simp (disch := omega) only [nI_toInt, i32_add, i32_sub, i32_mul, i64_addl, i32_l, k32_0, k64_0] at c_47)
          refine xr_iload_n X 3 dX12_chains_62 rfl rfl ?_
          refine xr_iload_n X 2 dX12_chains_63 rfl rfl ?_
          refine xr_icmp_ge (tgt := 81) X dX12_chains_64 (by decide) (fun c_64 => ?_) (fun c_64 => ?_)
          · have c_64 := i32_le.mp c_64
            (try simp (disch := omega) only [nI_toInt, i32_add, i32_sub, i32_mul, i64_addl, i32_l] at c_64)
            refine xr_ldc (v := (-1000000)) X kw_1072 dX12_chains_81 ?_
            exact xr_iret X rfl (xv ((((if_pos (by omega)).trans (if_pos (by omega))).trans (if_neg (by omega))).trans (if_pos (by omega)))) (((if_pos (by omega)).trans (if_pos (by omega))).symm) rfl rfl rfl dX12_chains_83
          · have c_64 := mt i32_le.mpr c_64
            (try simp (disch := omega) only [nI_toInt, i32_add, i32_sub, i32_mul, i64_addl, i32_l] at c_64)
            refine xr_aload_n X 1 dX12_chains_67 rfl rfl ?_
            refine xr_get X fF_X12_31_11 (xu_at (xn0 _ rfl) hm) rfl dX12_chains_68 ?_
            refine xr_bipush (v := 64) X dX12_chains_71 (by decide) ?_
            refine xr_iload_n X 2 dX12_chains_73 rfl rfl ?_
            refine xr_imul X dX12_chains_74 ?_
            refine xr_iload_n X 0 dX12_chains_75 rfl rfl ?_
            refine xr_iadd X dX12_chains_76 ?_
            refine xr_iald (j := (64 * n.toNatClampNeg + b)) X (xu_s _ _ _) (xI_64 (i32_tn (by omega)).2.symm (by omega) (nI_toInt (by omega)) (by omega)) dX12_chains_77 ?_
            refine xr_top (y := (nI (chN kd wh mn np n.toNatClampNeg b))) (laC_at T.1 (by omega) hb6) ?_
            refine xr_if_ne (tgt := 84) X dX12_chains_78 (by decide) (fun c_78 => ?_) (fun c_78 => ?_)
            · have c_78 := mt i32_eq.mpr c_78
              (try simp (disch := omega) only [nI_toInt, i32_add, i32_sub, i32_mul, i64_addl, i32_l, k32_0, k64_0] at c_78)
              refine xr_iconst (v := 0) X dX12_chains_84 (by decide) ?_
              refine xr_istore (lv' := [(4, .int 0), (3, .int (nI b)), (0, .ref m), (1, .int n), (2, .int k2)]) X dX12_chains_85 rfl rfl ?_
              have tk := (i32_tn (x := k2) (by omega)).2
              rw [show a_chains kd wh mn np b n k2 = nI (fcl kd wh mn np b n.toNatClampNeg (k2.toNatClampNeg + 1)) from ((((if_pos (by omega)).trans (if_pos (by omega))).trans (if_neg (by omega))).trans (if_neg (by omega))), if_pos (show 0 < np by omega), if_pos (show (1 ≤ n.toInt ∧ n.toInt ≤ 5) ∧ -1 ≤ k2.toInt by omega)]
              exact l_X12_chOut X hm ht T hchained (by omega) (by omega) (by omega) (k2.toNatClampNeg + 1) 0 (by omega) ⟨hb6, by show 0 < chN kd wh mn np (n.toNatClampNeg - 0) b; rw [Nat.sub_zero]; omega⟩
            · have c_78 := i32_eq.mp c_78
              (try simp (disch := omega) only [nI_toInt, i32_add, i32_sub, i32_mul, i64_addl, i32_l, k32_0, k64_0] at c_78)
              refine xr_ldc (v := (-1000000)) X kw_1072 dX12_chains_81 ?_
              exact xr_iret X rfl (xv ((((if_pos (by omega)).trans (if_pos (by omega))).trans (if_neg (by omega))).trans (if_pos (by omega)))) (((if_pos (by omega)).trans (if_pos (by omega))).symm) rfl rfl rfl dX12_chains_83
        · have c_47 := mt i32_le.mpr c_47
          (try simp (disch := omega) only [nI_toInt, i32_add, i32_sub, i32_mul, i64_addl, i32_l, k32_0, k64_0] at c_47)
          refine xr_aload_n X 1 dX12_chains_50 rfl rfl ?_
          refine xr_get X fF_X12_31_11 (xu_at (xn0 _ rfl) hm) rfl dX12_chains_51 ?_
          refine xr_bipush (v := 64) X dX12_chains_54 (by decide) ?_
          refine xr_iload_n X 2 dX12_chains_56 rfl rfl ?_
          refine xr_imul X dX12_chains_57 ?_
          refine xr_iload_n X 0 dX12_chains_58 rfl rfl ?_
          refine xr_iadd X dX12_chains_59 ?_
          refine xr_iald (j := (64 * n.toNatClampNeg + b)) X (xu_s _ _ _) (xI_64 (i32_tn (by omega)).2.symm (by omega) (nI_toInt (by omega)) (by omega)) dX12_chains_60 ?_
          refine xr_top (y := (nI (chN kd wh mn np n.toNatClampNeg b))) (laC_at T.1 (by omega) hb6) ?_
          exact xr_iret X rfl (xv (((if_pos (by omega)).trans (if_pos (by omega))).trans (if_pos (by omega)))) (((if_pos (by omega)).trans (if_pos (by omega))).symm) rfl rfl rfl dX12_chains_61
      · have c_29 := mt i32_le.mpr c_29
        (try simp (disch := omega) only [nI_toInt, i32_add, i32_sub, i32_mul, i64_addl, i32_l, k32_m1] at c_29)
        refine xr_ldc (v := (-1000001)) X kw_1031 dX12_chains_32 ?_
        exact xr_iret X rfl (xv ((if_pos (by omega)).trans (if_neg (by omega)))) (((if_pos (by omega)).trans (if_neg (by omega))).symm) rfl rfl rfl dX12_chains_34
  · have c_9 := of_decide_eq_false (xb_0.mp c_9)
    (try simp (disch := omega) only [nI_toInt, i32_add, i32_sub, i32_mul, i64_addl, i32_l, k32_0, k64_0] at c_9)
    refine xr_ldc (v := (-1000002)) X kw_1125 dX12_chains_12 ?_
    exact xr_iret X rfl (xv (if_neg (by omega))) ((if_neg (by omega)).symm) rfl rfl rfl dX12_chains_14
