/-- what the class keeps to undo, one more of them -/
def keepU (u : Nat → Int32) (a : Nat) (x : Int32) : Nat → Int32 := if a = 24 then upd (va_cpy u u 1 0 23) 23 x else upd u a x
theorem keepU_24 {u : Nat → Int32} {a : Nat} {x : Int32} (h : a = 24) : keepU u a x = upd (va_cpy u u 1 0 23) 23 x := if_pos h
theorem keepU_n {u : Nat → Int32} {a : Nat} {x : Int32} (h : ¬ a = 24) : keepU u a x = upd u a x := if_neg h
theorem keepN_24 {a : Nat} (h : a = 24) : keepN a = 24 := if_pos h
theorem keepN_n {a : Nat} (h : ¬ a = 24) : keepN a = a + 1 := if_neg h
set_option maxRecDepth 100000 in
theorem c_X11_act {l : Launch} {Ω : xW} {h : xH} {sz : Nat} {e w a np : Nat} {st : Int32} {u : Nat → Int32} {d9 b9 m9 v : Int32} (heo : h e = some (eO e w (nI a) st)) (hw : w = e + 16) (hu : h (e + 30) = some (.inl (.int, 24, .inl u))) (hto : h w = some (tO w (nI np) d9 b9 m9)) (ha : a ≤ 24) : xC l Ω yX11_act cX11_act 2 none 1 0 0 [.ref e, .int v] h sz (none) (xu (xu (xu h (e + 30) (.inl (.int, 24, .inl (keepU u a b9)))) e (.inr (10, [.ref (e + 1), .ref (e + 13), .ref w, .ref (e + 19), .ref (e + 20), .ref (e + 28), .ref (e + 30), .int (nI (keepN a)), .int (st)]))) w (.inr (7, [.ref (w + 1), .int (nI np), .int (d9 + 1), .int (v), .ref (w + 2), .int (m9)]))) (sz) := by
  refine xC_of (lv := [(0, .ref e), (1, .int v)]) pn_X11 rfl rfl (fun Γ X hΓ hbs => ?_)
  have X : xX Γ Ω cX11_act 2 RX11 "act" none 1 35 0 0 := X
  subst hΓ
  refine xr_aload_n X 0 dX11_act_0 rfl rfl ?_
  refine xr_get X fF_X11_52_10 heo rfl dX11_act_1 ?_
  refine xr_aload_n X 0 dX11_act_4 rfl rfl ?_
  refine xr_get X fF_X11_48_10 heo rfl dX11_act_5 ?_
  refine xr_alen (v := 24) X hu (show nI 24 = 24 by decide) dX11_act_8 ?_
  refine xr_icmp_lt (tgt := 43) X dX11_act_9 (by decide) (fun c_9 => ?_) (fun c_9 => ?_)
  · have c_9 := i32_lt.mp c_9
    (try simp (disch := omega) only [nI_toInt, i32_add, i32_sub, i32_mul, i64_addl, i32_l, k32_24, k64_24] at c_9)
    have c9 : ¬ a = 24 := by omega
    refine xr_aload_n X 0 dX11_act_43 rfl rfl ?_
    refine xr_get X fF_X11_48_10 heo rfl dX11_act_44 ?_
    refine xr_aload_n X 0 dX11_act_47 rfl rfl ?_
    refine xr_get X fF_X11_52_10 heo rfl dX11_act_48 ?_
    refine xr_aload_n X 0 dX11_act_51 rfl rfl ?_
    refine xr_get X fF_X11_26_10 heo rfl dX11_act_52 ?_
    refine xr_callV X hto rfl kw_594 kw_595 kw_596 cw_X8_before [] (c_X8_before hto) rfl rfl rfl rfl rfl rfl rfl dX11_act_55 ?_
    refine xr_iast (j := a) X hu (xI_n (by omega) (by omega)) dX11_act_58 ?_
    refine xr_aload_n X 0 dX11_act_59 rfl rfl ?_
    refine xr_dup X dX11_act_60 rfl ?_
    refine xr_get X fF_X11_52_10 (xu_at (xn0 _ rfl) heo) rfl dX11_act_61 ?_
    refine xr_iconst (v := 1) X dX11_act_64 (by decide) ?_
    refine xr_iadd X dX11_act_65 ?_
    refine xr_top (y := (nI (keepN a))) (by rw [keepN_n c9, nI_1]) ?_
    refine xr_put (fs' := [.ref (e + 1), .ref (e + 13), .ref w, .ref (e + 19), .ref (e + 20), .ref (e + 28), .ref (e + 30), .int (nI (keepN a)), .int (st)]) X (fW_X11_52_10 _) (xu_at (xn0 _ rfl) heo) rfl rfl rfl rfl dX11_act_66 ?_
    refine xr_aload_n X 0 dX11_act_69 rfl rfl ?_
    refine xr_get X fF_X11_26_10 (xu_s _ _ _) rfl dX11_act_70 ?_
    refine xr_iload_n X 1 dX11_act_73 rfl rfl ?_
    refine xr_callV X (xu_at (by omega) (xu_at (by omega) hto)) rfl kw_598 kw_599 kw_600 cw_X8_goOn [.int v] (c_X8_goOn (xu_at (by omega) (xu_at (by omega) hto))) rfl rfl rfl rfl rfl rfl rfl dX11_act_74 ?_
    exact xr_vret X rfl rfl (by rw [keepU_n c9, keepN_n c9]) rfl rfl rfl dX11_act_77
  · have c_9 := mt i32_lt.mpr c_9
    (try simp (disch := omega) only [nI_toInt, i32_add, i32_sub, i32_mul, i64_addl, i32_l, k32_24, k64_24] at c_9)
    have c9 : a = 24 := by omega
    refine xr_aload_n X 0 dX11_act_12 rfl rfl ?_
    refine xr_get X fF_X11_48_10 heo rfl dX11_act_13 ?_
    refine xr_iconst (v := 1) X dX11_act_16 (by decide) ?_
    refine xr_aload_n X 0 dX11_act_17 rfl rfl ?_
    refine xr_get X fF_X11_48_10 heo rfl dX11_act_18 ?_
    refine xr_iconst (v := 0) X dX11_act_21 (by decide) ?_
    refine xr_aload_n X 0 dX11_act_22 rfl rfl ?_
    refine xr_get X fF_X11_48_10 heo rfl dX11_act_23 ?_
    refine xr_alen (v := 24) X hu (show nI 24 = 24 by decide) dX11_act_26 ?_
    refine xr_iconst (v := 1) X dX11_act_27 (by decide) ?_
    refine xr_isub X dX11_act_28 ?_
    refine xr_top (y := 23) (by decide) ?_
    refine xr_acopy X kw_593 kw_281 kw_280 kw_61 hu hu (by decide) (by decide) (by decide) (by decide) (by decide) rfl rfl rfl dX11_act_29 ?_
    refine xr_heap (h' := (xu h (e + 30) (.inl (.int, 24, .inl (va_cpy u u 1 0 23))))) (by rfl) ?_
    refine xr_aload_n X 0 dX11_act_32 rfl rfl ?_
    refine xr_aload_n X 0 dX11_act_33 rfl rfl ?_
    refine xr_get X fF_X11_48_10 (xu_at (xn0 _ rfl) heo) rfl dX11_act_34 ?_
    refine xr_alen (v := 24) X (xu_s _ _ _) (show nI 24 = 24 by decide) dX11_act_37 ?_
    refine xr_iconst (v := 1) X dX11_act_38 (by decide) ?_
    refine xr_isub X dX11_act_39 ?_
    refine xr_top (y := 23) (by decide) ?_
    refine xr_put (fs' := [.ref (e + 1), .ref (e + 13), .ref w, .ref (e + 19), .ref (e + 20), .ref (e + 28), .ref (e + 30), .int 23, .int (st)]) X (fW_X11_52_10 _) (xu_at (xn0 _ rfl) heo) rfl rfl rfl rfl dX11_act_40 ?_
    refine xr_aload_n X 0 dX11_act_43 rfl rfl ?_
    refine xr_get X fF_X11_48_10 (xu_s _ _ _) rfl dX11_act_44 ?_
    refine xr_aload_n X 0 dX11_act_47 rfl rfl ?_
    refine xr_get X fF_X11_52_10 (xu_s _ _ _) rfl dX11_act_48 ?_
    refine xr_aload_n X 0 dX11_act_51 rfl rfl ?_
    refine xr_get X fF_X11_26_10 (xu_s _ _ _) rfl dX11_act_52 ?_
    refine xr_callV X (xu_at (by omega) (xu_at (by omega) hto)) rfl kw_594 kw_595 kw_596 cw_X8_before [] (c_X8_before (xu_at (by omega) (xu_at (by omega) hto))) rfl rfl rfl rfl rfl rfl rfl dX11_act_55 ?_
    refine xr_iast (j := 23) X (xu_at (xn1 _ rfl) (xu_s _ _ _)) (xI_e (by decide) (by omega) (by omega)) dX11_act_58 ?_
    refine xr_heap (h' := (xu (xu h (e + 30) (.inl (.int, 24, .inl (upd (va_cpy u u 1 0 23) 23 b9)))) e (.inr (10, [.ref (e + 1), .ref (e + 13), .ref w, .ref (e + 19), .ref (e + 20), .ref (e + 28), .ref (e + 30), .int 23, .int (st)])))) (xu_in (xn0 _ rfl) (xu_uu _ _ _ _)) ?_
    refine xr_aload_n X 0 dX11_act_59 rfl rfl ?_
    refine xr_dup X dX11_act_60 rfl ?_
    refine xr_get X fF_X11_52_10 (xu_s _ _ _) rfl dX11_act_61 ?_
    refine xr_iconst (v := 1) X dX11_act_64 (by decide) ?_
    refine xr_iadd X dX11_act_65 ?_
    refine xr_top (y := (nI (keepN a))) (by rw [keepN_24 c9]; decide) ?_
    refine xr_put (fs' := [.ref (e + 1), .ref (e + 13), .ref w, .ref (e + 19), .ref (e + 20), .ref (e + 28), .ref (e + 30), .int (nI (keepN a)), .int (st)]) X (fW_X11_52_10 _) (xu_s _ _ _) rfl rfl rfl rfl dX11_act_66 ?_
    refine xr_heap (h' := (xu (xu h (e + 30) (.inl (.int, 24, .inl (upd (va_cpy u u 1 0 23) 23 b9)))) e (.inr (10, [.ref (e + 1), .ref (e + 13), .ref w, .ref (e + 19), .ref (e + 20), .ref (e + 28), .ref (e + 30), .int (nI (keepN a)), .int (st)])))) (xu_uu _ _ _ _) ?_
    refine xr_aload_n X 0 dX11_act_69 rfl rfl ?_
    refine xr_get X fF_X11_26_10 (xu_s _ _ _) rfl dX11_act_70 ?_
    refine xr_iload_n X 1 dX11_act_73 rfl rfl ?_
    refine xr_callV X (xu_at (by omega) (xu_at (by omega) hto)) rfl kw_598 kw_599 kw_600 cw_X8_goOn [.int v] (c_X8_goOn (xu_at (by omega) (xu_at (by omega) hto))) rfl rfl rfl rfl rfl rfl rfl dX11_act_74 ?_
    exact xr_vret X rfl rfl (by rw [keepU_24 c9, keepN_24 c9]) rfl rfl rfl dX11_act_77
set_option maxRecDepth 100000 in
theorem c_X11_post {l : Launch} {Ω : xW} {h : xH} {sz : Nat} {e w a : Nat} {st : Int32} {u : Nat → Int32} {np day b : Nat} {kd wh mn : Nat → Nat} {fr : Nat → Int32} {s : Int32} [Decidable (okPost kd wh mn np day b s)] (heo : h e = some (eO e w (nI a) st)) (hw : w = e + 16) (hu : h (e + 30) = some (.inl (.int, 24, .inl u))) (hto : h w = some (tO w (nI np) (nI day) (nI b) (nI (moM kd np)))) (htf : h (w + 2) = some (.inl (.int, 64, .inl fr))) (h6 : np ≤ 6) (hF : frOK fr kd wh mn np) (hb : b < 2 ^ np) (ha : a ≤ 24) (hday : day ≤ 9999) : xC l Ω yX11_post cX11_post 2 (some .int) 4 0 0 [.ref e, .int s] h sz (some (.int (a_post kd wh mn np day b s))) (if okPost kd wh mn np day b s then (xu (xu (xu h (e + 30) (.inl (.int, 24, .inl (keepU u a (nI b))))) e (.inr (10, [.ref (e + 1), .ref (e + 13), .ref w, .ref (e + 19), .ref (e + 20), .ref (e + 28), .ref (e + 30), .int (nI (keepN a)), .int (st)]))) w (.inr (7, [.ref (w + 1), .int (nI np), .int (nI (day + 1)), .int (s), .ref (w + 2), .int (nI (moM kd np))]))) else h) (sz) := by
  refine xC_of (lv := [(0, .ref e), (1, .int s)]) pn_X11 rfl rfl (fun Γ X hΓ hbs => ?_)
  have X : xX Γ Ω cX11_post 2 RX11 "post" (some .int) 4 140 0 0 := X
  subst hΓ
  have h64 := pw_le h6
  refine xr_aload_n X 0 dX11_post_0 rfl rfl ?_
  refine xr_get X fF_X11_26_10 heo rfl dX11_post_1 ?_
  refine xr_callV X hto rfl kw_559 kw_560 kw_561 cw_X8_isNone [] (c_X8_isNone hto h6) rfl rfl rfl rfl rfl rfl rfl dX11_post_4 ?_
  refine xr_if_eq (tgt := 13) X dX11_post_7 (by decide) (fun c_7 => ?_) (fun c_7 => ?_)
  · have c_7 := of_decide_eq_false (xb_0.mp c_7)
    (try simp (disch := omega) only [nI_toInt, i32_add, i32_sub, i32_mul, i64_addl, i32_l, k32_0, k64_0] at c_7)
    refine xr_aload_n X 0 dX11_post_13 rfl rfl ?_
    refine xr_get X fF_X11_26_10 heo rfl dX11_post_14 ?_
    refine xr_iload_n X 1 dX11_post_17 rfl rfl ?_
    refine xr_callV X hto rfl kw_564 kw_565 kw_566 cw_X8_isSet [.int s] (c_X8_isSet hto h6) rfl rfl rfl rfl rfl rfl rfl dX11_post_18 ?_
    refine xr_if_ne (tgt := 27) X dX11_post_21 (by decide) (fun c_21 => ?_) (fun c_21 => ?_)
    · have c_21 := of_decide_eq_true (xb_1.mp c_21)
      (try simp (disch := omega) only [nI_toInt, i32_add, i32_sub, i32_mul, i64_addl, i32_l, k32_0, k32_2, k64_0, k64_2] at c_21)
      have tn_s := (i32_tn (x := s) (by omega)).2
      refine xr_aload_n X 0 dX11_post_27 rfl rfl ?_
      refine xr_get X fF_X11_26_10 heo rfl dX11_post_28 ?_
      refine xr_iload_n X 1 dX11_post_31 rfl rfl ?_
      refine xr_top (y := (nI (s.toNatClampNeg))) ((i32_tn (by omega)).1) ?_
      refine xr_callV X hto rfl kw_568 kw_569 kw_570 cw_X8_agrees [.int (nI (s.toNatClampNeg))] (c_X8_agrees hto htf h6 hF (by omega)) rfl rfl rfl rfl rfl rfl rfl dX11_post_32 ?_
      refine xr_if_ne (tgt := 41) X dX11_post_35 (by decide) (fun c_35 => ?_) (fun c_35 => ?_)
      · have c_35 := xb_1.mp c_35
        have cag := of_decide_eq_true (show decide (dn kd wh mn np s.toNatClampNeg b = s.toNatClampNeg) = true from c_35)
        refine xr_aload_n X 0 dX11_post_41 rfl rfl ?_
        refine xr_get X fF_X11_26_10 heo rfl dX11_post_42 ?_
        refine xr_callV X hto rfl kw_585 kw_586 kw_587 cw_X8_day [] (c_X8_day hto) rfl rfl rfl rfl rfl rfl rfl dX11_post_45 ?_
        refine xr_sipush (v := 9999) X dX11_post_48 (by decide) ?_
        refine xr_icmp_lt (tgt := 57) X dX11_post_51 (by decide) (fun c_51 => ?_) (fun c_51 => ?_)
        · have c_51 := i32_lt.mp c_51
          (try simp (disch := omega) only [nI_toInt, i32_add, i32_sub, i32_mul, i64_addl, i32_l, k32_9999] at c_51)
          refine xr_aload_n X 0 dX11_post_57 rfl rfl ?_
          refine xr_iload_n X 1 dX11_post_58 rfl rfl ?_
          refine xr_callV X heo rfl kw_589 kw_591 kw_13 cw_X11_act [.int s] (c_X11_act (a := a) (u := u) heo hw hu hto ha) rfl rfl rfl rfl rfl rfl rfl dX11_post_59 ?_
          refine xr_aload_n X 0 dX11_post_62 rfl rfl ?_
          refine xr_get X fF_X11_26_10 (xu_at (by omega) (xu_s _ _ _)) rfl dX11_post_63 ?_
          refine xr_callV X (xu_s _ _ _) rfl kw_585 kw_586 kw_587 cw_X8_day [] (c_X8_day (xu_s _ _ _)) rfl rfl rfl rfl rfl rfl rfl dX11_post_66 ?_
          refine xr_top (y := (nI (day + 1))) (nI_1 _) ?_
          exact xr_iret X rfl (xv ((((if_pos (by omega)).trans (if_pos (by omega))).trans (if_pos (by omega))).trans (if_neg (by omega)))) (by rw [nI_1]; exact (if_pos ⟨by omega, by omega, by omega, by omega, by omega⟩).symm) rfl rfl rfl dX11_post_69
        · have c_51 := mt i32_lt.mpr c_51
          (try simp (disch := omega) only [nI_toInt, i32_add, i32_sub, i32_mul, i64_addl, i32_l, k32_9999] at c_51)
          refine xr_ldc (v := (-1000003)) X kw_302 dX11_post_54 ?_
          exact xr_iret X rfl (xv ((((if_pos (by omega)).trans (if_pos (by omega))).trans (if_pos (by omega))).trans (if_pos (by omega)))) (if_neg (fun q => absurd q (by unfold okPost; omega))).symm rfl rfl rfl dX11_post_56
      · have c_35 := xb_0.mp c_35
        have cag := of_decide_eq_false (show decide (dn kd wh mn np s.toNatClampNeg b = s.toNatClampNeg) = false from c_35)
        refine xr_ldc (v := (-1000002)) X kw_563 dX11_post_38 ?_
        exact xr_iret X rfl (xv (((if_pos (by omega)).trans (if_pos (by omega))).trans (if_neg (by omega)))) (if_neg (fun q => absurd q (by unfold okPost; omega))).symm rfl rfl rfl dX11_post_40
    · have c_21 := of_decide_eq_false (xb_0.mp c_21)
      (try simp (disch := omega) only [nI_toInt, i32_add, i32_sub, i32_mul, i64_addl, i32_l, k32_0, k32_2, k64_0, k64_2] at c_21)
      refine xr_ldc (v := (-1000001)) X kw_226 dX11_post_24 ?_
      exact xr_iret X rfl (xv ((if_pos (by omega)).trans (if_neg (by omega)))) (if_neg (fun q => absurd q (by unfold okPost; omega))).symm rfl rfl rfl dX11_post_26
  · have c_7 := of_decide_eq_true (xb_1.mp c_7)
    (try simp (disch := omega) only [nI_toInt, i32_add, i32_sub, i32_mul, i64_addl, i32_l, k32_0, k64_0] at c_7)
    refine xr_ldc (v := (-1000002)) X kw_563 dX11_post_10 ?_
    exact xr_iret X rfl (xv (if_neg (by omega))) (if_neg (fun q => absurd q (by unfold okPost; omega))).symm rfl rfl rfl dX11_post_12
set_option maxRecDepth 100000 in
theorem c_X11_lots {l : Launch} {Ω : xW} {h : xH} {sz : Nat} {e w a B : Nat} {st : Int32} {u : Nat → Int32} {np day b : Nat} {kd wh mn : Nat → Nat} {fr : Nat → Int32} {pf : Nat → Option Nat} {s t9 : Int32} [Decidable (okLots np day s t9)] (heo : h e = some (eO e w (nI a) st)) (hw : w = e + 16) (hu : h (e + 30) = some (.inl (.int, 24, .inl u))) (hto : h w = some (tO w (nI np) (nI day) (nI b) (nI (moM kd np)))) (htp : h (w + 1) = some (.inl (.object "EvePost$Person", 6, .inr (.inr (.inr (.inr pf)))))) (htf : h (w + 2) = some (.inl (.int, 64, .inl fr))) (h6 : np ≤ 6) (hF : frOK fr kd wh mn np) (hP : PW B h pf np kd wh mn) (hb : b < 2 ^ np) (ha : a ≤ 24) (hday : day ≤ 9999) : xC l Ω yX11_lots cX11_lots 3 (some .int) 4 0 0 [.ref e, .int s, .int t9] h sz (some (.int (a_lots kd wh mn np day b s t9))) (if okLots np day s t9 then (xu (xu (xu h (e + 30) (.inl (.int, 24, .inl (keepU u a (nI b))))) e (.inr (10, [.ref (e + 1), .ref (e + 13), .ref w, .ref (e + 19), .ref (e + 20), .ref (e + 28), .ref (e + 30), .int (nI (keepN a)), .int (st)]))) w (.inr (7, [.ref (w + 1), .int (nI np), .int (nI (day + 1)), .int (nI (lotO kd wh mn np b s t9)), .ref (w + 2), .int (nI (moM kd np))]))) else h) (sz) := by
  refine xC_of (lv := [(0, .ref e), (1, .int s), (2, .int t9)]) pn_X11 rfl rfl (fun Γ X hΓ hbs => ?_)
  have X : xX Γ Ω cX11_lots 3 RX11 "lots" (some .int) 4 140 0 0 := X
  subst hΓ
  have h64 := pw_le h6
  refine xr_aload_n X 0 dX11_lots_0 rfl rfl ?_
  refine xr_get X fF_X11_26_10 heo rfl dX11_lots_1 ?_
  refine xr_callV X hto rfl kw_559 kw_560 kw_561 cw_X8_isNone [] (c_X8_isNone hto h6) rfl rfl rfl rfl rfl rfl rfl dX11_lots_4 ?_
  refine xr_if_eq (tgt := 13) X dX11_lots_7 (by decide) (fun c_7 => ?_) (fun c_7 => ?_)
  · have c_7 := of_decide_eq_false (xb_0.mp c_7)
    (try simp (disch := omega) only [nI_toInt, i32_add, i32_sub, i32_mul, i64_addl, i32_l, k32_0, k64_0] at c_7)
    refine xr_aload_n X 0 dX11_lots_13 rfl rfl ?_
    refine xr_get X fF_X11_26_10 heo rfl dX11_lots_14 ?_
    refine xr_iload_n X 1 dX11_lots_17 rfl rfl ?_
    refine xr_callV X hto rfl kw_564 kw_565 kw_566 cw_X8_isSet [.int s] (c_X8_isSet hto h6) rfl rfl rfl rfl rfl rfl rfl dX11_lots_18 ?_
    refine xr_if_eq (tgt := 35) X dX11_lots_21 (by decide) (fun c_21 => ?_) (fun c_21 => ?_)
    · have c_21 := of_decide_eq_false (xb_0.mp c_21)
      (try simp (disch := omega) only [nI_toInt, i32_add, i32_sub, i32_mul, i64_addl, i32_l, k32_0, k32_2, k64_0, k64_2] at c_21)
      refine xr_ldc (v := (-1000001)) X kw_226 dX11_lots_35 ?_
      exact xr_iret X rfl (xv ((if_pos (by omega)).trans (if_neg (by omega)))) (if_neg (fun q => absurd q (by unfold okLots; omega))).symm rfl rfl rfl dX11_lots_37
    · have c_21 := of_decide_eq_true (xb_1.mp c_21)
      (try simp (disch := omega) only [nI_toInt, i32_add, i32_sub, i32_mul, i64_addl, i32_l, k32_0, k32_2, k64_0, k64_2] at c_21)
      have tn_s := (i32_tn (x := s) (by omega)).2
      refine xr_iload_n X 2 dX11_lots_24 rfl rfl ?_
      refine xr_iconst (v := 1) X dX11_lots_25 (by decide) ?_
      refine xr_icmp_lt (tgt := 35) X dX11_lots_26 (by decide) (fun c_26 => ?_) (fun c_26 => ?_)
      · have c_26 := i32_lt.mp c_26
        (try simp (disch := omega) only [nI_toInt, i32_add, i32_sub, i32_mul, i64_addl, i32_l, k32_1, k64_1] at c_26)
        refine xr_ldc (v := (-1000001)) X kw_226 dX11_lots_35 ?_
        exact xr_iret X rfl (xv ((if_pos (by omega)).trans (if_neg (by omega)))) (if_neg (fun q => absurd q (by unfold okLots; omega))).symm rfl rfl rfl dX11_lots_37
      · have c_26 := mt i32_lt.mpr c_26
        (try simp (disch := omega) only [nI_toInt, i32_add, i32_sub, i32_mul, i64_addl, i32_l, k32_1, k64_1] at c_26)
        refine xr_iload_n X 2 dX11_lots_29 rfl rfl ?_
        refine xr_ldc (v := 999999) X kw_618 dX11_lots_30 ?_
        refine xr_icmp_le (tgt := 38) X dX11_lots_32 (by decide) (fun c_32 => ?_) (fun c_32 => ?_)
        · have c_32 := i32_le.mp c_32
          (try simp (disch := omega) only [nI_toInt, i32_add, i32_sub, i32_mul, i64_addl, i32_l, k32_999999, k64_999999] at c_32)
          refine xr_aload_n X 0 dX11_lots_38 rfl rfl ?_
          refine xr_get X fF_X11_26_10 heo rfl dX11_lots_39 ?_
          refine xr_callV X hto rfl kw_585 kw_586 kw_587 cw_X8_day [] (c_X8_day hto) rfl rfl rfl rfl rfl rfl rfl dX11_lots_42 ?_
          refine xr_sipush (v := 9999) X dX11_lots_45 (by decide) ?_
          refine xr_icmp_lt (tgt := 54) X dX11_lots_48 (by decide) (fun c_48 => ?_) (fun c_48 => ?_)
          · have c_48 := i32_lt.mp c_48
            (try simp (disch := omega) only [nI_toInt, i32_add, i32_sub, i32_mul, i64_addl, i32_l, k32_9999] at c_48)
            refine xr_aload_n X 0 dX11_lots_54 rfl rfl ?_
            refine xr_aload_n X 0 dX11_lots_55 rfl rfl ?_
            refine xr_get X fF_X11_26_10 heo rfl dX11_lots_56 ?_
            refine xr_iload_n X 1 dX11_lots_59 rfl rfl ?_
            refine xr_top (y := (nI (s.toNatClampNeg))) ((i32_tn (by omega)).1) ?_
            refine xr_iload_n X 2 dX11_lots_60 rfl rfl ?_
            refine xr_callV X hto rfl kw_619 kw_620 kw_621 cw_X8_outcomeByLots [.int (nI (s.toNatClampNeg)), .int t9] (c_X8_outcomeByLots (lt := s.toNatClampNeg) hto htp htf h6 hF hP (by omega) (by omega) (by omega)) rfl rfl rfl rfl rfl rfl rfl dX11_lots_61 ?_
            refine xr_callV X heo rfl kw_589 kw_591 kw_13 cw_X11_act [.int (nI (lotO kd wh mn np b s t9))] (c_X11_act (a := a) (u := u) heo hw hu hto ha) rfl rfl rfl rfl rfl rfl rfl dX11_lots_64 ?_
            refine xr_aload_n X 0 dX11_lots_67 rfl rfl ?_
            refine xr_get X fF_X11_26_10 (xu_at (by omega) (xu_s _ _ _)) rfl dX11_lots_68 ?_
            refine xr_callV X (xu_s _ _ _) rfl kw_594 kw_595 kw_596 cw_X8_before [] (c_X8_before (xu_s _ _ _)) rfl rfl rfl rfl rfl rfl rfl dX11_lots_71 ?_
            exact xr_iret X rfl (xv (((if_pos (by omega)).trans (if_pos (by omega))).trans (if_neg (by omega)))) (by rw [nI_1]; exact (if_pos ⟨by omega, by omega, by omega, by omega, by omega, by omega⟩).symm) rfl rfl rfl dX11_lots_74
          · have c_48 := mt i32_lt.mpr c_48
            (try simp (disch := omega) only [nI_toInt, i32_add, i32_sub, i32_mul, i64_addl, i32_l, k32_9999] at c_48)
            refine xr_ldc (v := (-1000003)) X kw_302 dX11_lots_51 ?_
            exact xr_iret X rfl (xv (((if_pos (by omega)).trans (if_pos (by omega))).trans (if_pos (by omega)))) (if_neg (fun q => absurd q (by unfold okLots; omega))).symm rfl rfl rfl dX11_lots_53
        · have c_32 := mt i32_le.mpr c_32
          (try simp (disch := omega) only [nI_toInt, i32_add, i32_sub, i32_mul, i64_addl, i32_l, k32_999999, k64_999999] at c_32)
          refine xr_ldc (v := (-1000001)) X kw_226 dX11_lots_35 ?_
          exact xr_iret X rfl (xv ((if_pos (by omega)).trans (if_neg (by omega)))) (if_neg (fun q => absurd q (by unfold okLots; omega))).symm rfl rfl rfl dX11_lots_37
  · have c_7 := of_decide_eq_true (xb_1.mp c_7)
    (try simp (disch := omega) only [nI_toInt, i32_add, i32_sub, i32_mul, i64_addl, i32_l, k32_0, k64_0] at c_7)
    refine xr_ldc (v := (-1000002)) X kw_563 dX11_lots_10 ?_
    exact xr_iret X rfl (xv (if_neg (by omega))) (if_neg (fun q => absurd q (by unfold okLots; omega))).symm rfl rfl rfl dX11_lots_12
set_option maxRecDepth 100000 in
theorem c_X11_undo {l : Launch} {Ω : xW} {h : xH} {sz : Nat} {e w a np : Nat} {st : Int32} {u : Nat → Int32} {d9 b9 m9 : Int32} (heo : h e = some (eO e w (nI a) st)) (hw : w = e + 16) (hu : h (e + 30) = some (.inl (.int, 24, .inl u))) (hto : h w = some (tO w (nI np) d9 b9 m9)) (ha : a ≤ 24) : xC l Ω yX11_undo cX11_undo 1 (some .int) 1 0 0 [.ref e] h sz (some (.int (if a = 0 then -1000002 else nI (a - 1)))) (if a = 0 then h else (xu (xu h e (.inr (10, [.ref (e + 1), .ref (e + 13), .ref w, .ref (e + 19), .ref (e + 20), .ref (e + 28), .ref (e + 30), .int (nI (a - 1)), .int (st)]))) w (.inr (7, [.ref (w + 1), .int (nI np), .int (d9 - 1), .int (u (a - 1)), .ref (w + 2), .int (m9)])))) (sz) := by
  refine xC_of (lv := [(0, .ref e)]) pn_X11 rfl rfl (fun Γ X hΓ hbs => ?_)
  have X : xX Γ Ω cX11_undo 1 RX11 "undo" (some .int) 1 35 0 0 := X
  subst hΓ
  refine xr_aload_n X 0 dX11_undo_0 rfl rfl ?_
  refine xr_get X fF_X11_52_10 heo rfl dX11_undo_1 ?_
  refine xr_iconst (v := 1) X dX11_undo_4 (by decide) ?_
  refine xr_icmp_lt (tgt := 20) X dX11_undo_5 (by decide) (fun c_5 => ?_) (fun c_5 => ?_)
  · have c_5 := i32_lt.mp c_5
    (try simp (disch := omega) only [nI_toInt, i32_add, i32_sub, i32_mul, i64_addl, i32_l, k32_1, k64_1] at c_5)
    refine xr_ldc (v := (-1000002)) X kw_563 dX11_undo_20 ?_
    exact xr_iret X rfl (xv (if_pos (by omega))) ((if_pos (by omega)).symm) rfl rfl rfl dX11_undo_22
  · have c_5 := mt i32_lt.mpr c_5
    (try simp (disch := omega) only [nI_toInt, i32_add, i32_sub, i32_mul, i64_addl, i32_l, k32_1, k64_1] at c_5)
    refine xr_aload_n X 0 dX11_undo_8 rfl rfl ?_
    refine xr_get X fF_X11_52_10 heo rfl dX11_undo_9 ?_
    refine xr_aload_n X 0 dX11_undo_12 rfl rfl ?_
    refine xr_get X fF_X11_48_10 heo rfl dX11_undo_13 ?_
    refine xr_alen (v := 24) X hu (show nI 24 = 24 by decide) dX11_undo_16 ?_
    refine xr_icmp_le (tgt := 23) X dX11_undo_17 (by decide) (fun c_17 => ?_) (fun c_17 => ?_)
    · have c_17 := i32_le.mp c_17
      (try simp (disch := omega) only [nI_toInt, i32_add, i32_sub, i32_mul, i64_addl, i32_l, k32_24, k64_24] at c_17)
      refine xr_aload_n X 0 dX11_undo_23 rfl rfl ?_
      refine xr_dup X dX11_undo_24 rfl ?_
      refine xr_get X fF_X11_52_10 heo rfl dX11_undo_25 ?_
      refine xr_iconst (v := 1) X dX11_undo_28 (by decide) ?_
      refine xr_isub X dX11_undo_29 ?_
      refine xr_top (y := (nI (a - 1))) (pk_sub (b := 1) (by omega)) ?_
      refine xr_put (fs' := [.ref (e + 1), .ref (e + 13), .ref w, .ref (e + 19), .ref (e + 20), .ref (e + 28), .ref (e + 30), .int (nI (a - 1)), .int (st)]) X (fW_X11_52_10 _) heo rfl rfl rfl rfl dX11_undo_30 ?_
      refine xr_aload_n X 0 dX11_undo_33 rfl rfl ?_
      refine xr_get X fF_X11_26_10 (xu_s _ _ _) rfl dX11_undo_34 ?_
      refine xr_aload_n X 0 dX11_undo_37 rfl rfl ?_
      refine xr_get X fF_X11_48_10 (xu_s _ _ _) rfl dX11_undo_38 ?_
      refine xr_aload_n X 0 dX11_undo_41 rfl rfl ?_
      refine xr_get X fF_X11_52_10 (xu_s _ _ _) rfl dX11_undo_42 ?_
      refine xr_iald (j := (a - 1)) X (xu_at (xn1 _ rfl) hu) (xI_n (by omega) (by omega)) dX11_undo_45 ?_
      refine xr_callV X (xu_at (by omega) hto) rfl kw_639 kw_640 kw_641 cw_X8_goBack [.int (u (a - 1))] (c_X8_goBack (xu_at (by omega) hto)) rfl rfl rfl rfl rfl rfl rfl dX11_undo_46 ?_
      refine xr_aload_n X 0 dX11_undo_49 rfl rfl ?_
      refine xr_get X fF_X11_52_10 (xu_at (by omega) (xu_s _ _ _)) rfl dX11_undo_50 ?_
      exact xr_iret X rfl (xv (if_neg (by omega))) ((if_neg (by omega)).symm) rfl rfl rfl dX11_undo_53
    · have c_17 := mt i32_le.mpr c_17
      (try simp (disch := omega) only [nI_toInt, i32_add, i32_sub, i32_mul, i64_addl, i32_l, k32_24, k64_24] at c_17)
      exfalso
      omega
      --end
