def imF (e : Nat) : Nat → Option Nat := fun q => if q < 2 then some (e + 31 + 3 * q) else none
set_option maxRecDepth 100000 in
theorem c_X11_imageAt {l : Launch} {Ω : xW} {h : xH} {sz : Nat} {e w v : Nat} {ac st k2 : Int32} (heo : h e = some (eO e w ac st)) (him : h (e + 19) = some (.inl (.object "EvePost$Town", 2, .inr (.inr (.inr (.inr (imF e))))))) (hk : 0 ≤ k2.toInt ∧ k2.toInt ≤ 1) (hv : v = e + 31 + 3 * k2.toNatClampNeg) : xC l Ω yX11_imageAt cX11_imageAt 2 (some (.object "EvePost$Town")) 0 0 0 [.ref e, .int k2] h sz (some (.ref v)) h (sz) := by
  refine xC_of (lv := [(0, .ref e), (1, .int k2)]) pn_X11 rfl rfl (fun Γ X hΓ hbs => ?_)
  have X : xX Γ Ω cX11_imageAt 2 RX11 "imageAt" (some (.object "EvePost$Town")) 0 0 0 0 := X
  subst hΓ
  have tk := (i32_tn (x := k2) (by omega)).2
  refine xr_iload_n X 1 dX11_imageAt_0 rfl rfl ?_
  refine xr_if_lt (tgt := 13) X dX11_imageAt_1 (by decide) (fun c_1 => absurd c_1 (by rw [i32_lt, k32_0]; omega)) (fun _ => ?_)
  refine xr_iload_n X 1 dX11_imageAt_4 rfl rfl ?_
  refine xr_aload_n X 0 dX11_imageAt_5 rfl rfl ?_
  refine xr_get X fF_X11_30_10 heo rfl dX11_imageAt_6 ?_
  refine xr_alen (v := 2) X him (show nI 2 = 2 by decide) dX11_imageAt_9 ?_
  refine xr_icmp_lt (tgt := 17) X dX11_imageAt_10 (by decide) (fun _ => ?_) (fun c_10 => absurd (by rw [i32_lt, k32_2]; omega) c_10)
  refine xr_aload_n X 0 dX11_imageAt_17 rfl rfl ?_
  refine xr_get X fF_X11_30_10 heo rfl dX11_imageAt_18 ?_
  refine xr_iload_n X 1 dX11_imageAt_21 rfl rfl ?_
  refine xr_aald (j := k2.toNatClampNeg) (v := .ref v) X him rfl (xI_c (by omega) (by omega)) (by rw [imF, if_pos (by omega), hv]; rfl) dX11_imageAt_22 ?_
  exact xr_aret X rfl (Or.inr ⟨_, rfl⟩) rfl rfl rfl rfl rfl dX11_imageAt_23
set_option maxRecDepth 100000 in
theorem c_X11_imageAtN {l : Launch} {Ω : xW} {h : xH} {sz : Nat} {e w : Nat} {ac st k2 : Int32} (heo : h e = some (eO e w ac st)) (him : h (e + 19) = some (.inl (.object "EvePost$Town", 2, .inr (.inr (.inr (.inr (imF e))))))) (hk : ¬ (0 ≤ k2.toInt ∧ k2.toInt ≤ 1)) : xC l Ω yX11_imageAt cX11_imageAt 2 (some (.object "EvePost$Town")) 0 0 0 [.ref e, .int k2] h sz (some (.null)) h (sz) := by
  refine xC_of (lv := [(0, .ref e), (1, .int k2)]) pn_X11 rfl rfl (fun Γ X hΓ hbs => ?_)
  have X : xX Γ Ω cX11_imageAt 2 RX11 "imageAt" (some (.object "EvePost$Town")) 0 0 0 0 := X
  subst hΓ
  refine xr_iload_n X 1 dX11_imageAt_0 rfl rfl ?_
  refine xr_if_lt (tgt := 13) X dX11_imageAt_1 (by decide) (fun c_1 => ?_) (fun c_1 => ?_)
  · have c_1 := i32_lt.mp c_1
    (try simp (disch := omega) only [nI_toInt, i32_add, i32_sub, i32_mul, i64_addl, i32_l, k32_0, k64_0] at c_1)
    refine xr_null X dX11_imageAt_13 ?_
    refine xr_goto (tgt := 23) X dX11_imageAt_14 (by decide) ?_
    exact xr_aret X rfl (Or.inl rfl) rfl rfl rfl rfl rfl dX11_imageAt_23
  · have c_1 := mt i32_lt.mpr c_1
    (try simp (disch := omega) only [nI_toInt, i32_add, i32_sub, i32_mul, i64_addl, i32_l, k32_0, k64_0] at c_1)
    refine xr_iload_n X 1 dX11_imageAt_4 rfl rfl ?_
    refine xr_aload_n X 0 dX11_imageAt_5 rfl rfl ?_
    refine xr_get X fF_X11_30_10 heo rfl dX11_imageAt_6 ?_
    refine xr_alen (v := 2) X him (show nI 2 = 2 by decide) dX11_imageAt_9 ?_
    refine xr_icmp_lt (tgt := 17) X dX11_imageAt_10 (by decide) (fun c_10 => ?_) (fun c_10 => ?_)
    · have c_10 := i32_lt.mp c_10
      (try simp (disch := omega) only [nI_toInt, i32_add, i32_sub, i32_mul, i64_addl, i32_l, k32_2, k64_2] at c_10)
      exfalso
      omega
      --end
    · have c_10 := mt i32_lt.mpr c_10
      (try simp (disch := omega) only [nI_toInt, i32_add, i32_sub, i32_mul, i64_addl, i32_l, k32_2, k64_2] at c_10)
      refine xr_null X dX11_imageAt_13 ?_
      refine xr_goto (tgt := 23) X dX11_imageAt_14 (by decide) ?_
      exact xr_aret X rfl (Or.inl rfl) rfl rfl rfl rfl rfl dX11_imageAt_23
set_option maxRecDepth 100000 in
theorem c_X11_image {l : Launch} {Ω : xW} {h : xH} {sz : Nat} {e w v B np n2 : Nat} {ac st d9 b9 m9 d8 b8 m8 k2 : Int32} {pf p2 : Nat → Option Nat} {fr f2 : Nat → Int32} {kd wh mn : Nat → Nat} (heo : h e = some (eO e w ac st)) (hw : w = e + 16) (him : h (e + 19) = some (.inl (.object "EvePost$Town", 2, .inr (.inr (.inr (.inr (imF e))))))) (hto : h w = some (tO w (nI np) d9 b9 m9)) (htp : h (w + 1) = some (.inl (.object "EvePost$Person", 6, .inr (.inr (.inr (.inr pf)))))) (htf : h (w + 2) = some (.inl (.int, 64, .inl fr))) (hto2 : h v = some (tO v (nI n2) d8 b8 m8)) (htp2 : h (v + 1) = some (.inl (.object "EvePost$Person", 6, .inr (.inr (.inr (.inr p2)))))) (htf2 : h (v + 2) = some (.inl (.int, 64, .inl f2))) (h6 : np ≤ 6) (h62 : n2 ≤ 6) (hk : 0 ≤ k2.toInt ∧ k2.toInt ≤ 1) (hv : v = e + 31 + 3 * k2.toNatClampNeg) (hP : PW B h pf np kd wh mn) (hB9 : e + 49 ≤ B) (h0 : 0 < np) : xC l Ω yX11_image cX11_image 3 (some .int) 2 0 0 [.ref e, .int k2] h sz (some (.int 1)) (xu (xu (xu h (v + 1) (.inl (.object "EvePost$Person", 6, .inr (.inr (.inr (.inr (bcp pf np p2 6))))))) (v + 2) (.inl (.int, 64, .inl (va_cpy fr f2 0 0 64)))) v (.inr (7, [.ref (v + 1), .int (nI np), .int (d9), .int (b9), .ref (v + 2), .int (m9)]))) (sz) := by
  refine xC_of (lv := [(0, .ref e), (1, .int k2)]) pn_X11 rfl rfl (fun Γ X hΓ hbs => ?_)
  have X : xX Γ Ω cX11_image 3 RX11 "image" (some .int) 2 70 0 0 := X
  subst hΓ
  have tk := (i32_tn (x := k2) (by omega)).2
  refine xr_aload_n X 0 dX11_image_0 rfl rfl ?_
  refine xr_iload_n X 1 dX11_image_1 rfl rfl ?_
  refine xr_callV X heo rfl kw_808 kw_810 kw_20 cw_X11_imageAt [.int k2] (c_X11_imageAt heo him hk hv) rfl rfl rfl rfl rfl rfl rfl dX11_image_2 ?_
  refine xr_astore_n (lv' := [(2, .ref v), (0, .ref e), (1, .int k2)]) X dX11_image_5 rfl rfl rfl ?_
  refine xr_aload_n X 0 dX11_image_6 rfl rfl ?_
  refine xr_ifnonnull (tgt := 13) X dX11_image_7 (by decide) ?_
  refine xr_aload_n X 1 dX11_image_13 rfl rfl ?_
  refine xr_get X fF_X11_26_10 heo rfl dX11_image_14 ?_
  refine xr_callV X hto rfl kw_559 kw_560 kw_561 cw_X8_isNone [] (c_X8_isNone hto h6) rfl rfl rfl rfl rfl rfl rfl dX11_image_17 ?_
  refine xr_if_eq (tgt := 26) X dX11_image_20 (by decide) (fun _ => ?_) (fun c_20 => absurd (xb_0.mpr (decide_eq_false (by omega))) c_20)
  refine xr_aload_n X 0 dX11_image_26 rfl rfl ?_
  refine xr_aload_n X 1 dX11_image_27 rfl rfl ?_
  refine xr_get X fF_X11_26_10 heo rfl dX11_image_28 ?_
  refine xr_callV X hto2 rfl kw_812 kw_813 kw_814 cw_X8_become [.ref w] (c_X8_become (B := B) hto2 htp2 htf2 hto htp htf hP h6 (by omega) (by omega)) rfl rfl rfl rfl rfl rfl rfl dX11_image_31 ?_
  refine xr_iconst (v := 1) X dX11_image_34 (by decide) ?_
  exact xr_iret X rfl rfl rfl rfl rfl rfl dX11_image_35
set_option maxRecDepth 100000 in
theorem c_X11_imageS {l : Launch} {Ω : xW} {h : xH} {sz : Nat} {e w v B np n2 : Nat} {ac st d9 b9 m9 d8 b8 m8 k2 : Int32} {pf p2 : Nat → Option Nat} {fr f2 : Nat → Int32} (heo : h e = some (eO e w ac st)) (hw : w = e + 16) (him : h (e + 19) = some (.inl (.object "EvePost$Town", 2, .inr (.inr (.inr (.inr (imF e))))))) (hto : h w = some (tO w (nI np) d9 b9 m9)) (htp : h (w + 1) = some (.inl (.object "EvePost$Person", 6, .inr (.inr (.inr (.inr pf)))))) (htf : h (w + 2) = some (.inl (.int, 64, .inl fr))) (hto2 : h v = some (tO v (nI n2) d8 b8 m8)) (htp2 : h (v + 1) = some (.inl (.object "EvePost$Person", 6, .inr (.inr (.inr (.inr p2)))))) (htf2 : h (v + 2) = some (.inl (.int, 64, .inl f2))) (h6 : np ≤ 6) (h62 : n2 ≤ 6) (hk : 0 ≤ k2.toInt ∧ k2.toInt ≤ 1) (hv : v = e + 31 + 3 * k2.toNatClampNeg) (h0 : np = 0) : xC l Ω yX11_image cX11_image 3 (some .int) 2 0 0 [.ref e, .int k2] h sz (some (.int (-1000002))) h (sz) := by
  refine xC_of (lv := [(0, .ref e), (1, .int k2)]) pn_X11 rfl rfl (fun Γ X hΓ hbs => ?_)
  have X : xX Γ Ω cX11_image 3 RX11 "image" (some .int) 2 70 0 0 := X
  subst hΓ
  have tk := (i32_tn (x := k2) (by omega)).2
  refine xr_aload_n X 0 dX11_image_0 rfl rfl ?_
  refine xr_iload_n X 1 dX11_image_1 rfl rfl ?_
  refine xr_callV X heo rfl kw_808 kw_810 kw_20 cw_X11_imageAt [.int k2] (c_X11_imageAt heo him hk hv) rfl rfl rfl rfl rfl rfl rfl dX11_image_2 ?_
  refine xr_astore_n (lv' := [(2, .ref v), (0, .ref e), (1, .int k2)]) X dX11_image_5 rfl rfl rfl ?_
  refine xr_aload_n X 0 dX11_image_6 rfl rfl ?_
  refine xr_ifnonnull (tgt := 13) X dX11_image_7 (by decide) ?_
  refine xr_aload_n X 1 dX11_image_13 rfl rfl ?_
  refine xr_get X fF_X11_26_10 heo rfl dX11_image_14 ?_
  refine xr_callV X hto rfl kw_559 kw_560 kw_561 cw_X8_isNone [] (c_X8_isNone hto h6) rfl rfl rfl rfl rfl rfl rfl dX11_image_17 ?_
  refine xr_if_eq (tgt := 26) X dX11_image_20 (by decide) (fun c_20 => absurd c_20 (xb_1.mpr (decide_eq_true h0))) (fun _ => ?_)
  refine xr_ldc (v := (-1000002)) X kw_563 dX11_image_23 ?_
  exact xr_iret X rfl rfl rfl rfl rfl rfl dX11_image_25
set_option maxRecDepth 100000 in
theorem c_X11_imageN {l : Launch} {Ω : xW} {h : xH} {sz : Nat} {e w : Nat} {ac st k2 : Int32} (heo : h e = some (eO e w ac st)) (him : h (e + 19) = some (.inl (.object "EvePost$Town", 2, .inr (.inr (.inr (.inr (imF e))))))) (hk : ¬ (0 ≤ k2.toInt ∧ k2.toInt ≤ 1)) : xC l Ω yX11_image cX11_image 3 (some .int) 2 0 0 [.ref e, .int k2] h sz (some (.int (-1000001))) h (sz) := by
  refine xC_of (lv := [(0, .ref e), (1, .int k2)]) pn_X11 rfl rfl (fun Γ X hΓ hbs => ?_)
  have X : xX Γ Ω cX11_image 3 RX11 "image" (some .int) 2 70 0 0 := X
  subst hΓ
  refine xr_aload_n X 0 dX11_image_0 rfl rfl ?_
  refine xr_iload_n X 1 dX11_image_1 rfl rfl ?_
  refine xr_callV X heo rfl kw_808 kw_810 kw_20 cw_X11_imageAt [.int k2] (c_X11_imageAtN heo him hk) rfl rfl rfl rfl rfl rfl rfl dX11_image_2 ?_
  refine xr_astore_nN (lv' := [(2, .null), (0, .ref e), (1, .int k2)]) X dX11_image_5 rfl rfl rfl ?_
  refine xr_aload_nN X 0 dX11_image_6 rfl rfl ?_
  refine xr_ifnonnullN X dX11_image_7 ?_
  refine xr_ldc (v := (-1000001)) X kw_226 dX11_image_10 ?_
  exact xr_iret X rfl rfl rfl rfl rfl rfl dX11_image_12
set_option maxRecDepth 100000 in
theorem c_X11_restore {l : Launch} {Ω : xW} {h : xH} {sz : Nat} {e w v B np n2 : Nat} {ac st d9 b9 m9 d8 b8 m8 k2 : Int32} {pf p2 : Nat → Option Nat} {fr f2 : Nat → Int32} {kd wh mn : Nat → Nat} (heo : h e = some (eO e w ac st)) (hw : w = e + 16) (him : h (e + 19) = some (.inl (.object "EvePost$Town", 2, .inr (.inr (.inr (.inr (imF e))))))) (hto : h w = some (tO w (nI np) d9 b9 m9)) (htp : h (w + 1) = some (.inl (.object "EvePost$Person", 6, .inr (.inr (.inr (.inr pf)))))) (htf : h (w + 2) = some (.inl (.int, 64, .inl fr))) (hto2 : h v = some (tO v (nI n2) d8 b8 m8)) (htp2 : h (v + 1) = some (.inl (.object "EvePost$Person", 6, .inr (.inr (.inr (.inr p2)))))) (htf2 : h (v + 2) = some (.inl (.int, 64, .inl f2))) (h6 : np ≤ 6) (h62 : n2 ≤ 6) (hk : 0 ≤ k2.toInt ∧ k2.toInt ≤ 1) (hv : v = e + 31 + 3 * k2.toNatClampNeg) (hP : PW B h p2 n2 kd wh mn) (hB9 : e + 49 ≤ B) (h0 : 0 < n2) : xC l Ω yX11_restore cX11_restore 3 (some .int) 2 0 0 [.ref e, .int k2] h sz (some (.int 1)) (xu (xu (xu (xu h (w + 1) (.inl (.object "EvePost$Person", 6, .inr (.inr (.inr (.inr (bcp p2 n2 pf 6))))))) (w + 2) (.inl (.int, 64, .inl (va_cpy f2 fr 0 0 64)))) w (.inr (7, [.ref (w + 1), .int (nI n2), .int (d8), .int (b8), .ref (w + 2), .int (m8)]))) e (.inr (10, [.ref (e + 1), .ref (e + 13), .ref w, .ref (e + 19), .ref (e + 20), .ref (e + 28), .ref (e + 30), .int (0), .int (st)]))) (sz) := by
  refine xC_of (lv := [(0, .ref e), (1, .int k2)]) pn_X11 rfl rfl (fun Γ X hΓ hbs => ?_)
  have X : xX Γ Ω cX11_restore 3 RX11 "restore" (some .int) 2 70 0 0 := X
  subst hΓ
  have tk := (i32_tn (x := k2) (by omega)).2
  refine xr_aload_n X 0 dX11_restore_0 rfl rfl ?_
  refine xr_iload_n X 1 dX11_restore_1 rfl rfl ?_
  refine xr_callV X heo rfl kw_808 kw_810 kw_20 cw_X11_imageAt [.int k2] (c_X11_imageAt heo him hk hv) rfl rfl rfl rfl rfl rfl rfl dX11_restore_2 ?_
  refine xr_astore_n (lv' := [(2, .ref v), (0, .ref e), (1, .int k2)]) X dX11_restore_5 rfl rfl rfl ?_
  refine xr_aload_n X 0 dX11_restore_6 rfl rfl ?_
  refine xr_ifnonnull (tgt := 13) X dX11_restore_7 (by decide) ?_
  refine xr_aload_n X 0 dX11_restore_13 rfl rfl ?_
  refine xr_callV X hto2 rfl kw_559 kw_560 kw_561 cw_X8_isNone [] (c_X8_isNone hto2 h62) rfl rfl rfl rfl rfl rfl rfl dX11_restore_14 ?_
  refine xr_if_eq (tgt := 23) X dX11_restore_17 (by decide) (fun _ => ?_) (fun c_17 => absurd (xb_0.mpr (decide_eq_false (by omega))) c_17)
  refine xr_aload_n X 1 dX11_restore_23 rfl rfl ?_
  refine xr_get X fF_X11_26_10 heo rfl dX11_restore_24 ?_
  refine xr_aload_n X 0 dX11_restore_27 rfl rfl ?_
  refine xr_callV X hto rfl kw_812 kw_813 kw_814 cw_X8_become [.ref v] (c_X8_become (B := B) hto htp htf hto2 htp2 htf2 hP h62 (by omega) (by omega)) rfl rfl rfl rfl rfl rfl rfl dX11_restore_28 ?_
  refine xr_aload_n X 1 dX11_restore_31 rfl rfl ?_
  refine xr_iconst (v := 0) X dX11_restore_32 (by decide) ?_
  refine xr_put (fs' := [.ref (e + 1), .ref (e + 13), .ref w, .ref (e + 19), .ref (e + 20), .ref (e + 28), .ref (e + 30), .int 0, .int (st)]) X (fW_X11_52_10 _) (xu_at (by omega) (xu_at (by omega) (xu_at (by omega) heo))) rfl rfl rfl rfl dX11_restore_33 ?_
  refine xr_iconst (v := 1) X dX11_restore_36 (by decide) ?_
  exact xr_iret X rfl rfl rfl rfl rfl rfl dX11_restore_37
set_option maxRecDepth 100000 in
theorem c_X11_restoreS {l : Launch} {Ω : xW} {h : xH} {sz : Nat} {e w v B np n2 : Nat} {ac st d9 b9 m9 d8 b8 m8 k2 : Int32} {pf p2 : Nat → Option Nat} {fr f2 : Nat → Int32} (heo : h e = some (eO e w ac st)) (hw : w = e + 16) (him : h (e + 19) = some (.inl (.object "EvePost$Town", 2, .inr (.inr (.inr (.inr (imF e))))))) (hto : h w = some (tO w (nI np) d9 b9 m9)) (htp : h (w + 1) = some (.inl (.object "EvePost$Person", 6, .inr (.inr (.inr (.inr pf)))))) (htf : h (w + 2) = some (.inl (.int, 64, .inl fr))) (hto2 : h v = some (tO v (nI n2) d8 b8 m8)) (htp2 : h (v + 1) = some (.inl (.object "EvePost$Person", 6, .inr (.inr (.inr (.inr p2)))))) (htf2 : h (v + 2) = some (.inl (.int, 64, .inl f2))) (h6 : np ≤ 6) (h62 : n2 ≤ 6) (hk : 0 ≤ k2.toInt ∧ k2.toInt ≤ 1) (hv : v = e + 31 + 3 * k2.toNatClampNeg) (h0 : n2 = 0) : xC l Ω yX11_restore cX11_restore 3 (some .int) 2 0 0 [.ref e, .int k2] h sz (some (.int (-1000002))) h (sz) := by
  refine xC_of (lv := [(0, .ref e), (1, .int k2)]) pn_X11 rfl rfl (fun Γ X hΓ hbs => ?_)
  have X : xX Γ Ω cX11_restore 3 RX11 "restore" (some .int) 2 70 0 0 := X
  subst hΓ
  have tk := (i32_tn (x := k2) (by omega)).2
  refine xr_aload_n X 0 dX11_restore_0 rfl rfl ?_
  refine xr_iload_n X 1 dX11_restore_1 rfl rfl ?_
  refine xr_callV X heo rfl kw_808 kw_810 kw_20 cw_X11_imageAt [.int k2] (c_X11_imageAt heo him hk hv) rfl rfl rfl rfl rfl rfl rfl dX11_restore_2 ?_
  refine xr_astore_n (lv' := [(2, .ref v), (0, .ref e), (1, .int k2)]) X dX11_restore_5 rfl rfl rfl ?_
  refine xr_aload_n X 0 dX11_restore_6 rfl rfl ?_
  refine xr_ifnonnull (tgt := 13) X dX11_restore_7 (by decide) ?_
  refine xr_aload_n X 0 dX11_restore_13 rfl rfl ?_
  refine xr_callV X hto2 rfl kw_559 kw_560 kw_561 cw_X8_isNone [] (c_X8_isNone hto2 h62) rfl rfl rfl rfl rfl rfl rfl dX11_restore_14 ?_
  refine xr_if_eq (tgt := 23) X dX11_restore_17 (by decide) (fun c_17 => absurd c_17 (xb_1.mpr (decide_eq_true h0))) (fun _ => ?_)
  refine xr_ldc (v := (-1000002)) X kw_563 dX11_restore_20 ?_
  exact xr_iret X rfl rfl rfl rfl rfl rfl dX11_restore_22
set_option maxRecDepth 100000 in
theorem c_X11_restoreN {l : Launch} {Ω : xW} {h : xH} {sz : Nat} {e w : Nat} {ac st k2 : Int32} (heo : h e = some (eO e w ac st)) (him : h (e + 19) = some (.inl (.object "EvePost$Town", 2, .inr (.inr (.inr (.inr (imF e))))))) (hk : ¬ (0 ≤ k2.toInt ∧ k2.toInt ≤ 1)) : xC l Ω yX11_restore cX11_restore 3 (some .int) 2 0 0 [.ref e, .int k2] h sz (some (.int (-1000001))) h (sz) := by
  refine xC_of (lv := [(0, .ref e), (1, .int k2)]) pn_X11 rfl rfl (fun Γ X hΓ hbs => ?_)
  have X : xX Γ Ω cX11_restore 3 RX11 "restore" (some .int) 2 70 0 0 := X
  subst hΓ
  refine xr_aload_n X 0 dX11_restore_0 rfl rfl ?_
  refine xr_iload_n X 1 dX11_restore_1 rfl rfl ?_
  refine xr_callV X heo rfl kw_808 kw_810 kw_20 cw_X11_imageAt [.int k2] (c_X11_imageAtN heo him hk) rfl rfl rfl rfl rfl rfl rfl dX11_restore_2 ?_
  refine xr_astore_nN (lv' := [(2, .null), (0, .ref e), (1, .int k2)]) X dX11_restore_5 rfl rfl rfl ?_
  refine xr_aload_nN X 0 dX11_restore_6 rfl rfl ?_
  refine xr_ifnonnullN X dX11_restore_7 ?_
  refine xr_ldc (v := (-1000001)) X kw_226 dX11_restore_10 ?_
  exact xr_iret X rfl rfl rfl rfl rfl rfl dX11_restore_12
set_option maxRecDepth 100000 in
theorem c_X11_chains {l : Launch} {Ω : xW} {h : xH} {sz : Nat} {e w np day b : Nat} {ac st : Int32} {kd wh mn : Nat → Nat} {fr : Nat → Int32} {fw : Nat → Nat → Int32} {n k2 : Int32} (heo : h e = some (eO e w ac st)) (hw : w = e + 16) (hfo : h (e + 20) = some (.inr (2, [.ref (e + 21)]))) (hto : h w = some (tO w (nI np) (nI day) (nI b) (nI (moM kd np)))) (htf : h (w + 2) = some (.inl (.int, 64, .inl fr))) (h6 : np ≤ 6) (hF : frOK fr kd wh mn np) (hwo : h (e + 21) = some (.inl (.array .int, 6, .inr (.inr (.inr (.inr (xmo (e + 21) 6))))))) (hin : ∀ d, d < 6 → h (e + 22 + d) = some (.inl (.int, 64, .inl (fw d)))) (hb : b < 2 ^ np) : xC l Ω yX11_chains cX11_chains 4 (some .int) 5 0 0 [.ref e, .int n, .int k2] h sz (some (.int (a_chains kd wh mn np b n k2))) (if 0 < np then (if (1 ≤ n.toInt ∧ n.toInt ≤ 5) ∧ -1 ≤ k2.toInt then (wH kd wh mn np fw e h (n.toNatClampNeg + 1)) else h) else h) (sz) := by
  refine xC_of (lv := [(0, .ref e), (1, .int n), (2, .int k2)]) pn_X11 rfl rfl (fun Γ X hΓ hbs => ?_)
  have X : xX Γ Ω cX11_chains 4 RX11 "chains" (some .int) 5 175 0 0 := X
  subst hΓ
  have h64 := pw_le h6
  refine xr_aload_n X 0 dX11_chains_0 rfl rfl ?_
  refine xr_get X fF_X11_26_10 heo rfl dX11_chains_1 ?_
  refine xr_callV X hto rfl kw_559 kw_560 kw_561 cw_X8_isNone [] (c_X8_isNone hto h6) rfl rfl rfl rfl rfl rfl rfl dX11_chains_4 ?_
  refine xr_if_eq (tgt := 13) X dX11_chains_7 (by decide) (fun c_7 => ?_) (fun c_7 => ?_)
  · have c_7 := of_decide_eq_false (xb_0.mp c_7)
    (try simp (disch := omega) only [nI_toInt, i32_add, i32_sub, i32_mul, i64_addl, i32_l, k32_0, k64_0] at c_7)
    refine xr_iload_n X 1 dX11_chains_13 rfl rfl ?_
    refine xr_iconst (v := 1) X dX11_chains_14 (by decide) ?_
    refine xr_icmp_lt (tgt := 28) X dX11_chains_15 (by decide) (fun c_15 => ?_) (fun c_15 => ?_)
    · have c_15 := i32_lt.mp c_15
      (try simp (disch := omega) only [nI_toInt, i32_add, i32_sub, i32_mul, i64_addl, i32_l, k32_1, k64_1] at c_15)
      refine xr_ldc (v := (-1000001)) X kw_226 dX11_chains_28 ?_
      exact xr_iret X rfl (xv ((if_pos (by omega)).trans (if_neg (by omega)))) (((if_pos (by omega)).trans (if_neg (by omega))).symm) rfl rfl rfl dX11_chains_30
    · have c_15 := mt i32_lt.mpr c_15
      (try simp (disch := omega) only [nI_toInt, i32_add, i32_sub, i32_mul, i64_addl, i32_l, k32_1, k64_1] at c_15)
      refine xr_iload_n X 1 dX11_chains_18 rfl rfl ?_
      refine xr_iconst (v := 5) X dX11_chains_19 (by decide) ?_
      refine xr_icmp_gt (tgt := 28) X dX11_chains_20 (by decide) (fun c_20 => ?_) (fun c_20 => ?_)
      · have c_20 := i32_lt.mp c_20
        (try simp (disch := omega) only [nI_toInt, i32_add, i32_sub, i32_mul, i64_addl, i32_l, k32_5, k64_5] at c_20)
        refine xr_ldc (v := (-1000001)) X kw_226 dX11_chains_28 ?_
        exact xr_iret X rfl (xv ((if_pos (by omega)).trans (if_neg (by omega)))) (((if_pos (by omega)).trans (if_neg (by omega))).symm) rfl rfl rfl dX11_chains_30
      · have c_20 := mt i32_lt.mpr c_20
        (try simp (disch := omega) only [nI_toInt, i32_add, i32_sub, i32_mul, i64_addl, i32_l, k32_5, k64_5] at c_20)
        refine xr_iload_n X 2 dX11_chains_23 rfl rfl ?_
        refine xr_iconst (v := (-1)) X dX11_chains_24 (by decide) ?_
        refine xr_icmp_ge (tgt := 31) X dX11_chains_25 (by decide) (fun c_25 => ?_) (fun c_25 => ?_)
        · have c_25 := i32_le.mp c_25
          (try simp (disch := omega) only [nI_toInt, i32_add, i32_sub, i32_mul, i64_addl, i32_l, k32_m1] at c_25)
          have tn_n := (i32_tn (x := n) (by omega)).2
          have cl := chN_lt (kd := kd) (wh := wh) (mn := mn) h6 (d := n.toNatClampNeg) (by omega) b
          refine xr_aload_n X 0 dX11_chains_31 rfl rfl ?_
          refine xr_get X fF_X11_37_10 heo rfl dX11_chains_32 ?_
          refine xr_aload_n X 0 dX11_chains_35 rfl rfl ?_
          refine xr_get X fF_X11_26_10 heo rfl dX11_chains_36 ?_
          refine xr_iload_n X 1 dX11_chains_39 rfl rfl ?_
          refine xr_top (y := (nI (n.toNatClampNeg))) ((i32_tn (by omega)).1) ?_
          refine xr_callV X hfo rfl kw_713 kw_714 kw_715 cw_X2_countChains [.ref w, .int (nI (n.toNatClampNeg))] (c_X2_countChains (n := n.toNatClampNeg) hfo hto htf h6 hF hwo hin (by omega) (by omega) (by omega) hb) rfl rfl rfl rfl rfl rfl rfl dX11_chains_40 ?_
          refine xr_istore_n (lv' := [(3, .int (nI (chN kd wh mn np n.toNatClampNeg b))), (0, .ref e), (1, .int n), (2, .int k2)]) X dX11_chains_43 rfl rfl rfl ?_
          refine xr_iload_n X 3 dX11_chains_44 rfl rfl ?_
          refine xr_iconst (v := (-1)) X dX11_chains_45 (by decide) ?_
          refine xr_icmp_ne (tgt := 51) X dX11_chains_46 (by decide) (fun c_46 => ?_) (fun c_46 => ?_)
          · have c_46 := mt i32_eq.mpr c_46
            (try simp (disch := omega) only [nI_toInt, i32_add, i32_sub, i32_mul, i64_addl, i32_l, k32_m1] at c_46)
            refine xr_iload_n X 0 dX11_chains_51 rfl rfl ?_
            refine xr_if_eq (tgt := 60) X dX11_chains_52 (by decide) (fun c_52 => ?_) (fun c_52 => ?_)
            · have c_52 := i32_eq.mp c_52
              (try simp (disch := omega) only [nI_toInt, i32_add, i32_sub, i32_mul, i64_addl, i32_l, k32_0, k64_0] at c_52)
              refine xr_ldc (v := (-1000000)) X kw_727 dX11_chains_60 ?_
              refine xr_goto (tgt := 78) X dX11_chains_62 (by decide) ?_
              exact xr_iret X rfl (xv ((((if_pos (by omega)).trans (if_pos (by omega))).trans (if_neg (by omega))).trans (if_pos (by omega)))) (((if_pos (by omega)).trans (if_pos (by omega))).symm) rfl rfl rfl dX11_chains_78
            · have c_52 := mt i32_eq.mpr c_52
              (try simp (disch := omega) only [nI_toInt, i32_add, i32_sub, i32_mul, i64_addl, i32_l, k32_0, k64_0] at c_52)
              refine xr_iload_n X 3 dX11_chains_55 rfl rfl ?_
              refine xr_iload_n X 2 dX11_chains_56 rfl rfl ?_
              refine xr_icmp_lt (tgt := 65) X dX11_chains_57 (by decide) (fun c_57 => ?_) (fun c_57 => ?_)
              · have c_57 := i32_lt.mp c_57
                (try simp (disch := omega) only [nI_toInt, i32_add, i32_sub, i32_mul, i64_addl, i32_l] at c_57)
                have tn_k2 := (i32_tn (x := k2) (by omega)).2
                refine xr_aload_n X 1 dX11_chains_65 rfl rfl ?_
                refine xr_get X fF_X11_37_10 (wH_out (by omega) heo) rfl dX11_chains_66 ?_
                refine xr_aload_n X 1 dX11_chains_69 rfl rfl ?_
                refine xr_get X fF_X11_26_10 (wH_out (by omega) heo) rfl dX11_chains_70 ?_
                refine xr_iload_n X 2 dX11_chains_73 rfl rfl ?_
                refine xr_top (y := (nI (n.toNatClampNeg))) ((i32_tn (by omega)).1) ?_
                refine xr_iload_n X 3 dX11_chains_74 rfl rfl ?_
                refine xr_top (y := (nI (k2.toNatClampNeg))) ((i32_tn (by omega)).1) ?_
                refine xr_callV X (wH_out (by omega) hfo) rfl kw_728 kw_729 kw_730 cw_X2_letterOfFirstChain [.ref w, .int (nI (n.toNatClampNeg)), .int (nI (k2.toNatClampNeg))] (c_X2_letterOfFirstChain (fw := fw) (n := n.toNatClampNeg) (k := k2.toNatClampNeg) (wH_out (by omega) hfo) (wH_out (by omega) hto) (wH_out (by omega) htf) h6 hF (wH_out (by omega) hwo) (fun d9 hd9 => wH_at (by omega)) hb (by omega) (by omega) (by omega)) rfl rfl rfl rfl rfl rfl rfl dX11_chains_75 ?_
                exact xr_iret X rfl (xv ((((if_pos (by omega)).trans (if_pos (by omega))).trans (if_neg (by omega))).trans (if_neg (by omega)))) (((if_pos (by omega)).trans (if_pos (by omega))).symm) rfl rfl rfl dX11_chains_78
              · have c_57 := mt i32_lt.mpr c_57
                (try simp (disch := omega) only [nI_toInt, i32_add, i32_sub, i32_mul, i64_addl, i32_l] at c_57)
                refine xr_ldc (v := (-1000000)) X kw_727 dX11_chains_60 ?_
                refine xr_goto (tgt := 78) X dX11_chains_62 (by decide) ?_
                exact xr_iret X rfl (xv ((((if_pos (by omega)).trans (if_pos (by omega))).trans (if_neg (by omega))).trans (if_pos (by omega)))) (((if_pos (by omega)).trans (if_pos (by omega))).symm) rfl rfl rfl dX11_chains_78
          · have c_46 := i32_eq.mp c_46
            (try simp (disch := omega) only [nI_toInt, i32_add, i32_sub, i32_mul, i64_addl, i32_l, k32_m1] at c_46)
            refine xr_iload_n X 0 dX11_chains_49 rfl rfl ?_
            exact xr_iret X rfl (xv (((if_pos (by omega)).trans (if_pos (by omega))).trans (if_pos (by omega)))) (((if_pos (by omega)).trans (if_pos (by omega))).symm) rfl rfl rfl dX11_chains_50
        · have c_25 := mt i32_le.mpr c_25
          (try simp (disch := omega) only [nI_toInt, i32_add, i32_sub, i32_mul, i64_addl, i32_l, k32_m1] at c_25)
          refine xr_ldc (v := (-1000001)) X kw_226 dX11_chains_28 ?_
          exact xr_iret X rfl (xv ((if_pos (by omega)).trans (if_neg (by omega)))) (((if_pos (by omega)).trans (if_neg (by omega))).symm) rfl rfl rfl dX11_chains_30
  · have c_7 := of_decide_eq_true (xb_1.mp c_7)
    (try simp (disch := omega) only [nI_toInt, i32_add, i32_sub, i32_mul, i64_addl, i32_l, k32_0, k64_0] at c_7)
    refine xr_ldc (v := (-1000002)) X kw_563 dX11_chains_10 ?_
    exact xr_iret X rfl (xv (if_neg (by omega))) ((if_neg (by omega)).symm) rfl rfl rfl dX11_chains_12
