set_option maxRecDepth 100000 in
theorem c_X11_holds {l : Launch} {Ω : xW} {h : xH} {sz : Nat} {q w : Nat} (hq : q < 2 ^ 31) (hw : w < 31) : xC l Ω yX11_holds cX11_holds 2 (some .boolean) 0 0 0 [.int (nI q), .int (nI w)] h sz (some (.int (xb (q.testBit w)))) h (sz) := by
  refine xC_of (lv := [(0, .int (nI q)), (1, .int (nI w))]) pn_X11 rfl rfl (fun Γ X hΓ hbs => ?_)
  have X : xX Γ Ω cX11_holds 2 RX11 "holds" (some .boolean) 0 0 0 0 := X
  subst hΓ
  refine xr_iload_n X 0 dX11_holds_0 rfl rfl ?_
  refine xr_iload_n X 1 dX11_holds_1 rfl rfl ?_
  refine xr_ishr X dX11_holds_2 ?_
  refine xr_iconst (v := 1) X dX11_holds_3 (by decide) ?_
  refine xr_iand X dX11_holds_4 ?_
  refine xr_top (y := (xb (q.testBit w))) (bt_n hq hw) ?_
  refine xr_if_eq (tgt := 12) X dX11_holds_5 (by decide) (fun c_5 => ?_) (fun c_5 => ?_)
  · have c_5 := xb_0.mp c_5
    refine xr_iconst (v := 0) X dX11_holds_12 (by decide) ?_
    exact xr_zret X rfl rfl (by rw [c_5]; rfl) rfl rfl rfl rfl dX11_holds_13
  · have c_5 := xb_1.mp c_5
    refine xr_iconst (v := 1) X dX11_holds_8 (by decide) ?_
    refine xr_goto (tgt := 13) X dX11_holds_9 (by decide) ?_
    exact xr_zret X rfl rfl (by rw [c_5]; rfl) rfl rfl rfl rfl dX11_holds_13
set_option maxRecDepth 100000 in
theorem c_X5_init_1 {l : Launch} {Ω : xW} {h : xH} {sz : Nat} {a : Nat} {n0 w0 k0 : Int32} (ho : h a = some (.inr (9, [.int 0, .int 0, .int 0]))) : xC l Ω yX5_init cX5_init 4 none 1 0 0 [.ref a, .int n0, .int w0, .int k0] h sz (none) (xu h a (.inr (9, [.int n0, .int w0, .int k0]))) (sz) := by
  refine xC_of (lv := [(0, .ref a), (1, .int n0), (2, .int w0), (3, .int k0)]) pn_X5 rfl rfl (fun Γ X hΓ hbs => ?_)
  have X : xX Γ Ω cX5_init 4 RX5 "<init>" none 1 35 0 0 := X
  subst hΓ
  refine xr_aload_n X 0 dX5_init_0 rfl rfl ?_
  refine xr_objInit X kw_417 rfl rfl rfl dX5_init_1 ?_
  refine xr_aload_n X 0 dX5_init_4 rfl rfl ?_
  refine xr_iload_n X 1 dX5_init_5 rfl rfl ?_
  refine xr_put (fs' := [.int n0, .int 0, .int 0]) X (fW_X5_7_9) ho rfl rfl rfl rfl dX5_init_6 ?_
  refine xr_aload_n X 0 dX5_init_9 rfl rfl ?_
  refine xr_iload_n X 2 dX5_init_10 rfl rfl ?_
  refine xr_put (fs' := [.int n0, .int w0, .int 0]) X (fW_X5_13_9) (xu_s _ _ _) rfl rfl rfl rfl dX5_init_11 ?_
  refine xr_heap (h' := (xu h a (.inr (9, [.int n0, .int w0, .int 0])))) (xu_uu _ _ _ _) ?_
  refine xr_aload_n X 0 dX5_init_14 rfl rfl ?_
  refine xr_iload_n X 3 dX5_init_15 rfl rfl ?_
  refine xr_put (fs' := [.int n0, .int w0, .int k0]) X (fW_X5_16_9) (xu_s _ _ _) rfl rfl rfl rfl dX5_init_16 ?_
  refine xr_heap (h' := (xu h a (.inr (9, [.int n0, .int w0, .int k0])))) (xu_uu _ _ _ _) ?_
  exact xr_vret X rfl rfl rfl rfl rfl rfl dX5_init_19
set_option maxRecDepth 100000 in
theorem c_X10_init_1 {l : Launch} {Ω : xW} {h : xH} {sz : Nat} {a : Nat} {n0 w0 k0 : Int32} (ho : h a = some (.inr (9, [.int 0, .int 0, .int 0]))) : xC l Ω yX10_init cX10_init 4 none 2 0 0 [.ref a, .int n0, .int w0, .int k0] h sz (none) (xu h a (.inr (9, [.int n0, .int w0, .int k0]))) (sz) := by
  refine xC_of (lv := [(0, .ref a), (1, .int n0), (2, .int w0), (3, .int k0)]) pn_X10 rfl rfl (fun Γ X hΓ hbs => ?_)
  have X : xX Γ Ω cX10_init 4 RX10 "<init>" none 2 70 0 0 := X
  subst hΓ
  refine xr_aload_n X 0 dX10_init_0 rfl rfl ?_
  refine xr_iload_n X 1 dX10_init_1 rfl rfl ?_
  refine xr_iload_n X 2 dX10_init_2 rfl rfl ?_
  refine xr_iload_n X 3 dX10_init_3 rfl rfl ?_
  refine xr_callI (ret' := none) X kw_414 kw_415 rfl cw_X5_init [.int n0, .int w0, .int k0] (c_X5_init_1 ho) rfl rfl rfl rfl rfl rfl rfl dX10_init_4 ?_
  exact xr_vret X rfl rfl rfl rfl rfl rfl dX10_init_7
set_option maxRecDepth 100000 in
theorem c_X5_init_2 {l : Launch} {Ω : xW} {h : xH} {sz : Nat} {a : Nat} {n0 w0 k0 : Int32} (ho : h a = some (.inr (0, [.int 0, .int 0, .int 0]))) : xC l Ω yX5_init cX5_init 4 none 1 0 0 [.ref a, .int n0, .int w0, .int k0] h sz (none) (xu h a (.inr (0, [.int n0, .int w0, .int k0]))) (sz) := by
  refine xC_of (lv := [(0, .ref a), (1, .int n0), (2, .int w0), (3, .int k0)]) pn_X5 rfl rfl (fun Γ X hΓ hbs => ?_)
  have X : xX Γ Ω cX5_init 4 RX5 "<init>" none 1 35 0 0 := X
  subst hΓ
  refine xr_aload_n X 0 dX5_init_0 rfl rfl ?_
  refine xr_objInit X kw_417 rfl rfl rfl dX5_init_1 ?_
  refine xr_aload_n X 0 dX5_init_4 rfl rfl ?_
  refine xr_iload_n X 1 dX5_init_5 rfl rfl ?_
  refine xr_put (fs' := [.int n0, .int 0, .int 0]) X (fW_X5_7_0) ho rfl rfl rfl rfl dX5_init_6 ?_
  refine xr_aload_n X 0 dX5_init_9 rfl rfl ?_
  refine xr_iload_n X 2 dX5_init_10 rfl rfl ?_
  refine xr_put (fs' := [.int n0, .int w0, .int 0]) X (fW_X5_13_0) (xu_s _ _ _) rfl rfl rfl rfl dX5_init_11 ?_
  refine xr_heap (h' := (xu h a (.inr (0, [.int n0, .int w0, .int 0])))) (xu_uu _ _ _ _) ?_
  refine xr_aload_n X 0 dX5_init_14 rfl rfl ?_
  refine xr_iload_n X 3 dX5_init_15 rfl rfl ?_
  refine xr_put (fs' := [.int n0, .int w0, .int k0]) X (fW_X5_16_0) (xu_s _ _ _) rfl rfl rfl rfl dX5_init_16 ?_
  refine xr_heap (h' := (xu h a (.inr (0, [.int n0, .int w0, .int k0])))) (xu_uu _ _ _ _) ?_
  exact xr_vret X rfl rfl rfl rfl rfl rfl dX5_init_19
set_option maxRecDepth 100000 in
theorem c_X10_init_2 {l : Launch} {Ω : xW} {h : xH} {sz : Nat} {a : Nat} {n0 w0 k0 : Int32} (ho : h a = some (.inr (0, [.int 0, .int 0, .int 0]))) : xC l Ω yX10_init cX10_init 4 none 2 0 0 [.ref a, .int n0, .int w0, .int k0] h sz (none) (xu h a (.inr (0, [.int n0, .int w0, .int k0]))) (sz) := by
  refine xC_of (lv := [(0, .ref a), (1, .int n0), (2, .int w0), (3, .int k0)]) pn_X10 rfl rfl (fun Γ X hΓ hbs => ?_)
  have X : xX Γ Ω cX10_init 4 RX10 "<init>" none 2 70 0 0 := X
  subst hΓ
  refine xr_aload_n X 0 dX10_init_0 rfl rfl ?_
  refine xr_iload_n X 1 dX10_init_1 rfl rfl ?_
  refine xr_iload_n X 2 dX10_init_2 rfl rfl ?_
  refine xr_iload_n X 3 dX10_init_3 rfl rfl ?_
  refine xr_callI (ret' := none) X kw_414 kw_415 rfl cw_X5_init [.int n0, .int w0, .int k0] (c_X5_init_2 ho) rfl rfl rfl rfl rfl rfl rfl dX10_init_4 ?_
  exact xr_vret X rfl rfl rfl rfl rfl rfl dX10_init_7
set_option maxRecDepth 100000 in
theorem c_X0_init_2 {l : Launch} {Ω : xW} {h : xH} {sz : Nat} {a : Nat} {n0 w0 k0 : Int32} (ho : h a = some (.inr (0, [.int 0, .int 0, .int 0]))) : xC l Ω yX0_init cX0_init 4 none 3 0 0 [.ref a, .int n0, .int w0, .int k0] h sz (none) (xu h a (.inr (0, [.int n0, .int w0, .int k0]))) (sz) := by
  refine xC_of (lv := [(0, .ref a), (1, .int n0), (2, .int w0), (3, .int k0)]) pn_X0 rfl rfl (fun Γ X hΓ hbs => ?_)
  have X : xX Γ Ω cX0_init 4 RX0 "<init>" none 3 105 0 0 := X
  subst hΓ
  refine xr_aload_n X 0 dX0_init_0 rfl rfl ?_
  refine xr_iload_n X 1 dX0_init_1 rfl rfl ?_
  refine xr_iload_n X 2 dX0_init_2 rfl rfl ?_
  refine xr_iload_n X 3 dX0_init_3 rfl rfl ?_
  refine xr_callI (ret' := none) X kw_448 kw_412 rfl cw_X10_init [.int n0, .int w0, .int k0] (c_X10_init_2 ho) rfl rfl rfl rfl rfl rfl rfl dX0_init_4 ?_
  exact xr_vret X rfl rfl rfl rfl rfl rfl dX0_init_7
set_option maxRecDepth 100000 in
theorem c_X5_init_3 {l : Launch} {Ω : xW} {h : xH} {sz : Nat} {a : Nat} {n0 w0 k0 : Int32} (ho : h a = some (.inr (3, [.int 0, .int 0, .int 0]))) : xC l Ω yX5_init cX5_init 4 none 1 0 0 [.ref a, .int n0, .int w0, .int k0] h sz (none) (xu h a (.inr (3, [.int n0, .int w0, .int k0]))) (sz) := by
  refine xC_of (lv := [(0, .ref a), (1, .int n0), (2, .int w0), (3, .int k0)]) pn_X5 rfl rfl (fun Γ X hΓ hbs => ?_)
  have X : xX Γ Ω cX5_init 4 RX5 "<init>" none 1 35 0 0 := X
  subst hΓ
  refine xr_aload_n X 0 dX5_init_0 rfl rfl ?_
  refine xr_objInit X kw_417 rfl rfl rfl dX5_init_1 ?_
  refine xr_aload_n X 0 dX5_init_4 rfl rfl ?_
  refine xr_iload_n X 1 dX5_init_5 rfl rfl ?_
  refine xr_put (fs' := [.int n0, .int 0, .int 0]) X (fW_X5_7_3) ho rfl rfl rfl rfl dX5_init_6 ?_
  refine xr_aload_n X 0 dX5_init_9 rfl rfl ?_
  refine xr_iload_n X 2 dX5_init_10 rfl rfl ?_
  refine xr_put (fs' := [.int n0, .int w0, .int 0]) X (fW_X5_13_3) (xu_s _ _ _) rfl rfl rfl rfl dX5_init_11 ?_
  refine xr_heap (h' := (xu h a (.inr (3, [.int n0, .int w0, .int 0])))) (xu_uu _ _ _ _) ?_
  refine xr_aload_n X 0 dX5_init_14 rfl rfl ?_
  refine xr_iload_n X 3 dX5_init_15 rfl rfl ?_
  refine xr_put (fs' := [.int n0, .int w0, .int k0]) X (fW_X5_16_3) (xu_s _ _ _) rfl rfl rfl rfl dX5_init_16 ?_
  refine xr_heap (h' := (xu h a (.inr (3, [.int n0, .int w0, .int k0])))) (xu_uu _ _ _ _) ?_
  exact xr_vret X rfl rfl rfl rfl rfl rfl dX5_init_19
set_option maxRecDepth 100000 in
theorem c_X10_init_3 {l : Launch} {Ω : xW} {h : xH} {sz : Nat} {a : Nat} {n0 w0 k0 : Int32} (ho : h a = some (.inr (3, [.int 0, .int 0, .int 0]))) : xC l Ω yX10_init cX10_init 4 none 2 0 0 [.ref a, .int n0, .int w0, .int k0] h sz (none) (xu h a (.inr (3, [.int n0, .int w0, .int k0]))) (sz) := by
  refine xC_of (lv := [(0, .ref a), (1, .int n0), (2, .int w0), (3, .int k0)]) pn_X10 rfl rfl (fun Γ X hΓ hbs => ?_)
  have X : xX Γ Ω cX10_init 4 RX10 "<init>" none 2 70 0 0 := X
  subst hΓ
  refine xr_aload_n X 0 dX10_init_0 rfl rfl ?_
  refine xr_iload_n X 1 dX10_init_1 rfl rfl ?_
  refine xr_iload_n X 2 dX10_init_2 rfl rfl ?_
  refine xr_iload_n X 3 dX10_init_3 rfl rfl ?_
  refine xr_callI (ret' := none) X kw_414 kw_415 rfl cw_X5_init [.int n0, .int w0, .int k0] (c_X5_init_3 ho) rfl rfl rfl rfl rfl rfl rfl dX10_init_4 ?_
  exact xr_vret X rfl rfl rfl rfl rfl rfl dX10_init_7
set_option maxRecDepth 100000 in
theorem c_X3_init_3 {l : Launch} {Ω : xW} {h : xH} {sz : Nat} {a : Nat} {n0 w0 k0 : Int32} (ho : h a = some (.inr (3, [.int 0, .int 0, .int 0]))) : xC l Ω yX3_init cX3_init 4 none 3 0 0 [.ref a, .int n0, .int w0, .int k0] h sz (none) (xu h a (.inr (3, [.int n0, .int w0, .int k0]))) (sz) := by
  refine xC_of (lv := [(0, .ref a), (1, .int n0), (2, .int w0), (3, .int k0)]) pn_X3 rfl rfl (fun Γ X hΓ hbs => ?_)
  have X : xX Γ Ω cX3_init 4 RX3 "<init>" none 3 105 0 0 := X
  subst hΓ
  refine xr_aload_n X 0 dX3_init_0 rfl rfl ?_
  refine xr_iload_n X 1 dX3_init_1 rfl rfl ?_
  refine xr_iload_n X 2 dX3_init_2 rfl rfl ?_
  refine xr_iload_n X 3 dX3_init_3 rfl rfl ?_
  refine xr_callI (ret' := none) X kw_458 kw_412 rfl cw_X10_init [.int n0, .int w0, .int k0] (c_X10_init_3 ho) rfl rfl rfl rfl rfl rfl rfl dX3_init_4 ?_
  exact xr_vret X rfl rfl rfl rfl rfl rfl dX3_init_7
set_option maxRecDepth 100000 in
theorem c_X5_init_4 {l : Launch} {Ω : xW} {h : xH} {sz : Nat} {a : Nat} {n0 w0 k0 : Int32} (ho : h a = some (.inr (1, [.int 0, .int 0, .int 0]))) : xC l Ω yX5_init cX5_init 4 none 1 0 0 [.ref a, .int n0, .int w0, .int k0] h sz (none) (xu h a (.inr (1, [.int n0, .int w0, .int k0]))) (sz) := by
  refine xC_of (lv := [(0, .ref a), (1, .int n0), (2, .int w0), (3, .int k0)]) pn_X5 rfl rfl (fun Γ X hΓ hbs => ?_)
  have X : xX Γ Ω cX5_init 4 RX5 "<init>" none 1 35 0 0 := X
  subst hΓ
  refine xr_aload_n X 0 dX5_init_0 rfl rfl ?_
  refine xr_objInit X kw_417 rfl rfl rfl dX5_init_1 ?_
  refine xr_aload_n X 0 dX5_init_4 rfl rfl ?_
  refine xr_iload_n X 1 dX5_init_5 rfl rfl ?_
  refine xr_put (fs' := [.int n0, .int 0, .int 0]) X (fW_X5_7_1) ho rfl rfl rfl rfl dX5_init_6 ?_
  refine xr_aload_n X 0 dX5_init_9 rfl rfl ?_
  refine xr_iload_n X 2 dX5_init_10 rfl rfl ?_
  refine xr_put (fs' := [.int n0, .int w0, .int 0]) X (fW_X5_13_1) (xu_s _ _ _) rfl rfl rfl rfl dX5_init_11 ?_
  refine xr_heap (h' := (xu h a (.inr (1, [.int n0, .int w0, .int 0])))) (xu_uu _ _ _ _) ?_
  refine xr_aload_n X 0 dX5_init_14 rfl rfl ?_
  refine xr_iload_n X 3 dX5_init_15 rfl rfl ?_
  refine xr_put (fs' := [.int n0, .int w0, .int k0]) X (fW_X5_16_1) (xu_s _ _ _) rfl rfl rfl rfl dX5_init_16 ?_
  refine xr_heap (h' := (xu h a (.inr (1, [.int n0, .int w0, .int k0])))) (xu_uu _ _ _ _) ?_
  exact xr_vret X rfl rfl rfl rfl rfl rfl dX5_init_19
set_option maxRecDepth 100000 in
theorem c_X1_init_4 {l : Launch} {Ω : xW} {h : xH} {sz : Nat} {a : Nat} {n0 w0 k0 : Int32} (ho : h a = some (.inr (1, [.int 0, .int 0, .int 0]))) : xC l Ω yX1_init cX1_init 4 none 2 0 0 [.ref a, .int n0, .int w0, .int k0] h sz (none) (xu h a (.inr (1, [.int n0, .int w0, .int k0]))) (sz) := by
  refine xC_of (lv := [(0, .ref a), (1, .int n0), (2, .int w0), (3, .int k0)]) pn_X1 rfl rfl (fun Γ X hΓ hbs => ?_)
  have X : xX Γ Ω cX1_init 4 RX1 "<init>" none 2 70 0 0 := X
  subst hΓ
  refine xr_aload_n X 0 dX1_init_0 rfl rfl ?_
  refine xr_iload_n X 1 dX1_init_1 rfl rfl ?_
  refine xr_iload_n X 2 dX1_init_2 rfl rfl ?_
  refine xr_iload_n X 3 dX1_init_3 rfl rfl ?_
  refine xr_callI (ret' := none) X kw_468 kw_415 rfl cw_X5_init [.int n0, .int w0, .int k0] (c_X5_init_4 ho) rfl rfl rfl rfl rfl rfl rfl dX1_init_4 ?_
  exact xr_vret X rfl rfl rfl rfl rfl rfl dX1_init_7
set_option maxRecDepth 100000 in
theorem c_X5_init_5 {l : Launch} {Ω : xW} {h : xH} {sz : Nat} {a : Nat} {n0 w0 k0 : Int32} (ho : h a = some (.inr (4, [.int 0, .int 0, .int 0]))) : xC l Ω yX5_init cX5_init 4 none 1 0 0 [.ref a, .int n0, .int w0, .int k0] h sz (none) (xu h a (.inr (4, [.int n0, .int w0, .int k0]))) (sz) := by
  refine xC_of (lv := [(0, .ref a), (1, .int n0), (2, .int w0), (3, .int k0)]) pn_X5 rfl rfl (fun Γ X hΓ hbs => ?_)
  have X : xX Γ Ω cX5_init 4 RX5 "<init>" none 1 35 0 0 := X
  subst hΓ
  refine xr_aload_n X 0 dX5_init_0 rfl rfl ?_
  refine xr_objInit X kw_417 rfl rfl rfl dX5_init_1 ?_
  refine xr_aload_n X 0 dX5_init_4 rfl rfl ?_
  refine xr_iload_n X 1 dX5_init_5 rfl rfl ?_
  refine xr_put (fs' := [.int n0, .int 0, .int 0]) X (fW_X5_7_4) ho rfl rfl rfl rfl dX5_init_6 ?_
  refine xr_aload_n X 0 dX5_init_9 rfl rfl ?_
  refine xr_iload_n X 2 dX5_init_10 rfl rfl ?_
  refine xr_put (fs' := [.int n0, .int w0, .int 0]) X (fW_X5_13_4) (xu_s _ _ _) rfl rfl rfl rfl dX5_init_11 ?_
  refine xr_heap (h' := (xu h a (.inr (4, [.int n0, .int w0, .int 0])))) (xu_uu _ _ _ _) ?_
  refine xr_aload_n X 0 dX5_init_14 rfl rfl ?_
  refine xr_iload_n X 3 dX5_init_15 rfl rfl ?_
  refine xr_put (fs' := [.int n0, .int w0, .int k0]) X (fW_X5_16_4) (xu_s _ _ _) rfl rfl rfl rfl dX5_init_16 ?_
  refine xr_heap (h' := (xu h a (.inr (4, [.int n0, .int w0, .int k0])))) (xu_uu _ _ _ _) ?_
  exact xr_vret X rfl rfl rfl rfl rfl rfl dX5_init_19
set_option maxRecDepth 100000 in
theorem c_X1_init_5 {l : Launch} {Ω : xW} {h : xH} {sz : Nat} {a : Nat} {n0 w0 k0 : Int32} (ho : h a = some (.inr (4, [.int 0, .int 0, .int 0]))) : xC l Ω yX1_init cX1_init 4 none 2 0 0 [.ref a, .int n0, .int w0, .int k0] h sz (none) (xu h a (.inr (4, [.int n0, .int w0, .int k0]))) (sz) := by
  refine xC_of (lv := [(0, .ref a), (1, .int n0), (2, .int w0), (3, .int k0)]) pn_X1 rfl rfl (fun Γ X hΓ hbs => ?_)
  have X : xX Γ Ω cX1_init 4 RX1 "<init>" none 2 70 0 0 := X
  subst hΓ
  refine xr_aload_n X 0 dX1_init_0 rfl rfl ?_
  refine xr_iload_n X 1 dX1_init_1 rfl rfl ?_
  refine xr_iload_n X 2 dX1_init_2 rfl rfl ?_
  refine xr_iload_n X 3 dX1_init_3 rfl rfl ?_
  refine xr_callI (ret' := none) X kw_468 kw_415 rfl cw_X5_init [.int n0, .int w0, .int k0] (c_X5_init_5 ho) rfl rfl rfl rfl rfl rfl rfl dX1_init_4 ?_
  exact xr_vret X rfl rfl rfl rfl rfl rfl dX1_init_7
set_option maxRecDepth 100000 in
theorem c_X4_init_5 {l : Launch} {Ω : xW} {h : xH} {sz : Nat} {a : Nat} {n0 w0 k0 : Int32} (ho : h a = some (.inr (4, [.int 0, .int 0, .int 0]))) : xC l Ω yX4_init cX4_init 4 none 3 0 0 [.ref a, .int n0, .int w0, .int k0] h sz (none) (xu h a (.inr (4, [.int n0, .int w0, .int k0]))) (sz) := by
  refine xC_of (lv := [(0, .ref a), (1, .int n0), (2, .int w0), (3, .int k0)]) pn_X4 rfl rfl (fun Γ X hΓ hbs => ?_)
  have X : xX Γ Ω cX4_init 4 RX4 "<init>" none 3 105 0 0 := X
  subst hΓ
  refine xr_aload_n X 0 dX4_init_0 rfl rfl ?_
  refine xr_iload_n X 1 dX4_init_1 rfl rfl ?_
  refine xr_iload_n X 2 dX4_init_2 rfl rfl ?_
  refine xr_iload_n X 3 dX4_init_3 rfl rfl ?_
  refine xr_callI (ret' := none) X kw_478 kw_466 rfl cw_X1_init [.int n0, .int w0, .int k0] (c_X1_init_5 ho) rfl rfl rfl rfl rfl rfl rfl dX4_init_4 ?_
  exact xr_vret X rfl rfl rfl rfl rfl rfl dX4_init_7
set_option maxRecDepth 100000 in
theorem c_doesIt_1 {l : Launch} {Ω : xW} {h : xH} {sz : Nat} {a p w k : Nat} {lt b : Nat} (ho : h a = some (.inr (9, [.int (nI p), .int (nI w), .int (nI k)]))) (hp : p < 6) (hw : w ≤ 5) (hk : k ≤ 9) (hl : lt < 64) (hb : b < 64) : xC l Ω yX10_doesIt cX10_doesIt 3 (some .boolean) 1 0 0 [.ref a, .int (nI lt), .int (nI b)] h sz (some (.int (xb (lt.testBit w)))) h (sz) := by
  refine xC_of (lv := [(0, .ref a), (1, .int (nI lt)), (2, .int (nI b))]) pn_X10 rfl rfl (fun Γ X hΓ hbs => ?_)
  have X : xX Γ Ω cX10_doesIt 3 RX10 "doesIt" (some .boolean) 1 35 0 0 := X
  subst hΓ
  have bl := bcn_le lt 6
  refine xr_iload_n X 1 dX10_doesIt_0 rfl rfl ?_
  refine xr_aload_n X 0 dX10_doesIt_1 rfl rfl ?_
  refine xr_get X fF_X10_7_9 ho rfl dX10_doesIt_2 ?_
  refine xr_callSN X (by decide +kernel) (host := "EvePost") kw_523 cw_X11_holds [.int (nI lt), .int (nI w)] (c_X11_holds (by omega) (by omega)) rfl rfl rfl rfl rfl rfl rfl dX10_doesIt_5 ?_
  exact xr_zret X rfl (xb_nar _) rfl rfl rfl rfl rfl dX10_doesIt_8
set_option maxRecDepth 100000 in
theorem c_doesIt_2 {l : Launch} {Ω : xW} {h : xH} {sz : Nat} {a p w k : Nat} {lt b : Nat} (ho : h a = some (.inr (0, [.int (nI p), .int (nI w), .int (nI k)]))) (hp : p < 6) (hw : w ≤ 5) (hk : k ≤ 9) (hl : lt < 64) (hb : b < 64) : xC l Ω yX0_doesIt cX0_doesIt 3 (some .boolean) 1 0 0 [.ref a, .int (nI lt), .int (nI b)] h sz (some (.int (xb (!lt.testBit w)))) h (sz) := by
  refine xC_of (lv := [(0, .ref a), (1, .int (nI lt)), (2, .int (nI b))]) pn_X0 rfl rfl (fun Γ X hΓ hbs => ?_)
  have X : xX Γ Ω cX0_doesIt 3 RX0 "doesIt" (some .boolean) 1 35 0 0 := X
  subst hΓ
  have bl := bcn_le lt 6
  refine xr_iload_n X 1 dX0_doesIt_0 rfl rfl ?_
  refine xr_aload_n X 0 dX0_doesIt_1 rfl rfl ?_
  refine xr_get X fF_X0_7_0 ho rfl dX0_doesIt_2 ?_
  refine xr_callSN X (by decide +kernel) (host := "EvePost") kw_523 cw_X11_holds [.int (nI lt), .int (nI w)] (c_X11_holds (by omega) (by omega)) rfl rfl rfl rfl rfl rfl rfl dX0_doesIt_5 ?_
  refine xr_if_ne (tgt := 15) X dX0_doesIt_8 (by decide) (fun c_8 => ?_) (fun c_8 => ?_)
  · have c_8 := xb_1.mp c_8
    refine xr_iconst (v := 0) X dX0_doesIt_15 (by decide) ?_
    exact xr_zret X rfl rfl (by rw [c_8]; rfl) rfl rfl rfl rfl dX0_doesIt_16
  · have c_8 := xb_0.mp c_8
    refine xr_iconst (v := 1) X dX0_doesIt_11 (by decide) ?_
    refine xr_goto (tgt := 16) X dX0_doesIt_12 (by decide) ?_
    exact xr_zret X rfl rfl (by rw [c_8]; rfl) rfl rfl rfl rfl dX0_doesIt_16
set_option maxRecDepth 100000 in
theorem c_doesIt_3 {l : Launch} {Ω : xW} {h : xH} {sz : Nat} {a p w k : Nat} {lt b : Nat} (ho : h a = some (.inr (3, [.int (nI p), .int (nI w), .int (nI k)]))) (hp : p < 6) (hw : w ≤ 5) (hk : k ≤ 9) (hl : lt < 64) (hb : b < 64) : xC l Ω yX10_doesIt cX10_doesIt 3 (some .boolean) 1 0 0 [.ref a, .int (nI lt), .int (nI b)] h sz (some (.int (xb (lt.testBit w)))) h (sz) := by
  refine xC_of (lv := [(0, .ref a), (1, .int (nI lt)), (2, .int (nI b))]) pn_X10 rfl rfl (fun Γ X hΓ hbs => ?_)
  have X : xX Γ Ω cX10_doesIt 3 RX10 "doesIt" (some .boolean) 1 35 0 0 := X
  subst hΓ
  have bl := bcn_le lt 6
  refine xr_iload_n X 1 dX10_doesIt_0 rfl rfl ?_
  refine xr_aload_n X 0 dX10_doesIt_1 rfl rfl ?_
  refine xr_get X fF_X10_7_3 ho rfl dX10_doesIt_2 ?_
  refine xr_callSN X (by decide +kernel) (host := "EvePost") kw_523 cw_X11_holds [.int (nI lt), .int (nI w)] (c_X11_holds (by omega) (by omega)) rfl rfl rfl rfl rfl rfl rfl dX10_doesIt_5 ?_
  exact xr_zret X rfl (xb_nar _) rfl rfl rfl rfl rfl dX10_doesIt_8
set_option maxRecDepth 100000 in
theorem c_doesIt_4 {l : Launch} {Ω : xW} {h : xH} {sz : Nat} {a p w k : Nat} {lt b : Nat} (ho : h a = some (.inr (1, [.int (nI p), .int (nI w), .int (nI k)]))) (hp : p < 6) (hw : w ≤ 5) (hk : k ≤ 9) (hl : lt < 64) (hb : b < 64) : xC l Ω yX1_doesIt cX1_doesIt 3 (some .boolean) 1 0 0 [.ref a, .int (nI lt), .int (nI b)] h sz (some (.int (xb (decide (k ≤ bcn lt 6))))) h (sz) := by
  refine xC_of (lv := [(0, .ref a), (1, .int (nI lt)), (2, .int (nI b))]) pn_X1 rfl rfl (fun Γ X hΓ hbs => ?_)
  have X : xX Γ Ω cX1_doesIt 3 RX1 "doesIt" (some .boolean) 1 35 0 0 := X
  subst hΓ
  have bl := bcn_le lt 6
  refine xr_iload_n X 1 dX1_doesIt_0 rfl rfl ?_
  refine xr_callS X kw_528 kw_529 cw_J6_bitCount_0f7a4 [.int (nI lt)] (c_J6_bitCount_0f7a4 (by omega)) rfl rfl rfl rfl rfl rfl rfl dX1_doesIt_1 ?_
  refine xr_aload_n X 0 dX1_doesIt_4 rfl rfl ?_
  refine xr_get X fF_X1_13_1 ho rfl dX1_doesIt_5 ?_
  refine xr_icmp_lt (tgt := 15) X dX1_doesIt_8 (by decide) (fun c_8 => ?_) (fun c_8 => ?_)
  · have c_8 := i32_lt.mp c_8
    (try simp (disch := omega) only [nI_toInt, i32_add, i32_sub, i32_mul, i64_addl, i32_l, k32_6, k64_6] at c_8)
    refine xr_iconst (v := 0) X dX1_doesIt_15 (by decide) ?_
    exact xr_zret X rfl rfl (by first | exact xbT (by omega) | exact xbF (by omega)) rfl rfl rfl rfl dX1_doesIt_16
  · have c_8 := mt i32_lt.mpr c_8
    (try simp (disch := omega) only [nI_toInt, i32_add, i32_sub, i32_mul, i64_addl, i32_l, k32_6, k64_6] at c_8)
    refine xr_iconst (v := 1) X dX1_doesIt_11 (by decide) ?_
    refine xr_goto (tgt := 16) X dX1_doesIt_12 (by decide) ?_
    exact xr_zret X rfl rfl (by first | exact xbT (by omega) | exact xbF (by omega)) rfl rfl rfl rfl dX1_doesIt_16
set_option maxRecDepth 100000 in
theorem c_doesIt_5 {l : Launch} {Ω : xW} {h : xH} {sz : Nat} {a p w k : Nat} {lt b : Nat} (ho : h a = some (.inr (4, [.int (nI p), .int (nI w), .int (nI k)]))) (hp : p < 6) (hw : w ≤ 5) (hk : k ≤ 9) (hl : lt < 64) (hb : b < 64) : xC l Ω yX4_doesIt cX4_doesIt 3 (some .boolean) 1 0 0 [.ref a, .int (nI lt), .int (nI b)] h sz (some (.int (xb ((lt.testBit w == b.testBit p))))) h (sz) := by
  refine xC_of (lv := [(0, .ref a), (1, .int (nI lt)), (2, .int (nI b))]) pn_X4 rfl rfl (fun Γ X hΓ hbs => ?_)
  have X : xX Γ Ω cX4_doesIt 3 RX4 "doesIt" (some .boolean) 1 35 0 0 := X
  subst hΓ
  have bl := bcn_le lt 6
  refine xr_iload_n X 1 dX4_doesIt_0 rfl rfl ?_
  refine xr_aload_n X 0 dX4_doesIt_1 rfl rfl ?_
  refine xr_get X fF_X4_7_4 ho rfl dX4_doesIt_2 ?_
  refine xr_callSN X (by decide +kernel) (host := "EvePost") kw_523 cw_X11_holds [.int (nI lt), .int (nI w)] (c_X11_holds (by omega) (by omega)) rfl rfl rfl rfl rfl rfl rfl dX4_doesIt_5 ?_
  refine xr_iload_n X 2 dX4_doesIt_8 rfl rfl ?_
  refine xr_aload_n X 0 dX4_doesIt_9 rfl rfl ?_
  refine xr_get X fF_X4_19_4 ho rfl dX4_doesIt_10 ?_
  refine xr_callSN X (by decide +kernel) (host := "EvePost") kw_523 cw_X11_holds [.int (nI b), .int (nI p)] (c_X11_holds (by omega) (by omega)) rfl rfl rfl rfl rfl rfl rfl dX4_doesIt_13 ?_
  refine xr_icmp_ne (tgt := 23) X dX4_doesIt_16 (by decide) (fun c_16 => ?_) (fun c_16 => ?_)
  · refine xr_iconst (v := 0) X dX4_doesIt_23 (by decide) ?_
    exact xr_zret X rfl rfl (by rw [beq_eq_false_iff_ne.mpr (mt xb_inj.mpr c_16)]; rfl) rfl rfl rfl rfl dX4_doesIt_24
  · refine xr_iconst (v := 1) X dX4_doesIt_19 (by decide) ?_
    refine xr_goto (tgt := 24) X dX4_doesIt_20 (by decide) ?_
    exact xr_zret X rfl rfl (by rw [xb_inj.mp c_16]; simp [xb]) rfl rfl rfl rfl dX4_doesIt_24
set_option maxRecDepth 100000 in
theorem c_tenths_1 {l : Launch} {Ω : xW} {h : xH} {sz : Nat} {a p w k : Nat} {lt b : Nat} {s9 : Bool} (ho : h a = some (.inr (9, [.int (nI p), .int (nI w), .int (nI k)]))) (hp : p < 6) (hw : w ≤ 5) (hk : k ≤ 9) (hl : lt < 64) (hb : b < 64) : xC l Ω yX5_tenths cX5_tenths 4 (some .int) 2 0 0 [.ref a, .int (nI lt), .int (nI b), .int (xb s9)] h sz (some (.int (if ((lt.testBit w) == s9) = true then 10 else 0))) h (sz) := by
  refine xC_of (lv := [(0, .ref a), (1, .int (nI lt)), (2, .int (nI b)), (3, .int (xb s9))]) pn_X5 rfl rfl (fun Γ X hΓ hbs => ?_)
  have X : xX Γ Ω cX5_tenths 4 RX5 "tenths" (some .int) 2 70 0 0 := X
  subst hΓ
  refine xr_aload_n X 0 dX5_tenths_0 rfl rfl ?_
  refine xr_iload_n X 1 dX5_tenths_1 rfl rfl ?_
  refine xr_iload_n X 2 dX5_tenths_2 rfl rfl ?_
  refine xr_callU (y := yX10_doesIt) (x := ⟨"EvePost$Person", "doesIt", "(II)Z"⟩) (owner := "EvePost$Person") X ho rfl kw_766 kw_518 (Or.inl (by decide +kernel)) (by decide) rfl kw_535 kw_542 cw_X10_doesIt [.int (nI lt), .int (nI b)] (c_doesIt_1 (lt := lt) (b := b) ho (by omega) (by omega) (by omega) (by omega) (by omega)) rfl rfl rfl rfl rfl rfl rfl dX5_tenths_3 ?_
  refine xr_iload_n X 3 dX5_tenths_6 rfl rfl ?_
  refine xr_icmp_ne (tgt := 15) X dX5_tenths_7 (by decide) (fun c_7 => ?_) (fun c_7 => ?_)
  · refine xr_iconst (v := 0) X dX5_tenths_15 (by decide) ?_
    exact xr_iret X rfl (xv (if_neg (by rw [beq_eq_false_iff_ne.mpr (mt xb_inj.mpr c_7)]; decide))) rfl rfl rfl rfl dX5_tenths_16
  · refine xr_bipush (v := 10) X dX5_tenths_10 (by decide) ?_
    refine xr_goto (tgt := 16) X dX5_tenths_12 (by decide) ?_
    exact xr_iret X rfl (xv (if_pos (by rw [xb_inj.mp c_7]; simp))) rfl rfl rfl rfl dX5_tenths_16
set_option maxRecDepth 100000 in
theorem c_tenths_2 {l : Launch} {Ω : xW} {h : xH} {sz : Nat} {a p w k : Nat} {lt b : Nat} {s9 : Bool} (ho : h a = some (.inr (0, [.int (nI p), .int (nI w), .int (nI k)]))) (hp : p < 6) (hw : w ≤ 5) (hk : k ≤ 9) (hl : lt < 64) (hb : b < 64) : xC l Ω yX5_tenths cX5_tenths 4 (some .int) 2 0 0 [.ref a, .int (nI lt), .int (nI b), .int (xb s9)] h sz (some (.int (if ((!lt.testBit w) == s9) = true then 10 else 0))) h (sz) := by
  refine xC_of (lv := [(0, .ref a), (1, .int (nI lt)), (2, .int (nI b)), (3, .int (xb s9))]) pn_X5 rfl rfl (fun Γ X hΓ hbs => ?_)
  have X : xX Γ Ω cX5_tenths 4 RX5 "tenths" (some .int) 2 70 0 0 := X
  subst hΓ
  refine xr_aload_n X 0 dX5_tenths_0 rfl rfl ?_
  refine xr_iload_n X 1 dX5_tenths_1 rfl rfl ?_
  refine xr_iload_n X 2 dX5_tenths_2 rfl rfl ?_
  refine xr_callU (y := yX0_doesIt) (x := ⟨"EvePost$Person", "doesIt", "(II)Z"⟩) (owner := "EvePost$Person") X ho rfl kw_766 kw_518 (Or.inl (by decide +kernel)) (by decide) rfl kw_520 kw_519 cw_X0_doesIt [.int (nI lt), .int (nI b)] (c_doesIt_2 (lt := lt) (b := b) ho (by omega) (by omega) (by omega) (by omega) (by omega)) rfl rfl rfl rfl rfl rfl rfl dX5_tenths_3 ?_
  refine xr_iload_n X 3 dX5_tenths_6 rfl rfl ?_
  refine xr_icmp_ne (tgt := 15) X dX5_tenths_7 (by decide) (fun c_7 => ?_) (fun c_7 => ?_)
  · refine xr_iconst (v := 0) X dX5_tenths_15 (by decide) ?_
    exact xr_iret X rfl (xv (if_neg (by rw [beq_eq_false_iff_ne.mpr (mt xb_inj.mpr c_7)]; decide))) rfl rfl rfl rfl dX5_tenths_16
  · refine xr_bipush (v := 10) X dX5_tenths_10 (by decide) ?_
    refine xr_goto (tgt := 16) X dX5_tenths_12 (by decide) ?_
    exact xr_iret X rfl (xv (if_pos (by rw [xb_inj.mp c_7]; simp))) rfl rfl rfl rfl dX5_tenths_16
set_option maxRecDepth 100000 in
theorem c_tenths_3 {l : Launch} {Ω : xW} {h : xH} {sz : Nat} {a p w k : Nat} {lt b : Nat} {s9 : Bool} (ho : h a = some (.inr (3, [.int (nI p), .int (nI w), .int (nI k)]))) (hp : p < 6) (hw : w ≤ 5) (hk : k ≤ 9) (hl : lt < 64) (hb : b < 64) : xC l Ω yX3_tenths cX3_tenths 4 (some .int) 2 0 0 [.ref a, .int (nI lt), .int (nI b), .int (xb s9)] h sz (some (.int (if ((lt.testBit w) == s9) = true then nI (10 - k) else nI k))) h (sz) := by
  refine xC_of (lv := [(0, .ref a), (1, .int (nI lt)), (2, .int (nI b)), (3, .int (xb s9))]) pn_X3 rfl rfl (fun Γ X hΓ hbs => ?_)
  have X : xX Γ Ω cX3_tenths 4 RX3 "tenths" (some .int) 2 70 0 0 := X
  subst hΓ
  refine xr_aload_n X 0 dX3_tenths_0 rfl rfl ?_
  refine xr_iload_n X 1 dX3_tenths_1 rfl rfl ?_
  refine xr_iload_n X 2 dX3_tenths_2 rfl rfl ?_
  refine xr_callU (y := yX10_doesIt) (x := ⟨"EvePost$LotOne", "doesIt", "(II)Z"⟩) (owner := "EvePost$TrueOne") X ho rfl kw_759 kw_760 (Or.inl (by decide +kernel)) (by decide) rfl kw_535 kw_762 cw_X10_doesIt [.int (nI lt), .int (nI b)] (c_doesIt_3 (lt := lt) (b := b) ho (by omega) (by omega) (by omega) (by omega) (by omega)) rfl rfl rfl rfl rfl rfl rfl dX3_tenths_3 ?_
  refine xr_iload_n X 3 dX3_tenths_6 rfl rfl ?_
  refine xr_icmp_ne (tgt := 20) X dX3_tenths_7 (by decide) (fun c_7 => ?_) (fun c_7 => ?_)
  · refine xr_aload_n X 0 dX3_tenths_20 rfl rfl ?_
    refine xr_get X fF_X3_15_3 ho rfl dX3_tenths_21 ?_
    exact xr_iret X rfl (xv (if_neg (by rw [beq_eq_false_iff_ne.mpr (mt xb_inj.mpr c_7)]; decide))) rfl rfl rfl rfl dX3_tenths_24
  · refine xr_bipush (v := 10) X dX3_tenths_10 (by decide) ?_
    refine xr_aload_n X 0 dX3_tenths_12 rfl rfl ?_
    refine xr_get X fF_X3_15_3 ho rfl dX3_tenths_13 ?_
    refine xr_isub X dX3_tenths_16 ?_
    refine xr_top (y := (nI (10 - k))) (by rw [show (10 : Int32) = nI 10 from rfl, pk_sub (by omega)]) ?_
    refine xr_goto (tgt := 24) X dX3_tenths_17 (by decide) ?_
    exact xr_iret X rfl (xv (if_pos (by rw [xb_inj.mp c_7]; simp))) rfl rfl rfl rfl dX3_tenths_24
set_option maxRecDepth 100000 in
theorem c_tenths_4 {l : Launch} {Ω : xW} {h : xH} {sz : Nat} {a p w k : Nat} {lt b : Nat} {s9 : Bool} (ho : h a = some (.inr (1, [.int (nI p), .int (nI w), .int (nI k)]))) (hp : p < 6) (hw : w ≤ 5) (hk : k ≤ 9) (hl : lt < 64) (hb : b < 64) : xC l Ω yX5_tenths cX5_tenths 4 (some .int) 2 0 0 [.ref a, .int (nI lt), .int (nI b), .int (xb s9)] h sz (some (.int (if ((decide (k ≤ bcn lt 6)) == s9) = true then 10 else 0))) h (sz) := by
  refine xC_of (lv := [(0, .ref a), (1, .int (nI lt)), (2, .int (nI b)), (3, .int (xb s9))]) pn_X5 rfl rfl (fun Γ X hΓ hbs => ?_)
  have X : xX Γ Ω cX5_tenths 4 RX5 "tenths" (some .int) 2 70 0 0 := X
  subst hΓ
  refine xr_aload_n X 0 dX5_tenths_0 rfl rfl ?_
  refine xr_iload_n X 1 dX5_tenths_1 rfl rfl ?_
  refine xr_iload_n X 2 dX5_tenths_2 rfl rfl ?_
  refine xr_callU (y := yX1_doesIt) (x := ⟨"EvePost$Person", "doesIt", "(II)Z"⟩) (owner := "EvePost$Person") X ho rfl kw_766 kw_518 (Or.inl (by decide +kernel)) (by decide) rfl kw_526 kw_525 cw_X1_doesIt [.int (nI lt), .int (nI b)] (c_doesIt_4 (lt := lt) (b := b) ho (by omega) (by omega) (by omega) (by omega) (by omega)) rfl rfl rfl rfl rfl rfl rfl dX5_tenths_3 ?_
  refine xr_iload_n X 3 dX5_tenths_6 rfl rfl ?_
  refine xr_icmp_ne (tgt := 15) X dX5_tenths_7 (by decide) (fun c_7 => ?_) (fun c_7 => ?_)
  · refine xr_iconst (v := 0) X dX5_tenths_15 (by decide) ?_
    exact xr_iret X rfl (xv (if_neg (by rw [beq_eq_false_iff_ne.mpr (mt xb_inj.mpr c_7)]; decide))) rfl rfl rfl rfl dX5_tenths_16
  · refine xr_bipush (v := 10) X dX5_tenths_10 (by decide) ?_
    refine xr_goto (tgt := 16) X dX5_tenths_12 (by decide) ?_
    exact xr_iret X rfl (xv (if_pos (by rw [xb_inj.mp c_7]; simp))) rfl rfl rfl rfl dX5_tenths_16
set_option maxRecDepth 100000 in
theorem c_tenths_5 {l : Launch} {Ω : xW} {h : xH} {sz : Nat} {a p w k : Nat} {lt b : Nat} {s9 : Bool} (ho : h a = some (.inr (4, [.int (nI p), .int (nI w), .int (nI k)]))) (hp : p < 6) (hw : w ≤ 5) (hk : k ≤ 9) (hl : lt < 64) (hb : b < 64) : xC l Ω yX5_tenths cX5_tenths 4 (some .int) 2 0 0 [.ref a, .int (nI lt), .int (nI b), .int (xb s9)] h sz (some (.int (if (((lt.testBit w == b.testBit p)) == s9) = true then 10 else 0))) h (sz) := by
  refine xC_of (lv := [(0, .ref a), (1, .int (nI lt)), (2, .int (nI b)), (3, .int (xb s9))]) pn_X5 rfl rfl (fun Γ X hΓ hbs => ?_)
  have X : xX Γ Ω cX5_tenths 4 RX5 "tenths" (some .int) 2 70 0 0 := X
  subst hΓ
  refine xr_aload_n X 0 dX5_tenths_0 rfl rfl ?_
  refine xr_iload_n X 1 dX5_tenths_1 rfl rfl ?_
  refine xr_iload_n X 2 dX5_tenths_2 rfl rfl ?_
  refine xr_callU (y := yX4_doesIt) (x := ⟨"EvePost$Person", "doesIt", "(II)Z"⟩) (owner := "EvePost$Person") X ho rfl kw_766 kw_518 (Or.inl (by decide +kernel)) (by decide) rfl kw_539 kw_538 cw_X4_doesIt [.int (nI lt), .int (nI b)] (c_doesIt_5 (lt := lt) (b := b) ho (by omega) (by omega) (by omega) (by omega) (by omega)) rfl rfl rfl rfl rfl rfl rfl dX5_tenths_3 ?_
  refine xr_iload_n X 3 dX5_tenths_6 rfl rfl ?_
  refine xr_icmp_ne (tgt := 15) X dX5_tenths_7 (by decide) (fun c_7 => ?_) (fun c_7 => ?_)
  · refine xr_iconst (v := 0) X dX5_tenths_15 (by decide) ?_
    exact xr_iret X rfl (xv (if_neg (by rw [beq_eq_false_iff_ne.mpr (mt xb_inj.mpr c_7)]; decide))) rfl rfl rfl rfl dX5_tenths_16
  · refine xr_bipush (v := 10) X dX5_tenths_10 (by decide) ?_
    refine xr_goto (tgt := 16) X dX5_tenths_12 (by decide) ?_
    exact xr_iret X rfl (xv (if_pos (by rw [xb_inj.mp c_7]; simp))) rfl rfl rfl rfl dX5_tenths_16
set_option maxRecDepth 100000 in
theorem c_X3_turnsBy {l : Launch} {Ω : xW} {h : xH} {sz : Nat} {a p w k : Nat} {x : Nat} (ho : h a = some (.inr (3, [.int (nI p), .int (nI w), .int (nI k)]))) (hp : p < 6) (hw : w ≤ 5) (hk : k ≤ 9) (hx : x < 2147483647) : xC l Ω yX3_turnsBy cX3_turnsBy 3 (some .boolean) 0 0 0 [.ref a, .long (lN x)] h sz (some (.int (xb (decide (x % 10 < k))))) h (sz) := by
  refine xC_of (lv := [(0, .ref a), (1, .long (lN x))]) pn_X3 rfl rfl (fun Γ X hΓ hbs => ?_)
  have X : xX Γ Ω cX3_turnsBy 3 RX3 "turnsBy" (some .boolean) 0 0 0 0 := X
  subst hΓ
  refine xr_lload_n X 1 dX3_turnsBy_0 rfl rfl ?_
  refine xr_ldc2 (v := 10) X kw_634 dX3_turnsBy_1 ?_
  refine xr_lrem X dX3_turnsBy_4 (by decide) ?_
  refine xr_topl (y := (lN (x % 10))) (by rw [show (10 : Int64) = lN 10 from rfl, pk_lRem (by omega) (by omega) (by omega)]) ?_
  refine xr_aload_n X 0 dX3_turnsBy_5 rfl rfl ?_
  refine xr_get X fF_X3_15_3 ho rfl dX3_turnsBy_6 ?_
  refine xr_i2l X dX3_turnsBy_9 ?_
  refine xr_lcmp X dX3_turnsBy_10 ?_
  refine xr_if_ge (tgt := 18) X dX3_turnsBy_11 (by decide) (fun c_11 => ?_) (fun c_11 => ?_)
  · have c2 := lgc_ge.mp c_11
    rw [i32_l, nI_toInt (by omega), lN_toInt (by omega)] at c2
    refine xr_iconst (v := 0) X dX3_turnsBy_18 (by decide) ?_
    exact xr_zret X rfl rfl (by first | exact xbT (by omega) | exact xbF (by omega)) rfl rfl rfl rfl dX3_turnsBy_19
  · have c2 := mt lgc_ge.mpr c_11
    rw [i32_l, nI_toInt (by omega), lN_toInt (by omega)] at c2
    refine xr_iconst (v := 1) X dX3_turnsBy_14 (by decide) ?_
    refine xr_goto (tgt := 19) X dX3_turnsBy_15 (by decide) ?_
    exact xr_zret X rfl rfl (by first | exact xbT (by omega) | exact xbF (by omega)) rfl rfl rfl rfl dX3_turnsBy_19
set_option maxRecDepth 100000 in
theorem c_X5_size_1 {l : Launch} {Ω : xW} {h : xH} {sz : Nat} {a p w k : Nat} {e : Nat} {x : trS} (ho : h a = some (.inr (9, [.int (nI p), .int (nI w), .int (nI k)]))) (hto : h (e + 28) = some (.inr (8, [.ref (e + 29), .int (nI x.2)]))) (htl : h (e + 29) = some (.inl (.int, 16, .inl x.1))) (hx : x.2 ≤ 16) (hne : e + 30 ≤ a) : xC l Ω yX5_size cX5_size 2 (some .int) 1 0 0 [.ref a, .ref (e + 28)] h sz (some (.int (nI k))) (xu (xu h (e + 28) (.inr (8, [.ref (e + 29), .int (nI (bg x 10).2)]))) (e + 29) (.inl (.int, 16, .inl ((bg x 10).1)))) (sz) := by
  refine xC_of (lv := [(0, .ref a), (1, .ref (e + 28))]) pn_X5 rfl rfl (fun Γ X hΓ hbs => ?_)
  have X : xX Γ Ω cX5_size 2 RX5 "size" (some .int) 1 35 0 0 := X
  subst hΓ
  refine xr_aload_n X 1 dX5_size_0 rfl rfl ?_
  refine xr_bipush (v := 10) X dX5_size_1 (by decide) ?_
  refine xr_callV X hto rfl kw_895 kw_870 kw_871 cw_X9_leave [.int 10] (c_X9_leave (x := x) hto htl hx) rfl rfl rfl rfl rfl rfl rfl dX5_size_3 ?_
  refine xr_aload_n X 0 dX5_size_6 rfl rfl ?_
  refine xr_get X fF_X5_16_9 (xu_at (by omega) (xu_at (by omega) ho)) rfl dX5_size_7 ?_
  exact xr_iret X rfl rfl rfl rfl rfl rfl dX5_size_10
set_option maxRecDepth 100000 in
theorem c_X5_size_2 {l : Launch} {Ω : xW} {h : xH} {sz : Nat} {a p w k : Nat} {e : Nat} {x : trS} (ho : h a = some (.inr (0, [.int (nI p), .int (nI w), .int (nI k)]))) (hto : h (e + 28) = some (.inr (8, [.ref (e + 29), .int (nI x.2)]))) (htl : h (e + 29) = some (.inl (.int, 16, .inl x.1))) (hx : x.2 ≤ 16) (hne : e + 30 ≤ a) : xC l Ω yX5_size cX5_size 2 (some .int) 1 0 0 [.ref a, .ref (e + 28)] h sz (some (.int (nI k))) (xu (xu h (e + 28) (.inr (8, [.ref (e + 29), .int (nI (bg x 10).2)]))) (e + 29) (.inl (.int, 16, .inl ((bg x 10).1)))) (sz) := by
  refine xC_of (lv := [(0, .ref a), (1, .ref (e + 28))]) pn_X5 rfl rfl (fun Γ X hΓ hbs => ?_)
  have X : xX Γ Ω cX5_size 2 RX5 "size" (some .int) 1 35 0 0 := X
  subst hΓ
  refine xr_aload_n X 1 dX5_size_0 rfl rfl ?_
  refine xr_bipush (v := 10) X dX5_size_1 (by decide) ?_
  refine xr_callV X hto rfl kw_895 kw_870 kw_871 cw_X9_leave [.int 10] (c_X9_leave (x := x) hto htl hx) rfl rfl rfl rfl rfl rfl rfl dX5_size_3 ?_
  refine xr_aload_n X 0 dX5_size_6 rfl rfl ?_
  refine xr_get X fF_X5_16_0 (xu_at (by omega) (xu_at (by omega) ho)) rfl dX5_size_7 ?_
  exact xr_iret X rfl rfl rfl rfl rfl rfl dX5_size_10
set_option maxRecDepth 100000 in
theorem c_X5_size_3 {l : Launch} {Ω : xW} {h : xH} {sz : Nat} {a p w k : Nat} {e : Nat} {x : trS} (ho : h a = some (.inr (3, [.int (nI p), .int (nI w), .int (nI k)]))) (hto : h (e + 28) = some (.inr (8, [.ref (e + 29), .int (nI x.2)]))) (htl : h (e + 29) = some (.inl (.int, 16, .inl x.1))) (hx : x.2 ≤ 16) (hne : e + 30 ≤ a) : xC l Ω yX5_size cX5_size 2 (some .int) 1 0 0 [.ref a, .ref (e + 28)] h sz (some (.int (nI k))) (xu (xu h (e + 28) (.inr (8, [.ref (e + 29), .int (nI (bg x 10).2)]))) (e + 29) (.inl (.int, 16, .inl ((bg x 10).1)))) (sz) := by
  refine xC_of (lv := [(0, .ref a), (1, .ref (e + 28))]) pn_X5 rfl rfl (fun Γ X hΓ hbs => ?_)
  have X : xX Γ Ω cX5_size 2 RX5 "size" (some .int) 1 35 0 0 := X
  subst hΓ
  refine xr_aload_n X 1 dX5_size_0 rfl rfl ?_
  refine xr_bipush (v := 10) X dX5_size_1 (by decide) ?_
  refine xr_callV X hto rfl kw_895 kw_870 kw_871 cw_X9_leave [.int 10] (c_X9_leave (x := x) hto htl hx) rfl rfl rfl rfl rfl rfl rfl dX5_size_3 ?_
  refine xr_aload_n X 0 dX5_size_6 rfl rfl ?_
  refine xr_get X fF_X5_16_3 (xu_at (by omega) (xu_at (by omega) ho)) rfl dX5_size_7 ?_
  exact xr_iret X rfl rfl rfl rfl rfl rfl dX5_size_10
set_option maxRecDepth 100000 in
theorem c_X5_size_4 {l : Launch} {Ω : xW} {h : xH} {sz : Nat} {a p w k : Nat} {e : Nat} {x : trS} (ho : h a = some (.inr (1, [.int (nI p), .int (nI w), .int (nI k)]))) (hto : h (e + 28) = some (.inr (8, [.ref (e + 29), .int (nI x.2)]))) (htl : h (e + 29) = some (.inl (.int, 16, .inl x.1))) (hx : x.2 ≤ 16) (hne : e + 30 ≤ a) : xC l Ω yX5_size cX5_size 2 (some .int) 1 0 0 [.ref a, .ref (e + 28)] h sz (some (.int (nI k))) (xu (xu h (e + 28) (.inr (8, [.ref (e + 29), .int (nI (bg x 10).2)]))) (e + 29) (.inl (.int, 16, .inl ((bg x 10).1)))) (sz) := by
  refine xC_of (lv := [(0, .ref a), (1, .ref (e + 28))]) pn_X5 rfl rfl (fun Γ X hΓ hbs => ?_)
  have X : xX Γ Ω cX5_size 2 RX5 "size" (some .int) 1 35 0 0 := X
  subst hΓ
  refine xr_aload_n X 1 dX5_size_0 rfl rfl ?_
  refine xr_bipush (v := 10) X dX5_size_1 (by decide) ?_
  refine xr_callV X hto rfl kw_895 kw_870 kw_871 cw_X9_leave [.int 10] (c_X9_leave (x := x) hto htl hx) rfl rfl rfl rfl rfl rfl rfl dX5_size_3 ?_
  refine xr_aload_n X 0 dX5_size_6 rfl rfl ?_
  refine xr_get X fF_X5_16_1 (xu_at (by omega) (xu_at (by omega) ho)) rfl dX5_size_7 ?_
  exact xr_iret X rfl rfl rfl rfl rfl rfl dX5_size_10
set_option maxRecDepth 100000 in
theorem c_X5_size_5 {l : Launch} {Ω : xW} {h : xH} {sz : Nat} {a p w k : Nat} {e : Nat} {x : trS} (ho : h a = some (.inr (4, [.int (nI p), .int (nI w), .int (nI k)]))) (hto : h (e + 28) = some (.inr (8, [.ref (e + 29), .int (nI x.2)]))) (htl : h (e + 29) = some (.inl (.int, 16, .inl x.1))) (hx : x.2 ≤ 16) (hne : e + 30 ≤ a) : xC l Ω yX5_size cX5_size 2 (some .int) 1 0 0 [.ref a, .ref (e + 28)] h sz (some (.int (nI k))) (xu (xu h (e + 28) (.inr (8, [.ref (e + 29), .int (nI (bg x 10).2)]))) (e + 29) (.inl (.int, 16, .inl ((bg x 10).1)))) (sz) := by
  refine xC_of (lv := [(0, .ref a), (1, .ref (e + 28))]) pn_X5 rfl rfl (fun Γ X hΓ hbs => ?_)
  have X : xX Γ Ω cX5_size 2 RX5 "size" (some .int) 1 35 0 0 := X
  subst hΓ
  refine xr_aload_n X 1 dX5_size_0 rfl rfl ?_
  refine xr_bipush (v := 10) X dX5_size_1 (by decide) ?_
  refine xr_callV X hto rfl kw_895 kw_870 kw_871 cw_X9_leave [.int 10] (c_X9_leave (x := x) hto htl hx) rfl rfl rfl rfl rfl rfl rfl dX5_size_3 ?_
  refine xr_aload_n X 0 dX5_size_6 rfl rfl ?_
  refine xr_get X fF_X5_16_4 (xu_at (by omega) (xu_at (by omega) ho)) rfl dX5_size_7 ?_
  exact xr_iret X rfl rfl rfl rfl rfl rfl dX5_size_10
set_option maxRecDepth 100000 in
theorem c_X5_mark_1 {l : Launch} {Ω : xW} {h : xH} {sz : Nat} {a p w k : Nat} {e : Nat} {x : trS} (ho : h a = some (.inr (9, [.int (nI p), .int (nI w), .int (nI k)]))) (hto : h (e + 28) = some (.inr (8, [.ref (e + 29), .int (nI x.2)]))) (htl : h (e + 29) = some (.inl (.int, 16, .inl x.1))) (hx : x.2 ≤ 16) (hne : e + 30 ≤ a) : xC l Ω yX5_mark cX5_mark 2 (some .int) 1 0 0 [.ref a, .ref (e + 28)] h sz (some (.int (nI p))) (xu (xu h (e + 28) (.inr (8, [.ref (e + 29), .int (nI (bg x 20).2)]))) (e + 29) (.inl (.int, 16, .inl ((bg x 20).1)))) (sz) := by
  refine xC_of (lv := [(0, .ref a), (1, .ref (e + 28))]) pn_X5 rfl rfl (fun Γ X hΓ hbs => ?_)
  have X : xX Γ Ω cX5_mark 2 RX5 "mark" (some .int) 1 35 0 0 := X
  subst hΓ
  refine xr_aload_n X 1 dX5_mark_0 rfl rfl ?_
  refine xr_bipush (v := 20) X dX5_mark_1 (by decide) ?_
  refine xr_callV X hto rfl kw_895 kw_870 kw_871 cw_X9_leave [.int 20] (c_X9_leave (x := x) hto htl hx) rfl rfl rfl rfl rfl rfl rfl dX5_mark_3 ?_
  refine xr_aload_n X 0 dX5_mark_6 rfl rfl ?_
  refine xr_get X fF_X5_7_9 (xu_at (by omega) (xu_at (by omega) ho)) rfl dX5_mark_7 ?_
  exact xr_iret X rfl rfl rfl rfl rfl rfl dX5_mark_10
set_option maxRecDepth 100000 in
theorem c_X5_mark_2 {l : Launch} {Ω : xW} {h : xH} {sz : Nat} {a p w k : Nat} {e : Nat} {x : trS} (ho : h a = some (.inr (0, [.int (nI p), .int (nI w), .int (nI k)]))) (hto : h (e + 28) = some (.inr (8, [.ref (e + 29), .int (nI x.2)]))) (htl : h (e + 29) = some (.inl (.int, 16, .inl x.1))) (hx : x.2 ≤ 16) (hne : e + 30 ≤ a) : xC l Ω yX5_mark cX5_mark 2 (some .int) 1 0 0 [.ref a, .ref (e + 28)] h sz (some (.int (nI p))) (xu (xu h (e + 28) (.inr (8, [.ref (e + 29), .int (nI (bg x 20).2)]))) (e + 29) (.inl (.int, 16, .inl ((bg x 20).1)))) (sz) := by
  refine xC_of (lv := [(0, .ref a), (1, .ref (e + 28))]) pn_X5 rfl rfl (fun Γ X hΓ hbs => ?_)
  have X : xX Γ Ω cX5_mark 2 RX5 "mark" (some .int) 1 35 0 0 := X
  subst hΓ
  refine xr_aload_n X 1 dX5_mark_0 rfl rfl ?_
  refine xr_bipush (v := 20) X dX5_mark_1 (by decide) ?_
  refine xr_callV X hto rfl kw_895 kw_870 kw_871 cw_X9_leave [.int 20] (c_X9_leave (x := x) hto htl hx) rfl rfl rfl rfl rfl rfl rfl dX5_mark_3 ?_
  refine xr_aload_n X 0 dX5_mark_6 rfl rfl ?_
  refine xr_get X fF_X5_7_0 (xu_at (by omega) (xu_at (by omega) ho)) rfl dX5_mark_7 ?_
  exact xr_iret X rfl rfl rfl rfl rfl rfl dX5_mark_10
set_option maxRecDepth 100000 in
theorem c_X5_mark_3 {l : Launch} {Ω : xW} {h : xH} {sz : Nat} {a p w k : Nat} {e : Nat} {x : trS} (ho : h a = some (.inr (3, [.int (nI p), .int (nI w), .int (nI k)]))) (hto : h (e + 28) = some (.inr (8, [.ref (e + 29), .int (nI x.2)]))) (htl : h (e + 29) = some (.inl (.int, 16, .inl x.1))) (hx : x.2 ≤ 16) (hne : e + 30 ≤ a) : xC l Ω yX5_mark cX5_mark 2 (some .int) 1 0 0 [.ref a, .ref (e + 28)] h sz (some (.int (nI p))) (xu (xu h (e + 28) (.inr (8, [.ref (e + 29), .int (nI (bg x 20).2)]))) (e + 29) (.inl (.int, 16, .inl ((bg x 20).1)))) (sz) := by
  refine xC_of (lv := [(0, .ref a), (1, .ref (e + 28))]) pn_X5 rfl rfl (fun Γ X hΓ hbs => ?_)
  have X : xX Γ Ω cX5_mark 2 RX5 "mark" (some .int) 1 35 0 0 := X
  subst hΓ
  refine xr_aload_n X 1 dX5_mark_0 rfl rfl ?_
  refine xr_bipush (v := 20) X dX5_mark_1 (by decide) ?_
  refine xr_callV X hto rfl kw_895 kw_870 kw_871 cw_X9_leave [.int 20] (c_X9_leave (x := x) hto htl hx) rfl rfl rfl rfl rfl rfl rfl dX5_mark_3 ?_
  refine xr_aload_n X 0 dX5_mark_6 rfl rfl ?_
  refine xr_get X fF_X5_7_3 (xu_at (by omega) (xu_at (by omega) ho)) rfl dX5_mark_7 ?_
  exact xr_iret X rfl rfl rfl rfl rfl rfl dX5_mark_10
set_option maxRecDepth 100000 in
theorem c_X5_mark_4 {l : Launch} {Ω : xW} {h : xH} {sz : Nat} {a p w k : Nat} {e : Nat} {x : trS} (ho : h a = some (.inr (1, [.int (nI p), .int (nI w), .int (nI k)]))) (hto : h (e + 28) = some (.inr (8, [.ref (e + 29), .int (nI x.2)]))) (htl : h (e + 29) = some (.inl (.int, 16, .inl x.1))) (hx : x.2 ≤ 16) (hne : e + 30 ≤ a) : xC l Ω yX5_mark cX5_mark 2 (some .int) 1 0 0 [.ref a, .ref (e + 28)] h sz (some (.int (nI p))) (xu (xu h (e + 28) (.inr (8, [.ref (e + 29), .int (nI (bg x 20).2)]))) (e + 29) (.inl (.int, 16, .inl ((bg x 20).1)))) (sz) := by
  refine xC_of (lv := [(0, .ref a), (1, .ref (e + 28))]) pn_X5 rfl rfl (fun Γ X hΓ hbs => ?_)
  have X : xX Γ Ω cX5_mark 2 RX5 "mark" (some .int) 1 35 0 0 := X
  subst hΓ
  refine xr_aload_n X 1 dX5_mark_0 rfl rfl ?_
  refine xr_bipush (v := 20) X dX5_mark_1 (by decide) ?_
  refine xr_callV X hto rfl kw_895 kw_870 kw_871 cw_X9_leave [.int 20] (c_X9_leave (x := x) hto htl hx) rfl rfl rfl rfl rfl rfl rfl dX5_mark_3 ?_
  refine xr_aload_n X 0 dX5_mark_6 rfl rfl ?_
  refine xr_get X fF_X5_7_1 (xu_at (by omega) (xu_at (by omega) ho)) rfl dX5_mark_7 ?_
  exact xr_iret X rfl rfl rfl rfl rfl rfl dX5_mark_10
set_option maxRecDepth 100000 in
theorem c_X5_mark_5 {l : Launch} {Ω : xW} {h : xH} {sz : Nat} {a p w k : Nat} {e : Nat} {x : trS} (ho : h a = some (.inr (4, [.int (nI p), .int (nI w), .int (nI k)]))) (hto : h (e + 28) = some (.inr (8, [.ref (e + 29), .int (nI x.2)]))) (htl : h (e + 29) = some (.inl (.int, 16, .inl x.1))) (hx : x.2 ≤ 16) (hne : e + 30 ≤ a) : xC l Ω yX5_mark cX5_mark 2 (some .int) 1 0 0 [.ref a, .ref (e + 28)] h sz (some (.int (nI p))) (xu (xu h (e + 28) (.inr (8, [.ref (e + 29), .int (nI (bg x 20).2)]))) (e + 29) (.inl (.int, 16, .inl ((bg x 20).1)))) (sz) := by
  refine xC_of (lv := [(0, .ref a), (1, .ref (e + 28))]) pn_X5 rfl rfl (fun Γ X hΓ hbs => ?_)
  have X : xX Γ Ω cX5_mark 2 RX5 "mark" (some .int) 1 35 0 0 := X
  subst hΓ
  refine xr_aload_n X 1 dX5_mark_0 rfl rfl ?_
  refine xr_bipush (v := 20) X dX5_mark_1 (by decide) ?_
  refine xr_callV X hto rfl kw_895 kw_870 kw_871 cw_X9_leave [.int 20] (c_X9_leave (x := x) hto htl hx) rfl rfl rfl rfl rfl rfl rfl dX5_mark_3 ?_
  refine xr_aload_n X 0 dX5_mark_6 rfl rfl ?_
  refine xr_get X fF_X5_7_4 (xu_at (by omega) (xu_at (by omega) ho)) rfl dX5_mark_7 ?_
  exact xr_iret X rfl rfl rfl rfl rfl rfl dX5_mark_10
set_option maxRecDepth 100000 in
theorem c_X10_mark_1 {l : Launch} {Ω : xW} {h : xH} {sz : Nat} {a p w k : Nat} {e : Nat} {x : trS} (ho : h a = some (.inr (9, [.int (nI p), .int (nI w), .int (nI k)]))) (hto : h (e + 28) = some (.inr (8, [.ref (e + 29), .int (nI x.2)]))) (htl : h (e + 29) = some (.inl (.int, 16, .inl x.1))) (hx : x.2 ≤ 16) (hne : e + 30 ≤ a) : xC l Ω yX10_mark cX10_mark 2 (some .int) 2 0 0 [.ref a, .ref (e + 28)] h sz (some (.int (nI p + nI w))) (xu (xu h (e + 28) (.inr (8, [.ref (e + 29), .int (nI (bg (bg x 21) 20).2)]))) (e + 29) (.inl (.int, 16, .inl ((bg (bg x 21) 20).1)))) (sz) := by
  refine xC_of (lv := [(0, .ref a), (1, .ref (e + 28))]) pn_X10 rfl rfl (fun Γ X hΓ hbs => ?_)
  have X : xX Γ Ω cX10_mark 2 RX10 "mark" (some .int) 2 70 0 0 := X
  subst hΓ
  refine xr_aload_n X 1 dX10_mark_0 rfl rfl ?_
  refine xr_bipush (v := 21) X dX10_mark_1 (by decide) ?_
  refine xr_callV X hto rfl kw_876 kw_870 kw_871 cw_X9_leave [.int 21] (c_X9_leave (x := x) hto htl hx) rfl rfl rfl rfl rfl rfl rfl dX10_mark_3 ?_
  refine xr_aload_n X 0 dX10_mark_6 rfl rfl ?_
  refine xr_aload_n X 1 dX10_mark_7 rfl rfl ?_
  refine xr_callSU X (xu_at (by omega) (xu_at (by omega) ho)) rfl kw_892 kw_1309 kw_442 kw_893 (by decide) cw_X5_mark [.ref (e + 28)] (c_X5_mark_1 (x := bg x 21) (xu_at (by omega) (xu_at (by omega) ho)) (xu_at (xne _ rfl) (xu_s _ _ _)) (xu_s _ _ _) (bg_le hx) (by omega)) rfl rfl rfl rfl rfl rfl rfl dX10_mark_8 ?_
  refine xr_heap (h' := (xu (xu h (e + 28) (.inr (8, [.ref (e + 29), .int (nI (bg (bg x 21) 20).2)]))) (e + 29) (.inl (.int, 16, .inl ((bg (bg x 21) 20).1))))) (xu_22 (xne _ rfl) _ _ _ _) ?_
  refine xr_aload_n X 0 dX10_mark_11 rfl rfl ?_
  refine xr_get X fF_X10_7_9 (xu_at (by omega) (xu_at (by omega) ho)) rfl dX10_mark_12 ?_
  refine xr_iadd X dX10_mark_15 ?_
  exact xr_iret X rfl rfl rfl rfl rfl rfl dX10_mark_16
set_option maxRecDepth 100000 in
theorem c_X10_mark_2 {l : Launch} {Ω : xW} {h : xH} {sz : Nat} {a p w k : Nat} {e : Nat} {x : trS} (ho : h a = some (.inr (0, [.int (nI p), .int (nI w), .int (nI k)]))) (hto : h (e + 28) = some (.inr (8, [.ref (e + 29), .int (nI x.2)]))) (htl : h (e + 29) = some (.inl (.int, 16, .inl x.1))) (hx : x.2 ≤ 16) (hne : e + 30 ≤ a) : xC l Ω yX10_mark cX10_mark 2 (some .int) 2 0 0 [.ref a, .ref (e + 28)] h sz (some (.int (nI p + nI w))) (xu (xu h (e + 28) (.inr (8, [.ref (e + 29), .int (nI (bg (bg x 21) 20).2)]))) (e + 29) (.inl (.int, 16, .inl ((bg (bg x 21) 20).1)))) (sz) := by
  refine xC_of (lv := [(0, .ref a), (1, .ref (e + 28))]) pn_X10 rfl rfl (fun Γ X hΓ hbs => ?_)
  have X : xX Γ Ω cX10_mark 2 RX10 "mark" (some .int) 2 70 0 0 := X
  subst hΓ
  refine xr_aload_n X 1 dX10_mark_0 rfl rfl ?_
  refine xr_bipush (v := 21) X dX10_mark_1 (by decide) ?_
  refine xr_callV X hto rfl kw_876 kw_870 kw_871 cw_X9_leave [.int 21] (c_X9_leave (x := x) hto htl hx) rfl rfl rfl rfl rfl rfl rfl dX10_mark_3 ?_
  refine xr_aload_n X 0 dX10_mark_6 rfl rfl ?_
  refine xr_aload_n X 1 dX10_mark_7 rfl rfl ?_
  refine xr_callSU X (xu_at (by omega) (xu_at (by omega) ho)) rfl kw_892 kw_1309 kw_442 kw_893 (by decide) cw_X5_mark [.ref (e + 28)] (c_X5_mark_2 (x := bg x 21) (xu_at (by omega) (xu_at (by omega) ho)) (xu_at (xne _ rfl) (xu_s _ _ _)) (xu_s _ _ _) (bg_le hx) (by omega)) rfl rfl rfl rfl rfl rfl rfl dX10_mark_8 ?_
  refine xr_heap (h' := (xu (xu h (e + 28) (.inr (8, [.ref (e + 29), .int (nI (bg (bg x 21) 20).2)]))) (e + 29) (.inl (.int, 16, .inl ((bg (bg x 21) 20).1))))) (xu_22 (xne _ rfl) _ _ _ _) ?_
  refine xr_aload_n X 0 dX10_mark_11 rfl rfl ?_
  refine xr_get X fF_X10_7_0 (xu_at (by omega) (xu_at (by omega) ho)) rfl dX10_mark_12 ?_
  refine xr_iadd X dX10_mark_15 ?_
  exact xr_iret X rfl rfl rfl rfl rfl rfl dX10_mark_16
set_option maxRecDepth 100000 in
theorem c_X10_mark_3 {l : Launch} {Ω : xW} {h : xH} {sz : Nat} {a p w k : Nat} {e : Nat} {x : trS} (ho : h a = some (.inr (3, [.int (nI p), .int (nI w), .int (nI k)]))) (hto : h (e + 28) = some (.inr (8, [.ref (e + 29), .int (nI x.2)]))) (htl : h (e + 29) = some (.inl (.int, 16, .inl x.1))) (hx : x.2 ≤ 16) (hne : e + 30 ≤ a) : xC l Ω yX10_mark cX10_mark 2 (some .int) 2 0 0 [.ref a, .ref (e + 28)] h sz (some (.int (nI p + nI w))) (xu (xu h (e + 28) (.inr (8, [.ref (e + 29), .int (nI (bg (bg x 21) 20).2)]))) (e + 29) (.inl (.int, 16, .inl ((bg (bg x 21) 20).1)))) (sz) := by
  refine xC_of (lv := [(0, .ref a), (1, .ref (e + 28))]) pn_X10 rfl rfl (fun Γ X hΓ hbs => ?_)
  have X : xX Γ Ω cX10_mark 2 RX10 "mark" (some .int) 2 70 0 0 := X
  subst hΓ
  refine xr_aload_n X 1 dX10_mark_0 rfl rfl ?_
  refine xr_bipush (v := 21) X dX10_mark_1 (by decide) ?_
  refine xr_callV X hto rfl kw_876 kw_870 kw_871 cw_X9_leave [.int 21] (c_X9_leave (x := x) hto htl hx) rfl rfl rfl rfl rfl rfl rfl dX10_mark_3 ?_
  refine xr_aload_n X 0 dX10_mark_6 rfl rfl ?_
  refine xr_aload_n X 1 dX10_mark_7 rfl rfl ?_
  refine xr_callSU X (xu_at (by omega) (xu_at (by omega) ho)) rfl kw_892 kw_1309 kw_442 kw_893 (by decide) cw_X5_mark [.ref (e + 28)] (c_X5_mark_3 (x := bg x 21) (xu_at (by omega) (xu_at (by omega) ho)) (xu_at (xne _ rfl) (xu_s _ _ _)) (xu_s _ _ _) (bg_le hx) (by omega)) rfl rfl rfl rfl rfl rfl rfl dX10_mark_8 ?_
  refine xr_heap (h' := (xu (xu h (e + 28) (.inr (8, [.ref (e + 29), .int (nI (bg (bg x 21) 20).2)]))) (e + 29) (.inl (.int, 16, .inl ((bg (bg x 21) 20).1))))) (xu_22 (xne _ rfl) _ _ _ _) ?_
  refine xr_aload_n X 0 dX10_mark_11 rfl rfl ?_
  refine xr_get X fF_X10_7_3 (xu_at (by omega) (xu_at (by omega) ho)) rfl dX10_mark_12 ?_
  refine xr_iadd X dX10_mark_15 ?_
  exact xr_iret X rfl rfl rfl rfl rfl rfl dX10_mark_16
set_option maxRecDepth 100000 in
theorem c_X0_mark_2 {l : Launch} {Ω : xW} {h : xH} {sz : Nat} {a p w k : Nat} {e : Nat} {x : trS} (ho : h a = some (.inr (0, [.int (nI p), .int (nI w), .int (nI k)]))) (hto : h (e + 28) = some (.inr (8, [.ref (e + 29), .int (nI x.2)]))) (htl : h (e + 29) = some (.inl (.int, 16, .inl x.1))) (hx : x.2 ≤ 16) (hne : e + 30 ≤ a) : xC l Ω yX0_mark cX0_mark 2 (some .int) 3 0 0 [.ref a, .ref (e + 28)] h sz (some (.int (2 * (nI p + nI w)))) (xu (xu h (e + 28) (.inr (8, [.ref (e + 29), .int (nI (bg (bg (bg x 24) 21) 20).2)]))) (e + 29) (.inl (.int, 16, .inl ((bg (bg (bg x 24) 21) 20).1)))) (sz) := by
  refine xC_of (lv := [(0, .ref a), (1, .ref (e + 28))]) pn_X0 rfl rfl (fun Γ X hΓ hbs => ?_)
  have X : xX Γ Ω cX0_mark 2 RX0 "mark" (some .int) 3 105 0 0 := X
  subst hΓ
  refine xr_aload_n X 1 dX0_mark_0 rfl rfl ?_
  refine xr_bipush (v := 24) X dX0_mark_1 (by decide) ?_
  refine xr_callV X hto rfl kw_869 kw_870 kw_871 cw_X9_leave [.int 24] (c_X9_leave (x := x) hto htl hx) rfl rfl rfl rfl rfl rfl rfl dX0_mark_3 ?_
  refine xr_iconst (v := 2) X dX0_mark_6 (by decide) ?_
  refine xr_aload_n X 0 dX0_mark_7 rfl rfl ?_
  refine xr_aload_n X 1 dX0_mark_8 rfl rfl ?_
  refine xr_callSU X (xu_at (by omega) (xu_at (by omega) ho)) rfl kw_885 kw_881 kw_452 kw_879 (by decide) cw_X10_mark [.ref (e + 28)] (c_X10_mark_2 (x := bg x 24) (xu_at (by omega) (xu_at (by omega) ho)) (xu_at (xne _ rfl) (xu_s _ _ _)) (xu_s _ _ _) (bg_le hx) (by omega)) rfl rfl rfl rfl rfl rfl rfl dX0_mark_9 ?_
  refine xr_heap (h' := (xu (xu h (e + 28) (.inr (8, [.ref (e + 29), .int (nI (bg (bg (bg x 24) 21) 20).2)]))) (e + 29) (.inl (.int, 16, .inl ((bg (bg (bg x 24) 21) 20).1))))) (xu_22 (xne _ rfl) _ _ _ _) ?_
  refine xr_imul X dX0_mark_12 ?_
  exact xr_iret X rfl rfl rfl rfl rfl rfl dX0_mark_13
set_option maxRecDepth 100000 in
theorem c_X3_mark_3 {l : Launch} {Ω : xW} {h : xH} {sz : Nat} {a p w k : Nat} {e : Nat} {x : trS} (ho : h a = some (.inr (3, [.int (nI p), .int (nI w), .int (nI k)]))) (hto : h (e + 28) = some (.inr (8, [.ref (e + 29), .int (nI x.2)]))) (htl : h (e + 29) = some (.inl (.int, 16, .inl x.1))) (hx : x.2 ≤ 16) (hne : e + 30 ≤ a) : xC l Ω yX3_mark cX3_mark 2 (some .int) 3 0 0 [.ref a, .ref (e + 28)] h sz (some (.int ((nI p + nI w) - 1000))) (xu (xu h (e + 28) (.inr (8, [.ref (e + 29), .int (nI (bg (bg (bg x 22) 21) 20).2)]))) (e + 29) (.inl (.int, 16, .inl ((bg (bg (bg x 22) 21) 20).1)))) (sz) := by
  refine xC_of (lv := [(0, .ref a), (1, .ref (e + 28))]) pn_X3 rfl rfl (fun Γ X hΓ hbs => ?_)
  have X : xX Γ Ω cX3_mark 2 RX3 "mark" (some .int) 3 105 0 0 := X
  subst hΓ
  refine xr_aload_n X 1 dX3_mark_0 rfl rfl ?_
  refine xr_bipush (v := 22) X dX3_mark_1 (by decide) ?_
  refine xr_callV X hto rfl kw_889 kw_870 kw_871 cw_X9_leave [.int 22] (c_X9_leave (x := x) hto htl hx) rfl rfl rfl rfl rfl rfl rfl dX3_mark_3 ?_
  refine xr_aload_n X 0 dX3_mark_6 rfl rfl ?_
  refine xr_aload_n X 1 dX3_mark_7 rfl rfl ?_
  refine xr_callSU X (xu_at (by omega) (xu_at (by omega) ho)) rfl kw_890 kw_881 kw_462 kw_879 (by decide) cw_X10_mark [.ref (e + 28)] (c_X10_mark_3 (x := bg x 22) (xu_at (by omega) (xu_at (by omega) ho)) (xu_at (xne _ rfl) (xu_s _ _ _)) (xu_s _ _ _) (bg_le hx) (by omega)) rfl rfl rfl rfl rfl rfl rfl dX3_mark_8 ?_
  refine xr_heap (h' := (xu (xu h (e + 28) (.inr (8, [.ref (e + 29), .int (nI (bg (bg (bg x 22) 21) 20).2)]))) (e + 29) (.inl (.int, 16, .inl ((bg (bg (bg x 22) 21) 20).1))))) (xu_22 (xne _ rfl) _ _ _ _) ?_
  refine xr_sipush (v := 1000) X dX3_mark_11 (by decide) ?_
  refine xr_isub X dX3_mark_14 ?_
  exact xr_iret X rfl rfl rfl rfl rfl rfl dX3_mark_15
set_option maxRecDepth 100000 in
theorem c_X10_size_1 {l : Launch} {Ω : xW} {h : xH} {sz : Nat} {a p w k : Nat} {e : Nat} {x : trS} (ho : h a = some (.inr (9, [.int (nI p), .int (nI w), .int (nI k)]))) (hto : h (e + 28) = some (.inr (8, [.ref (e + 29), .int (nI x.2)]))) (htl : h (e + 29) = some (.inl (.int, 16, .inl x.1))) (hx : x.2 ≤ 16) (hne : e + 30 ≤ a) : xC l Ω yX10_size cX10_size 3 (some .int) 4 0 0 [.ref a, .ref (e + 28)] h sz (some (.int (nI k + (nI p + nI w)))) (xu (xu h (e + 28) (.inr (8, [.ref (e + 29), .int (nI (bg (bg (bg (bg x 11) 10) 21) 20).2)]))) (e + 29) (.inl (.int, 16, .inl ((bg (bg (bg (bg x 11) 10) 21) 20).1)))) (sz) := by
  refine xC_of (lv := [(0, .ref a), (1, .ref (e + 28))]) pn_X10 rfl rfl (fun Γ X hΓ hbs => ?_)
  have X : xX Γ Ω cX10_size 3 RX10 "size" (some .int) 4 140 0 0 := X
  subst hΓ
  refine xr_aload_n X 1 dX10_size_0 rfl rfl ?_
  refine xr_bipush (v := 11) X dX10_size_1 (by decide) ?_
  refine xr_callV X hto rfl kw_876 kw_870 kw_871 cw_X9_leave [.int 11] (c_X9_leave (x := x) hto htl hx) rfl rfl rfl rfl rfl rfl rfl dX10_size_3 ?_
  refine xr_aload_n X 0 dX10_size_6 rfl rfl ?_
  refine xr_aload_n X 1 dX10_size_7 rfl rfl ?_
  refine xr_callSU X (xu_at (by omega) (xu_at (by omega) ho)) rfl kw_877 kw_865 kw_442 kw_864 (by decide) cw_X5_size [.ref (e + 28)] (c_X5_size_1 (x := bg x 11) (xu_at (by omega) (xu_at (by omega) ho)) (xu_at (xne _ rfl) (xu_s _ _ _)) (xu_s _ _ _) (bg_le hx) (by omega)) rfl rfl rfl rfl rfl rfl rfl dX10_size_8 ?_
  refine xr_heap (h' := (xu (xu h (e + 28) (.inr (8, [.ref (e + 29), .int (nI (bg (bg x 11) 10).2)]))) (e + 29) (.inl (.int, 16, .inl ((bg (bg x 11) 10).1))))) (xu_22 (xne _ rfl) _ _ _ _) ?_
  refine xr_istore_n (lv' := [(2, .int (nI k)), (0, .ref a), (1, .ref (e + 28))]) X dX10_size_11 rfl rfl rfl ?_
  refine xr_iload_n X 0 dX10_size_12 rfl rfl ?_
  refine xr_aload_n X 1 dX10_size_13 rfl rfl ?_
  refine xr_aload_n X 2 dX10_size_14 rfl rfl ?_
  refine xr_callV X (xu_at (by omega) (xu_at (by omega) ho)) rfl kw_878 kw_879 kw_880 cw_X10_mark [.ref (e + 28)] (c_X10_mark_1 (x := bg (bg x 11) 10) (xu_at (by omega) (xu_at (by omega) ho)) (xu_at (xne _ rfl) (xu_s _ _ _)) (xu_s _ _ _) (bg_le (bg_le hx)) (by omega)) rfl rfl rfl rfl rfl rfl rfl dX10_size_15 ?_
  refine xr_heap (h' := (xu (xu h (e + 28) (.inr (8, [.ref (e + 29), .int (nI (bg (bg (bg (bg x 11) 10) 21) 20).2)]))) (e + 29) (.inl (.int, 16, .inl ((bg (bg (bg (bg x 11) 10) 21) 20).1))))) (xu_22 (xne _ rfl) _ _ _ _) ?_
  refine xr_iadd X dX10_size_18 ?_
  exact xr_iret X rfl rfl rfl rfl rfl rfl dX10_size_19
set_option maxRecDepth 100000 in
theorem c_X10_size_2 {l : Launch} {Ω : xW} {h : xH} {sz : Nat} {a p w k : Nat} {e : Nat} {x : trS} (ho : h a = some (.inr (0, [.int (nI p), .int (nI w), .int (nI k)]))) (hto : h (e + 28) = some (.inr (8, [.ref (e + 29), .int (nI x.2)]))) (htl : h (e + 29) = some (.inl (.int, 16, .inl x.1))) (hx : x.2 ≤ 16) (hne : e + 30 ≤ a) : xC l Ω yX10_size cX10_size 3 (some .int) 4 0 0 [.ref a, .ref (e + 28)] h sz (some (.int (nI k + (2 * (nI p + nI w))))) (xu (xu h (e + 28) (.inr (8, [.ref (e + 29), .int (nI (bg (bg (bg (bg (bg x 11) 10) 24) 21) 20).2)]))) (e + 29) (.inl (.int, 16, .inl ((bg (bg (bg (bg (bg x 11) 10) 24) 21) 20).1)))) (sz) := by
  refine xC_of (lv := [(0, .ref a), (1, .ref (e + 28))]) pn_X10 rfl rfl (fun Γ X hΓ hbs => ?_)
  have X : xX Γ Ω cX10_size 3 RX10 "size" (some .int) 4 140 0 0 := X
  subst hΓ
  refine xr_aload_n X 1 dX10_size_0 rfl rfl ?_
  refine xr_bipush (v := 11) X dX10_size_1 (by decide) ?_
  refine xr_callV X hto rfl kw_876 kw_870 kw_871 cw_X9_leave [.int 11] (c_X9_leave (x := x) hto htl hx) rfl rfl rfl rfl rfl rfl rfl dX10_size_3 ?_
  refine xr_aload_n X 0 dX10_size_6 rfl rfl ?_
  refine xr_aload_n X 1 dX10_size_7 rfl rfl ?_
  refine xr_callSU X (xu_at (by omega) (xu_at (by omega) ho)) rfl kw_877 kw_865 kw_442 kw_864 (by decide) cw_X5_size [.ref (e + 28)] (c_X5_size_2 (x := bg x 11) (xu_at (by omega) (xu_at (by omega) ho)) (xu_at (xne _ rfl) (xu_s _ _ _)) (xu_s _ _ _) (bg_le hx) (by omega)) rfl rfl rfl rfl rfl rfl rfl dX10_size_8 ?_
  refine xr_heap (h' := (xu (xu h (e + 28) (.inr (8, [.ref (e + 29), .int (nI (bg (bg x 11) 10).2)]))) (e + 29) (.inl (.int, 16, .inl ((bg (bg x 11) 10).1))))) (xu_22 (xne _ rfl) _ _ _ _) ?_
  refine xr_istore_n (lv' := [(2, .int (nI k)), (0, .ref a), (1, .ref (e + 28))]) X dX10_size_11 rfl rfl rfl ?_
  refine xr_iload_n X 0 dX10_size_12 rfl rfl ?_
  refine xr_aload_n X 1 dX10_size_13 rfl rfl ?_
  refine xr_aload_n X 2 dX10_size_14 rfl rfl ?_
  refine xr_callU (y := yX0_mark) (x := ⟨"EvePost$TrueOne", "mark", "(LEvePost$Trail;)I"⟩) (owner := "EvePost$TrueOne") X (xu_at (by omega) (xu_at (by omega) ho)) rfl kw_878 kw_881 (Or.inr ⟨_, _, _, kw_879, kw_891⟩) (by decide) rfl kw_883 kw_882 cw_X0_mark [.ref (e + 28)] (c_X0_mark_2 (x := bg (bg x 11) 10) (xu_at (by omega) (xu_at (by omega) ho)) (xu_at (xne _ rfl) (xu_s _ _ _)) (xu_s _ _ _) (bg_le (bg_le hx)) (by omega)) rfl rfl rfl rfl rfl rfl rfl dX10_size_15 ?_
  refine xr_heap (h' := (xu (xu h (e + 28) (.inr (8, [.ref (e + 29), .int (nI (bg (bg (bg (bg (bg x 11) 10) 24) 21) 20).2)]))) (e + 29) (.inl (.int, 16, .inl ((bg (bg (bg (bg (bg x 11) 10) 24) 21) 20).1))))) (xu_22 (xne _ rfl) _ _ _ _) ?_
  refine xr_iadd X dX10_size_18 ?_
  exact xr_iret X rfl rfl rfl rfl rfl rfl dX10_size_19
set_option maxRecDepth 100000 in
theorem c_X10_size_3 {l : Launch} {Ω : xW} {h : xH} {sz : Nat} {a p w k : Nat} {e : Nat} {x : trS} (ho : h a = some (.inr (3, [.int (nI p), .int (nI w), .int (nI k)]))) (hto : h (e + 28) = some (.inr (8, [.ref (e + 29), .int (nI x.2)]))) (htl : h (e + 29) = some (.inl (.int, 16, .inl x.1))) (hx : x.2 ≤ 16) (hne : e + 30 ≤ a) : xC l Ω yX10_size cX10_size 3 (some .int) 4 0 0 [.ref a, .ref (e + 28)] h sz (some (.int (nI k + ((nI p + nI w) - 1000)))) (xu (xu h (e + 28) (.inr (8, [.ref (e + 29), .int (nI (bg (bg (bg (bg (bg x 11) 10) 22) 21) 20).2)]))) (e + 29) (.inl (.int, 16, .inl ((bg (bg (bg (bg (bg x 11) 10) 22) 21) 20).1)))) (sz) := by
  refine xC_of (lv := [(0, .ref a), (1, .ref (e + 28))]) pn_X10 rfl rfl (fun Γ X hΓ hbs => ?_)
  have X : xX Γ Ω cX10_size 3 RX10 "size" (some .int) 4 140 0 0 := X
  subst hΓ
  refine xr_aload_n X 1 dX10_size_0 rfl rfl ?_
  refine xr_bipush (v := 11) X dX10_size_1 (by decide) ?_
  refine xr_callV X hto rfl kw_876 kw_870 kw_871 cw_X9_leave [.int 11] (c_X9_leave (x := x) hto htl hx) rfl rfl rfl rfl rfl rfl rfl dX10_size_3 ?_
  refine xr_aload_n X 0 dX10_size_6 rfl rfl ?_
  refine xr_aload_n X 1 dX10_size_7 rfl rfl ?_
  refine xr_callSU X (xu_at (by omega) (xu_at (by omega) ho)) rfl kw_877 kw_865 kw_442 kw_864 (by decide) cw_X5_size [.ref (e + 28)] (c_X5_size_3 (x := bg x 11) (xu_at (by omega) (xu_at (by omega) ho)) (xu_at (xne _ rfl) (xu_s _ _ _)) (xu_s _ _ _) (bg_le hx) (by omega)) rfl rfl rfl rfl rfl rfl rfl dX10_size_8 ?_
  refine xr_heap (h' := (xu (xu h (e + 28) (.inr (8, [.ref (e + 29), .int (nI (bg (bg x 11) 10).2)]))) (e + 29) (.inl (.int, 16, .inl ((bg (bg x 11) 10).1))))) (xu_22 (xne _ rfl) _ _ _ _) ?_
  refine xr_istore_n (lv' := [(2, .int (nI k)), (0, .ref a), (1, .ref (e + 28))]) X dX10_size_11 rfl rfl rfl ?_
  refine xr_iload_n X 0 dX10_size_12 rfl rfl ?_
  refine xr_aload_n X 1 dX10_size_13 rfl rfl ?_
  refine xr_aload_n X 2 dX10_size_14 rfl rfl ?_
  refine xr_callU (y := yX3_mark) (x := ⟨"EvePost$TrueOne", "mark", "(LEvePost$Trail;)I"⟩) (owner := "EvePost$TrueOne") X (xu_at (by omega) (xu_at (by omega) ho)) rfl kw_878 kw_881 (Or.inr ⟨_, _, _, kw_879, kw_891⟩) (by decide) rfl kw_887 kw_886 cw_X3_mark [.ref (e + 28)] (c_X3_mark_3 (x := bg (bg x 11) 10) (xu_at (by omega) (xu_at (by omega) ho)) (xu_at (xne _ rfl) (xu_s _ _ _)) (xu_s _ _ _) (bg_le (bg_le hx)) (by omega)) rfl rfl rfl rfl rfl rfl rfl dX10_size_15 ?_
  refine xr_heap (h' := (xu (xu h (e + 28) (.inr (8, [.ref (e + 29), .int (nI (bg (bg (bg (bg (bg x 11) 10) 22) 21) 20).2)]))) (e + 29) (.inl (.int, 16, .inl ((bg (bg (bg (bg (bg x 11) 10) 22) 21) 20).1))))) (xu_22 (xne _ rfl) _ _ _ _) ?_
  refine xr_iadd X dX10_size_18 ?_
  exact xr_iret X rfl rfl rfl rfl rfl rfl dX10_size_19
set_option maxRecDepth 100000 in
theorem c_X0_size_2 {l : Launch} {Ω : xW} {h : xH} {sz : Nat} {a p w k : Nat} {e : Nat} {x : trS} (ho : h a = some (.inr (0, [.int (nI p), .int (nI w), .int (nI k)]))) (hto : h (e + 28) = some (.inr (8, [.ref (e + 29), .int (nI x.2)]))) (htl : h (e + 29) = some (.inl (.int, 16, .inl x.1))) (hx : x.2 ≤ 16) (hne : e + 30 ≤ a) : xC l Ω yX0_size cX0_size 2 (some .int) 5 0 0 [.ref a, .ref (e + 28)] h sz (some (.int (-(nI k + (2 * (nI p + nI w)))))) (xu (xu h (e + 28) (.inr (8, [.ref (e + 29), .int (nI (bg (bg (bg (bg (bg (bg x 12) 11) 10) 24) 21) 20).2)]))) (e + 29) (.inl (.int, 16, .inl ((bg (bg (bg (bg (bg (bg x 12) 11) 10) 24) 21) 20).1)))) (sz) := by
  refine xC_of (lv := [(0, .ref a), (1, .ref (e + 28))]) pn_X0 rfl rfl (fun Γ X hΓ hbs => ?_)
  have X : xX Γ Ω cX0_size 2 RX0 "size" (some .int) 5 175 0 0 := X
  subst hΓ
  refine xr_aload_n X 1 dX0_size_0 rfl rfl ?_
  refine xr_bipush (v := 12) X dX0_size_1 (by decide) ?_
  refine xr_callV X hto rfl kw_869 kw_870 kw_871 cw_X9_leave [.int 12] (c_X9_leave (x := x) hto htl hx) rfl rfl rfl rfl rfl rfl rfl dX0_size_3 ?_
  refine xr_aload_n X 0 dX0_size_6 rfl rfl ?_
  refine xr_aload_n X 1 dX0_size_7 rfl rfl ?_
  refine xr_callSU X (xu_at (by omega) (xu_at (by omega) ho)) rfl kw_873 kw_1308 kw_452 kw_874 (by decide) cw_X10_size [.ref (e + 28)] (c_X10_size_2 (x := bg x 12) (xu_at (by omega) (xu_at (by omega) ho)) (xu_at (xne _ rfl) (xu_s _ _ _)) (xu_s _ _ _) (bg_le hx) (by omega)) rfl rfl rfl rfl rfl rfl rfl dX0_size_8 ?_
  refine xr_heap (h' := (xu (xu h (e + 28) (.inr (8, [.ref (e + 29), .int (nI (bg (bg (bg (bg (bg (bg x 12) 11) 10) 24) 21) 20).2)]))) (e + 29) (.inl (.int, 16, .inl ((bg (bg (bg (bg (bg (bg x 12) 11) 10) 24) 21) 20).1))))) (xu_22 (xne _ rfl) _ _ _ _) ?_
  refine xr_ineg X dX0_size_11 ?_
  exact xr_iret X rfl rfl rfl rfl rfl rfl dX0_size_12
set_option maxRecDepth 100000 in
theorem c_X1_size_4 {l : Launch} {Ω : xW} {h : xH} {sz : Nat} {a p w k : Nat} {e : Nat} {x : trS} (ho : h a = some (.inr (1, [.int (nI p), .int (nI w), .int (nI k)]))) (hto : h (e + 28) = some (.inr (8, [.ref (e + 29), .int (nI x.2)]))) (htl : h (e + 29) = some (.inl (.int, 16, .inl x.1))) (hx : x.2 ≤ 16) (hne : e + 30 ≤ a) : xC l Ω yX1_size cX1_size 2 (some .int) 2 0 0 [.ref a, .ref (e + 28)] h sz (some (.int (nI k - 100))) (xu (xu h (e + 28) (.inr (8, [.ref (e + 29), .int (nI (bg (bg x 13) 10).2)]))) (e + 29) (.inl (.int, 16, .inl ((bg (bg x 13) 10).1)))) (sz) := by
  refine xC_of (lv := [(0, .ref a), (1, .ref (e + 28))]) pn_X1 rfl rfl (fun Γ X hΓ hbs => ?_)
  have X : xX Γ Ω cX1_size 2 RX1 "size" (some .int) 2 70 0 0 := X
  subst hΓ
  refine xr_aload_n X 1 dX1_size_0 rfl rfl ?_
  refine xr_bipush (v := 13) X dX1_size_1 (by decide) ?_
  refine xr_callV X hto rfl kw_899 kw_870 kw_871 cw_X9_leave [.int 13] (c_X9_leave (x := x) hto htl hx) rfl rfl rfl rfl rfl rfl rfl dX1_size_3 ?_
  refine xr_aload_n X 0 dX1_size_6 rfl rfl ?_
  refine xr_aload_n X 1 dX1_size_7 rfl rfl ?_
  refine xr_callSU X (xu_at (by omega) (xu_at (by omega) ho)) rfl kw_900 kw_865 kw_472 kw_864 (by decide) cw_X5_size [.ref (e + 28)] (c_X5_size_4 (x := bg x 13) (xu_at (by omega) (xu_at (by omega) ho)) (xu_at (xne _ rfl) (xu_s _ _ _)) (xu_s _ _ _) (bg_le hx) (by omega)) rfl rfl rfl rfl rfl rfl rfl dX1_size_8 ?_
  refine xr_heap (h' := (xu (xu h (e + 28) (.inr (8, [.ref (e + 29), .int (nI (bg (bg x 13) 10).2)]))) (e + 29) (.inl (.int, 16, .inl ((bg (bg x 13) 10).1))))) (xu_22 (xne _ rfl) _ _ _ _) ?_
  refine xr_bipush (v := 100) X dX1_size_11 (by decide) ?_
  refine xr_isub X dX1_size_13 ?_
  exact xr_iret X rfl rfl rfl rfl rfl rfl dX1_size_14
set_option maxRecDepth 100000 in
theorem c_X1_size_5 {l : Launch} {Ω : xW} {h : xH} {sz : Nat} {a p w k : Nat} {e : Nat} {x : trS} (ho : h a = some (.inr (4, [.int (nI p), .int (nI w), .int (nI k)]))) (hto : h (e + 28) = some (.inr (8, [.ref (e + 29), .int (nI x.2)]))) (htl : h (e + 29) = some (.inl (.int, 16, .inl x.1))) (hx : x.2 ≤ 16) (hne : e + 30 ≤ a) : xC l Ω yX1_size cX1_size 2 (some .int) 2 0 0 [.ref a, .ref (e + 28)] h sz (some (.int (nI k - 100))) (xu (xu h (e + 28) (.inr (8, [.ref (e + 29), .int (nI (bg (bg x 13) 10).2)]))) (e + 29) (.inl (.int, 16, .inl ((bg (bg x 13) 10).1)))) (sz) := by
  refine xC_of (lv := [(0, .ref a), (1, .ref (e + 28))]) pn_X1 rfl rfl (fun Γ X hΓ hbs => ?_)
  have X : xX Γ Ω cX1_size 2 RX1 "size" (some .int) 2 70 0 0 := X
  subst hΓ
  refine xr_aload_n X 1 dX1_size_0 rfl rfl ?_
  refine xr_bipush (v := 13) X dX1_size_1 (by decide) ?_
  refine xr_callV X hto rfl kw_899 kw_870 kw_871 cw_X9_leave [.int 13] (c_X9_leave (x := x) hto htl hx) rfl rfl rfl rfl rfl rfl rfl dX1_size_3 ?_
  refine xr_aload_n X 0 dX1_size_6 rfl rfl ?_
  refine xr_aload_n X 1 dX1_size_7 rfl rfl ?_
  refine xr_callSU X (xu_at (by omega) (xu_at (by omega) ho)) rfl kw_900 kw_865 kw_472 kw_864 (by decide) cw_X5_size [.ref (e + 28)] (c_X5_size_5 (x := bg x 13) (xu_at (by omega) (xu_at (by omega) ho)) (xu_at (xne _ rfl) (xu_s _ _ _)) (xu_s _ _ _) (bg_le hx) (by omega)) rfl rfl rfl rfl rfl rfl rfl dX1_size_8 ?_
  refine xr_heap (h' := (xu (xu h (e + 28) (.inr (8, [.ref (e + 29), .int (nI (bg (bg x 13) 10).2)]))) (e + 29) (.inl (.int, 16, .inl ((bg (bg x 13) 10).1))))) (xu_22 (xne _ rfl) _ _ _ _) ?_
  refine xr_bipush (v := 100) X dX1_size_11 (by decide) ?_
  refine xr_isub X dX1_size_13 ?_
  exact xr_iret X rfl rfl rfl rfl rfl rfl dX1_size_14
set_option maxRecDepth 100000 in
theorem c_X4_size_5 {l : Launch} {Ω : xW} {h : xH} {sz : Nat} {a p w k : Nat} {e : Nat} {x : trS} (ho : h a = some (.inr (4, [.int (nI p), .int (nI w), .int (nI k)]))) (hto : h (e + 28) = some (.inr (8, [.ref (e + 29), .int (nI x.2)]))) (htl : h (e + 29) = some (.inl (.int, 16, .inl x.1))) (hx : x.2 ≤ 16) (hne : e + 30 ≤ a) : xC l Ω yX4_size cX4_size 2 (some .int) 3 0 0 [.ref a, .ref (e + 28)] h sz (some (.int (2 * (nI k - 100)))) (xu (xu h (e + 28) (.inr (8, [.ref (e + 29), .int (nI (bg (bg (bg x 14) 13) 10).2)]))) (e + 29) (.inl (.int, 16, .inl ((bg (bg (bg x 14) 13) 10).1)))) (sz) := by
  refine xC_of (lv := [(0, .ref a), (1, .ref (e + 28))]) pn_X4 rfl rfl (fun Γ X hΓ hbs => ?_)
  have X : xX Γ Ω cX4_size 2 RX4 "size" (some .int) 3 105 0 0 := X
  subst hΓ
  refine xr_aload_n X 1 dX4_size_0 rfl rfl ?_
  refine xr_bipush (v := 14) X dX4_size_1 (by decide) ?_
  refine xr_callV X hto rfl kw_905 kw_870 kw_871 cw_X9_leave [.int 14] (c_X9_leave (x := x) hto htl hx) rfl rfl rfl rfl rfl rfl rfl dX4_size_3 ?_
  refine xr_iconst (v := 2) X dX4_size_6 (by decide) ?_
  refine xr_aload_n X 0 dX4_size_7 rfl rfl ?_
  refine xr_aload_n X 1 dX4_size_8 rfl rfl ?_
  refine xr_callSU X (xu_at (by omega) (xu_at (by omega) ho)) rfl kw_906 kw_1310 kw_482 kw_897 (by decide) cw_X1_size [.ref (e + 28)] (c_X1_size_5 (x := bg x 14) (xu_at (by omega) (xu_at (by omega) ho)) (xu_at (xne _ rfl) (xu_s _ _ _)) (xu_s _ _ _) (bg_le hx) (by omega)) rfl rfl rfl rfl rfl rfl rfl dX4_size_9 ?_
  refine xr_heap (h' := (xu (xu h (e + 28) (.inr (8, [.ref (e + 29), .int (nI (bg (bg (bg x 14) 13) 10).2)]))) (e + 29) (.inl (.int, 16, .inl ((bg (bg (bg x 14) 13) 10).1))))) (xu_22 (xne _ rfl) _ _ _ _) ?_
  refine xr_imul X dX4_size_12 ?_
  exact xr_iret X rfl rfl rfl rfl rfl rfl dX4_size_13
set_option maxRecDepth 100000 in
theorem c_X1_mark_4 {l : Launch} {Ω : xW} {h : xH} {sz : Nat} {a p w k : Nat} {e : Nat} {x : trS} (ho : h a = some (.inr (1, [.int (nI p), .int (nI w), .int (nI k)]))) (hto : h (e + 28) = some (.inr (8, [.ref (e + 29), .int (nI x.2)]))) (htl : h (e + 29) = some (.inl (.int, 16, .inl x.1))) (hx : x.2 ≤ 16) (hne : e + 30 ≤ a) : xC l Ω yX1_mark cX1_mark 3 (some .int) 4 0 0 [.ref a, .ref (e + 28)] h sz (some (.int (nI p - (nI k - 100)))) (xu (xu h (e + 28) (.inr (8, [.ref (e + 29), .int (nI (bg (bg (bg (bg x 23) 20) 13) 10).2)]))) (e + 29) (.inl (.int, 16, .inl ((bg (bg (bg (bg x 23) 20) 13) 10).1)))) (sz) := by
  refine xC_of (lv := [(0, .ref a), (1, .ref (e + 28))]) pn_X1 rfl rfl (fun Γ X hΓ hbs => ?_)
  have X : xX Γ Ω cX1_mark 3 RX1 "mark" (some .int) 4 140 0 0 := X
  subst hΓ
  refine xr_aload_n X 1 dX1_mark_0 rfl rfl ?_
  refine xr_bipush (v := 23) X dX1_mark_1 (by decide) ?_
  refine xr_callV X hto rfl kw_899 kw_870 kw_871 cw_X9_leave [.int 23] (c_X9_leave (x := x) hto htl hx) rfl rfl rfl rfl rfl rfl rfl dX1_mark_3 ?_
  refine xr_aload_n X 0 dX1_mark_6 rfl rfl ?_
  refine xr_aload_n X 1 dX1_mark_7 rfl rfl ?_
  refine xr_callSU X (xu_at (by omega) (xu_at (by omega) ho)) rfl kw_912 kw_1309 kw_472 kw_893 (by decide) cw_X5_mark [.ref (e + 28)] (c_X5_mark_4 (x := bg x 23) (xu_at (by omega) (xu_at (by omega) ho)) (xu_at (xne _ rfl) (xu_s _ _ _)) (xu_s _ _ _) (bg_le hx) (by omega)) rfl rfl rfl rfl rfl rfl rfl dX1_mark_8 ?_
  refine xr_heap (h' := (xu (xu h (e + 28) (.inr (8, [.ref (e + 29), .int (nI (bg (bg x 23) 20).2)]))) (e + 29) (.inl (.int, 16, .inl ((bg (bg x 23) 20).1))))) (xu_22 (xne _ rfl) _ _ _ _) ?_
  refine xr_istore_n (lv' := [(2, .int (nI p)), (0, .ref a), (1, .ref (e + 28))]) X dX1_mark_11 rfl rfl rfl ?_
  refine xr_iload_n X 0 dX1_mark_12 rfl rfl ?_
  refine xr_aload_n X 1 dX1_mark_13 rfl rfl ?_
  refine xr_aload_n X 2 dX1_mark_14 rfl rfl ?_
  refine xr_callV X (xu_at (by omega) (xu_at (by omega) ho)) rfl kw_913 kw_897 kw_1313 cw_X1_size [.ref (e + 28)] (c_X1_size_4 (x := bg (bg x 23) 20) (xu_at (by omega) (xu_at (by omega) ho)) (xu_at (xne _ rfl) (xu_s _ _ _)) (xu_s _ _ _) (bg_le (bg_le hx)) (by omega)) rfl rfl rfl rfl rfl rfl rfl dX1_mark_15 ?_
  refine xr_heap (h' := (xu (xu h (e + 28) (.inr (8, [.ref (e + 29), .int (nI (bg (bg (bg (bg x 23) 20) 13) 10).2)]))) (e + 29) (.inl (.int, 16, .inl ((bg (bg (bg (bg x 23) 20) 13) 10).1))))) (xu_22 (xne _ rfl) _ _ _ _) ?_
  refine xr_isub X dX1_mark_18 ?_
  exact xr_iret X rfl rfl rfl rfl rfl rfl dX1_mark_19
set_option maxRecDepth 100000 in
theorem c_X1_mark_5 {l : Launch} {Ω : xW} {h : xH} {sz : Nat} {a p w k : Nat} {e : Nat} {x : trS} (ho : h a = some (.inr (4, [.int (nI p), .int (nI w), .int (nI k)]))) (hto : h (e + 28) = some (.inr (8, [.ref (e + 29), .int (nI x.2)]))) (htl : h (e + 29) = some (.inl (.int, 16, .inl x.1))) (hx : x.2 ≤ 16) (hne : e + 30 ≤ a) : xC l Ω yX1_mark cX1_mark 3 (some .int) 4 0 0 [.ref a, .ref (e + 28)] h sz (some (.int (nI p - (2 * (nI k - 100))))) (xu (xu h (e + 28) (.inr (8, [.ref (e + 29), .int (nI (bg (bg (bg (bg (bg x 23) 20) 14) 13) 10).2)]))) (e + 29) (.inl (.int, 16, .inl ((bg (bg (bg (bg (bg x 23) 20) 14) 13) 10).1)))) (sz) := by
  refine xC_of (lv := [(0, .ref a), (1, .ref (e + 28))]) pn_X1 rfl rfl (fun Γ X hΓ hbs => ?_)
  have X : xX Γ Ω cX1_mark 3 RX1 "mark" (some .int) 4 140 0 0 := X
  subst hΓ
  refine xr_aload_n X 1 dX1_mark_0 rfl rfl ?_
  refine xr_bipush (v := 23) X dX1_mark_1 (by decide) ?_
  refine xr_callV X hto rfl kw_899 kw_870 kw_871 cw_X9_leave [.int 23] (c_X9_leave (x := x) hto htl hx) rfl rfl rfl rfl rfl rfl rfl dX1_mark_3 ?_
  refine xr_aload_n X 0 dX1_mark_6 rfl rfl ?_
  refine xr_aload_n X 1 dX1_mark_7 rfl rfl ?_
  refine xr_callSU X (xu_at (by omega) (xu_at (by omega) ho)) rfl kw_912 kw_1309 kw_472 kw_893 (by decide) cw_X5_mark [.ref (e + 28)] (c_X5_mark_5 (x := bg x 23) (xu_at (by omega) (xu_at (by omega) ho)) (xu_at (xne _ rfl) (xu_s _ _ _)) (xu_s _ _ _) (bg_le hx) (by omega)) rfl rfl rfl rfl rfl rfl rfl dX1_mark_8 ?_
  refine xr_heap (h' := (xu (xu h (e + 28) (.inr (8, [.ref (e + 29), .int (nI (bg (bg x 23) 20).2)]))) (e + 29) (.inl (.int, 16, .inl ((bg (bg x 23) 20).1))))) (xu_22 (xne _ rfl) _ _ _ _) ?_
  refine xr_istore_n (lv' := [(2, .int (nI p)), (0, .ref a), (1, .ref (e + 28))]) X dX1_mark_11 rfl rfl rfl ?_
  refine xr_iload_n X 0 dX1_mark_12 rfl rfl ?_
  refine xr_aload_n X 1 dX1_mark_13 rfl rfl ?_
  refine xr_aload_n X 2 dX1_mark_14 rfl rfl ?_
  refine xr_callU (y := yX4_size) (x := ⟨"EvePost$CrowdOne", "size", "(LEvePost$Trail;)I"⟩) (owner := "EvePost$CrowdOne") X (xu_at (by omega) (xu_at (by omega) ho)) rfl kw_913 kw_1310 (Or.inr ⟨_, _, _, kw_897, kw_898⟩) (by decide) rfl kw_903 kw_1314 cw_X4_size [.ref (e + 28)] (c_X4_size_5 (x := bg (bg x 23) 20) (xu_at (by omega) (xu_at (by omega) ho)) (xu_at (xne _ rfl) (xu_s _ _ _)) (xu_s _ _ _) (bg_le (bg_le hx)) (by omega)) rfl rfl rfl rfl rfl rfl rfl dX1_mark_15 ?_
  refine xr_heap (h' := (xu (xu h (e + 28) (.inr (8, [.ref (e + 29), .int (nI (bg (bg (bg (bg (bg x 23) 20) 14) 13) 10).2)]))) (e + 29) (.inl (.int, 16, .inl ((bg (bg (bg (bg (bg x 23) 20) 14) 13) 10).1))))) (xu_22 (xne _ rfl) _ _ _ _) ?_
  refine xr_isub X dX1_mark_18 ?_
  exact xr_iret X rfl rfl rfl rfl rfl rfl dX1_mark_19
