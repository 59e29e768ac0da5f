-- which way okPost goes is left to the reader of the contract: a classical choice
set_option maxRecDepth 100000 in
theorem c_X12_post {l : Launch} {Ω : xW} {h : xH} {sz : Nat} {m : Nat} {st tp la le cu tk sa ti fa fl tr : Int32} {a : Nat} {t : Nat → Int32} {np day b : Nat} {kd wh mn : Nat → Nat} {was : Nat → Int32} {s : Int32} [Decidable (okPost kd wh mn np day b s)] (hm : h m = some (mO m st (nI a) tp la le cu tk sa ti fa fl tr)) (ht : h (m + 4) = some (.inl (.int, 21, .inl t))) (T : tOK t np kd wh mn day b) (hwas : h (m + 6) = some (.inl (.int, 504, .inl was))) (ha : a ≤ 24) : xC l Ω yX12_post cX12_post 2 (some .int) 4 0 0 [.ref m, .int s] h sz (some (.int (a_post kd wh mn np day b s))) (if okPost kd wh mn np day b s then (xu (xu (xu h (m + 6) (.inl (.int, 504, .inl (keepW t was a)))) m (.inr (11, [.int 0, .int st, .ref (m + 1), .ref (m + 2), .ref (m + 3), .ref (m + 4), .ref (m + 5), .ref (m + 6), .int (nI (keepN a)), .ref (m + 7), .int tp, .int la, .int le, .int cu, .int tk, .int sa, .int ti, .int fa, .int fl, .ref (m + 8), .ref (m + 9), .ref (m + 10), .ref (m + 11), .int tr]))) (m + 4) (.inl (.int, 21, .inl (dayT t s)))) else h) (sz) := by
  refine xC_of (lv := [(0, .ref m), (1, .int s)]) pn_X12 rfl rfl (fun Γ X hΓ hbs => ?_)
  have X : xX Γ Ω cX12_post 2 RX12 "post" (some .int) 4 140 0 0 := X
  subst hΓ
  have h6 := T.1
  have h64 := pw_le h6
  have hpp := Nat.two_pow_pos np
  have hb6 := T.2.2.2.2.2.1
  have hdy := T.2.2.2.1
  have ed := T.2.2.1
  refine xr_aload_n X 0 dX12_post_0 rfl rfl ?_
  refine xr_iconst (v := 0) X dX12_post_1 (by decide) ?_
  refine xr_put (fs' := [.int 0, .int st, .ref (m + 1), .ref (m + 2), .ref (m + 3), .ref (m + 4), .ref (m + 5), .ref (m + 6), .int (nI a), .ref (m + 7), .int tp, .int la, .int le, .int cu, .int tk, .int sa, .int ti, .int fa, .int fl, .ref (m + 8), .ref (m + 9), .ref (m + 10), .ref (m + 11), .int tr]) X (fW_X12_44_11 _) hm rfl rfl rfl rfl dX12_post_2 ?_
  refine xr_heap (h' := h) (xu_id hm) ?_
  refine xr_aload_n X 0 dX12_post_5 rfl rfl ?_
  refine xr_callV X hm rfl kw_1121 kw_1123 kw_31 cw_X12_isThere [] (c_X12_isThere hm ht T) rfl rfl rfl rfl rfl rfl rfl dX12_post_6 ?_
  refine xr_if_ne (tgt := 15) X dX12_post_9 (by decide) (fun c_9 => ?_) (fun c_9 => ?_)
  · have c_9 := of_decide_eq_true (xb_1.mp c_9)
    (try simp (disch := omega) only [nI_toInt, i32_add, i32_sub, i32_mul, i64_addl, i32_l, k32_0, k64_0] at c_9)
    refine xr_aload_n X 0 dX12_post_15 rfl rfl ?_
    refine xr_iload_n X 1 dX12_post_16 rfl rfl ?_
    refine xr_callV X hm rfl kw_1126 kw_1128 kw_32 cw_X12_isSet [.int s] (c_X12_isSet hm ht T) rfl rfl rfl rfl rfl rfl rfl dX12_post_17 ?_
    refine xr_if_ne (tgt := 26) X dX12_post_20 (by decide) (fun c_20 => ?_) (fun c_20 => ?_)
    · have c_20 := of_decide_eq_true (xb_1.mp c_20)
      (try simp (disch := omega) only [nI_toInt, i32_add, i32_sub, i32_mul, i64_addl, i32_l, k32_0, k32_2, k64_0, k64_2] at c_20)
      have tn_s := (i32_tn (x := s) (by omega)).2
      refine xr_aload_n X 0 dX12_post_26 rfl rfl ?_
      refine xr_iload_n X 1 dX12_post_27 rfl rfl ?_
      refine xr_top (y := (nI (s.toNatClampNeg))) ((i32_tn (by omega)).1) ?_
      refine xr_aload_n X 0 dX12_post_28 rfl rfl ?_
      refine xr_get X fF_X12_19_11 hm rfl dX12_post_29 ?_
      refine xr_iconst (v := 2) X dX12_post_32 (by decide) ?_
      refine xr_iald (j := 2) X ht (xI_e (by decide) (by omega) (by omega)) dX12_post_33 ?_
      refine xr_top (y := (nI b)) T.2.2.2.2.1 ?_
      refine xr_callV X hm rfl kw_1134 kw_1136 kw_34 cw_X12_isAgreed [.int (nI (s.toNatClampNeg)), .int (nI b)] (c_X12_isAgreed (l2 := (s.toNatClampNeg)) (b2 := b) hm ht T (by omega) (by omega)) rfl rfl rfl rfl rfl rfl rfl dX12_post_34 ?_
      refine xr_if_ne (tgt := 43) X dX12_post_37 (by decide) (fun c_37 => ?_) (fun c_37 => ?_)
      · have c_37 := of_decide_eq_true (xb_1.mp c_37)
        (try simp (disch := omega) only [nI_toInt, i32_add, i32_sub, i32_mul, i64_addl, i32_l] at c_37)
        refine xr_aload_n X 0 dX12_post_43 rfl rfl ?_
        refine xr_get X fF_X12_19_11 hm rfl dX12_post_44 ?_
        refine xr_iconst (v := 1) X dX12_post_47 (by decide) ?_
        refine xr_iald (j := 1) X ht (xI_e (by decide) (by omega) (by omega)) dX12_post_48 ?_
        refine xr_top (y := (nI day)) T.2.2.1 ?_
        refine xr_sipush (v := 9999) X dX12_post_49 (by decide) ?_
        refine xr_icmp_ne (tgt := 58) X dX12_post_52 (by decide) (fun c_52 => ?_) (fun c_52 => ?_)
        · have c_52 := mt i32_eq.mpr c_52
          (try simp (disch := omega) only [nI_toInt, i32_add, i32_sub, i32_mul, i64_addl, i32_l, k32_9999] at c_52)
          refine xr_aload_n X 0 dX12_post_58 rfl rfl ?_
          refine xr_iload_n X 1 dX12_post_59 rfl rfl ?_
          refine xr_callV X hm rfl kw_1153 kw_1155 kw_38 cw_X12_goDay [.int s] (c_X12_goDay (d2 := s) hm ht hwas ha) rfl rfl rfl rfl rfl rfl rfl dX12_post_60 ?_
          refine xr_aload_n X 0 dX12_post_63 rfl rfl ?_
          refine xr_get X fF_X12_19_11 (xu_at (xn0 _ rfl) (xu_s _ _ _)) rfl dX12_post_64 ?_
          refine xr_iconst (v := 1) X dX12_post_67 (by decide) ?_
          refine xr_iald (j := 1) X (xu_s _ _ _) (xI_e (by decide) (by omega) (by omega)) dX12_post_68 ?_
          refine xr_top (y := (nI (day + 1))) (by rw [dayT, pk_us, ed, nI_1]) ?_
          exact xr_iret X rfl (xv ((((if_pos (by omega)).trans (if_pos (by omega))).trans (if_pos (by omega))).trans (if_neg (by omega)))) ((if_pos (show okPost kd wh mn np day b s from ⟨by omega, by omega, by omega, by omega, by omega⟩)).symm) rfl rfl rfl dX12_post_69
        · have c_52 := i32_eq.mp c_52
          (try simp (disch := omega) only [nI_toInt, i32_add, i32_sub, i32_mul, i64_addl, i32_l, k32_9999] at c_52)
          refine xr_ldc (v := (-1000003)) X kw_1054 dX12_post_55 ?_
          exact xr_iret X rfl (xv ((((if_pos (by omega)).trans (if_pos (by omega))).trans (if_pos (by omega))).trans (if_pos (by omega)))) ((if_neg (fun q => by have q9 := q; unfold okPost at q9; omega)).symm) rfl rfl rfl dX12_post_57
      · have c_37 := of_decide_eq_false (xb_0.mp c_37)
        (try simp (disch := omega) only [nI_toInt, i32_add, i32_sub, i32_mul, i64_addl, i32_l] at c_37)
        refine xr_ldc (v := (-1000002)) X kw_1125 dX12_post_40 ?_
        exact xr_iret X rfl (xv (((if_pos (by omega)).trans (if_pos (by omega))).trans (if_neg (by omega)))) ((if_neg (fun q => by have q9 := q; unfold okPost at q9; omega)).symm) rfl rfl rfl dX12_post_42
    · have c_20 := of_decide_eq_false (xb_0.mp c_20)
      (try simp (disch := omega) only [nI_toInt, i32_add, i32_sub, i32_mul, i64_addl, i32_l, k32_0, k32_2, k64_0, k64_2] at c_20)
      refine xr_ldc (v := (-1000001)) X kw_1031 dX12_post_23 ?_
      exact xr_iret X rfl (xv ((if_pos (by omega)).trans (if_neg (by omega)))) ((if_neg (fun q => by have q9 := q; unfold okPost at q9; omega)).symm) rfl rfl rfl dX12_post_25
  · have c_9 := of_decide_eq_false (xb_0.mp c_9)
    (try simp (disch := omega) only [nI_toInt, i32_add, i32_sub, i32_mul, i64_addl, i32_l, k32_0, k64_0] at c_9)
    refine xr_ldc (v := (-1000002)) X kw_1125 dX12_post_12 ?_
    exact xr_iret X rfl (xv (if_neg (by omega))) ((if_neg (fun q => by have q9 := q; unfold okPost at q9; omega)).symm) rfl rfl rfl dX12_post_14
set_option maxRecDepth 100000 in
theorem l_X12_lots {Γ : xΓ} {Ω : xW} {h : xH} {sz : Nat} (X : xX Γ Ω cX12_lots 7 RX12 "lots" (some .int) 3 105 0 0) {m : Nat} {st tp la le cu tk sa ti fa fl tr : Int32} {a : Nat} {t : Nat → Int32} {np day b : Nat} {kd wh mn : Nat → Nat} {was : Nat → Int32} {s e : Int32} (hm : h m = some (mO m st (nI a) tp la le cu tk sa ti fa fl tr)) (ht : h (m + 4) = some (.inl (.int, 21, .inl t))) (T : tOK t np kd wh mn day b) (hwas : h (m + 6) = some (.inl (.int, 504, .inl was))) (ha : a ≤ 24) (hs : 0 ≤ s.toInt) (hs2 : s.toInt < (2 ^ np : Nat)) (he : 1 ≤ e.toInt) (he2 : e.toInt ≤ 999999) : ∀ (j0 p : Nat), p + j0 = np → xG Γ Ω 7 (xQ Γ Ω (some (.int (nI (lotO kd wh mn np b s e)))) (xu (xu (xu h (m + 6) (.inl (.int, 504, .inl (keepW t was a)))) m (.inr (11, [.int 0, .int st, .ref (m + 1), .ref (m + 2), .ref (m + 3), .ref (m + 4), .ref (m + 5), .ref (m + 6), .int (nI (keepN a)), .ref (m + 7), .int tp, .int la, .int le, .int cu, .int tk, .int sa, .int ti, .int fa, .int fl, .ref (m + 8), .ref (m + 9), .ref (m + 10), .ref (m + 11), .int tr]))) (m + 4) (.inl (.int, 21, .inl (dayT t (nI (lotO kd wh mn np b s e)))))) (sz) 0 0) 74 [(6, .int (nI p)), (4, .long (lN (lotX kd e.toNatClampNeg p))), (3, .int (nI (lotD kd mn e.toNatClampNeg (dn kd wh mn np s.toNatClampNeg b) p))), (0, .ref m), (1, .int s), (2, .int e)] ([]) h sz 0 0 := by
  intro j0
  induction j0 with
  | zero =>
    intro p hk
    have ek : p = np := by omega
    have h6 := T.1
    have h64 := pw_le h6
    have hpp := Nat.two_pow_pos np
    have hb6 := T.2.2.2.2.2.1
    refine xr_iload X 0 dX12_lots_74 rfl ?_
    refine xr_aload_n X 3 dX12_lots_76 rfl rfl ?_
    refine xr_get X fF_X12_19_11 hm rfl dX12_lots_77 ?_
    refine xr_iconst (v := 0) X dX12_lots_80 (by decide) ?_
    refine xr_iald (j := 0) X ht (xI_e (by decide) (by omega) (by omega)) dX12_lots_81 ?_
    refine xr_top (y := (nI np)) T.2.1 ?_
    refine xr_icmp_ge (tgt := 143) X dX12_lots_82 (by decide) (fun _ => ?_) (fun c_82 => absurd (by subst ek; exact i32_le.mpr (Int.le_refl _)) c_82)
    refine xr_aload_n X 3 dX12_lots_143 rfl rfl ?_
    refine xr_iload_n X 2 dX12_lots_144 rfl rfl ?_
    refine xr_callV X hm rfl kw_1153 kw_1155 kw_38 cw_X12_goDay [.int (nI (lotD kd mn e.toNatClampNeg (dn kd wh mn np s.toNatClampNeg b) p))] (c_X12_goDay (d2 := nI (lotD kd mn e.toNatClampNeg (dn kd wh mn np s.toNatClampNeg b) p)) hm ht hwas ha) rfl rfl rfl rfl rfl rfl rfl dX12_lots_145 ?_
    refine xr_iload_n X 2 dX12_lots_148 rfl rfl ?_
    exact xr_iret X rfl (by rw [ek, lotO]) (by rw [ek, lotO]) rfl rfl rfl dX12_lots_149
  | succ j0 ih =>
    intro p hk
    have lk : p < np := by omega
    have h6 := T.1
    have h64 := pw_le h6
    have hpp := Nat.two_pow_pos np
    have hb6 := T.2.2.2.2.2.1
    have te := (i32_tn (x := e) (by omega)).2
    have hlx := lotX_lt (kd := kd) (seed := e.toNatClampNeg) (by omega) p
    have hlx2 := lotX_lt (kd := kd) (seed := e.toNatClampNeg) (by omega) (p + 1)
    have hT := T.2.2.2.2.2.2 p lk
    refine xr_iload X 0 dX12_lots_74 rfl ?_
    refine xr_aload_n X 3 dX12_lots_76 rfl rfl ?_
    refine xr_get X fF_X12_19_11 hm rfl dX12_lots_77 ?_
    refine xr_iconst (v := 0) X dX12_lots_80 (by decide) ?_
    refine xr_iald (j := 0) X ht (xI_e (by decide) (by omega) (by omega)) dX12_lots_81 ?_
    refine xr_top (y := (nI np)) T.2.1 ?_
    refine xr_icmp_ge (tgt := 143) X dX12_lots_82 (by decide) (fun c_82 => absurd c_82 (by rw [i32_le, nI_toInt (by omega), nI_toInt (by omega)]; omega)) (fun _ => ?_)
    refine xr_aload_n X 3 dX12_lots_85 rfl rfl ?_
    refine xr_iload X 0 dX12_lots_86 rfl ?_
    refine xr_iconst (v := 0) X dX12_lots_88 (by decide) ?_
    refine xr_callV X hm rfl kw_1146 kw_1148 kw_37 cw_X12_of [.int (nI p), .int 0] (c_X12_of (p := p) (w := 0) hm ht (nI_toInt (by omega)) (by decide) (by omega)) rfl rfl rfl rfl rfl rfl rfl dX12_lots_89 ?_
    refine xr_top (y := nI (kd p)) (by rw [show 3 + 3 * p + 0 = 3 + 3 * p by omega]; exact (T.2.2.2.2.2.2 p (by omega)).1) ?_
    refine xr_iconst (v := 3) X dX12_lots_92 (by decide) ?_
    refine xr_icmp_ne (tgt := 137) X dX12_lots_93 (by decide) (fun c_93 => ?_) (fun c_93 => ?_)
    · have c_93 := mt i32_eq.mpr c_93
      (try simp (disch := omega) only [nI_toInt, i32_add, i32_sub, i32_mul, i64_addl, i32_l, k32_3, k64_3] at c_93)
      have ek3 : ¬ kd p = 3 := by omega
      refine xr_iinc (v := nI (p + 1)) (lv' := [(6, .int (nI (p + 1))), (4, .long (lN (lotX kd e.toNatClampNeg p))), (3, .int (nI (lotD kd mn e.toNatClampNeg (dn kd wh mn np s.toNatClampNeg b) p))), (0, .ref m), (1, .int s), (2, .int e)]) X 0 dX12_lots_137 rfl (nI_1 _) rfl rfl ?_
      refine xr_goto (tgt := 74) X dX12_lots_140 (by decide) ?_
      refine xr_lve (lv' := [(6, .int (nI (p + 1))), (4, .long (lN (lotX kd e.toNatClampNeg (p + 1)))), (3, .int (nI (lotD kd mn e.toNatClampNeg (dn kd wh mn np s.toNatClampNeg b) (p + 1)))), (0, .ref m), (1, .int s), (2, .int e)]) (by rw [lotX, if_neg ek3, lotD, if_neg (fun q => ek3 q.1)]) ?_
      exact ih (p + 1) (by omega)
    · have c_93 := i32_eq.mp c_93
      (try simp (disch := omega) only [nI_toInt, i32_add, i32_sub, i32_mul, i64_addl, i32_l, k32_3, k64_3] at c_93)
      have ek3 : kd p = 3 := by omega
      refine xr_lload X 1 dX12_lots_96 rfl ?_
      refine xr_ldc2 (v := 16807) X kw_1179 dX12_lots_98 ?_
      refine xr_lmul X dX12_lots_101 ?_
      refine xr_ldc2 (v := 2147483647) X kw_1180 dX12_lots_102 ?_
      refine xr_lrem X dX12_lots_105 (by decide) ?_
      refine xr_topl (y := (lN (lotX kd e.toNatClampNeg (p + 1)))) (by rw [lotX, if_pos ek3, show (16807 : Int64) = lN 16807 from rfl, show (2147483647 : Int64) = lN 2147483647 from rfl, lN_mul, pk_lRem (by omega) (by omega) (by omega)]) ?_
      refine xr_lstore (lv' := [(4, .long (lN (lotX kd e.toNatClampNeg (p + 1)))), (6, .int (nI p)), (3, .int (nI (lotD kd mn e.toNatClampNeg (dn kd wh mn np s.toNatClampNeg b) p))), (0, .ref m), (1, .int s), (2, .int e)]) X dX12_lots_106 rfl rfl ?_
      refine xr_iload_n X 2 dX12_lots_108 rfl rfl ?_
      refine xr_lload X 0 dX12_lots_109 rfl ?_
      refine xr_ldc2 (v := 10) X kw_1181 dX12_lots_111 ?_
      refine xr_lrem X dX12_lots_114 (by decide) ?_
      refine xr_topl (y := (lN (lotX kd e.toNatClampNeg (p + 1) % 10))) (by rw [show (10 : Int64) = lN 10 from rfl, pk_lRem (by omega) (by omega) (by omega)]) ?_
      refine xr_aload_n X 3 dX12_lots_115 rfl rfl ?_
      refine xr_iload X 1 dX12_lots_116 rfl ?_
      refine xr_iconst (v := 2) X dX12_lots_118 (by decide) ?_
      refine xr_callV X hm rfl kw_1146 kw_1148 kw_37 cw_X12_of [.int (nI p), .int 2] (c_X12_of (p := p) (w := 2) hm ht (nI_toInt (by omega)) (by decide) (by omega)) rfl rfl rfl rfl rfl rfl rfl dX12_lots_119 ?_
      refine xr_top (y := nI (mn p)) (by rw [show 3 + 3 * p + 2 = 5 + 3 * p by omega]; exact (T.2.2.2.2.2.2 p (by omega)).2.2.1) ?_
      refine xr_i2l X dX12_lots_122 ?_
      refine xr_topl (y := (lN (mn p))) (nI_l (by omega)) ?_
      refine xr_lcmp X dX12_lots_123 ?_
      refine xr_if_ge (tgt := 134) X dX12_lots_124 (by decide) (fun c_124 => ?_) (fun c_124 => ?_)
      · have c_124 := lgc_ge.mp c_124
        rw [lN_toInt (by omega), lN_toInt (by omega)] at c_124
        refine xr_iconst (v := 0) X dX12_lots_134 (by decide) ?_
        refine xr_ixor X dX12_lots_135 ?_
        refine xr_top (y := (nI (lotD kd mn e.toNatClampNeg (dn kd wh mn np s.toNatClampNeg b) (p + 1)))) (by rw [lotD, if_neg (fun q => absurd q.2 (by omega))]; simp) ?_
        refine xr_istore_n (lv' := [(3, .int (nI (lotD kd mn e.toNatClampNeg (dn kd wh mn np s.toNatClampNeg b) (p + 1)))), (4, .long (lN (lotX kd e.toNatClampNeg (p + 1)))), (6, .int (nI p)), (0, .ref m), (1, .int s), (2, .int e)]) X dX12_lots_136 rfl rfl rfl ?_
        refine xr_iinc (v := nI (p + 1)) (lv' := [(6, .int (nI (p + 1))), (3, .int (nI (lotD kd mn e.toNatClampNeg (dn kd wh mn np s.toNatClampNeg b) (p + 1)))), (4, .long (lN (lotX kd e.toNatClampNeg (p + 1)))), (0, .ref m), (1, .int s), (2, .int e)]) X 2 dX12_lots_137 rfl (nI_1 _) rfl rfl ?_
        refine xr_goto (tgt := 74) X dX12_lots_140 (by decide) ?_
        refine xr_locs (lv' := [(6, .int (nI (p + 1))), (4, .long (lN (lotX kd e.toNatClampNeg (p + 1)))), (3, .int (nI (lotD kd mn e.toNatClampNeg (dn kd wh mn np s.toNatClampNeg b) (p + 1)))), (0, .ref m), (1, .int s), (2, .int e)]) [0, 2, 1, 3, 4, 5] rfl ?_
        exact ih (p + 1) (by omega)
      · have c_124 := mt lgc_ge.mpr c_124
        rw [lN_toInt (by omega), lN_toInt (by omega)] at c_124
        refine xr_iconst (v := 1) X dX12_lots_127 (by decide) ?_
        refine xr_iload X 1 dX12_lots_128 rfl ?_
        refine xr_ishl X dX12_lots_130 ?_
        refine xr_goto (tgt := 135) X dX12_lots_131 (by decide) ?_
        refine xr_ixor X dX12_lots_135 ?_
        refine xr_top (y := (nI (lotD kd mn e.toNatClampNeg (dn kd wh mn np s.toNatClampNeg b) (p + 1)))) (by rw [lotD, if_pos ⟨ek3, by omega⟩, pw6 _ (by omega), nI_xor]) ?_
        refine xr_istore_n (lv' := [(3, .int (nI (lotD kd mn e.toNatClampNeg (dn kd wh mn np s.toNatClampNeg b) (p + 1)))), (4, .long (lN (lotX kd e.toNatClampNeg (p + 1)))), (6, .int (nI p)), (0, .ref m), (1, .int s), (2, .int e)]) X dX12_lots_136 rfl rfl rfl ?_
        refine xr_iinc (v := nI (p + 1)) (lv' := [(6, .int (nI (p + 1))), (3, .int (nI (lotD kd mn e.toNatClampNeg (dn kd wh mn np s.toNatClampNeg b) (p + 1)))), (4, .long (lN (lotX kd e.toNatClampNeg (p + 1)))), (0, .ref m), (1, .int s), (2, .int e)]) X 2 dX12_lots_137 rfl (nI_1 _) rfl rfl ?_
        refine xr_goto (tgt := 74) X dX12_lots_140 (by decide) ?_
        refine xr_locs (lv' := [(6, .int (nI (p + 1))), (4, .long (lN (lotX kd e.toNatClampNeg (p + 1)))), (3, .int (nI (lotD kd mn e.toNatClampNeg (dn kd wh mn np s.toNatClampNeg b) (p + 1)))), (0, .ref m), (1, .int s), (2, .int e)]) [0, 2, 1, 3, 4, 5] rfl ?_
        exact ih (p + 1) (by omega)
set_option maxRecDepth 100000 in
theorem c_X12_lots {l : Launch} {Ω : xW} {h : xH} {sz : Nat} {m : Nat} {st tp la le cu tk sa ti fa fl tr : Int32} {a : Nat} {t : Nat → Int32} {np day b : Nat} {kd wh mn : Nat → Nat} {was : Nat → Int32} {s e : Int32} [Decidable (okLots np day s e)] (hm : h m = some (mO m st (nI a) tp la le cu tk sa ti fa fl tr)) (ht : h (m + 4) = some (.inl (.int, 21, .inl t))) (T : tOK t np kd wh mn day b) (hwas : h (m + 6) = some (.inl (.int, 504, .inl was))) (ha : a ≤ 24) : xC l Ω yX12_lots cX12_lots 7 (some .int) 3 0 0 [.ref m, .int s, .int e] h sz (some (.int (a_lots kd wh mn np day b s e))) (if okLots np day s e then (xu (xu (xu h (m + 6) (.inl (.int, 504, .inl (keepW t was a)))) m (.inr (11, [.int 0, .int st, .ref (m + 1), .ref (m + 2), .ref (m + 3), .ref (m + 4), .ref (m + 5), .ref (m + 6), .int (nI (keepN a)), .ref (m + 7), .int tp, .int la, .int le, .int cu, .int tk, .int sa, .int ti, .int fa, .int fl, .ref (m + 8), .ref (m + 9), .ref (m + 10), .ref (m + 11), .int tr]))) (m + 4) (.inl (.int, 21, .inl (dayT t (nI (lotO kd wh mn np b s e)))))) else h) (sz) := by
  refine xC_of (lv := [(0, .ref m), (1, .int s), (2, .int e)]) pn_X12 rfl rfl (fun Γ X hΓ hbs => ?_)
  have X : xX Γ Ω cX12_lots 7 RX12 "lots" (some .int) 3 105 0 0 := X
  subst hΓ
  have h6 := T.1
  have h64 := pw_le h6
  have hpp := Nat.two_pow_pos np
  have hb6 := T.2.2.2.2.2.1
  have hdy := T.2.2.2.1
  have ed := T.2.2.1
  refine xr_aload_n X 0 dX12_lots_0 rfl rfl ?_
  refine xr_iconst (v := 0) X dX12_lots_1 (by decide) ?_
  refine xr_put (fs' := [.int 0, .int st, .ref (m + 1), .ref (m + 2), .ref (m + 3), .ref (m + 4), .ref (m + 5), .ref (m + 6), .int (nI a), .ref (m + 7), .int tp, .int la, .int le, .int cu, .int tk, .int sa, .int ti, .int fa, .int fl, .ref (m + 8), .ref (m + 9), .ref (m + 10), .ref (m + 11), .int tr]) X (fW_X12_44_11 _) hm rfl rfl rfl rfl dX12_lots_2 ?_
  refine xr_heap (h' := h) (xu_id hm) ?_
  refine xr_aload_n X 0 dX12_lots_5 rfl rfl ?_
  refine xr_callV X hm rfl kw_1121 kw_1123 kw_31 cw_X12_isThere [] (c_X12_isThere hm ht T) rfl rfl rfl rfl rfl rfl rfl dX12_lots_6 ?_
  refine xr_if_ne (tgt := 15) X dX12_lots_9 (by decide) (fun c_9 => ?_) (fun c_9 => ?_)
  · have c_9 := of_decide_eq_true (xb_1.mp c_9)
    (try simp (disch := omega) only [nI_toInt, i32_add, i32_sub, i32_mul, i64_addl, i32_l, k32_0, k64_0] at c_9)
    refine xr_aload_n X 0 dX12_lots_15 rfl rfl ?_
    refine xr_iload_n X 1 dX12_lots_16 rfl rfl ?_
    refine xr_callV X hm rfl kw_1126 kw_1128 kw_32 cw_X12_isSet [.int s] (c_X12_isSet hm ht T) rfl rfl rfl rfl rfl rfl rfl dX12_lots_17 ?_
    refine xr_if_eq (tgt := 35) X dX12_lots_20 (by decide) (fun c_20 => ?_) (fun c_20 => ?_)
    · have c_20 := of_decide_eq_false (xb_0.mp c_20)
      (try simp (disch := omega) only [nI_toInt, i32_add, i32_sub, i32_mul, i64_addl, i32_l, k32_0, k32_2, k64_0, k64_2] at c_20)
      refine xr_ldc (v := (-1000001)) X kw_1031 dX12_lots_35 ?_
      exact xr_iret X rfl (xv ((if_pos (by omega)).trans (if_neg (by omega)))) ((if_neg (fun q => by have q9 := q; unfold okLots at q9; omega)).symm) rfl rfl rfl dX12_lots_37
    · have c_20 := of_decide_eq_true (xb_1.mp c_20)
      (try simp (disch := omega) only [nI_toInt, i32_add, i32_sub, i32_mul, i64_addl, i32_l, k32_0, k32_2, k64_0, k64_2] at c_20)
      have tn_s := (i32_tn (x := s) (by omega)).2
      refine xr_iload_n X 2 dX12_lots_23 rfl rfl ?_
      refine xr_i2l X dX12_lots_24 ?_
      refine xr_lconst (v := 1) X dX12_lots_25 (by decide) ?_
      refine xr_ldc2 (v := 999999) X kw_1178 dX12_lots_26 ?_
      refine xr_callS X kw_1027 kw_1028 cw_X12_in [.long e.toInt64, .long 1, .long 999999] c_X12_in rfl rfl rfl rfl rfl rfl rfl dX12_lots_29 ?_
      refine xr_if_ne (tgt := 38) X dX12_lots_32 (by decide) (fun c_32 => ?_) (fun c_32 => ?_)
      · have c_32 := of_decide_eq_true (xb_1.mp c_32)
        (try simp (disch := omega) only [nI_toInt, i32_add, i32_sub, i32_mul, i64_addl, i32_l, k32_1, k32_999999, k64_1, k64_999999] at c_32)
        have tn_e := (i32_tn (x := e) (by omega)).2
        refine xr_aload_n X 0 dX12_lots_38 rfl rfl ?_
        refine xr_get X fF_X12_19_11 hm rfl dX12_lots_39 ?_
        refine xr_iconst (v := 1) X dX12_lots_42 (by decide) ?_
        refine xr_iald (j := 1) X ht (xI_e (by decide) (by omega) (by omega)) dX12_lots_43 ?_
        refine xr_top (y := (nI day)) T.2.2.1 ?_
        refine xr_sipush (v := 9999) X dX12_lots_44 (by decide) ?_
        refine xr_icmp_ne (tgt := 53) X dX12_lots_47 (by decide) (fun c_47 => ?_) (fun c_47 => ?_)
        · have c_47 := mt i32_eq.mpr c_47
          (try simp (disch := omega) only [nI_toInt, i32_add, i32_sub, i32_mul, i64_addl, i32_l, k32_9999] at c_47)
          refine xr_aload_n X 0 dX12_lots_53 rfl rfl ?_
          refine xr_iload_n X 1 dX12_lots_54 rfl rfl ?_
          refine xr_top (y := (nI (s.toNatClampNeg))) ((i32_tn (by omega)).1) ?_
          refine xr_aload_n X 0 dX12_lots_55 rfl rfl ?_
          refine xr_get X fF_X12_19_11 hm rfl dX12_lots_56 ?_
          refine xr_iconst (v := 2) X dX12_lots_59 (by decide) ?_
          refine xr_iald (j := 2) X ht (xI_e (by decide) (by omega) (by omega)) dX12_lots_60 ?_
          refine xr_top (y := (nI b)) T.2.2.2.2.1 ?_
          refine xr_iconst (v := (-1)) X dX12_lots_61 (by decide) ?_
          refine xr_iconst (v := 0) X dX12_lots_62 (by decide) ?_
          refine xr_callV X hm rfl kw_1138 kw_1140 kw_35 cw_X12_doneBy [.int (nI (s.toNatClampNeg)), .int (nI b), .int (-1), .int 0] (c_X12_doneBy (l2 := (s.toNatClampNeg)) (b2 := b) (hw := 0) (o := (-1)) hm ht T (by omega) (by omega) (by omega)) rfl rfl rfl rfl rfl rfl rfl dX12_lots_63 ?_
          refine xr_top (y := nI (dn kd wh mn np (s.toNatClampNeg) b)) (by rw [dnO_n T.1]) ?_
          refine xr_istore_n (lv' := [(3, .int (nI (dn kd wh mn np (s.toNatClampNeg) b))), (0, .ref m), (1, .int s), (2, .int e)]) X dX12_lots_66 rfl rfl rfl ?_
          refine xr_iload_n X 3 dX12_lots_67 rfl rfl ?_
          refine xr_i2l X dX12_lots_68 ?_
          refine xr_lstore (lv' := [(4, .long e.toInt64), (3, .int (nI (dn kd wh mn np (s.toNatClampNeg) b))), (0, .ref m), (1, .int s), (2, .int e)]) X dX12_lots_69 rfl rfl ?_
          refine xr_iconst (v := 0) X dX12_lots_71 (by decide) ?_
          refine xr_istore (lv' := [(6, .int 0), (4, .long e.toInt64), (3, .int (nI (dn kd wh mn np (s.toNatClampNeg) b))), (0, .ref m), (1, .int s), (2, .int e)]) X dX12_lots_72 rfl rfl ?_
          rw [show a_lots kd wh mn np day b s e = nI (lotO kd wh mn np b s e) from (((if_pos (by omega)).trans (if_pos (by omega))).trans (if_neg (by omega))), if_pos (show okLots np day s e from ⟨by omega, by omega, by omega, by omega, by omega, by omega⟩)]
          refine xr_lve (lv' := [(6, .int (nI 0)), (4, .long (lN (lotX kd e.toNatClampNeg 0))), (3, .int (nI (lotD kd mn e.toNatClampNeg (dn kd wh mn np s.toNatClampNeg b) 0))), (0, .ref m), (1, .int s), (2, .int e)]) (by rw [lotX, lotD, ← nI_l (by omega), ← (i32_tn (x := e) (by omega)).1]; rfl) ?_
          exact l_X12_lots X hm ht T hwas ha (by omega) (by omega) (by omega) (by omega) np 0 (by omega)
        · have c_47 := i32_eq.mp c_47
          (try simp (disch := omega) only [nI_toInt, i32_add, i32_sub, i32_mul, i64_addl, i32_l, k32_9999] at c_47)
          refine xr_ldc (v := (-1000003)) X kw_1054 dX12_lots_50 ?_
          exact xr_iret X rfl (xv (((if_pos (by omega)).trans (if_pos (by omega))).trans (if_pos (by omega)))) ((if_neg (fun q => by have q9 := q; unfold okLots at q9; omega)).symm) rfl rfl rfl dX12_lots_52
      · have c_32 := of_decide_eq_false (xb_0.mp c_32)
        (try simp (disch := omega) only [nI_toInt, i32_add, i32_sub, i32_mul, i64_addl, i32_l, k32_1, k32_999999, k64_1, k64_999999] at c_32)
        refine xr_ldc (v := (-1000001)) X kw_1031 dX12_lots_35 ?_
        exact xr_iret X rfl (xv ((if_pos (by omega)).trans (if_neg (by omega)))) ((if_neg (fun q => by have q9 := q; unfold okLots at q9; omega)).symm) rfl rfl rfl dX12_lots_37
  · have c_9 := of_decide_eq_false (xb_0.mp c_9)
    (try simp (disch := omega) only [nI_toInt, i32_add, i32_sub, i32_mul, i64_addl, i32_l, k32_0, k64_0] at c_9)
    refine xr_ldc (v := (-1000002)) X kw_1125 dX12_lots_12 ?_
    exact xr_iret X rfl (xv (if_neg (by omega))) ((if_neg (fun q => by have q9 := q; unfold okLots at q9; omega)).symm) rfl rfl rfl dX12_lots_14
