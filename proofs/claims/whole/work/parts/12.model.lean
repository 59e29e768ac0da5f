set_option maxRecDepth 100000 in
theorem l_X12_doneBy {Γ : xΓ} {Ω : xW} {h : xH} {sz : Nat} (X : xX Γ Ω cX12_doneBy 8 RX12 "doneBy" (some .int) 2 70 0 0) {m : Nat} {st ac tp la le cu tk sa ti fa fl tr : Int32} {t : Nat → Int32} {np day b : Nat} {kd wh mn : Nat → Nat} {l2 b2 hw : Nat} {o : Int32} (hm : h m = some (mO m st ac tp la le cu tk sa ti fa fl tr)) (ht : h (m + 4) = some (.inl (.int, 21, .inl t))) (T : tOK t np kd wh mn day b) (hl : l2 < 64) (hb : b2 < 64) (hh : hw ≤ 2) : ∀ (j0 p : Nat), p + j0 = np → xG Γ Ω 8 (xQ Γ Ω (some (.int (nI (dnO kd wh mn np o hw l2 b2)))) h (sz) 0 0) 6 [(6, .int (nI p)), (5, .int (nI (osum (fun p => dO kd wh mn o hw p l2 b2) p))), (0, .ref m), (1, .int (nI l2)), (2, .int (nI b2)), (3, .int o), (4, .int (nI hw))] ([]) h sz 0 0 := by
  intro j0
  induction j0 with
  | zero =>
    intro p hk
    have ek : p = np := by omega
    refine xr_iload X 0 dX12_doneBy_6 rfl ?_
    refine xr_aload_n X 2 dX12_doneBy_8 rfl rfl ?_
    refine xr_get X fF_X12_19_11 hm rfl dX12_doneBy_9 ?_
    refine xr_iconst (v := 0) X dX12_doneBy_12 (by decide) ?_
    refine xr_iald (j := 0) X ht (xI_e (by decide) (by omega) (by omega)) dX12_doneBy_13 ?_
    refine xr_top (y := (nI np)) T.2.1 ?_
    refine xr_icmp_ge (tgt := 85) X dX12_doneBy_14 (by decide) (fun _ => ?_) (fun c_14 => absurd (by subst ek; exact i32_le.mpr (Int.le_refl _)) c_14)
    refine xr_iload X 1 dX12_doneBy_85 rfl ?_
    exact xr_iret X rfl (by rw [ek, dnO]) rfl rfl rfl rfl dX12_doneBy_87
  | succ j0 ih =>
    intro p hk
    have lk : p < np := by omega
    have h6 := T.1
    refine xr_iload X 0 dX12_doneBy_6 rfl ?_
    refine xr_aload_n X 2 dX12_doneBy_8 rfl rfl ?_
    refine xr_get X fF_X12_19_11 hm rfl dX12_doneBy_9 ?_
    refine xr_iconst (v := 0) X dX12_doneBy_12 (by decide) ?_
    refine xr_iald (j := 0) X ht (xI_e (by decide) (by omega) (by omega)) dX12_doneBy_13 ?_
    refine xr_top (y := (nI np)) T.2.1 ?_
    refine xr_icmp_ge (tgt := 85) X dX12_doneBy_14 (by decide) (fun c_14 => absurd c_14 (by rw [i32_le, nI_toInt (by omega), nI_toInt (by omega)]; omega)) (fun _ => ?_)
    refine xr_aload_n X 2 dX12_doneBy_17 rfl rfl ?_
    refine xr_iload X 0 dX12_doneBy_18 rfl ?_
    refine xr_iload_n X 3 dX12_doneBy_20 rfl rfl ?_
    refine xr_iload_n X 4 dX12_doneBy_21 rfl rfl ?_
    refine xr_callV X hm rfl kw_1142 kw_1144 kw_36 cw_X12_doesIt [.int (nI p), .int (nI l2), .int (nI b2)] (c_X12_doesIt (p := p) (l2 := l2) (b2 := b2) hm ht T (by omega) (by omega) (by omega)) rfl rfl rfl rfl rfl rfl rfl dX12_doneBy_22 ?_
    refine xr_istore (lv' := [(7, .int (xb (dz kd wh mn p l2 b2))), (6, .int (nI p)), (5, .int (nI (osum (fun p => dO kd wh mn o hw p l2 b2) p))), (0, .ref m), (1, .int (nI l2)), (2, .int (nI b2)), (3, .int o), (4, .int (nI hw))]) X dX12_doneBy_25 rfl rfl ?_
    refine xr_iload X 1 dX12_doneBy_27 rfl ?_
    refine xr_iload_n X 6 dX12_doneBy_29 rfl rfl ?_
    refine xr_icmp_ne (tgt := 61) X dX12_doneBy_30 (by decide) (fun c_30 => ?_) (fun c_30 => ?_)
    · refine xr_iload X 2 dX12_doneBy_61 rfl ?_
      refine xr_iload X 0 dX12_doneBy_63 rfl ?_
      refine xr_top (y := (xb (dO kd wh mn o hw p l2 b2))) (by rw [dO, if_neg c_30]) ?_
      refine xr_if_eq (tgt := 75) X dX12_doneBy_65 (by decide) (fun c_65 => ?_) (fun c_65 => ?_)
      · have c_65 := xb_0.mp c_65
        refine xr_iconst (v := 0) X dX12_doneBy_75 (by decide) ?_
        refine xr_ior X dX12_doneBy_76 ?_
        refine xr_top (y := (nI (osum (fun p => dO kd wh mn o hw p l2 b2) (p + 1)))) (by rw [osum, if_neg (by simp [c_65])]; simp) ?_
        refine xr_istore (lv' := [(5, .int (nI (osum (fun p => dO kd wh mn o hw p l2 b2) (p + 1)))), (7, .int (xb (dz kd wh mn p l2 b2))), (6, .int (nI p)), (0, .ref m), (1, .int (nI l2)), (2, .int (nI b2)), (3, .int o), (4, .int (nI hw))]) X dX12_doneBy_77 rfl rfl ?_
        refine xr_iinc (v := nI (p + 1)) (lv' := [(6, .int (nI (p + 1))), (5, .int (nI (osum (fun p => dO kd wh mn o hw p l2 b2) (p + 1)))), (7, .int (xb (dz kd wh mn p l2 b2))), (0, .ref m), (1, .int (nI l2)), (2, .int (nI b2)), (3, .int o), (4, .int (nI hw))]) X 2 dX12_doneBy_79 rfl (nI_1 _) rfl rfl ?_
        refine xr_goto (tgt := 6) X dX12_doneBy_82 (by decide) ?_
        refine xr_locs (lv' := [(6, .int (nI (p + 1))), (5, .int (nI (osum (fun p => dO kd wh mn o hw p l2 b2) (p + 1)))), (0, .ref m), (1, .int (nI l2)), (2, .int (nI b2)), (3, .int o), (4, .int (nI hw))]) [0, 1, 3, 4, 5, 6, 7] rfl ?_
        exact ih (p + 1) (by omega)
      · have c_65 := xb_1.mp c_65
        refine xr_iconst (v := 1) X dX12_doneBy_68 (by decide) ?_
        refine xr_iload X 1 dX12_doneBy_69 rfl ?_
        refine xr_ishl X dX12_doneBy_71 ?_
        refine xr_goto (tgt := 76) X dX12_doneBy_72 (by decide) ?_
        refine xr_ior X dX12_doneBy_76 ?_
        refine xr_top (y := (nI (osum (fun p => dO kd wh mn o hw p l2 b2) (p + 1)))) (by rw [osum, if_pos c_65]; exact or_p _ (by omega) _ (osum_lt _ _)) ?_
        refine xr_istore (lv' := [(5, .int (nI (osum (fun p => dO kd wh mn o hw p l2 b2) (p + 1)))), (7, .int (xb (dz kd wh mn p l2 b2))), (6, .int (nI p)), (0, .ref m), (1, .int (nI l2)), (2, .int (nI b2)), (3, .int o), (4, .int (nI hw))]) X dX12_doneBy_77 rfl rfl ?_
        refine xr_iinc (v := nI (p + 1)) (lv' := [(6, .int (nI (p + 1))), (5, .int (nI (osum (fun p => dO kd wh mn o hw p l2 b2) (p + 1)))), (7, .int (xb (dz kd wh mn p l2 b2))), (0, .ref m), (1, .int (nI l2)), (2, .int (nI b2)), (3, .int o), (4, .int (nI hw))]) X 2 dX12_doneBy_79 rfl (nI_1 _) rfl rfl ?_
        refine xr_goto (tgt := 6) X dX12_doneBy_82 (by decide) ?_
        refine xr_locs (lv' := [(6, .int (nI (p + 1))), (5, .int (nI (osum (fun p => dO kd wh mn o hw p l2 b2) (p + 1)))), (0, .ref m), (1, .int (nI l2)), (2, .int (nI b2)), (3, .int o), (4, .int (nI hw))]) [0, 1, 3, 4, 5, 6, 7] rfl ?_
        exact ih (p + 1) (by omega)
    · refine xr_iload X 7 dX12_doneBy_33 rfl ?_
      refine xr_iconst (v := 1) X dX12_doneBy_35 (by decide) ?_
      refine xr_icmp_eq (tgt := 54) X dX12_doneBy_36 (by decide) (fun c_36 => ?_) (fun c_36 => ?_)
      · have c_36 := i32_eq.mp c_36
        (try simp (disch := omega) only [nI_toInt, i32_add, i32_sub, i32_mul, i64_addl, i32_l, k32_1, k64_1] at c_36)
        refine xr_iconst (v := 1) X dX12_doneBy_54 (by decide) ?_
        refine xr_goto (tgt := 59) X dX12_doneBy_55 (by decide) ?_
        refine xr_istore (lv' := [(7, .int 1), (6, .int (nI p)), (5, .int (nI (osum (fun p => dO kd wh mn o hw p l2 b2) p))), (0, .ref m), (1, .int (nI l2)), (2, .int (nI b2)), (3, .int o), (4, .int (nI hw))]) X dX12_doneBy_59 rfl rfl ?_
        refine xr_iload X 2 dX12_doneBy_61 rfl ?_
        refine xr_iload X 0 dX12_doneBy_63 rfl ?_
        refine xr_top (y := (xb (dO kd wh mn o hw p l2 b2))) (by rw [dO, if_pos c_30]; have c9 : hw = 1 := (by omega); simp [c9, xb]) ?_
        refine xr_if_eq (tgt := 75) X dX12_doneBy_65 (by decide) (fun c_65 => ?_) (fun c_65 => ?_)
        · have c_65 := xb_0.mp c_65
          refine xr_iconst (v := 0) X dX12_doneBy_75 (by decide) ?_
          refine xr_ior X dX12_doneBy_76 ?_
          refine xr_top (y := (nI (osum (fun p => dO kd wh mn o hw p l2 b2) (p + 1)))) (by rw [osum, if_neg (by simp [c_65])]; simp) ?_
          refine xr_istore (lv' := [(5, .int (nI (osum (fun p => dO kd wh mn o hw p l2 b2) (p + 1)))), (7, .int 1), (6, .int (nI p)), (0, .ref m), (1, .int (nI l2)), (2, .int (nI b2)), (3, .int o), (4, .int (nI hw))]) X dX12_doneBy_77 rfl rfl ?_
          refine xr_iinc (v := nI (p + 1)) (lv' := [(6, .int (nI (p + 1))), (5, .int (nI (osum (fun p => dO kd wh mn o hw p l2 b2) (p + 1)))), (7, .int 1), (0, .ref m), (1, .int (nI l2)), (2, .int (nI b2)), (3, .int o), (4, .int (nI hw))]) X 2 dX12_doneBy_79 rfl (nI_1 _) rfl rfl ?_
          refine xr_goto (tgt := 6) X dX12_doneBy_82 (by decide) ?_
          refine xr_locs (lv' := [(6, .int (nI (p + 1))), (5, .int (nI (osum (fun p => dO kd wh mn o hw p l2 b2) (p + 1)))), (0, .ref m), (1, .int (nI l2)), (2, .int (nI b2)), (3, .int o), (4, .int (nI hw))]) [0, 1, 3, 4, 5, 6, 7] rfl ?_
          exact ih (p + 1) (by omega)
        · have c_65 := xb_1.mp c_65
          refine xr_iconst (v := 1) X dX12_doneBy_68 (by decide) ?_
          refine xr_iload X 1 dX12_doneBy_69 rfl ?_
          refine xr_ishl X dX12_doneBy_71 ?_
          refine xr_goto (tgt := 76) X dX12_doneBy_72 (by decide) ?_
          refine xr_ior X dX12_doneBy_76 ?_
          refine xr_top (y := (nI (osum (fun p => dO kd wh mn o hw p l2 b2) (p + 1)))) (by rw [osum, if_pos c_65]; exact or_p _ (by omega) _ (osum_lt _ _)) ?_
          refine xr_istore (lv' := [(5, .int (nI (osum (fun p => dO kd wh mn o hw p l2 b2) (p + 1)))), (7, .int 1), (6, .int (nI p)), (0, .ref m), (1, .int (nI l2)), (2, .int (nI b2)), (3, .int o), (4, .int (nI hw))]) X dX12_doneBy_77 rfl rfl ?_
          refine xr_iinc (v := nI (p + 1)) (lv' := [(6, .int (nI (p + 1))), (5, .int (nI (osum (fun p => dO kd wh mn o hw p l2 b2) (p + 1)))), (7, .int 1), (0, .ref m), (1, .int (nI l2)), (2, .int (nI b2)), (3, .int o), (4, .int (nI hw))]) X 2 dX12_doneBy_79 rfl (nI_1 _) rfl rfl ?_
          refine xr_goto (tgt := 6) X dX12_doneBy_82 (by decide) ?_
          refine xr_locs (lv' := [(6, .int (nI (p + 1))), (5, .int (nI (osum (fun p => dO kd wh mn o hw p l2 b2) (p + 1)))), (0, .ref m), (1, .int (nI l2)), (2, .int (nI b2)), (3, .int o), (4, .int (nI hw))]) [0, 1, 3, 4, 5, 6, 7] rfl ?_
          exact ih (p + 1) (by omega)
      · have c_36 := mt i32_eq.mpr c_36
        (try simp (disch := omega) only [nI_toInt, i32_add, i32_sub, i32_mul, i64_addl, i32_l, k32_1, k64_1] at c_36)
        refine xr_iload X 7 dX12_doneBy_39 rfl ?_
        refine xr_if_ne (tgt := 58) X dX12_doneBy_41 (by decide) (fun c_41 => ?_) (fun c_41 => ?_)
        · have c_41 := mt i32_eq.mpr c_41
          (try simp (disch := omega) only [nI_toInt, i32_add, i32_sub, i32_mul, i64_addl, i32_l, k32_0, k64_0] at c_41)
          refine xr_iconst (v := 0) X dX12_doneBy_58 (by decide) ?_
          refine xr_istore (lv' := [(7, .int 0), (6, .int (nI p)), (5, .int (nI (osum (fun p => dO kd wh mn o hw p l2 b2) p))), (0, .ref m), (1, .int (nI l2)), (2, .int (nI b2)), (3, .int o), (4, .int (nI hw))]) X dX12_doneBy_59 rfl rfl ?_
          refine xr_iload X 2 dX12_doneBy_61 rfl ?_
          refine xr_iload X 0 dX12_doneBy_63 rfl ?_
          refine xr_top (y := (xb (dO kd wh mn o hw p l2 b2))) (by rw [dO, if_pos c_30]; have c9 : ¬ hw = 0 := (by omega); have c8 : ¬ hw = 1 := (by omega); simp [c9, c8, xb]) ?_
          refine xr_if_eq (tgt := 75) X dX12_doneBy_65 (by decide) (fun c_65 => ?_) (fun c_65 => ?_)
          · have c_65 := xb_0.mp c_65
            refine xr_iconst (v := 0) X dX12_doneBy_75 (by decide) ?_
            refine xr_ior X dX12_doneBy_76 ?_
            refine xr_top (y := (nI (osum (fun p => dO kd wh mn o hw p l2 b2) (p + 1)))) (by rw [osum, if_neg (by simp [c_65])]; simp) ?_
            refine xr_istore (lv' := [(5, .int (nI (osum (fun p => dO kd wh mn o hw p l2 b2) (p + 1)))), (7, .int 0), (6, .int (nI p)), (0, .ref m), (1, .int (nI l2)), (2, .int (nI b2)), (3, .int o), (4, .int (nI hw))]) X dX12_doneBy_77 rfl rfl ?_
            refine xr_iinc (v := nI (p + 1)) (lv' := [(6, .int (nI (p + 1))), (5, .int (nI (osum (fun p => dO kd wh mn o hw p l2 b2) (p + 1)))), (7, .int 0), (0, .ref m), (1, .int (nI l2)), (2, .int (nI b2)), (3, .int o), (4, .int (nI hw))]) X 2 dX12_doneBy_79 rfl (nI_1 _) rfl rfl ?_
            refine xr_goto (tgt := 6) X dX12_doneBy_82 (by decide) ?_
            refine xr_locs (lv' := [(6, .int (nI (p + 1))), (5, .int (nI (osum (fun p => dO kd wh mn o hw p l2 b2) (p + 1)))), (0, .ref m), (1, .int (nI l2)), (2, .int (nI b2)), (3, .int o), (4, .int (nI hw))]) [0, 1, 3, 4, 5, 6, 7] rfl ?_
            exact ih (p + 1) (by omega)
          · have c_65 := xb_1.mp c_65
            refine xr_iconst (v := 1) X dX12_doneBy_68 (by decide) ?_
            refine xr_iload X 1 dX12_doneBy_69 rfl ?_
            refine xr_ishl X dX12_doneBy_71 ?_
            refine xr_goto (tgt := 76) X dX12_doneBy_72 (by decide) ?_
            refine xr_ior X dX12_doneBy_76 ?_
            refine xr_top (y := (nI (osum (fun p => dO kd wh mn o hw p l2 b2) (p + 1)))) (by rw [osum, if_pos c_65]; exact or_p _ (by omega) _ (osum_lt _ _)) ?_
            refine xr_istore (lv' := [(5, .int (nI (osum (fun p => dO kd wh mn o hw p l2 b2) (p + 1)))), (7, .int 0), (6, .int (nI p)), (0, .ref m), (1, .int (nI l2)), (2, .int (nI b2)), (3, .int o), (4, .int (nI hw))]) X dX12_doneBy_77 rfl rfl ?_
            refine xr_iinc (v := nI (p + 1)) (lv' := [(6, .int (nI (p + 1))), (5, .int (nI (osum (fun p => dO kd wh mn o hw p l2 b2) (p + 1)))), (7, .int 0), (0, .ref m), (1, .int (nI l2)), (2, .int (nI b2)), (3, .int o), (4, .int (nI hw))]) X 2 dX12_doneBy_79 rfl (nI_1 _) rfl rfl ?_
            refine xr_goto (tgt := 6) X dX12_doneBy_82 (by decide) ?_
            refine xr_locs (lv' := [(6, .int (nI (p + 1))), (5, .int (nI (osum (fun p => dO kd wh mn o hw p l2 b2) (p + 1)))), (0, .ref m), (1, .int (nI l2)), (2, .int (nI b2)), (3, .int o), (4, .int (nI hw))]) [0, 1, 3, 4, 5, 6, 7] rfl ?_
            exact ih (p + 1) (by omega)
        · have c_41 := i32_eq.mp c_41
          (try simp (disch := omega) only [nI_toInt, i32_add, i32_sub, i32_mul, i64_addl, i32_l, k32_0, k64_0] at c_41)
          refine xr_iload_n X 4 dX12_doneBy_44 rfl rfl ?_
          refine xr_iload X 1 dX12_doneBy_45 rfl ?_
          refine xr_ishr X dX12_doneBy_47 ?_
          refine xr_iconst (v := 1) X dX12_doneBy_48 (by decide) ?_
          refine xr_iand X dX12_doneBy_49 ?_
          refine xr_top (y := (xb (l2.testBit p))) (bt_n (by omega) (by omega)) ?_
          refine xr_iconst (v := 1) X dX12_doneBy_50 (by decide) ?_
          refine xr_icmp_ne (tgt := 58) X dX12_doneBy_51 (by decide) (fun c_51 => ?_) (fun c_51 => ?_)
          · have c_51 := xb_not1 c_51
            refine xr_iconst (v := 0) X dX12_doneBy_58 (by decide) ?_
            refine xr_istore (lv' := [(7, .int 0), (6, .int (nI p)), (5, .int (nI (osum (fun p => dO kd wh mn o hw p l2 b2) p))), (0, .ref m), (1, .int (nI l2)), (2, .int (nI b2)), (3, .int o), (4, .int (nI hw))]) X dX12_doneBy_59 rfl rfl ?_
            refine xr_iload X 2 dX12_doneBy_61 rfl ?_
            refine xr_iload X 0 dX12_doneBy_63 rfl ?_
            refine xr_top (y := (xb (dO kd wh mn o hw p l2 b2))) (by rw [dO, if_pos c_30]; have c8 : ¬ hw = 1 := (by omega); simp [c8, c_51, xb]) ?_
            refine xr_if_eq (tgt := 75) X dX12_doneBy_65 (by decide) (fun c_65 => ?_) (fun c_65 => ?_)
            · have c_65 := xb_0.mp c_65
              refine xr_iconst (v := 0) X dX12_doneBy_75 (by decide) ?_
              refine xr_ior X dX12_doneBy_76 ?_
              refine xr_top (y := (nI (osum (fun p => dO kd wh mn o hw p l2 b2) (p + 1)))) (by rw [osum, if_neg (by simp [c_65])]; simp) ?_
              refine xr_istore (lv' := [(5, .int (nI (osum (fun p => dO kd wh mn o hw p l2 b2) (p + 1)))), (7, .int 0), (6, .int (nI p)), (0, .ref m), (1, .int (nI l2)), (2, .int (nI b2)), (3, .int o), (4, .int (nI hw))]) X dX12_doneBy_77 rfl rfl ?_
              refine xr_iinc (v := nI (p + 1)) (lv' := [(6, .int (nI (p + 1))), (5, .int (nI (osum (fun p => dO kd wh mn o hw p l2 b2) (p + 1)))), (7, .int 0), (0, .ref m), (1, .int (nI l2)), (2, .int (nI b2)), (3, .int o), (4, .int (nI hw))]) X 2 dX12_doneBy_79 rfl (nI_1 _) rfl rfl ?_
              refine xr_goto (tgt := 6) X dX12_doneBy_82 (by decide) ?_
              refine xr_locs (lv' := [(6, .int (nI (p + 1))), (5, .int (nI (osum (fun p => dO kd wh mn o hw p l2 b2) (p + 1)))), (0, .ref m), (1, .int (nI l2)), (2, .int (nI b2)), (3, .int o), (4, .int (nI hw))]) [0, 1, 3, 4, 5, 6, 7] rfl ?_
              exact ih (p + 1) (by omega)
            · have c_65 := xb_1.mp c_65
              refine xr_iconst (v := 1) X dX12_doneBy_68 (by decide) ?_
              refine xr_iload X 1 dX12_doneBy_69 rfl ?_
              refine xr_ishl X dX12_doneBy_71 ?_
              refine xr_goto (tgt := 76) X dX12_doneBy_72 (by decide) ?_
              refine xr_ior X dX12_doneBy_76 ?_
              refine xr_top (y := (nI (osum (fun p => dO kd wh mn o hw p l2 b2) (p + 1)))) (by rw [osum, if_pos c_65]; exact or_p _ (by omega) _ (osum_lt _ _)) ?_
              refine xr_istore (lv' := [(5, .int (nI (osum (fun p => dO kd wh mn o hw p l2 b2) (p + 1)))), (7, .int 0), (6, .int (nI p)), (0, .ref m), (1, .int (nI l2)), (2, .int (nI b2)), (3, .int o), (4, .int (nI hw))]) X dX12_doneBy_77 rfl rfl ?_
              refine xr_iinc (v := nI (p + 1)) (lv' := [(6, .int (nI (p + 1))), (5, .int (nI (osum (fun p => dO kd wh mn o hw p l2 b2) (p + 1)))), (7, .int 0), (0, .ref m), (1, .int (nI l2)), (2, .int (nI b2)), (3, .int o), (4, .int (nI hw))]) X 2 dX12_doneBy_79 rfl (nI_1 _) rfl rfl ?_
              refine xr_goto (tgt := 6) X dX12_doneBy_82 (by decide) ?_
              refine xr_locs (lv' := [(6, .int (nI (p + 1))), (5, .int (nI (osum (fun p => dO kd wh mn o hw p l2 b2) (p + 1)))), (0, .ref m), (1, .int (nI l2)), (2, .int (nI b2)), (3, .int o), (4, .int (nI hw))]) [0, 1, 3, 4, 5, 6, 7] rfl ?_
              exact ih (p + 1) (by omega)
          · have c_51 := xb_is1.mp c_51
            refine xr_iconst (v := 1) X dX12_doneBy_54 (by decide) ?_
            refine xr_goto (tgt := 59) X dX12_doneBy_55 (by decide) ?_
            refine xr_istore (lv' := [(7, .int 1), (6, .int (nI p)), (5, .int (nI (osum (fun p => dO kd wh mn o hw p l2 b2) p))), (0, .ref m), (1, .int (nI l2)), (2, .int (nI b2)), (3, .int o), (4, .int (nI hw))]) X dX12_doneBy_59 rfl rfl ?_
            refine xr_iload X 2 dX12_doneBy_61 rfl ?_
            refine xr_iload X 0 dX12_doneBy_63 rfl ?_
            refine xr_top (y := (xb (dO kd wh mn o hw p l2 b2))) (by rw [dO, if_pos c_30]; have c9 : hw = 0 := (by omega); simp [c9, c_51, xb]) ?_
            refine xr_if_eq (tgt := 75) X dX12_doneBy_65 (by decide) (fun c_65 => ?_) (fun c_65 => ?_)
            · have c_65 := xb_0.mp c_65
              refine xr_iconst (v := 0) X dX12_doneBy_75 (by decide) ?_
              refine xr_ior X dX12_doneBy_76 ?_
              refine xr_top (y := (nI (osum (fun p => dO kd wh mn o hw p l2 b2) (p + 1)))) (by rw [osum, if_neg (by simp [c_65])]; simp) ?_
              refine xr_istore (lv' := [(5, .int (nI (osum (fun p => dO kd wh mn o hw p l2 b2) (p + 1)))), (7, .int 1), (6, .int (nI p)), (0, .ref m), (1, .int (nI l2)), (2, .int (nI b2)), (3, .int o), (4, .int (nI hw))]) X dX12_doneBy_77 rfl rfl ?_
              refine xr_iinc (v := nI (p + 1)) (lv' := [(6, .int (nI (p + 1))), (5, .int (nI (osum (fun p => dO kd wh mn o hw p l2 b2) (p + 1)))), (7, .int 1), (0, .ref m), (1, .int (nI l2)), (2, .int (nI b2)), (3, .int o), (4, .int (nI hw))]) X 2 dX12_doneBy_79 rfl (nI_1 _) rfl rfl ?_
              refine xr_goto (tgt := 6) X dX12_doneBy_82 (by decide) ?_
              refine xr_locs (lv' := [(6, .int (nI (p + 1))), (5, .int (nI (osum (fun p => dO kd wh mn o hw p l2 b2) (p + 1)))), (0, .ref m), (1, .int (nI l2)), (2, .int (nI b2)), (3, .int o), (4, .int (nI hw))]) [0, 1, 3, 4, 5, 6, 7] rfl ?_
              exact ih (p + 1) (by omega)
            · have c_65 := xb_1.mp c_65
              refine xr_iconst (v := 1) X dX12_doneBy_68 (by decide) ?_
              refine xr_iload X 1 dX12_doneBy_69 rfl ?_
              refine xr_ishl X dX12_doneBy_71 ?_
              refine xr_goto (tgt := 76) X dX12_doneBy_72 (by decide) ?_
              refine xr_ior X dX12_doneBy_76 ?_
              refine xr_top (y := (nI (osum (fun p => dO kd wh mn o hw p l2 b2) (p + 1)))) (by rw [osum, if_pos c_65]; exact or_p _ (by omega) _ (osum_lt _ _)) ?_
              refine xr_istore (lv' := [(5, .int (nI (osum (fun p => dO kd wh mn o hw p l2 b2) (p + 1)))), (7, .int 1), (6, .int (nI p)), (0, .ref m), (1, .int (nI l2)), (2, .int (nI b2)), (3, .int o), (4, .int (nI hw))]) X dX12_doneBy_77 rfl rfl ?_
              refine xr_iinc (v := nI (p + 1)) (lv' := [(6, .int (nI (p + 1))), (5, .int (nI (osum (fun p => dO kd wh mn o hw p l2 b2) (p + 1)))), (7, .int 1), (0, .ref m), (1, .int (nI l2)), (2, .int (nI b2)), (3, .int o), (4, .int (nI hw))]) X 2 dX12_doneBy_79 rfl (nI_1 _) rfl rfl ?_
              refine xr_goto (tgt := 6) X dX12_doneBy_82 (by decide) ?_
              refine xr_locs (lv' := [(6, .int (nI (p + 1))), (5, .int (nI (osum (fun p => dO kd wh mn o hw p l2 b2) (p + 1)))), (0, .ref m), (1, .int (nI l2)), (2, .int (nI b2)), (3, .int o), (4, .int (nI hw))]) [0, 1, 3, 4, 5, 6, 7] rfl ?_
              exact ih (p + 1) (by omega)
set_option maxRecDepth 100000 in
theorem c_X12_doneBy {l : Launch} {Ω : xW} {h : xH} {sz : Nat} {m : Nat} {st ac tp la le cu tk sa ti fa fl tr : Int32} {t : Nat → Int32} {np day b : Nat} {kd wh mn : Nat → Nat} {l2 b2 hw : Nat} {o : Int32} (hm : h m = some (mO m st ac tp la le cu tk sa ti fa fl tr)) (ht : h (m + 4) = some (.inl (.int, 21, .inl t))) (T : tOK t np kd wh mn day b) (hl : l2 < 64) (hb : b2 < 64) (hh : hw ≤ 2) : xC l Ω yX12_doneBy cX12_doneBy 8 (some .int) 2 0 0 [.ref m, .int (nI l2), .int (nI b2), .int o, .int (nI hw)] h sz (some (.int (nI (dnO kd wh mn np o hw l2 b2)))) h (sz) := by
  refine xC_of (lv := [(0, .ref m), (1, .int (nI l2)), (2, .int (nI b2)), (3, .int o), (4, .int (nI hw))]) pn_X12 rfl rfl (fun Γ X hΓ hbs => ?_)
  have X : xX Γ Ω cX12_doneBy 8 RX12 "doneBy" (some .int) 2 70 0 0 := X
  subst hΓ
  refine xr_iconst (v := 0) X dX12_doneBy_0 (by decide) ?_
  refine xr_istore (lv' := [(5, .int 0), (0, .ref m), (1, .int (nI l2)), (2, .int (nI b2)), (3, .int o), (4, .int (nI hw))]) X dX12_doneBy_1 rfl rfl ?_
  refine xr_iconst (v := 0) X dX12_doneBy_3 (by decide) ?_
  refine xr_istore (lv' := [(6, .int 0), (5, .int 0), (0, .ref m), (1, .int (nI l2)), (2, .int (nI b2)), (3, .int o), (4, .int (nI hw))]) X dX12_doneBy_4 rfl rfl ?_
  exact l_X12_doneBy X hm ht T hl hb hh np 0 (by omega)
set_option maxRecDepth 100000 in
theorem c_X12_isAgreed {l : Launch} {Ω : xW} {h : xH} {sz : Nat} {m : Nat} {st ac tp la le cu tk sa ti fa fl tr : Int32} {t : Nat → Int32} {np day b : Nat} {kd wh mn : Nat → Nat} {l2 b2 : Nat} (hm : h m = some (mO m st ac tp la le cu tk sa ti fa fl tr)) (ht : h (m + 4) = some (.inl (.int, 21, .inl t))) (T : tOK t np kd wh mn day b) (hl : l2 < 64) (hb : b2 < 64) : xC l Ω yX12_isAgreed cX12_isAgreed 3 (some .boolean) 3 0 0 [.ref m, .int (nI l2), .int (nI b2)] h sz (some (.int (xb (decide (dn kd wh mn np l2 b2 = l2))))) h (sz) := by
  refine xC_of (lv := [(0, .ref m), (1, .int (nI l2)), (2, .int (nI b2))]) pn_X12 rfl rfl (fun Γ X hΓ hbs => ?_)
  have X : xX Γ Ω cX12_isAgreed 3 RX12 "isAgreed" (some .boolean) 3 105 0 0 := X
  subst hΓ
  have h6 := T.1
  have h64 := pw_le h6
  have hpp := Nat.two_pow_pos np
  have hb6 := T.2.2.2.2.2.1
  have hd : dn kd wh mn np l2 b2 < 2 ^ np := osum_lt _ _
  refine xr_aload_n X 0 dX12_isAgreed_0 rfl rfl ?_
  refine xr_iload_n X 1 dX12_isAgreed_1 rfl rfl ?_
  refine xr_iload_n X 2 dX12_isAgreed_2 rfl rfl ?_
  refine xr_iconst (v := (-1)) X dX12_isAgreed_3 (by decide) ?_
  refine xr_iconst (v := 0) X dX12_isAgreed_4 (by decide) ?_
  refine xr_callV X hm rfl kw_1138 kw_1140 kw_35 cw_X12_doneBy [.int (nI l2), .int (nI b2), .int (-1), .int 0] (c_X12_doneBy (l2 := l2) (b2 := b2) (hw := 0) (o := (-1)) hm ht T (by omega) (by omega) (by omega)) rfl rfl rfl rfl rfl rfl rfl dX12_isAgreed_5 ?_
  refine xr_top (y := nI (dn kd wh mn np l2 b2)) (by rw [dnO_n T.1]) ?_
  refine xr_iload_n X 1 dX12_isAgreed_8 rfl rfl ?_
  refine xr_icmp_ne (tgt := 16) X dX12_isAgreed_9 (by decide) (fun c_9 => ?_) (fun c_9 => ?_)
  · have c_9 := mt i32_eq.mpr c_9
    (try simp (disch := omega) only [nI_toInt, i32_add, i32_sub, i32_mul, i64_addl, i32_l] at c_9)
    refine xr_iconst (v := 0) X dX12_isAgreed_16 (by decide) ?_
    exact xr_zret X rfl rfl (by first | exact xbT (by omega) | exact xbF (by omega)) rfl rfl rfl rfl dX12_isAgreed_17
  · have c_9 := i32_eq.mp c_9
    (try simp (disch := omega) only [nI_toInt, i32_add, i32_sub, i32_mul, i64_addl, i32_l] at c_9)
    refine xr_iconst (v := 1) X dX12_isAgreed_12 (by decide) ?_
    refine xr_goto (tgt := 17) X dX12_isAgreed_13 (by decide) ?_
    exact xr_zret X rfl rfl (by first | exact xbT (by omega) | exact xbF (by omega)) rfl rfl rfl rfl dX12_isAgreed_17
