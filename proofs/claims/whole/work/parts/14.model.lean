set_option maxRecDepth 100000 in
theorem l_X12_culprits {Γ : xΓ} {Ω : xW} {h : xH} {sz : Nat} (X : xX Γ Ω cX12_culprits 5 RX12 "culprits" (some .int) 4 140 0 0) {m : Nat} {st ac tp la le cu tk sa ti fa fl tr : Int32} {t : Nat → Int32} {np day b : Nat} {kd wh mn : Nat → Nat} {w : Int32} (hm : h m = some (mO m st ac tp la le cu tk sa ti fa fl tr)) (ht : h (m + 4) = some (.inl (.int, 21, .inl t))) (T : tOK t np kd wh mn day b) (hw : 0 ≤ w.toInt) : ∀ (j0 p : Nat), p + j0 = np → xG Γ Ω 5 (xQ Γ Ω (some (.int (nI (osum (cuP kd wh mn np b w.toInt) np)))) h (sz) 0 0) 32 [(3, .int (nI p)), (2, .int (nI (osum (cuP kd wh mn np b w.toInt) p))), (0, .ref m), (1, .int w)] ([]) h sz 0 0 := by
  intro j0
  induction j0 with
  | zero =>
    intro p hk
    have ek : p = np := by omega
    refine xr_iload_n X 0 dX12_culprits_32 rfl rfl ?_
    refine xr_aload_n X 2 dX12_culprits_33 rfl rfl ?_
    refine xr_get X fF_X12_19_11 hm rfl dX12_culprits_34 ?_
    refine xr_iconst (v := 0) X dX12_culprits_37 (by decide) ?_
    refine xr_iald (j := 0) X ht (xI_e (by decide) (by omega) (by omega)) dX12_culprits_38 ?_
    refine xr_top (y := (nI np)) T.2.1 ?_
    refine xr_icmp_ge (tgt := 101) X dX12_culprits_39 (by decide) (fun _ => ?_) (fun c_39 => absurd (by subst ek; exact i32_le.mpr (Int.le_refl _)) c_39)
    refine xr_iload_n X 1 dX12_culprits_101 rfl rfl ?_
    exact xr_iret X rfl (by rw [ek]) rfl rfl rfl rfl dX12_culprits_102
  | succ j0 ih =>
    intro p hk
    have lk : p < np := by omega
    have h6 := T.1
    refine xr_iload_n X 0 dX12_culprits_32 rfl rfl ?_
    refine xr_aload_n X 2 dX12_culprits_33 rfl rfl ?_
    refine xr_get X fF_X12_19_11 hm rfl dX12_culprits_34 ?_
    refine xr_iconst (v := 0) X dX12_culprits_37 (by decide) ?_
    refine xr_iald (j := 0) X ht (xI_e (by decide) (by omega) (by omega)) dX12_culprits_38 ?_
    refine xr_top (y := (nI np)) T.2.1 ?_
    refine xr_icmp_ge (tgt := 101) X dX12_culprits_39 (by decide) (fun c_39 => absurd c_39 (by rw [i32_le, nI_toInt (by omega), nI_toInt (by omega)]; omega)) (fun _ => ?_)
    refine xr_iload_n X 3 dX12_culprits_42 rfl rfl ?_
    refine xr_if_ne (tgt := 55) X dX12_culprits_43 (by decide) (fun c_43 => ?_) (fun c_43 => ?_)
    · have c_43 := mt i32_eq.mpr c_43
      (try simp (disch := omega) only [nI_toInt, i32_add, i32_sub, i32_mul, i64_addl, i32_l, k32_0, k64_0] at c_43)
      refine xr_aload_n X 2 dX12_culprits_55 rfl rfl ?_
      refine xr_iload_n X 0 dX12_culprits_56 rfl rfl ?_
      refine xr_iconst (v := 1) X dX12_culprits_57 (by decide) ?_
      refine xr_callV X hm rfl kw_1210 kw_1212 kw_43 cw_X12_hasAny [.int (nI p), .int 1] (c_X12_hasAny (o := nI p) (hw := 1) hm ht T (by omega)) rfl rfl rfl rfl rfl rfl rfl dX12_culprits_58 ?_
      refine xr_if_eq (tgt := 73) X dX12_culprits_61 (by decide) (fun c_61 => ?_) (fun c_61 => ?_)
      · have c_61 := xb_0.mp c_61
        refine xr_iconst (v := 1) X dX12_culprits_73 (by decide) ?_
        refine xr_goto (tgt := 78) X dX12_culprits_74 (by decide) ?_
        refine xr_top (y := (xb (cuP kd wh mn np b w.toInt p))) (by rw [cuP, if_neg (by omega), c_61]; rfl) ?_
        refine xr_istore (lv' := [(4, .int (xb (cuP kd wh mn np b w.toInt p))), (3, .int (nI p)), (2, .int (nI (osum (cuP kd wh mn np b w.toInt) p))), (0, .ref m), (1, .int w)]) X dX12_culprits_78 rfl rfl ?_
        refine xr_iload_n X 2 dX12_culprits_80 rfl rfl ?_
        refine xr_iload X 0 dX12_culprits_81 rfl ?_
        refine xr_if_eq (tgt := 92) X dX12_culprits_83 (by decide) (fun c_83 => ?_) (fun c_83 => ?_)
        · have c_83 := xb_0.mp c_83
          refine xr_iconst (v := 0) X dX12_culprits_92 (by decide) ?_
          refine xr_ior X dX12_culprits_93 ?_
          refine xr_top (y := (nI (osum (cuP kd wh mn np b w.toInt) (p + 1)))) (by rw [osum, if_neg (by simp [c_83])]; simp) ?_
          refine xr_istore_n (lv' := [(2, .int (nI (osum (cuP kd wh mn np b w.toInt) (p + 1)))), (4, .int (xb (cuP kd wh mn np b w.toInt p))), (3, .int (nI p)), (0, .ref m), (1, .int w)]) X dX12_culprits_94 rfl rfl rfl ?_
          refine xr_iinc (v := nI (p + 1)) (lv' := [(3, .int (nI (p + 1))), (2, .int (nI (osum (cuP kd wh mn np b w.toInt) (p + 1)))), (4, .int (xb (cuP kd wh mn np b w.toInt p))), (0, .ref m), (1, .int w)]) X 2 dX12_culprits_95 rfl (nI_1 _) rfl rfl ?_
          refine xr_goto (tgt := 32) X dX12_culprits_98 (by decide) ?_
          refine xr_locs (lv' := [(3, .int (nI (p + 1))), (2, .int (nI (osum (cuP kd wh mn np b w.toInt) (p + 1)))), (0, .ref m), (1, .int w)]) [0, 1, 3, 4] rfl ?_
          exact ih (p + 1) (by omega)
        · have c_83 := xb_1.mp c_83
          refine xr_iconst (v := 1) X dX12_culprits_86 (by decide) ?_
          refine xr_iload_n X 1 dX12_culprits_87 rfl rfl ?_
          refine xr_ishl X dX12_culprits_88 ?_
          refine xr_goto (tgt := 93) X dX12_culprits_89 (by decide) ?_
          refine xr_ior X dX12_culprits_93 ?_
          refine xr_top (y := (nI (osum (cuP kd wh mn np b w.toInt) (p + 1)))) (by rw [osum, if_pos c_83]; exact or_p _ (by omega) _ (osum_lt _ _)) ?_
          refine xr_istore_n (lv' := [(2, .int (nI (osum (cuP kd wh mn np b w.toInt) (p + 1)))), (4, .int (xb (cuP kd wh mn np b w.toInt p))), (3, .int (nI p)), (0, .ref m), (1, .int w)]) X dX12_culprits_94 rfl rfl rfl ?_
          refine xr_iinc (v := nI (p + 1)) (lv' := [(3, .int (nI (p + 1))), (2, .int (nI (osum (cuP kd wh mn np b w.toInt) (p + 1)))), (4, .int (xb (cuP kd wh mn np b w.toInt p))), (0, .ref m), (1, .int w)]) X 2 dX12_culprits_95 rfl (nI_1 _) rfl rfl ?_
          refine xr_goto (tgt := 32) X dX12_culprits_98 (by decide) ?_
          refine xr_locs (lv' := [(3, .int (nI (p + 1))), (2, .int (nI (osum (cuP kd wh mn np b w.toInt) (p + 1)))), (0, .ref m), (1, .int w)]) [0, 1, 3, 4] rfl ?_
          exact ih (p + 1) (by omega)
      · have c_61 := xb_1.mp c_61
        refine xr_aload_n X 2 dX12_culprits_64 rfl rfl ?_
        refine xr_iload_n X 0 dX12_culprits_65 rfl rfl ?_
        refine xr_iconst (v := 2) X dX12_culprits_66 (by decide) ?_
        refine xr_callV X hm rfl kw_1210 kw_1212 kw_43 cw_X12_hasAny [.int (nI p), .int 2] (c_X12_hasAny (o := nI p) (hw := 2) hm ht T (by omega)) rfl rfl rfl rfl rfl rfl rfl dX12_culprits_67 ?_
        refine xr_if_ne (tgt := 77) X dX12_culprits_70 (by decide) (fun c_70 => ?_) (fun c_70 => ?_)
        · have c_70 := xb_1.mp c_70
          refine xr_iconst (v := 0) X dX12_culprits_77 (by decide) ?_
          refine xr_top (y := (xb (cuP kd wh mn np b w.toInt p))) (by rw [cuP, if_neg (by omega), c_61, c_70]; rfl) ?_
          refine xr_istore (lv' := [(4, .int (xb (cuP kd wh mn np b w.toInt p))), (3, .int (nI p)), (2, .int (nI (osum (cuP kd wh mn np b w.toInt) p))), (0, .ref m), (1, .int w)]) X dX12_culprits_78 rfl rfl ?_
          refine xr_iload_n X 2 dX12_culprits_80 rfl rfl ?_
          refine xr_iload X 0 dX12_culprits_81 rfl ?_
          refine xr_if_eq (tgt := 92) X dX12_culprits_83 (by decide) (fun c_83 => ?_) (fun c_83 => ?_)
          · have c_83 := xb_0.mp c_83
            refine xr_iconst (v := 0) X dX12_culprits_92 (by decide) ?_
            refine xr_ior X dX12_culprits_93 ?_
            refine xr_top (y := (nI (osum (cuP kd wh mn np b w.toInt) (p + 1)))) (by rw [osum, if_neg (by simp [c_83])]; simp) ?_
            refine xr_istore_n (lv' := [(2, .int (nI (osum (cuP kd wh mn np b w.toInt) (p + 1)))), (4, .int (xb (cuP kd wh mn np b w.toInt p))), (3, .int (nI p)), (0, .ref m), (1, .int w)]) X dX12_culprits_94 rfl rfl rfl ?_
            refine xr_iinc (v := nI (p + 1)) (lv' := [(3, .int (nI (p + 1))), (2, .int (nI (osum (cuP kd wh mn np b w.toInt) (p + 1)))), (4, .int (xb (cuP kd wh mn np b w.toInt p))), (0, .ref m), (1, .int w)]) X 2 dX12_culprits_95 rfl (nI_1 _) rfl rfl ?_
            refine xr_goto (tgt := 32) X dX12_culprits_98 (by decide) ?_
            refine xr_locs (lv' := [(3, .int (nI (p + 1))), (2, .int (nI (osum (cuP kd wh mn np b w.toInt) (p + 1)))), (0, .ref m), (1, .int w)]) [0, 1, 3, 4] rfl ?_
            exact ih (p + 1) (by omega)
          · have c_83 := xb_1.mp c_83
            refine xr_iconst (v := 1) X dX12_culprits_86 (by decide) ?_
            refine xr_iload_n X 1 dX12_culprits_87 rfl rfl ?_
            refine xr_ishl X dX12_culprits_88 ?_
            refine xr_goto (tgt := 93) X dX12_culprits_89 (by decide) ?_
            refine xr_ior X dX12_culprits_93 ?_
            refine xr_top (y := (nI (osum (cuP kd wh mn np b w.toInt) (p + 1)))) (by rw [osum, if_pos c_83]; exact or_p _ (by omega) _ (osum_lt _ _)) ?_
            refine xr_istore_n (lv' := [(2, .int (nI (osum (cuP kd wh mn np b w.toInt) (p + 1)))), (4, .int (xb (cuP kd wh mn np b w.toInt p))), (3, .int (nI p)), (0, .ref m), (1, .int w)]) X dX12_culprits_94 rfl rfl rfl ?_
            refine xr_iinc (v := nI (p + 1)) (lv' := [(3, .int (nI (p + 1))), (2, .int (nI (osum (cuP kd wh mn np b w.toInt) (p + 1)))), (4, .int (xb (cuP kd wh mn np b w.toInt p))), (0, .ref m), (1, .int w)]) X 2 dX12_culprits_95 rfl (nI_1 _) rfl rfl ?_
            refine xr_goto (tgt := 32) X dX12_culprits_98 (by decide) ?_
            refine xr_locs (lv' := [(3, .int (nI (p + 1))), (2, .int (nI (osum (cuP kd wh mn np b w.toInt) (p + 1)))), (0, .ref m), (1, .int w)]) [0, 1, 3, 4] rfl ?_
            exact ih (p + 1) (by omega)
        · have c_70 := xb_0.mp c_70
          refine xr_iconst (v := 1) X dX12_culprits_73 (by decide) ?_
          refine xr_goto (tgt := 78) X dX12_culprits_74 (by decide) ?_
          refine xr_top (y := (xb (cuP kd wh mn np b w.toInt p))) (by rw [cuP, if_neg (by omega), c_61, c_70]; rfl) ?_
          refine xr_istore (lv' := [(4, .int (xb (cuP kd wh mn np b w.toInt p))), (3, .int (nI p)), (2, .int (nI (osum (cuP kd wh mn np b w.toInt) p))), (0, .ref m), (1, .int w)]) X dX12_culprits_78 rfl rfl ?_
          refine xr_iload_n X 2 dX12_culprits_80 rfl rfl ?_
          refine xr_iload X 0 dX12_culprits_81 rfl ?_
          refine xr_if_eq (tgt := 92) X dX12_culprits_83 (by decide) (fun c_83 => ?_) (fun c_83 => ?_)
          · have c_83 := xb_0.mp c_83
            refine xr_iconst (v := 0) X dX12_culprits_92 (by decide) ?_
            refine xr_ior X dX12_culprits_93 ?_
            refine xr_top (y := (nI (osum (cuP kd wh mn np b w.toInt) (p + 1)))) (by rw [osum, if_neg (by simp [c_83])]; simp) ?_
            refine xr_istore_n (lv' := [(2, .int (nI (osum (cuP kd wh mn np b w.toInt) (p + 1)))), (4, .int (xb (cuP kd wh mn np b w.toInt p))), (3, .int (nI p)), (0, .ref m), (1, .int w)]) X dX12_culprits_94 rfl rfl rfl ?_
            refine xr_iinc (v := nI (p + 1)) (lv' := [(3, .int (nI (p + 1))), (2, .int (nI (osum (cuP kd wh mn np b w.toInt) (p + 1)))), (4, .int (xb (cuP kd wh mn np b w.toInt p))), (0, .ref m), (1, .int w)]) X 2 dX12_culprits_95 rfl (nI_1 _) rfl rfl ?_
            refine xr_goto (tgt := 32) X dX12_culprits_98 (by decide) ?_
            refine xr_locs (lv' := [(3, .int (nI (p + 1))), (2, .int (nI (osum (cuP kd wh mn np b w.toInt) (p + 1)))), (0, .ref m), (1, .int w)]) [0, 1, 3, 4] rfl ?_
            exact ih (p + 1) (by omega)
          · have c_83 := xb_1.mp c_83
            refine xr_iconst (v := 1) X dX12_culprits_86 (by decide) ?_
            refine xr_iload_n X 1 dX12_culprits_87 rfl rfl ?_
            refine xr_ishl X dX12_culprits_88 ?_
            refine xr_goto (tgt := 93) X dX12_culprits_89 (by decide) ?_
            refine xr_ior X dX12_culprits_93 ?_
            refine xr_top (y := (nI (osum (cuP kd wh mn np b w.toInt) (p + 1)))) (by rw [osum, if_pos c_83]; exact or_p _ (by omega) _ (osum_lt _ _)) ?_
            refine xr_istore_n (lv' := [(2, .int (nI (osum (cuP kd wh mn np b w.toInt) (p + 1)))), (4, .int (xb (cuP kd wh mn np b w.toInt p))), (3, .int (nI p)), (0, .ref m), (1, .int w)]) X dX12_culprits_94 rfl rfl rfl ?_
            refine xr_iinc (v := nI (p + 1)) (lv' := [(3, .int (nI (p + 1))), (2, .int (nI (osum (cuP kd wh mn np b w.toInt) (p + 1)))), (4, .int (xb (cuP kd wh mn np b w.toInt p))), (0, .ref m), (1, .int w)]) X 2 dX12_culprits_95 rfl (nI_1 _) rfl rfl ?_
            refine xr_goto (tgt := 32) X dX12_culprits_98 (by decide) ?_
            refine xr_locs (lv' := [(3, .int (nI (p + 1))), (2, .int (nI (osum (cuP kd wh mn np b w.toInt) (p + 1)))), (0, .ref m), (1, .int w)]) [0, 1, 3, 4] rfl ?_
            exact ih (p + 1) (by omega)
    · have c_43 := i32_eq.mp c_43
      (try simp (disch := omega) only [nI_toInt, i32_add, i32_sub, i32_mul, i64_addl, i32_l, k32_0, k64_0] at c_43)
      refine xr_aload_n X 2 dX12_culprits_46 rfl rfl ?_
      refine xr_iload_n X 0 dX12_culprits_47 rfl rfl ?_
      refine xr_iconst (v := 0) X dX12_culprits_48 (by decide) ?_
      refine xr_callV X hm rfl kw_1210 kw_1212 kw_43 cw_X12_hasAny [.int (nI p), .int 0] (c_X12_hasAny (o := nI p) (hw := 0) hm ht T (by omega)) rfl rfl rfl rfl rfl rfl rfl dX12_culprits_49 ?_
      refine xr_goto (tgt := 78) X dX12_culprits_52 (by decide) ?_
      refine xr_top (y := (xb (cuP kd wh mn np b w.toInt p))) (by rw [cuP, if_pos (by omega)]) ?_
      refine xr_istore (lv' := [(4, .int (xb (cuP kd wh mn np b w.toInt p))), (3, .int (nI p)), (2, .int (nI (osum (cuP kd wh mn np b w.toInt) p))), (0, .ref m), (1, .int w)]) X dX12_culprits_78 rfl rfl ?_
      refine xr_iload_n X 2 dX12_culprits_80 rfl rfl ?_
      refine xr_iload X 0 dX12_culprits_81 rfl ?_
      refine xr_if_eq (tgt := 92) X dX12_culprits_83 (by decide) (fun c_83 => ?_) (fun c_83 => ?_)
      · have c_83 := xb_0.mp c_83
        refine xr_iconst (v := 0) X dX12_culprits_92 (by decide) ?_
        refine xr_ior X dX12_culprits_93 ?_
        refine xr_top (y := (nI (osum (cuP kd wh mn np b w.toInt) (p + 1)))) (by rw [osum, if_neg (by simp [c_83])]; simp) ?_
        refine xr_istore_n (lv' := [(2, .int (nI (osum (cuP kd wh mn np b w.toInt) (p + 1)))), (4, .int (xb (cuP kd wh mn np b w.toInt p))), (3, .int (nI p)), (0, .ref m), (1, .int w)]) X dX12_culprits_94 rfl rfl rfl ?_
        refine xr_iinc (v := nI (p + 1)) (lv' := [(3, .int (nI (p + 1))), (2, .int (nI (osum (cuP kd wh mn np b w.toInt) (p + 1)))), (4, .int (xb (cuP kd wh mn np b w.toInt p))), (0, .ref m), (1, .int w)]) X 2 dX12_culprits_95 rfl (nI_1 _) rfl rfl ?_
        refine xr_goto (tgt := 32) X dX12_culprits_98 (by decide) ?_
        refine xr_locs (lv' := [(3, .int (nI (p + 1))), (2, .int (nI (osum (cuP kd wh mn np b w.toInt) (p + 1)))), (0, .ref m), (1, .int w)]) [0, 1, 3, 4] rfl ?_
        exact ih (p + 1) (by omega)
      · have c_83 := xb_1.mp c_83
        refine xr_iconst (v := 1) X dX12_culprits_86 (by decide) ?_
        refine xr_iload_n X 1 dX12_culprits_87 rfl rfl ?_
        refine xr_ishl X dX12_culprits_88 ?_
        refine xr_goto (tgt := 93) X dX12_culprits_89 (by decide) ?_
        refine xr_ior X dX12_culprits_93 ?_
        refine xr_top (y := (nI (osum (cuP kd wh mn np b w.toInt) (p + 1)))) (by rw [osum, if_pos c_83]; exact or_p _ (by omega) _ (osum_lt _ _)) ?_
        refine xr_istore_n (lv' := [(2, .int (nI (osum (cuP kd wh mn np b w.toInt) (p + 1)))), (4, .int (xb (cuP kd wh mn np b w.toInt p))), (3, .int (nI p)), (0, .ref m), (1, .int w)]) X dX12_culprits_94 rfl rfl rfl ?_
        refine xr_iinc (v := nI (p + 1)) (lv' := [(3, .int (nI (p + 1))), (2, .int (nI (osum (cuP kd wh mn np b w.toInt) (p + 1)))), (4, .int (xb (cuP kd wh mn np b w.toInt p))), (0, .ref m), (1, .int w)]) X 2 dX12_culprits_95 rfl (nI_1 _) rfl rfl ?_
        refine xr_goto (tgt := 32) X dX12_culprits_98 (by decide) ?_
        refine xr_locs (lv' := [(3, .int (nI (p + 1))), (2, .int (nI (osum (cuP kd wh mn np b w.toInt) (p + 1)))), (0, .ref m), (1, .int w)]) [0, 1, 3, 4] rfl ?_
        exact ih (p + 1) (by omega)
set_option maxRecDepth 100000 in
theorem c_X12_culprits {l : Launch} {Ω : xW} {h : xH} {sz : Nat} {m : Nat} {st ac tp la le cu tk sa ti fa fl tr : Int32} {t : Nat → Int32} {np day b : Nat} {kd wh mn : Nat → Nat} {w : Int32} (hm : h m = some (mO m st ac tp la le cu tk sa ti fa fl tr)) (ht : h (m + 4) = some (.inl (.int, 21, .inl t))) (T : tOK t np kd wh mn day b) : xC l Ω yX12_culprits cX12_culprits 5 (some .int) 4 0 0 [.ref m, .int w] h sz (some (.int (a_culprits kd wh mn np b w))) h (sz) := by
  refine xC_of (lv := [(0, .ref m), (1, .int w)]) pn_X12 rfl rfl (fun Γ X hΓ hbs => ?_)
  have X : xX Γ Ω cX12_culprits 5 RX12 "culprits" (some .int) 4 140 0 0 := X
  subst hΓ
  have h6 := T.1
  have h64 := pw_le h6
  have hpp := Nat.two_pow_pos np
  have hb6 := T.2.2.2.2.2.1
  refine xr_aload_n X 0 dX12_culprits_0 rfl rfl ?_
  refine xr_iconst (v := 0) X dX12_culprits_1 (by decide) ?_
  refine xr_put (fs' := [.int 0, .int st, .ref (m + 1), .ref (m + 2), .ref (m + 3), .ref (m + 4), .ref (m + 5), .ref (m + 6), .int ac, .ref (m + 7), .int tp, .int la, .int le, .int cu, .int tk, .int sa, .int ti, .int fa, .int fl, .ref (m + 8), .ref (m + 9), .ref (m + 10), .ref (m + 11), .int tr]) X (fW_X12_44_11 _) hm rfl rfl rfl rfl dX12_culprits_2 ?_
  refine xr_heap (h' := h) (xu_id hm) ?_
  refine xr_aload_n X 0 dX12_culprits_5 rfl rfl ?_
  refine xr_callV X hm rfl kw_1121 kw_1123 kw_31 cw_X12_isThere [] (c_X12_isThere hm ht T) rfl rfl rfl rfl rfl rfl rfl dX12_culprits_6 ?_
  refine xr_if_ne (tgt := 15) X dX12_culprits_9 (by decide) (fun c_9 => ?_) (fun c_9 => ?_)
  · have c_9 := of_decide_eq_true (xb_1.mp c_9)
    (try simp (disch := omega) only [nI_toInt, i32_add, i32_sub, i32_mul, i64_addl, i32_l, k32_0, k64_0] at c_9)
    refine xr_iload_n X 1 dX12_culprits_15 rfl rfl ?_
    refine xr_i2l X dX12_culprits_16 ?_
    refine xr_lconst (v := 0) X dX12_culprits_17 (by decide) ?_
    refine xr_lconst (v := 1) X dX12_culprits_18 (by decide) ?_
    refine xr_callS X kw_1027 kw_1028 cw_X12_in [.long w.toInt64, .long 0, .long 1] c_X12_in rfl rfl rfl rfl rfl rfl rfl dX12_culprits_19 ?_
    refine xr_if_ne (tgt := 28) X dX12_culprits_22 (by decide) (fun c_22 => ?_) (fun c_22 => ?_)
    · have c_22 := of_decide_eq_true (xb_1.mp c_22)
      (try simp (disch := omega) only [nI_toInt, i32_add, i32_sub, i32_mul, i64_addl, i32_l, k32_0, k32_1, k64_0, k64_1] at c_22)
      refine xr_iconst (v := 0) X dX12_culprits_28 (by decide) ?_
      refine xr_istore_n (lv' := [(2, .int 0), (0, .ref m), (1, .int w)]) X dX12_culprits_29 rfl rfl rfl ?_
      refine xr_iconst (v := 0) X dX12_culprits_30 (by decide) ?_
      refine xr_istore_n (lv' := [(3, .int 0), (2, .int 0), (0, .ref m), (1, .int w)]) X dX12_culprits_31 rfl rfl rfl ?_
      rw [show a_culprits kd wh mn np b w = nI (osum (cuP kd wh mn np b w.toInt) np) from (if_pos (by omega)).trans (if_pos (by omega))]
      exact l_X12_culprits X hm ht T (by omega) np 0 (by omega)
    · have c_22 := of_decide_eq_false (xb_0.mp c_22)
      (try simp (disch := omega) only [nI_toInt, i32_add, i32_sub, i32_mul, i64_addl, i32_l, k32_0, k32_1, k64_0, k64_1] at c_22)
      refine xr_ldc (v := (-1000001)) X kw_1031 dX12_culprits_25 ?_
      exact xr_iret X rfl (xv ((if_pos (by omega)).trans (if_neg (by omega)))) rfl rfl rfl rfl dX12_culprits_27
  · have c_9 := of_decide_eq_false (xb_0.mp c_9)
    (try simp (disch := omega) only [nI_toInt, i32_add, i32_sub, i32_mul, i64_addl, i32_l, k32_0, k64_0] at c_9)
    refine xr_ldc (v := (-1000002)) X kw_1125 dX12_culprits_12 ?_
    exact xr_iret X rfl (xv (if_neg (by omega))) rfl rfl rfl rfl dX12_culprits_14
set_option maxRecDepth 100000 in
theorem l_X12_lost {Γ : xΓ} {Ω : xW} {h : xH} {sz : Nat} (X : xX Γ Ω cX12_lost 6 RX12 "lost" (some .int) 3 105 0 0) {m : Nat} {st ac tp la le cu tk sa ti fa fl tr : Int32} {t : Nat → Int32} {np day b : Nat} {kd wh mn : Nat → Nat} {s w : Int32} (hm : h m = some (mO m st ac tp la le cu tk sa ti fa fl tr)) (ht : h (m + 4) = some (.inl (.int, 21, .inl t))) (T : tOK t np kd wh mn day b) (hs : 0 ≤ s.toInt) (hs2 : s.toInt < (2 ^ np : Nat)) (hw : 0 ≤ w.toInt ∧ w.toInt ≤ 1) : ∀ (k : Nat) (x : Int32), x.toInt = (k : Int) - 1 → k ≤ 2 ^ np → xG Γ Ω 6 (xQ Γ Ω (some (.int (a_two (loP kd wh mn np b s.toNatClampNeg) (2 ^ np) w))) h (sz) 0 0) 48 [(5, .int x), (4, .int (oN (fsK (loP kd wh mn np b s.toNatClampNeg) (2 ^ np) k))), (3, .int (nI (cntB (loP kd wh mn np b s.toNatClampNeg) (2 ^ np) - cntB (loP kd wh mn np b s.toNatClampNeg) k))), (0, .ref m), (1, .int s), (2, .int w)] ([]) h sz 0 0 := by
  intro k
  induction k with
  | zero =>
    intro x hx hk
    have h6 := T.1
    have h64 := pw_le h6
    have hpp := Nat.two_pow_pos np
    have hb6 := T.2.2.2.2.2.1
    refine xr_iload X 0 dX12_lost_48 rfl ?_
    refine xr_if_lt (tgt := 84) X dX12_lost_50 (by decide) (fun _ => ?_) (fun c_50 => absurd (by rw [i32_lt, k32_0]; omega) c_50)
    refine xr_iload_n X 5 dX12_lost_84 rfl rfl ?_
    refine xr_if_ne (tgt := 92) X dX12_lost_85 (by decide) (fun c_85 => ?_) (fun c_85 => ?_)
    · have c_85 := mt i32_eq.mpr c_85
      (try simp (disch := omega) only [nI_toInt, i32_add, i32_sub, i32_mul, i64_addl, i32_l, k32_0, k64_0] at c_85)
      refine xr_iload X 1 dX12_lost_92 rfl ?_
      exact xr_iret X rfl (xv (by rw [a_two, if_neg (by omega), fsK_0])) rfl rfl rfl rfl dX12_lost_94
    · have c_85 := i32_eq.mp c_85
      (try simp (disch := omega) only [nI_toInt, i32_add, i32_sub, i32_mul, i64_addl, i32_l, k32_0, k64_0] at c_85)
      refine xr_iload_n X 2 dX12_lost_88 rfl rfl ?_
      refine xr_goto (tgt := 94) X dX12_lost_89 (by decide) ?_
      exact xr_iret X rfl (xv (by rw [a_two, if_pos (by omega)]; rfl)) rfl rfl rfl rfl dX12_lost_94
  | succ k ih =>
    intro x hx hk
    have ex : x = nI k := by rw [i32_eq, nI_toInt (by have := pw_le T.1; omega)]; omega
    have h6 := T.1
    have h64 := pw_le h6
    have hpp := Nat.two_pow_pos np
    have hb6 := T.2.2.2.2.2.1
    have hd : dn kd wh mn np k b < 2 ^ np := osum_lt _ _
    have ts := (i32_tn hs).2
    refine xr_iload X 0 dX12_lost_48 rfl ?_
    refine xr_if_lt (tgt := 84) X dX12_lost_50 (by decide) (fun c_50 => absurd c_50 (by rw [i32_lt, k32_0]; omega)) (fun _ => ?_)
    refine xr_aload_n X 3 dX12_lost_53 rfl rfl ?_
    refine xr_iload X 0 dX12_lost_54 rfl ?_
    refine xr_top (y := (nI k)) ex ?_
    refine xr_aload_n X 3 dX12_lost_56 rfl rfl ?_
    refine xr_get X fF_X12_19_11 hm rfl dX12_lost_57 ?_
    refine xr_iconst (v := 2) X dX12_lost_60 (by decide) ?_
    refine xr_iald (j := 2) X ht (xI_e (by decide) (by omega) (by omega)) dX12_lost_61 ?_
    refine xr_top (y := (nI b)) T.2.2.2.2.1 ?_
    refine xr_iconst (v := (-1)) X dX12_lost_62 (by decide) ?_
    refine xr_iconst (v := 0) X dX12_lost_63 (by decide) ?_
    refine xr_callV X hm rfl kw_1138 kw_1140 kw_35 cw_X12_doneBy [.int (nI k), .int (nI b), .int (-1), .int 0] (c_X12_doneBy (l2 := k) (b2 := b) (hw := 0) (o := (-1)) hm ht T (by omega) (by omega) (by omega)) rfl rfl rfl rfl rfl rfl rfl dX12_lost_64 ?_
    refine xr_top (y := nI (dn kd wh mn np k b)) (by rw [dnO_n T.1]) ?_
    refine xr_iload_n X 4 dX12_lost_67 rfl rfl ?_
    refine xr_top (y := (nI (s.toNatClampNeg))) ((i32_tn hs).1) ?_
    refine xr_icmp_ne (tgt := 78) X dX12_lost_68 (by decide) (fun c_68 => ?_) (fun c_68 => ?_)
    · have c_68 := mt i32_eq.mpr c_68
      (try simp (disch := omega) only [nI_toInt, i32_add, i32_sub, i32_mul, i64_addl, i32_l] at c_68)
      have c2 : (loP kd wh mn np b s.toNatClampNeg) k = false := by exact decide_eq_false (by omega)
      have e2 : cntB (loP kd wh mn np b s.toNatClampNeg) (k + 1) = cntB (loP kd wh mn np b s.toNatClampNeg) k := by rw [cntB, c2]; rfl
      have h3 := cntB_mono (loP kd wh mn np b s.toNatClampNeg) (2 ^ np - (k + 1)) (k + 1)
      rw [show k + 1 + (2 ^ np - (k + 1)) = 2 ^ np by omega] at h3
      refine xr_iinc (v := x + (-1)) (lv' := [(5, .int (x + (-1))), (4, .int (oN (fsK (loP kd wh mn np b s.toNatClampNeg) (2 ^ np) (k + 1)))), (3, .int (nI (cntB (loP kd wh mn np b s.toNatClampNeg) (2 ^ np) - cntB (loP kd wh mn np b s.toNatClampNeg) (k + 1)))), (0, .ref m), (1, .int s), (2, .int w)]) X 0 dX12_lost_78 rfl rfl rfl rfl ?_
      refine xr_goto (tgt := 48) X dX12_lost_81 (by decide) ?_
      refine xr_lve (lv' := [(5, .int (x + (-1))), (4, .int (oN (fsK (loP kd wh mn np b s.toNatClampNeg) (2 ^ np) k))), (3, .int (nI (cntB (loP kd wh mn np b s.toNatClampNeg) (2 ^ np) - cntB (loP kd wh mn np b s.toNatClampNeg) k))), (0, .ref m), (1, .int s), (2, .int w)]) (by rw [fsK_f c2, e2]) ?_
      exact ih (x + (-1)) (by rw [i32_add (by rw [k32_m1]; omega) (by rw [k32_m1]; omega), k32_m1]; omega) (by omega)
    · have c_68 := i32_eq.mp c_68
      (try simp (disch := omega) only [nI_toInt, i32_add, i32_sub, i32_mul, i64_addl, i32_l] at c_68)
      have c2 : (loP kd wh mn np b s.toNatClampNeg) k = true := by exact decide_eq_true (by omega)
      have e2 : cntB (loP kd wh mn np b s.toNatClampNeg) (k + 1) = cntB (loP kd wh mn np b s.toNatClampNeg) k + 1 := by rw [cntB, c2]; rfl
      have h3 := cntB_mono (loP kd wh mn np b s.toNatClampNeg) (2 ^ np - (k + 1)) (k + 1)
      rw [show k + 1 + (2 ^ np - (k + 1)) = 2 ^ np by omega] at h3
      refine xr_iinc (v := nI ((cntB (loP kd wh mn np b s.toNatClampNeg) (2 ^ np) - cntB (loP kd wh mn np b s.toNatClampNeg) (k + 1)) + 1)) (lv' := [(3, .int (nI ((cntB (loP kd wh mn np b s.toNatClampNeg) (2 ^ np) - cntB (loP kd wh mn np b s.toNatClampNeg) (k + 1)) + 1))), (5, .int x), (4, .int (oN (fsK (loP kd wh mn np b s.toNatClampNeg) (2 ^ np) (k + 1)))), (0, .ref m), (1, .int s), (2, .int w)]) X 2 dX12_lost_71 rfl (nI_1 _) rfl rfl ?_
      refine xr_iload X 1 dX12_lost_74 rfl ?_
      refine xr_top (y := (nI k)) ex ?_
      refine xr_istore (lv' := [(4, .int (nI k)), (3, .int (nI ((cntB (loP kd wh mn np b s.toNatClampNeg) (2 ^ np) - cntB (loP kd wh mn np b s.toNatClampNeg) (k + 1)) + 1))), (5, .int x), (0, .ref m), (1, .int s), (2, .int w)]) X dX12_lost_76 rfl rfl ?_
      refine xr_iinc (v := x + (-1)) (lv' := [(5, .int (x + (-1))), (4, .int (nI k)), (3, .int (nI ((cntB (loP kd wh mn np b s.toNatClampNeg) (2 ^ np) - cntB (loP kd wh mn np b s.toNatClampNeg) (k + 1)) + 1))), (0, .ref m), (1, .int s), (2, .int w)]) X 2 dX12_lost_78 rfl rfl rfl rfl ?_
      refine xr_goto (tgt := 48) X dX12_lost_81 (by decide) ?_
      refine xr_lve (lv' := [(5, .int (x + (-1))), (4, .int (oN (fsK (loP kd wh mn np b s.toNatClampNeg) (2 ^ np) k))), (3, .int (nI (cntB (loP kd wh mn np b s.toNatClampNeg) (2 ^ np) - cntB (loP kd wh mn np b s.toNatClampNeg) k))), (0, .ref m), (1, .int s), (2, .int w)]) (by rw [fsK_t c2 (by omega), show cntB (loP kd wh mn np b s.toNatClampNeg) (2 ^ np) - cntB (loP kd wh mn np b s.toNatClampNeg) k = (cntB (loP kd wh mn np b s.toNatClampNeg) (2 ^ np) - cntB (loP kd wh mn np b s.toNatClampNeg) (k + 1)) + 1 by omega]; rfl) ?_
      exact ih (x + (-1)) (by rw [i32_add (by rw [k32_m1]; omega) (by rw [k32_m1]; omega), k32_m1]; omega) (by omega)
set_option maxRecDepth 100000 in
theorem c_X12_lost {l : Launch} {Ω : xW} {h : xH} {sz : Nat} {m : Nat} {st ac tp la le cu tk sa ti fa fl tr : Int32} {t : Nat → Int32} {np day b : Nat} {kd wh mn : Nat → Nat} {s w : Int32} (hm : h m = some (mO m st ac tp la le cu tk sa ti fa fl tr)) (ht : h (m + 4) = some (.inl (.int, 21, .inl t))) (T : tOK t np kd wh mn day b) : xC l Ω yX12_lost cX12_lost 6 (some .int) 3 0 0 [.ref m, .int s, .int w] h sz (some (.int (a_lost kd wh mn np b s w))) h (sz) := by
  refine xC_of (lv := [(0, .ref m), (1, .int s), (2, .int w)]) pn_X12 rfl rfl (fun Γ X hΓ hbs => ?_)
  have X : xX Γ Ω cX12_lost 6 RX12 "lost" (some .int) 3 105 0 0 := X
  subst hΓ
  have h6 := T.1
  have h64 := pw_le h6
  have hpp := Nat.two_pow_pos np
  have hb6 := T.2.2.2.2.2.1
  refine xr_aload_n X 0 dX12_lost_0 rfl rfl ?_
  refine xr_iconst (v := 0) X dX12_lost_1 (by decide) ?_
  refine xr_put (fs' := [.int 0, .int st, .ref (m + 1), .ref (m + 2), .ref (m + 3), .ref (m + 4), .ref (m + 5), .ref (m + 6), .int ac, .ref (m + 7), .int tp, .int la, .int le, .int cu, .int tk, .int sa, .int ti, .int fa, .int fl, .ref (m + 8), .ref (m + 9), .ref (m + 10), .ref (m + 11), .int tr]) X (fW_X12_44_11 _) hm rfl rfl rfl rfl dX12_lost_2 ?_
  refine xr_heap (h' := h) (xu_id hm) ?_
  refine xr_aload_n X 0 dX12_lost_5 rfl rfl ?_
  refine xr_callV X hm rfl kw_1121 kw_1123 kw_31 cw_X12_isThere [] (c_X12_isThere hm ht T) rfl rfl rfl rfl rfl rfl rfl dX12_lost_6 ?_
  refine xr_if_ne (tgt := 15) X dX12_lost_9 (by decide) (fun c_9 => ?_) (fun c_9 => ?_)
  · have c_9 := of_decide_eq_true (xb_1.mp c_9)
    (try simp (disch := omega) only [nI_toInt, i32_add, i32_sub, i32_mul, i64_addl, i32_l, k32_0, k64_0] at c_9)
    refine xr_aload_n X 0 dX12_lost_15 rfl rfl ?_
    refine xr_iload_n X 1 dX12_lost_16 rfl rfl ?_
    refine xr_callV X hm rfl kw_1126 kw_1128 kw_32 cw_X12_isSet [.int s] (c_X12_isSet hm ht T) rfl rfl rfl rfl rfl rfl rfl dX12_lost_17 ?_
    refine xr_if_eq (tgt := 33) X dX12_lost_20 (by decide) (fun c_20 => ?_) (fun c_20 => ?_)
    · have c_20 := of_decide_eq_false (xb_0.mp c_20)
      (try simp (disch := omega) only [nI_toInt, i32_add, i32_sub, i32_mul, i64_addl, i32_l, k32_0, k32_2, k64_0, k64_2] at c_20)
      refine xr_ldc (v := (-1000001)) X kw_1031 dX12_lost_33 ?_
      exact xr_iret X rfl (xv ((if_pos (by omega)).trans (if_neg (by omega)))) rfl rfl rfl rfl dX12_lost_35
    · have c_20 := of_decide_eq_true (xb_1.mp c_20)
      (try simp (disch := omega) only [nI_toInt, i32_add, i32_sub, i32_mul, i64_addl, i32_l, k32_0, k32_2, k64_0, k64_2] at c_20)
      refine xr_iload_n X 2 dX12_lost_23 rfl rfl ?_
      refine xr_i2l X dX12_lost_24 ?_
      refine xr_lconst (v := 0) X dX12_lost_25 (by decide) ?_
      refine xr_lconst (v := 1) X dX12_lost_26 (by decide) ?_
      refine xr_callS X kw_1027 kw_1028 cw_X12_in [.long w.toInt64, .long 0, .long 1] c_X12_in rfl rfl rfl rfl rfl rfl rfl dX12_lost_27 ?_
      refine xr_if_ne (tgt := 36) X dX12_lost_30 (by decide) (fun c_30 => ?_) (fun c_30 => ?_)
      · have c_30 := of_decide_eq_true (xb_1.mp c_30)
        (try simp (disch := omega) only [nI_toInt, i32_add, i32_sub, i32_mul, i64_addl, i32_l, k32_0, k32_1, k64_0, k64_1] at c_30)
        refine xr_iconst (v := 0) X dX12_lost_36 (by decide) ?_
        refine xr_istore_n (lv' := [(3, .int 0), (0, .ref m), (1, .int s), (2, .int w)]) X dX12_lost_37 rfl rfl rfl ?_
        refine xr_ldc (v := (-1000000)) X kw_1072 dX12_lost_38 ?_
        refine xr_istore (lv' := [(4, .int (-1000000)), (3, .int 0), (0, .ref m), (1, .int s), (2, .int w)]) X dX12_lost_40 rfl rfl ?_
        refine xr_aload_n X 2 dX12_lost_42 rfl rfl ?_
        refine xr_callV X hm rfl kw_1130 kw_1132 kw_33 cw_X12_all [] (c_X12_all hm ht T) rfl rfl rfl rfl rfl rfl rfl dX12_lost_43 ?_
        refine xr_istore (lv' := [(5, .int (nI (2 ^ np - 1))), (4, .int (-1000000)), (3, .int 0), (0, .ref m), (1, .int s), (2, .int w)]) X dX12_lost_46 rfl rfl ?_
        rw [show a_lost kd wh mn np b s w = a_two (loP kd wh mn np b s.toNatClampNeg) (2 ^ np) w from (if_pos (by omega)).trans (if_pos (by omega))]
        refine xr_lve (lv' := [(5, .int (nI (2 ^ np - 1))), (4, .int (oN (fsK (loP kd wh mn np b s.toNatClampNeg) (2 ^ np) (2 ^ np)))), (3, .int (nI (cntB (loP kd wh mn np b s.toNatClampNeg) (2 ^ np) - cntB (loP kd wh mn np b s.toNatClampNeg) (2 ^ np)))), (0, .ref m), (1, .int s), (2, .int w)]) (by rw [fsK_N, Nat.sub_self]; rfl) ?_
        exact l_X12_lost X hm ht T (by omega) (by omega) (by omega) (2 ^ np) _ (by rw [nI_toInt (by omega)]; omega) (Nat.le_refl _)
      · have c_30 := of_decide_eq_false (xb_0.mp c_30)
        (try simp (disch := omega) only [nI_toInt, i32_add, i32_sub, i32_mul, i64_addl, i32_l, k32_0, k32_1, k64_0, k64_1] at c_30)
        refine xr_ldc (v := (-1000001)) X kw_1031 dX12_lost_33 ?_
        exact xr_iret X rfl (xv ((if_pos (by omega)).trans (if_neg (by omega)))) rfl rfl rfl rfl dX12_lost_35
  · have c_9 := of_decide_eq_false (xb_0.mp c_9)
    (try simp (disch := omega) only [nI_toInt, i32_add, i32_sub, i32_mul, i64_addl, i32_l, k32_0, k64_0] at c_9)
    refine xr_ldc (v := (-1000002)) X kw_1125 dX12_lost_12 ?_
    exact xr_iret X rfl (xv (if_neg (by omega))) rfl rfl rfl rfl dX12_lost_14
set_option maxRecDepth 100000 in
theorem l_X12_readBy {Γ : xΓ} {Ω : xW} {h : xH} {sz : Nat} (X : xX Γ Ω cX12_readBy 7 RX12 "readBy" (some .int) 3 105 0 0) {m : Nat} {st ac tp la le cu tk sa ti fa fl tr : Int32} {t : Nat → Int32} {np day b : Nat} {kd wh mn : Nat → Nat} {s w : Int32} (hm : h m = some (mO m st ac tp la le cu tk sa ti fa fl tr)) (ht : h (m + 4) = some (.inl (.int, 21, .inl t))) (T : tOK t np kd wh mn day b) (hs : 0 ≤ s.toInt) (hs2 : s.toInt < (2 ^ np : Nat)) (hw : 0 ≤ w.toInt ∧ w.toInt ≤ 1) : ∀ (k : Nat) (x : Int32), x.toInt = (k : Int) - 1 → k ≤ 2 ^ np → xG Γ Ω 7 (xQ Γ Ω (some (.int (a_two (reP kd wh mn np b s.toNatClampNeg) (2 ^ np) w))) h (sz) 0 0) 48 [(5, .int x), (4, .int (oN (fsK (reP kd wh mn np b s.toNatClampNeg) (2 ^ np) k))), (3, .int (nI (cntB (reP kd wh mn np b s.toNatClampNeg) (2 ^ np) - cntB (reP kd wh mn np b s.toNatClampNeg) k))), (0, .ref m), (1, .int s), (2, .int w)] ([]) h sz 0 0 := by
  intro k
  induction k with
  | zero =>
    intro x hx hk
    have h6 := T.1
    have h64 := pw_le h6
    have hpp := Nat.two_pow_pos np
    have hb6 := T.2.2.2.2.2.1
    refine xr_iload X 0 dX12_readBy_48 rfl ?_
    refine xr_if_lt (tgt := 102) X dX12_readBy_50 (by decide) (fun _ => ?_) (fun c_50 => absurd (by rw [i32_lt, k32_0]; omega) c_50)
    refine xr_iload_n X 5 dX12_readBy_102 rfl rfl ?_
    refine xr_if_ne (tgt := 110) X dX12_readBy_103 (by decide) (fun c_103 => ?_) (fun c_103 => ?_)
    · have c_103 := mt i32_eq.mpr c_103
      (try simp (disch := omega) only [nI_toInt, i32_add, i32_sub, i32_mul, i64_addl, i32_l, k32_0, k64_0] at c_103)
      refine xr_iload X 1 dX12_readBy_110 rfl ?_
      exact xr_iret X rfl (xv (by rw [a_two, if_neg (by omega), fsK_0])) rfl rfl rfl rfl dX12_readBy_112
    · have c_103 := i32_eq.mp c_103
      (try simp (disch := omega) only [nI_toInt, i32_add, i32_sub, i32_mul, i64_addl, i32_l, k32_0, k64_0] at c_103)
      refine xr_iload_n X 2 dX12_readBy_106 rfl rfl ?_
      refine xr_goto (tgt := 112) X dX12_readBy_107 (by decide) ?_
      exact xr_iret X rfl (xv (by rw [a_two, if_pos (by omega)]; rfl)) rfl rfl rfl rfl dX12_readBy_112
  | succ k ih =>
    intro x hx hk
    have ex : x = nI k := by rw [i32_eq, nI_toInt (by have := pw_le T.1; omega)]; omega
    have h6 := T.1
    have h64 := pw_le h6
    have hpp := Nat.two_pow_pos np
    have hb6 := T.2.2.2.2.2.1
    have hd : dn kd wh mn np k b < 2 ^ np := osum_lt _ _
    have ts := (i32_tn hs).2
    have hrb := rb_lt (dn kd wh mn np k b) (by omega) b (by omega) s.toNatClampNeg
    refine xr_iload X 0 dX12_readBy_48 rfl ?_
    refine xr_if_lt (tgt := 102) X dX12_readBy_50 (by decide) (fun c_50 => absurd c_50 (by rw [i32_lt, k32_0]; omega)) (fun _ => ?_)
    refine xr_aload_n X 3 dX12_readBy_53 rfl rfl ?_
    refine xr_iload X 0 dX12_readBy_54 rfl ?_
    refine xr_top (y := (nI k)) ex ?_
    refine xr_aload_n X 3 dX12_readBy_56 rfl rfl ?_
    refine xr_get X fF_X12_19_11 hm rfl dX12_readBy_57 ?_
    refine xr_iconst (v := 2) X dX12_readBy_60 (by decide) ?_
    refine xr_iald (j := 2) X ht (xI_e (by decide) (by omega) (by omega)) dX12_readBy_61 ?_
    refine xr_top (y := (nI b)) T.2.2.2.2.1 ?_
    refine xr_iconst (v := (-1)) X dX12_readBy_62 (by decide) ?_
    refine xr_iconst (v := 0) X dX12_readBy_63 (by decide) ?_
    refine xr_callV X hm rfl kw_1138 kw_1140 kw_35 cw_X12_doneBy [.int (nI k), .int (nI b), .int (-1), .int 0] (c_X12_doneBy (l2 := k) (b2 := b) (hw := 0) (o := (-1)) hm ht T (by omega) (by omega) (by omega)) rfl rfl rfl rfl rfl rfl rfl dX12_readBy_64 ?_
    refine xr_top (y := nI (dn kd wh mn np k b)) (by rw [dnO_n T.1]) ?_
    refine xr_iload_n X 4 dX12_readBy_67 rfl rfl ?_
    refine xr_top (y := (nI (s.toNatClampNeg))) ((i32_tn hs).1) ?_
    refine xr_iand X dX12_readBy_68 ?_
    refine xr_aload_n X 3 dX12_readBy_69 rfl rfl ?_
    refine xr_get X fF_X12_19_11 hm rfl dX12_readBy_70 ?_
    refine xr_iconst (v := 2) X dX12_readBy_73 (by decide) ?_
    refine xr_iald (j := 2) X ht (xI_e (by decide) (by omega) (by omega)) dX12_readBy_74 ?_
    refine xr_top (y := (nI b)) T.2.2.2.2.1 ?_
    refine xr_iload_n X 4 dX12_readBy_75 rfl rfl ?_
    refine xr_top (y := (nI (s.toNatClampNeg))) ((i32_tn hs).1) ?_
    refine xr_iconst (v := (-1)) X dX12_readBy_76 (by decide) ?_
    refine xr_ixor X dX12_readBy_77 ?_
    refine xr_iand X dX12_readBy_78 ?_
    refine xr_ior X dX12_readBy_79 ?_
    refine xr_top (y := (nI (dn kd wh mn np k b &&& s.toNatClampNeg ||| (b &&& (63 ^^^ s.toNatClampNeg))))) (rb_n _ (by omega) _ (by omega) _ (by omega)) ?_
    refine xr_istore (lv' := [(6, .int (nI (dn kd wh mn np k b &&& s.toNatClampNeg ||| (b &&& (63 ^^^ s.toNatClampNeg))))), (5, .int x), (4, .int (oN (fsK (reP kd wh mn np b s.toNatClampNeg) (2 ^ np) (k + 1)))), (3, .int (nI (cntB (reP kd wh mn np b s.toNatClampNeg) (2 ^ np) - cntB (reP kd wh mn np b s.toNatClampNeg) (k + 1)))), (0, .ref m), (1, .int s), (2, .int w)]) X dX12_readBy_80 rfl rfl ?_
    refine xr_iload X 0 dX12_readBy_82 rfl ?_
    refine xr_iload X 1 dX12_readBy_84 rfl ?_
    refine xr_top (y := (nI k)) ex ?_
    refine xr_icmp_ne (tgt := 96) X dX12_readBy_86 (by decide) (fun c_86 => ?_) (fun c_86 => ?_)
    · have c_86 := mt i32_eq.mpr c_86
      (try simp (disch := omega) only [nI_toInt, i32_add, i32_sub, i32_mul, i64_addl, i32_l] at c_86)
      have c2 : (reP kd wh mn np b s.toNatClampNeg) k = false := by exact decide_eq_false (by omega)
      have e2 : cntB (reP kd wh mn np b s.toNatClampNeg) (k + 1) = cntB (reP kd wh mn np b s.toNatClampNeg) k := by rw [cntB, c2]; rfl
      have h3 := cntB_mono (reP kd wh mn np b s.toNatClampNeg) (2 ^ np - (k + 1)) (k + 1)
      rw [show k + 1 + (2 ^ np - (k + 1)) = 2 ^ np by omega] at h3
      refine xr_iinc (v := x + (-1)) (lv' := [(5, .int (x + (-1))), (6, .int (nI (dn kd wh mn np k b &&& s.toNatClampNeg ||| (b &&& (63 ^^^ s.toNatClampNeg))))), (4, .int (oN (fsK (reP kd wh mn np b s.toNatClampNeg) (2 ^ np) (k + 1)))), (3, .int (nI (cntB (reP kd wh mn np b s.toNatClampNeg) (2 ^ np) - cntB (reP kd wh mn np b s.toNatClampNeg) (k + 1)))), (0, .ref m), (1, .int s), (2, .int w)]) X 1 dX12_readBy_96 rfl rfl rfl rfl ?_
      refine xr_goto (tgt := 48) X dX12_readBy_99 (by decide) ?_
      refine xr_locs (lv' := [(5, .int (x + (-1))), (4, .int (oN (fsK (reP kd wh mn np b s.toNatClampNeg) (2 ^ np) (k + 1)))), (3, .int (nI (cntB (reP kd wh mn np b s.toNatClampNeg) (2 ^ np) - cntB (reP kd wh mn np b s.toNatClampNeg) (k + 1)))), (0, .ref m), (1, .int s), (2, .int w)]) [0, 2, 3, 4, 5, 6] rfl ?_
      refine xr_lve (lv' := [(5, .int (x + (-1))), (4, .int (oN (fsK (reP kd wh mn np b s.toNatClampNeg) (2 ^ np) k))), (3, .int (nI (cntB (reP kd wh mn np b s.toNatClampNeg) (2 ^ np) - cntB (reP kd wh mn np b s.toNatClampNeg) k))), (0, .ref m), (1, .int s), (2, .int w)]) (by rw [fsK_f c2, e2]) ?_
      exact ih (x + (-1)) (by rw [i32_add (by rw [k32_m1]; omega) (by rw [k32_m1]; omega), k32_m1]; omega) (by omega)
    · have c_86 := i32_eq.mp c_86
      (try simp (disch := omega) only [nI_toInt, i32_add, i32_sub, i32_mul, i64_addl, i32_l] at c_86)
      have c2 : (reP kd wh mn np b s.toNatClampNeg) k = true := by exact decide_eq_true (by omega)
      have e2 : cntB (reP kd wh mn np b s.toNatClampNeg) (k + 1) = cntB (reP kd wh mn np b s.toNatClampNeg) k + 1 := by rw [cntB, c2]; rfl
      have h3 := cntB_mono (reP kd wh mn np b s.toNatClampNeg) (2 ^ np - (k + 1)) (k + 1)
      rw [show k + 1 + (2 ^ np - (k + 1)) = 2 ^ np by omega] at h3
      refine xr_iinc (v := nI ((cntB (reP kd wh mn np b s.toNatClampNeg) (2 ^ np) - cntB (reP kd wh mn np b s.toNatClampNeg) (k + 1)) + 1)) (lv' := [(3, .int (nI ((cntB (reP kd wh mn np b s.toNatClampNeg) (2 ^ np) - cntB (reP kd wh mn np b s.toNatClampNeg) (k + 1)) + 1))), (6, .int (nI (dn kd wh mn np k b &&& s.toNatClampNeg ||| (b &&& (63 ^^^ s.toNatClampNeg))))), (5, .int x), (4, .int (oN (fsK (reP kd wh mn np b s.toNatClampNeg) (2 ^ np) (k + 1)))), (0, .ref m), (1, .int s), (2, .int w)]) X 3 dX12_readBy_89 rfl (nI_1 _) rfl rfl ?_
      refine xr_iload X 2 dX12_readBy_92 rfl ?_
      refine xr_top (y := (nI k)) ex ?_
      refine xr_istore (lv' := [(4, .int (nI k)), (3, .int (nI ((cntB (reP kd wh mn np b s.toNatClampNeg) (2 ^ np) - cntB (reP kd wh mn np b s.toNatClampNeg) (k + 1)) + 1))), (6, .int (nI (dn kd wh mn np k b &&& s.toNatClampNeg ||| (b &&& (63 ^^^ s.toNatClampNeg))))), (5, .int x), (0, .ref m), (1, .int s), (2, .int w)]) X dX12_readBy_94 rfl rfl ?_
      refine xr_iinc (v := x + (-1)) (lv' := [(5, .int (x + (-1))), (4, .int (nI k)), (3, .int (nI ((cntB (reP kd wh mn np b s.toNatClampNeg) (2 ^ np) - cntB (reP kd wh mn np b s.toNatClampNeg) (k + 1)) + 1))), (6, .int (nI (dn kd wh mn np k b &&& s.toNatClampNeg ||| (b &&& (63 ^^^ s.toNatClampNeg))))), (0, .ref m), (1, .int s), (2, .int w)]) X 3 dX12_readBy_96 rfl rfl rfl rfl ?_
      refine xr_goto (tgt := 48) X dX12_readBy_99 (by decide) ?_
      refine xr_locs (lv' := [(5, .int (x + (-1))), (4, .int (nI k)), (3, .int (nI ((cntB (reP kd wh mn np b s.toNatClampNeg) (2 ^ np) - cntB (reP kd wh mn np b s.toNatClampNeg) (k + 1)) + 1))), (0, .ref m), (1, .int s), (2, .int w)]) [0, 1, 2, 4, 5, 6] rfl ?_
      refine xr_lve (lv' := [(5, .int (x + (-1))), (4, .int (oN (fsK (reP kd wh mn np b s.toNatClampNeg) (2 ^ np) k))), (3, .int (nI (cntB (reP kd wh mn np b s.toNatClampNeg) (2 ^ np) - cntB (reP kd wh mn np b s.toNatClampNeg) k))), (0, .ref m), (1, .int s), (2, .int w)]) (by rw [fsK_t c2 (by omega), show cntB (reP kd wh mn np b s.toNatClampNeg) (2 ^ np) - cntB (reP kd wh mn np b s.toNatClampNeg) k = (cntB (reP kd wh mn np b s.toNatClampNeg) (2 ^ np) - cntB (reP kd wh mn np b s.toNatClampNeg) (k + 1)) + 1 by omega]; rfl) ?_
      exact ih (x + (-1)) (by rw [i32_add (by rw [k32_m1]; omega) (by rw [k32_m1]; omega), k32_m1]; omega) (by omega)
set_option maxRecDepth 100000 in
theorem c_X12_readBy {l : Launch} {Ω : xW} {h : xH} {sz : Nat} {m : Nat} {st ac tp la le cu tk sa ti fa fl tr : Int32} {t : Nat → Int32} {np day b : Nat} {kd wh mn : Nat → Nat} {s w : Int32} (hm : h m = some (mO m st ac tp la le cu tk sa ti fa fl tr)) (ht : h (m + 4) = some (.inl (.int, 21, .inl t))) (T : tOK t np kd wh mn day b) : xC l Ω yX12_readBy cX12_readBy 7 (some .int) 3 0 0 [.ref m, .int s, .int w] h sz (some (.int (a_readBy kd wh mn np b s w))) h (sz) := by
  refine xC_of (lv := [(0, .ref m), (1, .int s), (2, .int w)]) pn_X12 rfl rfl (fun Γ X hΓ hbs => ?_)
  have X : xX Γ Ω cX12_readBy 7 RX12 "readBy" (some .int) 3 105 0 0 := X
  subst hΓ
  have h6 := T.1
  have h64 := pw_le h6
  have hpp := Nat.two_pow_pos np
  have hb6 := T.2.2.2.2.2.1
  refine xr_aload_n X 0 dX12_readBy_0 rfl rfl ?_
  refine xr_iconst (v := 0) X dX12_readBy_1 (by decide) ?_
  refine xr_put (fs' := [.int 0, .int st, .ref (m + 1), .ref (m + 2), .ref (m + 3), .ref (m + 4), .ref (m + 5), .ref (m + 6), .int ac, .ref (m + 7), .int tp, .int la, .int le, .int cu, .int tk, .int sa, .int ti, .int fa, .int fl, .ref (m + 8), .ref (m + 9), .ref (m + 10), .ref (m + 11), .int tr]) X (fW_X12_44_11 _) hm rfl rfl rfl rfl dX12_readBy_2 ?_
  refine xr_heap (h' := h) (xu_id hm) ?_
  refine xr_aload_n X 0 dX12_readBy_5 rfl rfl ?_
  refine xr_callV X hm rfl kw_1121 kw_1123 kw_31 cw_X12_isThere [] (c_X12_isThere hm ht T) rfl rfl rfl rfl rfl rfl rfl dX12_readBy_6 ?_
  refine xr_if_ne (tgt := 15) X dX12_readBy_9 (by decide) (fun c_9 => ?_) (fun c_9 => ?_)
  · have c_9 := of_decide_eq_true (xb_1.mp c_9)
    (try simp (disch := omega) only [nI_toInt, i32_add, i32_sub, i32_mul, i64_addl, i32_l, k32_0, k64_0] at c_9)
    refine xr_aload_n X 0 dX12_readBy_15 rfl rfl ?_
    refine xr_iload_n X 1 dX12_readBy_16 rfl rfl ?_
    refine xr_callV X hm rfl kw_1126 kw_1128 kw_32 cw_X12_isSet [.int s] (c_X12_isSet hm ht T) rfl rfl rfl rfl rfl rfl rfl dX12_readBy_17 ?_
    refine xr_if_eq (tgt := 33) X dX12_readBy_20 (by decide) (fun c_20 => ?_) (fun c_20 => ?_)
    · have c_20 := of_decide_eq_false (xb_0.mp c_20)
      (try simp (disch := omega) only [nI_toInt, i32_add, i32_sub, i32_mul, i64_addl, i32_l, k32_0, k32_2, k64_0, k64_2] at c_20)
      refine xr_ldc (v := (-1000001)) X kw_1031 dX12_readBy_33 ?_
      exact xr_iret X rfl (xv ((if_pos (by omega)).trans (if_neg (by omega)))) rfl rfl rfl rfl dX12_readBy_35
    · have c_20 := of_decide_eq_true (xb_1.mp c_20)
      (try simp (disch := omega) only [nI_toInt, i32_add, i32_sub, i32_mul, i64_addl, i32_l, k32_0, k32_2, k64_0, k64_2] at c_20)
      refine xr_iload_n X 2 dX12_readBy_23 rfl rfl ?_
      refine xr_i2l X dX12_readBy_24 ?_
      refine xr_lconst (v := 0) X dX12_readBy_25 (by decide) ?_
      refine xr_lconst (v := 1) X dX12_readBy_26 (by decide) ?_
      refine xr_callS X kw_1027 kw_1028 cw_X12_in [.long w.toInt64, .long 0, .long 1] c_X12_in rfl rfl rfl rfl rfl rfl rfl dX12_readBy_27 ?_
      refine xr_if_ne (tgt := 36) X dX12_readBy_30 (by decide) (fun c_30 => ?_) (fun c_30 => ?_)
      · have c_30 := of_decide_eq_true (xb_1.mp c_30)
        (try simp (disch := omega) only [nI_toInt, i32_add, i32_sub, i32_mul, i64_addl, i32_l, k32_0, k32_1, k64_0, k64_1] at c_30)
        refine xr_iconst (v := 0) X dX12_readBy_36 (by decide) ?_
        refine xr_istore_n (lv' := [(3, .int 0), (0, .ref m), (1, .int s), (2, .int w)]) X dX12_readBy_37 rfl rfl rfl ?_
        refine xr_ldc (v := (-1000000)) X kw_1072 dX12_readBy_38 ?_
        refine xr_istore (lv' := [(4, .int (-1000000)), (3, .int 0), (0, .ref m), (1, .int s), (2, .int w)]) X dX12_readBy_40 rfl rfl ?_
        refine xr_aload_n X 2 dX12_readBy_42 rfl rfl ?_
        refine xr_callV X hm rfl kw_1130 kw_1132 kw_33 cw_X12_all [] (c_X12_all hm ht T) rfl rfl rfl rfl rfl rfl rfl dX12_readBy_43 ?_
        refine xr_istore (lv' := [(5, .int (nI (2 ^ np - 1))), (4, .int (-1000000)), (3, .int 0), (0, .ref m), (1, .int s), (2, .int w)]) X dX12_readBy_46 rfl rfl ?_
        rw [show a_readBy kd wh mn np b s w = a_two (reP kd wh mn np b s.toNatClampNeg) (2 ^ np) w from (if_pos (by omega)).trans (if_pos (by omega))]
        refine xr_lve (lv' := [(5, .int (nI (2 ^ np - 1))), (4, .int (oN (fsK (reP kd wh mn np b s.toNatClampNeg) (2 ^ np) (2 ^ np)))), (3, .int (nI (cntB (reP kd wh mn np b s.toNatClampNeg) (2 ^ np) - cntB (reP kd wh mn np b s.toNatClampNeg) (2 ^ np)))), (0, .ref m), (1, .int s), (2, .int w)]) (by rw [fsK_N, Nat.sub_self]; rfl) ?_
        exact l_X12_readBy X hm ht T (by omega) (by omega) (by omega) (2 ^ np) _ (by rw [nI_toInt (by omega)]; omega) (Nat.le_refl _)
      · have c_30 := of_decide_eq_false (xb_0.mp c_30)
        (try simp (disch := omega) only [nI_toInt, i32_add, i32_sub, i32_mul, i64_addl, i32_l, k32_0, k32_1, k64_0, k64_1] at c_30)
        refine xr_ldc (v := (-1000001)) X kw_1031 dX12_readBy_33 ?_
        exact xr_iret X rfl (xv ((if_pos (by omega)).trans (if_neg (by omega)))) rfl rfl rfl rfl dX12_readBy_35
  · have c_9 := of_decide_eq_false (xb_0.mp c_9)
    (try simp (disch := omega) only [nI_toInt, i32_add, i32_sub, i32_mul, i64_addl, i32_l, k32_0, k64_0] at c_9)
    refine xr_ldc (v := (-1000002)) X kw_1125 dX12_readBy_12 ?_
    exact xr_iret X rfl (xv (if_neg (by omega))) rfl rfl rfl rfl dX12_readBy_14
set_option maxRecDepth 100000 in
theorem l_X12_oddsOf {Γ : xΓ} {Ω : xW} {h : xH} {sz : Nat} (X : xX Γ Ω cX12_oddsOf 8 RX12 "oddsOf" (some .int) 3 105 0 0) {m : Nat} {st ac tp la le cu tk sa ti fa fl tr : Int32} {t : Nat → Int32} {np day b : Nat} {kd wh mn : Nat → Nat} {l2 s2 : Nat} (hm : h m = some (mO m st ac tp la le cu tk sa ti fa fl tr)) (ht : h (m + 4) = some (.inl (.int, 21, .inl t))) (T : tOK t np kd wh mn day b) (hl : l2 < 64) (hs : s2 < 64) : ∀ (j0 p : Nat), p + j0 = np → xG Γ Ω 8 (xQ Γ Ω (some (.int (nI (ods kd wh mn np b l2 s2)))) h (sz) 0 0) 20 [(5, .int (nI p)), (4, .int (nI (prB (odP kd wh mn b l2 s2) p))), (3, .int (nI (dn kd wh mn np l2 b))), (0, .ref m), (1, .int (nI l2)), (2, .int (nI s2))] ([]) h sz 0 0 := by
  intro j0
  induction j0 with
  | zero =>
    intro p hk
    have ek : p = np := by omega
    refine xr_iload X 0 dX12_oddsOf_20 rfl ?_
    refine xr_aload_n X 3 dX12_oddsOf_22 rfl rfl ?_
    refine xr_get X fF_X12_19_11 hm rfl dX12_oddsOf_23 ?_
    refine xr_iconst (v := 0) X dX12_oddsOf_26 (by decide) ?_
    refine xr_iald (j := 0) X ht (xI_e (by decide) (by omega) (by omega)) dX12_oddsOf_27 ?_
    refine xr_top (y := (nI np)) T.2.1 ?_
    refine xr_icmp_ge (tgt := 117) X dX12_oddsOf_28 (by decide) (fun _ => ?_) (fun c_28 => absurd (by subst ek; exact i32_le.mpr (Int.le_refl _)) c_28)
    refine xr_iload X 1 dX12_oddsOf_117 rfl ?_
    exact xr_iret X rfl (by rw [ek, ods]) rfl rfl rfl rfl dX12_oddsOf_119
  | succ j0 ih =>
    intro p hk
    have lk : p < np := by omega
    have h6 := T.1
    have h64 := pw_le h6
    have hpp := Nat.two_pow_pos np
    have hb6 := T.2.2.2.2.2.1
    have hT := T.2.2.2.2.2.2 p lk
    have hd : dn kd wh mn np l2 b < 2 ^ np := osum_lt _ _
    refine xr_iload X 0 dX12_oddsOf_20 rfl ?_
    refine xr_aload_n X 3 dX12_oddsOf_22 rfl rfl ?_
    refine xr_get X fF_X12_19_11 hm rfl dX12_oddsOf_23 ?_
    refine xr_iconst (v := 0) X dX12_oddsOf_26 (by decide) ?_
    refine xr_iald (j := 0) X ht (xI_e (by decide) (by omega) (by omega)) dX12_oddsOf_27 ?_
    refine xr_top (y := (nI np)) T.2.1 ?_
    refine xr_icmp_ge (tgt := 117) X dX12_oddsOf_28 (by decide) (fun c_28 => absurd c_28 (by rw [i32_le, nI_toInt (by omega), nI_toInt (by omega)]; omega)) (fun _ => ?_)
    refine xr_iload_n X 2 dX12_oddsOf_31 rfl rfl ?_
    refine xr_iload X 0 dX12_oddsOf_32 rfl ?_
    refine xr_ishr X dX12_oddsOf_34 ?_
    refine xr_iconst (v := 1) X dX12_oddsOf_35 (by decide) ?_
    refine xr_iand X dX12_oddsOf_36 ?_
    refine xr_top (y := (xb (dz kd wh mn p l2 b))) (by rw [bt_n (by omega) (by omega), dn, osum_bit]; simp [lk]) ?_
    refine xr_iload_n X 5 dX12_oddsOf_37 rfl rfl ?_
    refine xr_iload X 0 dX12_oddsOf_38 rfl ?_
    refine xr_ishr X dX12_oddsOf_40 ?_
    refine xr_iconst (v := 1) X dX12_oddsOf_41 (by decide) ?_
    refine xr_iand X dX12_oddsOf_42 ?_
    refine xr_top (y := (xb (s2.testBit p))) (bt_n (by omega) (by omega)) ?_
    refine xr_icmp_ne (tgt := 50) X dX12_oddsOf_43 (by decide) (fun c_43 => ?_) (fun c_43 => ?_)
    · have hsm : ¬ (dz kd wh mn p l2 b == s2.testBit p) = true := by have c9 := mt xb_inj.mpr c_43; simpa using c9
      refine xr_iconst (v := 0) X dX12_oddsOf_50 (by decide) ?_
      refine xr_istore (lv' := [(6, .int 0), (5, .int (nI p)), (4, .int (nI (prB (odP kd wh mn b l2 s2) p))), (3, .int (nI (dn kd wh mn np l2 b))), (0, .ref m), (1, .int (nI l2)), (2, .int (nI s2))]) X dX12_oddsOf_51 rfl rfl ?_
      refine xr_aload_n X 4 dX12_oddsOf_53 rfl rfl ?_
      refine xr_iload X 1 dX12_oddsOf_54 rfl ?_
      refine xr_iconst (v := 0) X dX12_oddsOf_56 (by decide) ?_
      refine xr_callV X hm rfl kw_1146 kw_1148 kw_37 cw_X12_of [.int (nI p), .int 0] (c_X12_of (p := p) (w := 0) hm ht (nI_toInt (by omega)) (by decide) (by omega)) rfl rfl rfl rfl rfl rfl rfl dX12_oddsOf_57 ?_
      refine xr_top (y := nI (kd p)) (by rw [show 3 + 3 * p + 0 = 3 + 3 * p by omega]; exact (T.2.2.2.2.2.2 p (by omega)).1) ?_
      refine xr_iconst (v := 3) X dX12_oddsOf_60 (by decide) ?_
      refine xr_icmp_ne (tgt := 92) X dX12_oddsOf_61 (by decide) (fun c_61 => ?_) (fun c_61 => ?_)
      · have c_61 := mt i32_eq.mpr c_61
        (try simp (disch := omega) only [nI_toInt, i32_add, i32_sub, i32_mul, i64_addl, i32_l, k32_3, k64_3] at c_61)
        have ek3 : ¬ kd p = 3 := by omega
        refine xr_iload X 0 dX12_oddsOf_92 rfl ?_
        refine xr_if_eq (tgt := 101) X dX12_oddsOf_94 (by decide) (fun _ => ?_) (fun c_94 => absurd (by decide) c_94)
        refine xr_iconst (v := 0) X dX12_oddsOf_101 (by decide) ?_
        refine xr_top (y := (nI (odP kd wh mn b l2 s2 p))) (by rw [odP, if_neg ek3, if_neg hsm]; rfl) ?_
        refine xr_istore (lv' := [(7, .int (nI (odP kd wh mn b l2 s2 p))), (6, .int 0), (5, .int (nI p)), (4, .int (nI (prB (odP kd wh mn b l2 s2) p))), (3, .int (nI (dn kd wh mn np l2 b))), (0, .ref m), (1, .int (nI l2)), (2, .int (nI s2))]) X dX12_oddsOf_102 rfl rfl ?_
        refine xr_iload X 3 dX12_oddsOf_104 rfl ?_
        refine xr_iload X 0 dX12_oddsOf_106 rfl ?_
        refine xr_imul X dX12_oddsOf_108 ?_
        refine xr_top (y := (nI (prB (odP kd wh mn b l2 s2) (p + 1)))) (by rw [prB, pk_mul]) ?_
        refine xr_istore (lv' := [(4, .int (nI (prB (odP kd wh mn b l2 s2) (p + 1)))), (7, .int (nI (odP kd wh mn b l2 s2 p))), (6, .int 0), (5, .int (nI p)), (3, .int (nI (dn kd wh mn np l2 b))), (0, .ref m), (1, .int (nI l2)), (2, .int (nI s2))]) X dX12_oddsOf_109 rfl rfl ?_
        refine xr_iinc (v := nI (p + 1)) (lv' := [(5, .int (nI (p + 1))), (4, .int (nI (prB (odP kd wh mn b l2 s2) (p + 1)))), (7, .int (nI (odP kd wh mn b l2 s2 p))), (6, .int 0), (3, .int (nI (dn kd wh mn np l2 b))), (0, .ref m), (1, .int (nI l2)), (2, .int (nI s2))]) X 3 dX12_oddsOf_111 rfl (nI_1 _) rfl rfl ?_
        refine xr_goto (tgt := 20) X dX12_oddsOf_114 (by decide) ?_
        refine xr_locs (lv' := [(5, .int (nI (p + 1))), (4, .int (nI (prB (odP kd wh mn b l2 s2) (p + 1)))), (3, .int (nI (dn kd wh mn np l2 b))), (0, .ref m), (1, .int (nI l2)), (2, .int (nI s2))]) [0, 1, 4, 5, 6, 7] rfl ?_
        exact ih (p + 1) (by omega)
      · have c_61 := i32_eq.mp c_61
        (try simp (disch := omega) only [nI_toInt, i32_add, i32_sub, i32_mul, i64_addl, i32_l, k32_3, k64_3] at c_61)
        have ek3 : kd p = 3 := by omega
        refine xr_iload X 0 dX12_oddsOf_64 rfl ?_
        refine xr_if_eq (tgt := 82) X dX12_oddsOf_66 (by decide) (fun _ => ?_) (fun c_66 => absurd (by decide) c_66)
        refine xr_aload_n X 4 dX12_oddsOf_82 rfl rfl ?_
        refine xr_iload X 1 dX12_oddsOf_83 rfl ?_
        refine xr_iconst (v := 2) X dX12_oddsOf_85 (by decide) ?_
        refine xr_callV X hm rfl kw_1146 kw_1148 kw_37 cw_X12_of [.int (nI p), .int 2] (c_X12_of (p := p) (w := 2) hm ht (nI_toInt (by omega)) (by decide) (by omega)) rfl rfl rfl rfl rfl rfl rfl dX12_oddsOf_86 ?_
        refine xr_top (y := nI (mn p)) (by rw [show 3 + 3 * p + 2 = 5 + 3 * p by omega]; exact (T.2.2.2.2.2.2 p (by omega)).2.2.1) ?_
        refine xr_goto (tgt := 102) X dX12_oddsOf_89 (by decide) ?_
        refine xr_top (y := (nI (odP kd wh mn b l2 s2 p))) (by rw [odP, if_pos ek3, if_neg hsm]) ?_
        refine xr_istore (lv' := [(7, .int (nI (odP kd wh mn b l2 s2 p))), (6, .int 0), (5, .int (nI p)), (4, .int (nI (prB (odP kd wh mn b l2 s2) p))), (3, .int (nI (dn kd wh mn np l2 b))), (0, .ref m), (1, .int (nI l2)), (2, .int (nI s2))]) X dX12_oddsOf_102 rfl rfl ?_
        refine xr_iload X 3 dX12_oddsOf_104 rfl ?_
        refine xr_iload X 0 dX12_oddsOf_106 rfl ?_
        refine xr_imul X dX12_oddsOf_108 ?_
        refine xr_top (y := (nI (prB (odP kd wh mn b l2 s2) (p + 1)))) (by rw [prB, pk_mul]) ?_
        refine xr_istore (lv' := [(4, .int (nI (prB (odP kd wh mn b l2 s2) (p + 1)))), (7, .int (nI (odP kd wh mn b l2 s2 p))), (6, .int 0), (5, .int (nI p)), (3, .int (nI (dn kd wh mn np l2 b))), (0, .ref m), (1, .int (nI l2)), (2, .int (nI s2))]) X dX12_oddsOf_109 rfl rfl ?_
        refine xr_iinc (v := nI (p + 1)) (lv' := [(5, .int (nI (p + 1))), (4, .int (nI (prB (odP kd wh mn b l2 s2) (p + 1)))), (7, .int (nI (odP kd wh mn b l2 s2 p))), (6, .int 0), (3, .int (nI (dn kd wh mn np l2 b))), (0, .ref m), (1, .int (nI l2)), (2, .int (nI s2))]) X 3 dX12_oddsOf_111 rfl (nI_1 _) rfl rfl ?_
        refine xr_goto (tgt := 20) X dX12_oddsOf_114 (by decide) ?_
        refine xr_locs (lv' := [(5, .int (nI (p + 1))), (4, .int (nI (prB (odP kd wh mn b l2 s2) (p + 1)))), (3, .int (nI (dn kd wh mn np l2 b))), (0, .ref m), (1, .int (nI l2)), (2, .int (nI s2))]) [0, 1, 4, 5, 6, 7] rfl ?_
        exact ih (p + 1) (by omega)
    · have hsm : (dz kd wh mn p l2 b == s2.testBit p) = true := by have c9 := xb_inj.mp c_43; simpa using c9
      refine xr_iconst (v := 1) X dX12_oddsOf_46 (by decide) ?_
      refine xr_goto (tgt := 51) X dX12_oddsOf_47 (by decide) ?_
      refine xr_istore (lv' := [(6, .int 1), (5, .int (nI p)), (4, .int (nI (prB (odP kd wh mn b l2 s2) p))), (3, .int (nI (dn kd wh mn np l2 b))), (0, .ref m), (1, .int (nI l2)), (2, .int (nI s2))]) X dX12_oddsOf_51 rfl rfl ?_
      refine xr_aload_n X 4 dX12_oddsOf_53 rfl rfl ?_
      refine xr_iload X 1 dX12_oddsOf_54 rfl ?_
      refine xr_iconst (v := 0) X dX12_oddsOf_56 (by decide) ?_
      refine xr_callV X hm rfl kw_1146 kw_1148 kw_37 cw_X12_of [.int (nI p), .int 0] (c_X12_of (p := p) (w := 0) hm ht (nI_toInt (by omega)) (by decide) (by omega)) rfl rfl rfl rfl rfl rfl rfl dX12_oddsOf_57 ?_
      refine xr_top (y := nI (kd p)) (by rw [show 3 + 3 * p + 0 = 3 + 3 * p by omega]; exact (T.2.2.2.2.2.2 p (by omega)).1) ?_
      refine xr_iconst (v := 3) X dX12_oddsOf_60 (by decide) ?_
      refine xr_icmp_ne (tgt := 92) X dX12_oddsOf_61 (by decide) (fun c_61 => ?_) (fun c_61 => ?_)
      · have c_61 := mt i32_eq.mpr c_61
        (try simp (disch := omega) only [nI_toInt, i32_add, i32_sub, i32_mul, i64_addl, i32_l, k32_3, k64_3] at c_61)
        have ek3 : ¬ kd p = 3 := by omega
        refine xr_iload X 0 dX12_oddsOf_92 rfl ?_
        refine xr_if_eq (tgt := 101) X dX12_oddsOf_94 (by decide) (fun c_94 => absurd c_94 (by decide)) (fun _ => ?_)
        refine xr_iconst (v := 1) X dX12_oddsOf_97 (by decide) ?_
        refine xr_goto (tgt := 102) X dX12_oddsOf_98 (by decide) ?_
        refine xr_top (y := (nI (odP kd wh mn b l2 s2 p))) (by rw [odP, if_neg ek3, if_pos hsm]; rfl) ?_
        refine xr_istore (lv' := [(7, .int (nI (odP kd wh mn b l2 s2 p))), (6, .int 1), (5, .int (nI p)), (4, .int (nI (prB (odP kd wh mn b l2 s2) p))), (3, .int (nI (dn kd wh mn np l2 b))), (0, .ref m), (1, .int (nI l2)), (2, .int (nI s2))]) X dX12_oddsOf_102 rfl rfl ?_
        refine xr_iload X 3 dX12_oddsOf_104 rfl ?_
        refine xr_iload X 0 dX12_oddsOf_106 rfl ?_
        refine xr_imul X dX12_oddsOf_108 ?_
        refine xr_top (y := (nI (prB (odP kd wh mn b l2 s2) (p + 1)))) (by rw [prB, pk_mul]) ?_
        refine xr_istore (lv' := [(4, .int (nI (prB (odP kd wh mn b l2 s2) (p + 1)))), (7, .int (nI (odP kd wh mn b l2 s2 p))), (6, .int 1), (5, .int (nI p)), (3, .int (nI (dn kd wh mn np l2 b))), (0, .ref m), (1, .int (nI l2)), (2, .int (nI s2))]) X dX12_oddsOf_109 rfl rfl ?_
        refine xr_iinc (v := nI (p + 1)) (lv' := [(5, .int (nI (p + 1))), (4, .int (nI (prB (odP kd wh mn b l2 s2) (p + 1)))), (7, .int (nI (odP kd wh mn b l2 s2 p))), (6, .int 1), (3, .int (nI (dn kd wh mn np l2 b))), (0, .ref m), (1, .int (nI l2)), (2, .int (nI s2))]) X 3 dX12_oddsOf_111 rfl (nI_1 _) rfl rfl ?_
        refine xr_goto (tgt := 20) X dX12_oddsOf_114 (by decide) ?_
        refine xr_locs (lv' := [(5, .int (nI (p + 1))), (4, .int (nI (prB (odP kd wh mn b l2 s2) (p + 1)))), (3, .int (nI (dn kd wh mn np l2 b))), (0, .ref m), (1, .int (nI l2)), (2, .int (nI s2))]) [0, 1, 4, 5, 6, 7] rfl ?_
        exact ih (p + 1) (by omega)
      · have c_61 := i32_eq.mp c_61
        (try simp (disch := omega) only [nI_toInt, i32_add, i32_sub, i32_mul, i64_addl, i32_l, k32_3, k64_3] at c_61)
        have ek3 : kd p = 3 := by omega
        refine xr_iload X 0 dX12_oddsOf_64 rfl ?_
        refine xr_if_eq (tgt := 82) X dX12_oddsOf_66 (by decide) (fun c_66 => absurd c_66 (by decide)) (fun _ => ?_)
        refine xr_bipush (v := 10) X dX12_oddsOf_69 (by decide) ?_
        refine xr_aload_n X 4 dX12_oddsOf_71 rfl rfl ?_
        refine xr_iload X 1 dX12_oddsOf_72 rfl ?_
        refine xr_iconst (v := 2) X dX12_oddsOf_74 (by decide) ?_
        refine xr_callV X hm rfl kw_1146 kw_1148 kw_37 cw_X12_of [.int (nI p), .int 2] (c_X12_of (p := p) (w := 2) hm ht (nI_toInt (by omega)) (by decide) (by omega)) rfl rfl rfl rfl rfl rfl rfl dX12_oddsOf_75 ?_
        refine xr_top (y := nI (mn p)) (by rw [show 3 + 3 * p + 2 = 5 + 3 * p by omega]; exact (T.2.2.2.2.2.2 p (by omega)).2.2.1) ?_
        refine xr_isub X dX12_oddsOf_78 ?_
        refine xr_goto (tgt := 102) X dX12_oddsOf_79 (by decide) ?_
        refine xr_top (y := (nI (odP kd wh mn b l2 s2 p))) (by rw [odP, if_pos ek3, if_pos hsm]; rw [show (10 : Int32) = nI 10 from rfl, pk_sub (by omega)]) ?_
        refine xr_istore (lv' := [(7, .int (nI (odP kd wh mn b l2 s2 p))), (6, .int 1), (5, .int (nI p)), (4, .int (nI (prB (odP kd wh mn b l2 s2) p))), (3, .int (nI (dn kd wh mn np l2 b))), (0, .ref m), (1, .int (nI l2)), (2, .int (nI s2))]) X dX12_oddsOf_102 rfl rfl ?_
        refine xr_iload X 3 dX12_oddsOf_104 rfl ?_
        refine xr_iload X 0 dX12_oddsOf_106 rfl ?_
        refine xr_imul X dX12_oddsOf_108 ?_
        refine xr_top (y := (nI (prB (odP kd wh mn b l2 s2) (p + 1)))) (by rw [prB, pk_mul]) ?_
        refine xr_istore (lv' := [(4, .int (nI (prB (odP kd wh mn b l2 s2) (p + 1)))), (7, .int (nI (odP kd wh mn b l2 s2 p))), (6, .int 1), (5, .int (nI p)), (3, .int (nI (dn kd wh mn np l2 b))), (0, .ref m), (1, .int (nI l2)), (2, .int (nI s2))]) X dX12_oddsOf_109 rfl rfl ?_
        refine xr_iinc (v := nI (p + 1)) (lv' := [(5, .int (nI (p + 1))), (4, .int (nI (prB (odP kd wh mn b l2 s2) (p + 1)))), (7, .int (nI (odP kd wh mn b l2 s2 p))), (6, .int 1), (3, .int (nI (dn kd wh mn np l2 b))), (0, .ref m), (1, .int (nI l2)), (2, .int (nI s2))]) X 3 dX12_oddsOf_111 rfl (nI_1 _) rfl rfl ?_
        refine xr_goto (tgt := 20) X dX12_oddsOf_114 (by decide) ?_
        refine xr_locs (lv' := [(5, .int (nI (p + 1))), (4, .int (nI (prB (odP kd wh mn b l2 s2) (p + 1)))), (3, .int (nI (dn kd wh mn np l2 b))), (0, .ref m), (1, .int (nI l2)), (2, .int (nI s2))]) [0, 1, 4, 5, 6, 7] rfl ?_
        exact ih (p + 1) (by omega)
set_option maxRecDepth 100000 in
theorem c_X12_oddsOf {l : Launch} {Ω : xW} {h : xH} {sz : Nat} {m : Nat} {st ac tp la le cu tk sa ti fa fl tr : Int32} {t : Nat → Int32} {np day b : Nat} {kd wh mn : Nat → Nat} {l2 s2 : Nat} (hm : h m = some (mO m st ac tp la le cu tk sa ti fa fl tr)) (ht : h (m + 4) = some (.inl (.int, 21, .inl t))) (T : tOK t np kd wh mn day b) (hl : l2 < 64) (hs : s2 < 64) : xC l Ω yX12_oddsOf cX12_oddsOf 8 (some .int) 3 0 0 [.ref m, .int (nI l2), .int (nI s2)] h sz (some (.int (nI (ods kd wh mn np b l2 s2)))) h (sz) := by
  refine xC_of (lv := [(0, .ref m), (1, .int (nI l2)), (2, .int (nI s2))]) pn_X12 rfl rfl (fun Γ X hΓ hbs => ?_)
  have X : xX Γ Ω cX12_oddsOf 8 RX12 "oddsOf" (some .int) 3 105 0 0 := X
  subst hΓ
  have h6 := T.1
  have h64 := pw_le h6
  have hpp := Nat.two_pow_pos np
  have hb6 := T.2.2.2.2.2.1
  refine xr_aload_n X 0 dX12_oddsOf_0 rfl rfl ?_
  refine xr_iload_n X 1 dX12_oddsOf_1 rfl rfl ?_
  refine xr_aload_n X 0 dX12_oddsOf_2 rfl rfl ?_
  refine xr_get X fF_X12_19_11 hm rfl dX12_oddsOf_3 ?_
  refine xr_iconst (v := 2) X dX12_oddsOf_6 (by decide) ?_
  refine xr_iald (j := 2) X ht (xI_e (by decide) (by omega) (by omega)) dX12_oddsOf_7 ?_
  refine xr_top (y := (nI b)) T.2.2.2.2.1 ?_
  refine xr_iconst (v := (-1)) X dX12_oddsOf_8 (by decide) ?_
  refine xr_iconst (v := 0) X dX12_oddsOf_9 (by decide) ?_
  refine xr_callV X hm rfl kw_1138 kw_1140 kw_35 cw_X12_doneBy [.int (nI l2), .int (nI b), .int (-1), .int 0] (c_X12_doneBy (l2 := l2) (b2 := b) (hw := 0) (o := (-1)) hm ht T (by omega) (by omega) (by omega)) rfl rfl rfl rfl rfl rfl rfl dX12_oddsOf_10 ?_
  refine xr_top (y := nI (dn kd wh mn np l2 b)) (by rw [dnO_n T.1]) ?_
  refine xr_istore_n (lv' := [(3, .int (nI (dn kd wh mn np l2 b))), (0, .ref m), (1, .int (nI l2)), (2, .int (nI s2))]) X dX12_oddsOf_13 rfl rfl rfl ?_
  refine xr_iconst (v := 1) X dX12_oddsOf_14 (by decide) ?_
  refine xr_istore (lv' := [(4, .int 1), (3, .int (nI (dn kd wh mn np l2 b))), (0, .ref m), (1, .int (nI l2)), (2, .int (nI s2))]) X dX12_oddsOf_15 rfl rfl ?_
  refine xr_iconst (v := 0) X dX12_oddsOf_17 (by decide) ?_
  refine xr_istore (lv' := [(5, .int 0), (4, .int 1), (3, .int (nI (dn kd wh mn np l2 b))), (0, .ref m), (1, .int (nI l2)), (2, .int (nI s2))]) X dX12_oddsOf_18 rfl rfl ?_
  exact l_X12_oddsOf X hm ht T hl hs np 0 (by omega)
set_option maxRecDepth 100000 in
theorem l_X12_oddsIn {Γ : xΓ} {Ω : xW} {h : xH} {sz : Nat} (X : xX Γ Ω cX12_oddsIn 3 RX12 "oddsIn" (some .int) 1 35 0 0) {m : Nat} {st ac tp la le cu tk sa ti fa fl tr : Int32} {t : Nat → Int32} {np day b : Nat} {kd wh mn : Nat → Nat} (hm : h m = some (mO m st ac tp la le cu tk sa ti fa fl tr)) (ht : h (m + 4) = some (.inl (.int, 21, .inl t))) (T : tOK t np kd wh mn day b) : ∀ (j0 p : Nat), p + j0 = np → xG Γ Ω 3 (xQ Γ Ω (some (.int (nI (odi kd np)))) h (sz) 0 0) 4 [(2, .int (nI p)), (1, .int (nI (prB (odA kd) p))), (0, .ref m)] ([]) h sz 0 0 := by
  intro j0
  induction j0 with
  | zero =>
    intro p hk
    have ek : p = np := by omega
    refine xr_iload_n X 0 dX12_oddsIn_4 rfl rfl ?_
    refine xr_aload_n X 2 dX12_oddsIn_5 rfl rfl ?_
    refine xr_get X fF_X12_19_11 hm rfl dX12_oddsIn_6 ?_
    refine xr_iconst (v := 0) X dX12_oddsIn_9 (by decide) ?_
    refine xr_iald (j := 0) X ht (xI_e (by decide) (by omega) (by omega)) dX12_oddsIn_10 ?_
    refine xr_top (y := (nI np)) T.2.1 ?_
    refine xr_icmp_ge (tgt := 39) X dX12_oddsIn_11 (by decide) (fun _ => ?_) (fun c_11 => absurd (by subst ek; exact i32_le.mpr (Int.le_refl _)) c_11)
    refine xr_iload_n X 1 dX12_oddsIn_39 rfl rfl ?_
    exact xr_iret X rfl (by rw [ek, odi]) rfl rfl rfl rfl dX12_oddsIn_40
  | succ j0 ih =>
    intro p hk
    have lk : p < np := by omega
    have h6 := T.1
    have hT := T.2.2.2.2.2.2 p lk
    refine xr_iload_n X 0 dX12_oddsIn_4 rfl rfl ?_
    refine xr_aload_n X 2 dX12_oddsIn_5 rfl rfl ?_
    refine xr_get X fF_X12_19_11 hm rfl dX12_oddsIn_6 ?_
    refine xr_iconst (v := 0) X dX12_oddsIn_9 (by decide) ?_
    refine xr_iald (j := 0) X ht (xI_e (by decide) (by omega) (by omega)) dX12_oddsIn_10 ?_
    refine xr_top (y := (nI np)) T.2.1 ?_
    refine xr_icmp_ge (tgt := 39) X dX12_oddsIn_11 (by decide) (fun c_11 => absurd c_11 (by rw [i32_le, nI_toInt (by omega), nI_toInt (by omega)]; omega)) (fun _ => ?_)
    refine xr_iload_n X 1 dX12_oddsIn_14 rfl rfl ?_
    refine xr_aload_n X 2 dX12_oddsIn_15 rfl rfl ?_
    refine xr_iload_n X 0 dX12_oddsIn_16 rfl rfl ?_
    refine xr_iconst (v := 0) X dX12_oddsIn_17 (by decide) ?_
    refine xr_callV X hm rfl kw_1146 kw_1148 kw_37 cw_X12_of [.int (nI p), .int 0] (c_X12_of (p := p) (w := 0) hm ht (nI_toInt (by omega)) (by decide) (by omega)) rfl rfl rfl rfl rfl rfl rfl dX12_oddsIn_18 ?_
    refine xr_top (y := nI (kd p)) (by rw [show 3 + 3 * p + 0 = 3 + 3 * p by omega]; exact (T.2.2.2.2.2.2 p (by omega)).1) ?_
    refine xr_iconst (v := 3) X dX12_oddsIn_21 (by decide) ?_
    refine xr_icmp_ne (tgt := 30) X dX12_oddsIn_22 (by decide) (fun c_22 => ?_) (fun c_22 => ?_)
    · have c_22 := mt i32_eq.mpr c_22
      (try simp (disch := omega) only [nI_toInt, i32_add, i32_sub, i32_mul, i64_addl, i32_l, k32_3, k64_3] at c_22)
      refine xr_iconst (v := 1) X dX12_oddsIn_30 (by decide) ?_
      refine xr_top (y := (nI (odA kd p))) (by rw [odA, if_neg (by omega)]; rfl) ?_
      refine xr_imul X dX12_oddsIn_31 ?_
      refine xr_top (y := (nI (prB (odA kd) (p + 1)))) (by rw [prB, pk_mul]) ?_
      refine xr_istore_n (lv' := [(1, .int (nI (prB (odA kd) (p + 1)))), (2, .int (nI p)), (0, .ref m)]) X dX12_oddsIn_32 rfl rfl rfl ?_
      refine xr_iinc (v := nI (p + 1)) (lv' := [(2, .int (nI (p + 1))), (1, .int (nI (prB (odA kd) (p + 1)))), (0, .ref m)]) X 1 dX12_oddsIn_33 rfl (nI_1 _) rfl rfl ?_
      refine xr_goto (tgt := 4) X dX12_oddsIn_36 (by decide) ?_
      exact ih (p + 1) (by omega)
    · have c_22 := i32_eq.mp c_22
      (try simp (disch := omega) only [nI_toInt, i32_add, i32_sub, i32_mul, i64_addl, i32_l, k32_3, k64_3] at c_22)
      refine xr_bipush (v := 10) X dX12_oddsIn_25 (by decide) ?_
      refine xr_goto (tgt := 31) X dX12_oddsIn_27 (by decide) ?_
      refine xr_top (y := (nI (odA kd p))) (by rw [odA, if_pos (by omega)]; rfl) ?_
      refine xr_imul X dX12_oddsIn_31 ?_
      refine xr_top (y := (nI (prB (odA kd) (p + 1)))) (by rw [prB, pk_mul]) ?_
      refine xr_istore_n (lv' := [(1, .int (nI (prB (odA kd) (p + 1)))), (2, .int (nI p)), (0, .ref m)]) X dX12_oddsIn_32 rfl rfl rfl ?_
      refine xr_iinc (v := nI (p + 1)) (lv' := [(2, .int (nI (p + 1))), (1, .int (nI (prB (odA kd) (p + 1)))), (0, .ref m)]) X 1 dX12_oddsIn_33 rfl (nI_1 _) rfl rfl ?_
      refine xr_goto (tgt := 4) X dX12_oddsIn_36 (by decide) ?_
      exact ih (p + 1) (by omega)
set_option maxRecDepth 100000 in
theorem c_X12_oddsIn {l : Launch} {Ω : xW} {h : xH} {sz : Nat} {m : Nat} {st ac tp la le cu tk sa ti fa fl tr : Int32} {t : Nat → Int32} {np day b : Nat} {kd wh mn : Nat → Nat} (hm : h m = some (mO m st ac tp la le cu tk sa ti fa fl tr)) (ht : h (m + 4) = some (.inl (.int, 21, .inl t))) (T : tOK t np kd wh mn day b) : xC l Ω yX12_oddsIn cX12_oddsIn 3 (some .int) 1 0 0 [.ref m] h sz (some (.int (nI (odi kd np)))) h (sz) := by
  refine xC_of (lv := [(0, .ref m)]) pn_X12 rfl rfl (fun Γ X hΓ hbs => ?_)
  have X : xX Γ Ω cX12_oddsIn 3 RX12 "oddsIn" (some .int) 1 35 0 0 := X
  subst hΓ
  refine xr_iconst (v := 1) X dX12_oddsIn_0 (by decide) ?_
  refine xr_istore_n (lv' := [(1, .int 1), (0, .ref m)]) X dX12_oddsIn_1 rfl rfl rfl ?_
  refine xr_iconst (v := 0) X dX12_oddsIn_2 (by decide) ?_
  refine xr_istore_n (lv' := [(2, .int 0), (1, .int 1), (0, .ref m)]) X dX12_oddsIn_3 rfl rfl rfl ?_
  exact l_X12_oddsIn X hm ht T np 0 (by omega)
