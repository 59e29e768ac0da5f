set_option maxRecDepth 100000 in
theorem l_X8_fresh {Γ : xΓ} {Ω : xW} {h : xH} {sz : Nat} (X : xX Γ Ω cX8_freshOutcome 5 RX8 "freshOutcome" (some .int) 2 70 0 0) {w B np day b : Nat} {kd wh mn : Nat → Nat} {pf : Nat → Option Nat} {m9 : Int32} {lt : Nat} (hto : h w = some (tO w (nI np) (nI day) (nI b) m9)) (htp : h (w + 1) = some (.inl (.object "EvePost$Person", 6, .inr (.inr (.inr (.inr pf)))))) (h6 : np ≤ 6) (hP : PW B h pf np kd wh mn) (hlt : lt < 64) : ∀ (j0 p : Nat), p + j0 = np → xG Γ Ω 5 (xQ Γ Ω (some (.int (nI (dn kd wh mn np lt 0)))) h (sz) 0 0) 4 [(3, .int (nI p)), (2, .int (nI (osum (fun p => dz kd wh mn p lt 0) p))), (0, .ref w), (1, .int (nI lt))] ([]) h sz 0 0 := by
  intro j0
  induction j0 with
  | zero =>
    intro p hk
    have ek : p = np := by omega
    refine xr_iload_n X 0 dX8_freshOutcome_4 rfl rfl ?_
    refine xr_aload_n X 2 dX8_freshOutcome_5 rfl rfl ?_
    refine xr_get X fF_X8_17_7 hto rfl dX8_freshOutcome_6 ?_
    refine xr_icmp_ge (tgt := 46) X dX8_freshOutcome_9 (by decide) (fun _ => ?_) (fun c_9 => absurd (by subst ek; exact i32_le.mpr (Int.le_refl _)) c_9)
    refine xr_iload_n X 1 dX8_freshOutcome_46 rfl rfl ?_
    exact xr_iret X rfl (by rw [ek]; rfl) rfl rfl rfl rfl dX8_freshOutcome_47
  | succ j0 ih =>
    intro p hk
    have lk : p < np := by omega
    obtain ⟨⟨ap, hap1, hapB, hap2⟩, kr1, kr2, kr3, kr4⟩ := hP p lk
    have hkind : kd p = 1 ∨ kd p = 2 ∨ kd p = 3 ∨ kd p = 4 ∨ kd p = 5 := by omega
    refine xr_iload_n X 0 dX8_freshOutcome_4 rfl rfl ?_
    refine xr_aload_n X 2 dX8_freshOutcome_5 rfl rfl ?_
    refine xr_get X fF_X8_17_7 hto rfl dX8_freshOutcome_6 ?_
    refine xr_icmp_ge (tgt := 46) X dX8_freshOutcome_9 (by decide) (fun c_9 => absurd c_9 (by rw [i32_le, nI_toInt (by omega), nI_toInt (by omega)]; omega)) (fun _ => ?_)
    refine xr_aload_n X 2 dX8_freshOutcome_12 rfl rfl ?_
    refine xr_iload_n X 0 dX8_freshOutcome_13 rfl rfl ?_
    refine xr_callV X hto rfl kw_503 kw_504 kw_505 cw_X8_one [.int (nI p)] (c_X8_one hto htp h6 (by omega) hap1) rfl rfl rfl rfl rfl rfl rfl dX8_freshOutcome_14 ?_
    refine xr_astore (lv' := [(4, .ref ap), (3, .int (nI p)), (2, .int (nI (osum (fun p => dz kd wh mn p lt 0) p))), (0, .ref w), (1, .int (nI lt))]) X dX8_freshOutcome_17 rfl rfl ?_
    rcases hkind with hkk | hkk | hkk | hkk | hkk
    · have hob : h ap = some (.inr (9, [.int (nI p), .int (nI (wh p)), .int (nI (mn p))])) := by rw [hap2, hkk]; rfl
      refine xr_aload X 0 dX8_freshOutcome_19 rfl ?_
      refine xr_ifnull X dX8_freshOutcome_21 ?_
      refine xr_aload X 0 dX8_freshOutcome_24 rfl ?_
      refine xr_iload_n X 4 dX8_freshOutcome_26 rfl rfl ?_
      refine xr_iconst (v := 0) X dX8_freshOutcome_27 (by decide) ?_
      refine xr_callU (y := yX10_doesIt) (x := ⟨"EvePost$Person", "doesIt", "(II)Z"⟩) (owner := "EvePost$Person") X hob rfl kw_516 kw_518 (Or.inl (by decide +kernel)) (by decide) rfl kw_535 kw_542 cw_X10_doesIt [.int (nI lt), .int 0] (c_doesIt_1 (lt := lt) (b := 0) hob (by omega) (by omega) (by omega) (by omega) (by omega)) rfl rfl rfl rfl rfl rfl rfl dX8_freshOutcome_28 ?_
      refine xr_top (y := (xb (dz kd wh mn p lt 0))) (by rw [dz_1 hkk]) ?_
      refine xr_if_eq (tgt := 40) X dX8_freshOutcome_31 (by decide) (fun c_31 => ?_) (fun c_31 => ?_)
      · have c_31 := xb_0.mp c_31
        refine xr_iinc (v := nI (p + 1)) (lv' := [(3, .int (nI (p + 1))), (4, .ref ap), (2, .int (nI (osum (fun p => dz kd wh mn p lt 0) p))), (0, .ref w), (1, .int (nI lt))]) X 1 dX8_freshOutcome_40 rfl (nI_1 _) rfl rfl ?_
        refine xr_goto (tgt := 4) X dX8_freshOutcome_43 (by decide) ?_
        refine xr_locs (lv' := [(3, .int (nI (p + 1))), (2, .int (nI (osum (fun p => dz kd wh mn p lt 0) p))), (0, .ref w), (1, .int (nI lt))]) [0, 2, 3, 4] rfl ?_
        refine xr_lve (lv' := [(3, .int (nI (p + 1))), (2, .int (nI (osum (fun p => dz kd wh mn p lt 0) (p + 1)))), (0, .ref w), (1, .int (nI lt))]) (by rw [osum, if_neg (by rw [c_31]; decide)]; rfl) ?_
        exact ih (p + 1) (by omega)
      · have c_31 := xb_1.mp c_31
        refine xr_iload_n X 2 dX8_freshOutcome_34 rfl rfl ?_
        refine xr_iconst (v := 1) X dX8_freshOutcome_35 (by decide) ?_
        refine xr_iload_n X 1 dX8_freshOutcome_36 rfl rfl ?_
        refine xr_ishl X dX8_freshOutcome_37 ?_
        refine xr_ior X dX8_freshOutcome_38 ?_
        refine xr_top (y := (nI (osum (fun p => dz kd wh mn p lt 0) (p + 1)))) (by rw [osum, if_pos c_31]; exact or_p p (by omega) _ (osum_lt _ _)) ?_
        refine xr_istore_n (lv' := [(2, .int (nI (osum (fun p => dz kd wh mn p lt 0) (p + 1)))), (4, .ref ap), (3, .int (nI p)), (0, .ref w), (1, .int (nI lt))]) X dX8_freshOutcome_39 rfl rfl rfl ?_
        refine xr_iinc (v := nI (p + 1)) (lv' := [(3, .int (nI (p + 1))), (2, .int (nI (osum (fun p => dz kd wh mn p lt 0) (p + 1)))), (4, .ref ap), (0, .ref w), (1, .int (nI lt))]) X 2 dX8_freshOutcome_40 rfl (nI_1 _) rfl rfl ?_
        refine xr_goto (tgt := 4) X dX8_freshOutcome_43 (by decide) ?_
        refine xr_locs (lv' := [(3, .int (nI (p + 1))), (2, .int (nI (osum (fun p => dz kd wh mn p lt 0) (p + 1)))), (0, .ref w), (1, .int (nI lt))]) [0, 1, 3, 4] rfl ?_
        exact ih (p + 1) (by omega)
    · have hob : h ap = some (.inr (0, [.int (nI p), .int (nI (wh p)), .int (nI (mn p))])) := by rw [hap2, hkk]; rfl
      refine xr_aload X 0 dX8_freshOutcome_19 rfl ?_
      refine xr_ifnull X dX8_freshOutcome_21 ?_
      refine xr_aload X 0 dX8_freshOutcome_24 rfl ?_
      refine xr_iload_n X 4 dX8_freshOutcome_26 rfl rfl ?_
      refine xr_iconst (v := 0) X dX8_freshOutcome_27 (by decide) ?_
      refine xr_callU (y := yX0_doesIt) (x := ⟨"EvePost$Person", "doesIt", "(II)Z"⟩) (owner := "EvePost$Person") X hob rfl kw_516 kw_518 (Or.inl (by decide +kernel)) (by decide) rfl kw_520 kw_519 cw_X0_doesIt [.int (nI lt), .int 0] (c_doesIt_2 (lt := lt) (b := 0) hob (by omega) (by omega) (by omega) (by omega) (by omega)) rfl rfl rfl rfl rfl rfl rfl dX8_freshOutcome_28 ?_
      refine xr_top (y := (xb (dz kd wh mn p lt 0))) (by rw [dz_2 hkk]) ?_
      refine xr_if_eq (tgt := 40) X dX8_freshOutcome_31 (by decide) (fun c_31 => ?_) (fun c_31 => ?_)
      · have c_31 := xb_0.mp c_31
        refine xr_iinc (v := nI (p + 1)) (lv' := [(3, .int (nI (p + 1))), (4, .ref ap), (2, .int (nI (osum (fun p => dz kd wh mn p lt 0) p))), (0, .ref w), (1, .int (nI lt))]) X 1 dX8_freshOutcome_40 rfl (nI_1 _) rfl rfl ?_
        refine xr_goto (tgt := 4) X dX8_freshOutcome_43 (by decide) ?_
        refine xr_locs (lv' := [(3, .int (nI (p + 1))), (2, .int (nI (osum (fun p => dz kd wh mn p lt 0) p))), (0, .ref w), (1, .int (nI lt))]) [0, 2, 3, 4] rfl ?_
        refine xr_lve (lv' := [(3, .int (nI (p + 1))), (2, .int (nI (osum (fun p => dz kd wh mn p lt 0) (p + 1)))), (0, .ref w), (1, .int (nI lt))]) (by rw [osum, if_neg (by rw [c_31]; decide)]; rfl) ?_
        exact ih (p + 1) (by omega)
      · have c_31 := xb_1.mp c_31
        refine xr_iload_n X 2 dX8_freshOutcome_34 rfl rfl ?_
        refine xr_iconst (v := 1) X dX8_freshOutcome_35 (by decide) ?_
        refine xr_iload_n X 1 dX8_freshOutcome_36 rfl rfl ?_
        refine xr_ishl X dX8_freshOutcome_37 ?_
        refine xr_ior X dX8_freshOutcome_38 ?_
        refine xr_top (y := (nI (osum (fun p => dz kd wh mn p lt 0) (p + 1)))) (by rw [osum, if_pos c_31]; exact or_p p (by omega) _ (osum_lt _ _)) ?_
        refine xr_istore_n (lv' := [(2, .int (nI (osum (fun p => dz kd wh mn p lt 0) (p + 1)))), (4, .ref ap), (3, .int (nI p)), (0, .ref w), (1, .int (nI lt))]) X dX8_freshOutcome_39 rfl rfl rfl ?_
        refine xr_iinc (v := nI (p + 1)) (lv' := [(3, .int (nI (p + 1))), (2, .int (nI (osum (fun p => dz kd wh mn p lt 0) (p + 1)))), (4, .ref ap), (0, .ref w), (1, .int (nI lt))]) X 2 dX8_freshOutcome_40 rfl (nI_1 _) rfl rfl ?_
        refine xr_goto (tgt := 4) X dX8_freshOutcome_43 (by decide) ?_
        refine xr_locs (lv' := [(3, .int (nI (p + 1))), (2, .int (nI (osum (fun p => dz kd wh mn p lt 0) (p + 1)))), (0, .ref w), (1, .int (nI lt))]) [0, 1, 3, 4] rfl ?_
        exact ih (p + 1) (by omega)
    · have hob : h ap = some (.inr (3, [.int (nI p), .int (nI (wh p)), .int (nI (mn p))])) := by rw [hap2, hkk]; rfl
      refine xr_aload X 0 dX8_freshOutcome_19 rfl ?_
      refine xr_ifnull X dX8_freshOutcome_21 ?_
      refine xr_aload X 0 dX8_freshOutcome_24 rfl ?_
      refine xr_iload_n X 4 dX8_freshOutcome_26 rfl rfl ?_
      refine xr_iconst (v := 0) X dX8_freshOutcome_27 (by decide) ?_
      refine xr_callU (y := yX10_doesIt) (x := ⟨"EvePost$Person", "doesIt", "(II)Z"⟩) (owner := "EvePost$Person") X hob rfl kw_516 kw_518 (Or.inl (by decide +kernel)) (by decide) rfl kw_535 kw_534 cw_X10_doesIt [.int (nI lt), .int 0] (c_doesIt_3 (lt := lt) (b := 0) hob (by omega) (by omega) (by omega) (by omega) (by omega)) rfl rfl rfl rfl rfl rfl rfl dX8_freshOutcome_28 ?_
      refine xr_top (y := (xb (dz kd wh mn p lt 0))) (by rw [dz_3 hkk]) ?_
      refine xr_if_eq (tgt := 40) X dX8_freshOutcome_31 (by decide) (fun c_31 => ?_) (fun c_31 => ?_)
      · have c_31 := xb_0.mp c_31
        refine xr_iinc (v := nI (p + 1)) (lv' := [(3, .int (nI (p + 1))), (4, .ref ap), (2, .int (nI (osum (fun p => dz kd wh mn p lt 0) p))), (0, .ref w), (1, .int (nI lt))]) X 1 dX8_freshOutcome_40 rfl (nI_1 _) rfl rfl ?_
        refine xr_goto (tgt := 4) X dX8_freshOutcome_43 (by decide) ?_
        refine xr_locs (lv' := [(3, .int (nI (p + 1))), (2, .int (nI (osum (fun p => dz kd wh mn p lt 0) p))), (0, .ref w), (1, .int (nI lt))]) [0, 2, 3, 4] rfl ?_
        refine xr_lve (lv' := [(3, .int (nI (p + 1))), (2, .int (nI (osum (fun p => dz kd wh mn p lt 0) (p + 1)))), (0, .ref w), (1, .int (nI lt))]) (by rw [osum, if_neg (by rw [c_31]; decide)]; rfl) ?_
        exact ih (p + 1) (by omega)
      · have c_31 := xb_1.mp c_31
        refine xr_iload_n X 2 dX8_freshOutcome_34 rfl rfl ?_
        refine xr_iconst (v := 1) X dX8_freshOutcome_35 (by decide) ?_
        refine xr_iload_n X 1 dX8_freshOutcome_36 rfl rfl ?_
        refine xr_ishl X dX8_freshOutcome_37 ?_
        refine xr_ior X dX8_freshOutcome_38 ?_
        refine xr_top (y := (nI (osum (fun p => dz kd wh mn p lt 0) (p + 1)))) (by rw [osum, if_pos c_31]; exact or_p p (by omega) _ (osum_lt _ _)) ?_
        refine xr_istore_n (lv' := [(2, .int (nI (osum (fun p => dz kd wh mn p lt 0) (p + 1)))), (4, .ref ap), (3, .int (nI p)), (0, .ref w), (1, .int (nI lt))]) X dX8_freshOutcome_39 rfl rfl rfl ?_
        refine xr_iinc (v := nI (p + 1)) (lv' := [(3, .int (nI (p + 1))), (2, .int (nI (osum (fun p => dz kd wh mn p lt 0) (p + 1)))), (4, .ref ap), (0, .ref w), (1, .int (nI lt))]) X 2 dX8_freshOutcome_40 rfl (nI_1 _) rfl rfl ?_
        refine xr_goto (tgt := 4) X dX8_freshOutcome_43 (by decide) ?_
        refine xr_locs (lv' := [(3, .int (nI (p + 1))), (2, .int (nI (osum (fun p => dz kd wh mn p lt 0) (p + 1)))), (0, .ref w), (1, .int (nI lt))]) [0, 1, 3, 4] rfl ?_
        exact ih (p + 1) (by omega)
    · have hob : h ap = some (.inr (1, [.int (nI p), .int (nI (wh p)), .int (nI (mn p))])) := by rw [hap2, hkk]; rfl
      refine xr_aload X 0 dX8_freshOutcome_19 rfl ?_
      refine xr_ifnull X dX8_freshOutcome_21 ?_
      refine xr_aload X 0 dX8_freshOutcome_24 rfl ?_
      refine xr_iload_n X 4 dX8_freshOutcome_26 rfl rfl ?_
      refine xr_iconst (v := 0) X dX8_freshOutcome_27 (by decide) ?_
      refine xr_callU (y := yX1_doesIt) (x := ⟨"EvePost$Person", "doesIt", "(II)Z"⟩) (owner := "EvePost$Person") X hob rfl kw_516 kw_518 (Or.inl (by decide +kernel)) (by decide) rfl kw_526 kw_525 cw_X1_doesIt [.int (nI lt), .int 0] (c_doesIt_4 (lt := lt) (b := 0) hob (by omega) (by omega) (by omega) (by omega) (by omega)) rfl rfl rfl rfl rfl rfl rfl dX8_freshOutcome_28 ?_
      refine xr_top (y := (xb (dz kd wh mn p lt 0))) (by rw [dz_4 hkk]) ?_
      refine xr_if_eq (tgt := 40) X dX8_freshOutcome_31 (by decide) (fun c_31 => ?_) (fun c_31 => ?_)
      · have c_31 := xb_0.mp c_31
        refine xr_iinc (v := nI (p + 1)) (lv' := [(3, .int (nI (p + 1))), (4, .ref ap), (2, .int (nI (osum (fun p => dz kd wh mn p lt 0) p))), (0, .ref w), (1, .int (nI lt))]) X 1 dX8_freshOutcome_40 rfl (nI_1 _) rfl rfl ?_
        refine xr_goto (tgt := 4) X dX8_freshOutcome_43 (by decide) ?_
        refine xr_locs (lv' := [(3, .int (nI (p + 1))), (2, .int (nI (osum (fun p => dz kd wh mn p lt 0) p))), (0, .ref w), (1, .int (nI lt))]) [0, 2, 3, 4] rfl ?_
        refine xr_lve (lv' := [(3, .int (nI (p + 1))), (2, .int (nI (osum (fun p => dz kd wh mn p lt 0) (p + 1)))), (0, .ref w), (1, .int (nI lt))]) (by rw [osum, if_neg (by rw [c_31]; decide)]; rfl) ?_
        exact ih (p + 1) (by omega)
      · have c_31 := xb_1.mp c_31
        refine xr_iload_n X 2 dX8_freshOutcome_34 rfl rfl ?_
        refine xr_iconst (v := 1) X dX8_freshOutcome_35 (by decide) ?_
        refine xr_iload_n X 1 dX8_freshOutcome_36 rfl rfl ?_
        refine xr_ishl X dX8_freshOutcome_37 ?_
        refine xr_ior X dX8_freshOutcome_38 ?_
        refine xr_top (y := (nI (osum (fun p => dz kd wh mn p lt 0) (p + 1)))) (by rw [osum, if_pos c_31]; exact or_p p (by omega) _ (osum_lt _ _)) ?_
        refine xr_istore_n (lv' := [(2, .int (nI (osum (fun p => dz kd wh mn p lt 0) (p + 1)))), (4, .ref ap), (3, .int (nI p)), (0, .ref w), (1, .int (nI lt))]) X dX8_freshOutcome_39 rfl rfl rfl ?_
        refine xr_iinc (v := nI (p + 1)) (lv' := [(3, .int (nI (p + 1))), (2, .int (nI (osum (fun p => dz kd wh mn p lt 0) (p + 1)))), (4, .ref ap), (0, .ref w), (1, .int (nI lt))]) X 2 dX8_freshOutcome_40 rfl (nI_1 _) rfl rfl ?_
        refine xr_goto (tgt := 4) X dX8_freshOutcome_43 (by decide) ?_
        refine xr_locs (lv' := [(3, .int (nI (p + 1))), (2, .int (nI (osum (fun p => dz kd wh mn p lt 0) (p + 1)))), (0, .ref w), (1, .int (nI lt))]) [0, 1, 3, 4] rfl ?_
        exact ih (p + 1) (by omega)
    · have hob : h ap = some (.inr (4, [.int (nI p), .int (nI (wh p)), .int (nI (mn p))])) := by rw [hap2, hkk]; rfl
      refine xr_aload X 0 dX8_freshOutcome_19 rfl ?_
      refine xr_ifnull X dX8_freshOutcome_21 ?_
      refine xr_aload X 0 dX8_freshOutcome_24 rfl ?_
      refine xr_iload_n X 4 dX8_freshOutcome_26 rfl rfl ?_
      refine xr_iconst (v := 0) X dX8_freshOutcome_27 (by decide) ?_
      refine xr_callU (y := yX4_doesIt) (x := ⟨"EvePost$Person", "doesIt", "(II)Z"⟩) (owner := "EvePost$Person") X hob rfl kw_516 kw_518 (Or.inl (by decide +kernel)) (by decide) rfl kw_539 kw_538 cw_X4_doesIt [.int (nI lt), .int 0] (c_doesIt_5 (lt := lt) (b := 0) hob (by omega) (by omega) (by omega) (by omega) (by omega)) rfl rfl rfl rfl rfl rfl rfl dX8_freshOutcome_28 ?_
      refine xr_top (y := (xb (dz kd wh mn p lt 0))) (by rw [dz_5 hkk]) ?_
      refine xr_if_eq (tgt := 40) X dX8_freshOutcome_31 (by decide) (fun c_31 => ?_) (fun c_31 => ?_)
      · have c_31 := xb_0.mp c_31
        refine xr_iinc (v := nI (p + 1)) (lv' := [(3, .int (nI (p + 1))), (4, .ref ap), (2, .int (nI (osum (fun p => dz kd wh mn p lt 0) p))), (0, .ref w), (1, .int (nI lt))]) X 1 dX8_freshOutcome_40 rfl (nI_1 _) rfl rfl ?_
        refine xr_goto (tgt := 4) X dX8_freshOutcome_43 (by decide) ?_
        refine xr_locs (lv' := [(3, .int (nI (p + 1))), (2, .int (nI (osum (fun p => dz kd wh mn p lt 0) p))), (0, .ref w), (1, .int (nI lt))]) [0, 2, 3, 4] rfl ?_
        refine xr_lve (lv' := [(3, .int (nI (p + 1))), (2, .int (nI (osum (fun p => dz kd wh mn p lt 0) (p + 1)))), (0, .ref w), (1, .int (nI lt))]) (by rw [osum, if_neg (by rw [c_31]; decide)]; rfl) ?_
        exact ih (p + 1) (by omega)
      · have c_31 := xb_1.mp c_31
        refine xr_iload_n X 2 dX8_freshOutcome_34 rfl rfl ?_
        refine xr_iconst (v := 1) X dX8_freshOutcome_35 (by decide) ?_
        refine xr_iload_n X 1 dX8_freshOutcome_36 rfl rfl ?_
        refine xr_ishl X dX8_freshOutcome_37 ?_
        refine xr_ior X dX8_freshOutcome_38 ?_
        refine xr_top (y := (nI (osum (fun p => dz kd wh mn p lt 0) (p + 1)))) (by rw [osum, if_pos c_31]; exact or_p p (by omega) _ (osum_lt _ _)) ?_
        refine xr_istore_n (lv' := [(2, .int (nI (osum (fun p => dz kd wh mn p lt 0) (p + 1)))), (4, .ref ap), (3, .int (nI p)), (0, .ref w), (1, .int (nI lt))]) X dX8_freshOutcome_39 rfl rfl rfl ?_
        refine xr_iinc (v := nI (p + 1)) (lv' := [(3, .int (nI (p + 1))), (2, .int (nI (osum (fun p => dz kd wh mn p lt 0) (p + 1)))), (4, .ref ap), (0, .ref w), (1, .int (nI lt))]) X 2 dX8_freshOutcome_40 rfl (nI_1 _) rfl rfl ?_
        refine xr_goto (tgt := 4) X dX8_freshOutcome_43 (by decide) ?_
        refine xr_locs (lv' := [(3, .int (nI (p + 1))), (2, .int (nI (osum (fun p => dz kd wh mn p lt 0) (p + 1)))), (0, .ref w), (1, .int (nI lt))]) [0, 1, 3, 4] rfl ?_
        exact ih (p + 1) (by omega)
set_option maxRecDepth 100000 in
theorem c_X8_freshOutcome {l : Launch} {Ω : xW} {h : xH} {sz : Nat} {w B np day b : Nat} {kd wh mn : Nat → Nat} {pf : Nat → Option Nat} {m9 : Int32} {lt : Nat} (hto : h w = some (tO w (nI np) (nI day) (nI b) m9)) (htp : h (w + 1) = some (.inl (.object "EvePost$Person", 6, .inr (.inr (.inr (.inr pf)))))) (h6 : np ≤ 6) (hP : PW B h pf np kd wh mn) (hlt : lt < 64) : xC l Ω yX8_freshOutcome cX8_freshOutcome 5 (some .int) 2 0 0 [.ref w, .int (nI lt)] h sz (some (.int (nI (dn kd wh mn np lt 0)))) h (sz) := by
  refine xC_of (lv := [(0, .ref w), (1, .int (nI lt))]) pn_X8 rfl rfl (fun Γ X hΓ hbs => ?_)
  have X : xX Γ Ω cX8_freshOutcome 5 RX8 "freshOutcome" (some .int) 2 70 0 0 := X
  subst hΓ
  refine xr_iconst (v := 0) X dX8_freshOutcome_0 (by decide) ?_
  refine xr_istore_n (lv' := [(2, .int 0), (0, .ref w), (1, .int (nI lt))]) X dX8_freshOutcome_1 rfl rfl rfl ?_
  refine xr_iconst (v := 0) X dX8_freshOutcome_2 (by decide) ?_
  refine xr_istore_n (lv' := [(3, .int 0), (2, .int 0), (0, .ref w), (1, .int (nI lt))]) X dX8_freshOutcome_3 rfl rfl rfl ?_
  refine xr_locs (lv' := [(3, .int 0), (2, .int 0), (0, .ref w), (1, .int (nI lt))]) [0, 1, 2, 3] rfl ?_
  exact l_X8_fresh X hto htp h6 hP hlt np 0 (by omega)
set_option maxRecDepth 100000 in
theorem l_X8_learnA {Γ : xΓ} {Ω : xW} {h : xH} {sz : Nat} (X : xX Γ Ω cX8_learn 2 RX8 "learn" none 3 105 0 0) {w B np day b : Nat} {kd wh mn : Nat → Nat} {pf : Nat → Option Nat} {fr : Nat → Int32} {m9 : Int32} {Q : State → Prop} (hto : h w = some (tO w (nI np) (nI day) (nI b) m9)) (htp : h (w + 1) = some (.inl (.object "EvePost$Person", 6, .inr (.inr (.inr (.inr pf)))))) (htf : h (w + 2) = some (.inl (.int, 64, .inl fr))) (h6 : np ≤ 6) (hP : PW B h pf np kd wh mn) (hwB : w + 3 ≤ B) (K : xG Γ Ω 2 Q 48 [(0, .ref w)] [] (xu h w (.inr (7, [.ref (w + 1), .int (nI np), .int (nI day), .int (nI b), .ref (w + 2), .int (nI (moM kd np))]))) sz 0 0) : ∀ (j0 p : Nat), p + j0 = np → xG Γ Ω 2 (Q) 7 [(1, .int (nI p)), (0, .ref w)] ([]) (xu h w (.inr (7, [.ref (w + 1), .int (nI np), .int (nI day), .int (nI b), .ref (w + 2), .int (nI (osum (fun p => decide (kd p = 5)) p))]))) sz 0 0 := by
  intro j0
  induction j0 with
  | zero =>
    intro p hk
    have ek : p = np := by omega
    refine xr_iload_n X 0 dX8_learn_7 rfl rfl ?_
    refine xr_aload_n X 1 dX8_learn_8 rfl rfl ?_
    refine xr_get X fF_X8_17_7 (xu_s _ _ _) rfl dX8_learn_9 ?_
    refine xr_icmp_ge (tgt := 48) X dX8_learn_12 (by decide) (fun _ => ?_) (fun c_12 => absurd (by subst ek; exact i32_le.mpr (Int.le_refl _)) c_12)
    refine xr_locs (lv' := [(0, .ref w)]) [1] rfl ?_
    rw [ek]
    exact K
  | succ j0 ih =>
    intro p hk
    have lk : p < np := by omega
    obtain ⟨⟨ap, hap1, hapB, hap2⟩, kr1, kr2, kr3, kr4⟩ := hP p lk
    have hkind : kd p = 1 ∨ kd p = 2 ∨ kd p = 3 ∨ kd p = 4 ∨ kd p = 5 := by omega
    refine xr_iload_n X 0 dX8_learn_7 rfl rfl ?_
    refine xr_aload_n X 1 dX8_learn_8 rfl rfl ?_
    refine xr_get X fF_X8_17_7 (xu_s _ _ _) rfl dX8_learn_9 ?_
    refine xr_icmp_ge (tgt := 48) X dX8_learn_12 (by decide) (fun c_12 => absurd c_12 (by rw [i32_le, nI_toInt (by omega), nI_toInt (by omega)]; omega)) (fun _ => ?_)
    refine xr_aload_n X 1 dX8_learn_15 rfl rfl ?_
    refine xr_dup X dX8_learn_16 rfl ?_
    refine xr_get X fF_X8_31_7 (xu_s _ _ _) rfl dX8_learn_17 ?_
    refine xr_aload_n X 1 dX8_learn_20 rfl rfl ?_
    refine xr_iload_n X 0 dX8_learn_21 rfl rfl ?_
    refine xr_callV X (xu_s _ _ _) rfl kw_503 kw_504 kw_505 cw_X8_one [.int (nI p)] (c_X8_one (xu_s _ _ _) (xu_at (xn1 _ rfl) htp) h6 (by omega) hap1) rfl rfl rfl rfl rfl rfl rfl dX8_learn_22 ?_
    rcases hkind with hkk | hkk | hkk | hkk | hkk
    · have hob : h ap = some (.inr (9, [.int (nI p), .int (nI (wh p)), .int (nI (mn p))])) := by rw [hap2, hkk]; rfl
      refine xr_instN X (xu_at (by omega) hob) rfl (C := "EvePost$TrueOne") rfl kw_507 (by decide +kernel) dX8_learn_25 ?_
      refine xr_if_eq (tgt := 37) X dX8_learn_28 (by decide) (fun _ => ?_) (fun c_28 => absurd rfl c_28)
      refine xr_iconst (v := 0) X dX8_learn_37 (by decide) ?_
      refine xr_ior X dX8_learn_38 ?_
      refine xr_top (y := (nI (osum (fun p => decide (kd p = 5)) (p + 1)))) (by rw [osum, if_neg (by rw [hkk]; decide)]; simp) ?_
      refine xr_put (fs' := [.ref (w + 1), .int (nI np), .int (nI day), .int (nI b), .ref (w + 2), .int (nI (osum (fun p => decide (kd p = 5)) (p + 1)))]) X (fW_X8_31_7 _) (xu_s _ _ _) rfl rfl rfl rfl dX8_learn_39 ?_
      refine xr_heap (h' := (xu h w (.inr (7, [.ref (w + 1), .int (nI np), .int (nI day), .int (nI b), .ref (w + 2), .int (nI (osum (fun p => decide (kd p = 5)) (p + 1)))])))) (xu_uu _ _ _ _) ?_
      refine xr_iinc (v := nI (p + 1)) (lv' := [(1, .int (nI (p + 1))), (0, .ref w)]) X 0 dX8_learn_42 rfl (nI_1 _) rfl rfl ?_
      refine xr_goto (tgt := 7) X dX8_learn_45 (by decide) ?_
      exact ih (p + 1) (by omega)
    · have hob : h ap = some (.inr (0, [.int (nI p), .int (nI (wh p)), .int (nI (mn p))])) := by rw [hap2, hkk]; rfl
      refine xr_instN X (xu_at (by omega) hob) rfl (C := "EvePost$CrossOne") rfl kw_507 (by decide +kernel) dX8_learn_25 ?_
      refine xr_if_eq (tgt := 37) X dX8_learn_28 (by decide) (fun _ => ?_) (fun c_28 => absurd rfl c_28)
      refine xr_iconst (v := 0) X dX8_learn_37 (by decide) ?_
      refine xr_ior X dX8_learn_38 ?_
      refine xr_top (y := (nI (osum (fun p => decide (kd p = 5)) (p + 1)))) (by rw [osum, if_neg (by rw [hkk]; decide)]; simp) ?_
      refine xr_put (fs' := [.ref (w + 1), .int (nI np), .int (nI day), .int (nI b), .ref (w + 2), .int (nI (osum (fun p => decide (kd p = 5)) (p + 1)))]) X (fW_X8_31_7 _) (xu_s _ _ _) rfl rfl rfl rfl dX8_learn_39 ?_
      refine xr_heap (h' := (xu h w (.inr (7, [.ref (w + 1), .int (nI np), .int (nI day), .int (nI b), .ref (w + 2), .int (nI (osum (fun p => decide (kd p = 5)) (p + 1)))])))) (xu_uu _ _ _ _) ?_
      refine xr_iinc (v := nI (p + 1)) (lv' := [(1, .int (nI (p + 1))), (0, .ref w)]) X 0 dX8_learn_42 rfl (nI_1 _) rfl rfl ?_
      refine xr_goto (tgt := 7) X dX8_learn_45 (by decide) ?_
      exact ih (p + 1) (by omega)
    · have hob : h ap = some (.inr (3, [.int (nI p), .int (nI (wh p)), .int (nI (mn p))])) := by rw [hap2, hkk]; rfl
      refine xr_instN X (xu_at (by omega) hob) rfl (C := "EvePost$LotOne") rfl kw_507 (by decide +kernel) dX8_learn_25 ?_
      refine xr_if_eq (tgt := 37) X dX8_learn_28 (by decide) (fun _ => ?_) (fun c_28 => absurd rfl c_28)
      refine xr_iconst (v := 0) X dX8_learn_37 (by decide) ?_
      refine xr_ior X dX8_learn_38 ?_
      refine xr_top (y := (nI (osum (fun p => decide (kd p = 5)) (p + 1)))) (by rw [osum, if_neg (by rw [hkk]; decide)]; simp) ?_
      refine xr_put (fs' := [.ref (w + 1), .int (nI np), .int (nI day), .int (nI b), .ref (w + 2), .int (nI (osum (fun p => decide (kd p = 5)) (p + 1)))]) X (fW_X8_31_7 _) (xu_s _ _ _) rfl rfl rfl rfl dX8_learn_39 ?_
      refine xr_heap (h' := (xu h w (.inr (7, [.ref (w + 1), .int (nI np), .int (nI day), .int (nI b), .ref (w + 2), .int (nI (osum (fun p => decide (kd p = 5)) (p + 1)))])))) (xu_uu _ _ _ _) ?_
      refine xr_iinc (v := nI (p + 1)) (lv' := [(1, .int (nI (p + 1))), (0, .ref w)]) X 0 dX8_learn_42 rfl (nI_1 _) rfl rfl ?_
      refine xr_goto (tgt := 7) X dX8_learn_45 (by decide) ?_
      exact ih (p + 1) (by omega)
    · have hob : h ap = some (.inr (1, [.int (nI p), .int (nI (wh p)), .int (nI (mn p))])) := by rw [hap2, hkk]; rfl
      refine xr_instN X (xu_at (by omega) hob) rfl (C := "EvePost$CrowdOne") rfl kw_507 (by decide +kernel) dX8_learn_25 ?_
      refine xr_if_eq (tgt := 37) X dX8_learn_28 (by decide) (fun _ => ?_) (fun c_28 => absurd rfl c_28)
      refine xr_iconst (v := 0) X dX8_learn_37 (by decide) ?_
      refine xr_ior X dX8_learn_38 ?_
      refine xr_top (y := (nI (osum (fun p => decide (kd p = 5)) (p + 1)))) (by rw [osum, if_neg (by rw [hkk]; decide)]; simp) ?_
      refine xr_put (fs' := [.ref (w + 1), .int (nI np), .int (nI day), .int (nI b), .ref (w + 2), .int (nI (osum (fun p => decide (kd p = 5)) (p + 1)))]) X (fW_X8_31_7 _) (xu_s _ _ _) rfl rfl rfl rfl dX8_learn_39 ?_
      refine xr_heap (h' := (xu h w (.inr (7, [.ref (w + 1), .int (nI np), .int (nI day), .int (nI b), .ref (w + 2), .int (nI (osum (fun p => decide (kd p = 5)) (p + 1)))])))) (xu_uu _ _ _ _) ?_
      refine xr_iinc (v := nI (p + 1)) (lv' := [(1, .int (nI (p + 1))), (0, .ref w)]) X 0 dX8_learn_42 rfl (nI_1 _) rfl rfl ?_
      refine xr_goto (tgt := 7) X dX8_learn_45 (by decide) ?_
      exact ih (p + 1) (by omega)
    · have hob : h ap = some (.inr (4, [.int (nI p), .int (nI (wh p)), .int (nI (mn p))])) := by rw [hap2, hkk]; rfl
      refine xr_instY X (xu_at (by omega) hob) rfl (C := "EvePost$MoodyOne") rfl kw_507 (Or.inl rfl) dX8_learn_25 ?_
      refine xr_if_eq (tgt := 37) X dX8_learn_28 (by decide) (fun c_28 => absurd c_28 (by decide)) (fun _ => ?_)
      refine xr_iconst (v := 1) X dX8_learn_31 (by decide) ?_
      refine xr_iload_n X 0 dX8_learn_32 rfl rfl ?_
      refine xr_ishl X dX8_learn_33 ?_
      refine xr_goto (tgt := 38) X dX8_learn_34 (by decide) ?_
      refine xr_ior X dX8_learn_38 ?_
      refine xr_top (y := (nI (osum (fun p => decide (kd p = 5)) (p + 1)))) (by rw [osum, if_pos (decide_eq_true hkk)]; exact or_p p (by omega) _ (osum_lt _ _)) ?_
      refine xr_put (fs' := [.ref (w + 1), .int (nI np), .int (nI day), .int (nI b), .ref (w + 2), .int (nI (osum (fun p => decide (kd p = 5)) (p + 1)))]) X (fW_X8_31_7 _) (xu_s _ _ _) rfl rfl rfl rfl dX8_learn_39 ?_
      refine xr_heap (h' := (xu h w (.inr (7, [.ref (w + 1), .int (nI np), .int (nI day), .int (nI b), .ref (w + 2), .int (nI (osum (fun p => decide (kd p = 5)) (p + 1)))])))) (xu_uu _ _ _ _) ?_
      refine xr_iinc (v := nI (p + 1)) (lv' := [(1, .int (nI (p + 1))), (0, .ref w)]) X 0 dX8_learn_42 rfl (nI_1 _) rfl rfl ?_
      refine xr_goto (tgt := 7) X dX8_learn_45 (by decide) ?_
      exact ih (p + 1) (by omega)
def frZ (kd wh mn : Nat → Nat) (np : Nat) (fr : Nat → Int32) (k : Nat) : Nat → Int32 := va_cpy (fun q => nI (dn kd wh mn np q 0)) fr 0 0 k
set_option maxRecDepth 100000 in
theorem l_X8_learnB {Γ : xΓ} {Ω : xW} {h : xH} {sz : Nat} (X : xX Γ Ω cX8_learn 2 RX8 "learn" none 3 105 0 0) {w B np day b : Nat} {kd wh mn : Nat → Nat} {pf : Nat → Option Nat} {fr : Nat → Int32} {m9 : Int32} (hto : h w = some (tO w (nI np) (nI day) (nI b) m9)) (htp : h (w + 1) = some (.inl (.object "EvePost$Person", 6, .inr (.inr (.inr (.inr pf)))))) (htf : h (w + 2) = some (.inl (.int, 64, .inl fr))) (h6 : np ≤ 6) (hP : PW B h pf np kd wh mn) (hwB : w + 3 ≤ B) : ∀ (j0 k : Nat), k + j0 = 2 ^ np → xG Γ Ω 2 (xQ Γ Ω (none) (xu (xu h w (.inr (7, [.ref (w + 1), .int (nI np), .int (nI day), .int (nI b), .ref (w + 2), .int (nI (moM kd np))]))) (w + 2) (.inl (.int, 64, .inl (frZ kd wh mn np fr (2 ^ np))))) (sz) 0 0) 50 [(1, .int (nI k)), (0, .ref w)] ([]) (xu (xu h w (.inr (7, [.ref (w + 1), .int (nI np), .int (nI day), .int (nI b), .ref (w + 2), .int (nI (moM kd np))]))) (w + 2) (.inl (.int, 64, .inl (frZ kd wh mn np fr k)))) sz 0 0 := by
  intro j0
  induction j0 with
  | zero =>
    intro k hk
    have ek : k = 2 ^ np := by omega
    refine xr_iload_n X 0 dX8_learn_50 rfl rfl ?_
    refine xr_aload_n X 1 dX8_learn_51 rfl rfl ?_
    refine xr_callV X (xu_at (xn0 _ rfl) (xu_s _ _ _)) rfl kw_508 kw_509 kw_510 cw_X8_letters [] (c_X8_letters (xu_at (xn0 _ rfl) (xu_s _ _ _)) h6) rfl rfl rfl rfl rfl rfl rfl dX8_learn_52 ?_
    refine xr_icmp_ge (tgt := 84) X dX8_learn_55 (by decide) (fun _ => ?_) (fun c_55 => absurd (by subst ek; exact i32_le.mpr (Int.le_refl _)) c_55)
    exact xr_vret X rfl rfl (by rw [ek]) rfl rfl rfl dX8_learn_84
  | succ j0 ih =>
    intro k hk
    have lk : k < 2 ^ np := by omega
    have h64 := pw_le h6
    have hmo := moM_lt kd np
    refine xr_iload_n X 0 dX8_learn_50 rfl rfl ?_
    refine xr_aload_n X 1 dX8_learn_51 rfl rfl ?_
    refine xr_callV X (xu_at (xn0 _ rfl) (xu_s _ _ _)) rfl kw_508 kw_509 kw_510 cw_X8_letters [] (c_X8_letters (xu_at (xn0 _ rfl) (xu_s _ _ _)) h6) rfl rfl rfl rfl rfl rfl rfl dX8_learn_52 ?_
    refine xr_icmp_ge (tgt := 84) X dX8_learn_55 (by decide) (fun c_55 => absurd c_55 (by rw [i32_le, nI_toInt (by omega), nI_toInt (by omega)]; omega)) (fun _ => ?_)
    refine xr_iload_n X 0 dX8_learn_58 rfl rfl ?_
    refine xr_aload_n X 1 dX8_learn_59 rfl rfl ?_
    refine xr_get X fF_X8_27_7 (xu_at (xn0 _ rfl) (xu_s _ _ _)) rfl dX8_learn_60 ?_
    refine xr_alen (v := 64) X (xu_s _ _ _) (show nI 64 = 64 by decide) dX8_learn_63 ?_
    refine xr_icmp_ge (tgt := 84) X dX8_learn_64 (by decide) (fun c_64 => absurd c_64 (by rw [i32_le, k32_64, nI_toInt (by omega)]; omega)) (fun _ => ?_)
    refine xr_aload_n X 1 dX8_learn_67 rfl rfl ?_
    refine xr_get X fF_X8_27_7 (xu_at (xn0 _ rfl) (xu_s _ _ _)) rfl dX8_learn_68 ?_
    refine xr_iload_n X 0 dX8_learn_71 rfl rfl ?_
    refine xr_aload_n X 1 dX8_learn_72 rfl rfl ?_
    refine xr_iload_n X 0 dX8_learn_73 rfl rfl ?_
    refine xr_callV X (xu_at (xn0 _ rfl) (xu_s _ _ _)) rfl kw_512 kw_514 kw_11 cw_X8_freshOutcome [.int (nI k)] (c_X8_freshOutcome (xu_at (xn0 _ rfl) (xu_s _ _ _)) (xu_at (xne _ rfl) (xu_at (xn1 _ rfl) htp)) h6 ((hP.put (by omega)).put (by omega)) (by omega)) rfl rfl rfl rfl rfl rfl rfl dX8_learn_74 ?_
    refine xr_iast (j := k) X (xu_s _ _ _) (xI_n (by omega) (by omega)) dX8_learn_77 ?_
    refine xr_heap (h' := (xu (xu h w (.inr (7, [.ref (w + 1), .int (nI np), .int (nI day), .int (nI b), .ref (w + 2), .int (nI (moM kd np))]))) (w + 2) (.inl (.int, 64, .inl (upd (frZ kd wh mn np fr k) k (nI (dn kd wh mn np k 0))))))) (xu_uu _ _ _ _) ?_
    refine xr_iinc (v := nI (k + 1)) (lv' := [(1, .int (nI (k + 1))), (0, .ref w)]) X 0 dX8_learn_78 rfl (nI_1 _) rfl rfl ?_
    refine xr_goto (tgt := 50) X dX8_learn_81 (by decide) ?_
    refine xr_heap (h' := (xu (xu h w (.inr (7, [.ref (w + 1), .int (nI np), .int (nI day), .int (nI b), .ref (w + 2), .int (nI (moM kd np))]))) (w + 2) (.inl (.int, 64, .inl (frZ kd wh mn np fr (k + 1)))))) (by rw [frZ, frZ, ← cp_s, Nat.zero_add]) ?_
    exact ih (k + 1) (by omega)
set_option maxRecDepth 100000 in
theorem c_X8_learn {l : Launch} {Ω : xW} {h : xH} {sz : Nat} {w B np day b : Nat} {kd wh mn : Nat → Nat} {pf : Nat → Option Nat} {fr : Nat → Int32} {m9 : Int32} (hto : h w = some (tO w (nI np) (nI day) (nI b) m9)) (htp : h (w + 1) = some (.inl (.object "EvePost$Person", 6, .inr (.inr (.inr (.inr pf)))))) (htf : h (w + 2) = some (.inl (.int, 64, .inl fr))) (h6 : np ≤ 6) (hP : PW B h pf np kd wh mn) (hwB : w + 3 ≤ B) : xC l Ω yX8_learn cX8_learn 2 none 3 0 0 [.ref w] h sz (none) (xu (xu h w (.inr (7, [.ref (w + 1), .int (nI np), .int (nI day), .int (nI b), .ref (w + 2), .int (nI (moM kd np))]))) (w + 2) (.inl (.int, 64, .inl (frZ kd wh mn np fr (2 ^ np))))) (sz) := by
  refine xC_of (lv := [(0, .ref w)]) pn_X8 rfl rfl (fun Γ X hΓ hbs => ?_)
  have X : xX Γ Ω cX8_learn 2 RX8 "learn" none 3 105 0 0 := X
  subst hΓ
  refine xr_aload_n X 0 dX8_learn_0 rfl rfl ?_
  refine xr_iconst (v := 0) X dX8_learn_1 (by decide) ?_
  refine xr_put (fs' := [.ref (w + 1), .int (nI np), .int (nI day), .int (nI b), .ref (w + 2), .int 0]) X (fW_X8_31_7 _) hto rfl rfl rfl rfl dX8_learn_2 ?_
  refine xr_iconst (v := 0) X dX8_learn_5 (by decide) ?_
  refine xr_istore_n (lv' := [(1, .int 0), (0, .ref w)]) X dX8_learn_6 rfl rfl rfl ?_
  refine l_X8_learnA X hto htp htf h6 hP hwB ?_ np 0 (by omega)
  refine xr_iconst (v := 0) X dX8_learn_48 (by decide) ?_
  refine xr_istore_n (lv' := [(1, .int 0), (0, .ref w)]) X dX8_learn_49 rfl rfl rfl ?_
  refine xr_heap (h' := (xu (xu h w (.inr (7, [.ref (w + 1), .int (nI np), .int (nI day), .int (nI b), .ref (w + 2), .int (nI (moM kd np))]))) (w + 2) (.inl (.int, 64, .inl (frZ kd wh mn np fr 0))))) (by rw [frZ, cp_0]; exact (xu_id (xu_at (xn1 _ rfl) htf)).symm) ?_
  exact l_X8_learnB X hto htp htf h6 hP hwB (2 ^ np) 0 (by omega)
theorem frZ_ok (kd wh mn : Nat → Nat) (np : Nat) (fr : Nat → Int32) : frOK (frZ kd wh mn np fr (2 ^ np)) kd wh mn np := fun q hq => by
  rw [frZ, pk_cpy_in (by omega) (by omega), Nat.zero_add, Nat.sub_zero]
set_option maxRecDepth 100000 in
theorem l_X8_lots {Γ : xΓ} {Ω : xW} {h : xH} {sz : Nat} (X : xX Γ Ω cX8_outcomeByLots 9 RX8 "outcomeByLots" (some .int) 3 105 0 0) {w B np day b : Nat} {kd wh mn : Nat → Nat} {pf : Nat → Option Nat} {fr : Nat → Int32} {lt : Nat} {s : Int32} (hto : h w = some (tO w (nI np) (nI day) (nI b) (nI (moM kd np)))) (htp : h (w + 1) = some (.inl (.object "EvePost$Person", 6, .inr (.inr (.inr (.inr pf)))))) (htf : h (w + 2) = some (.inl (.int, 64, .inl fr))) (h6 : np ≤ 6) (hF : frOK fr kd wh mn np) (hP : PW B h pf np kd wh mn) (hlt : lt < 2 ^ np) (hs : 1 ≤ s.toInt) (hs2 : s.toInt ≤ 999999) : ∀ (j0 p : Nat), p + j0 = np → xG Γ Ω 9 (xQ Γ Ω (some (.int (nI (lotD kd mn s.toNatClampNeg (dn kd wh mn np lt b) np)))) h (sz) 0 0) 13 [(6, .int (nI p)), (4, .long (lN (lotX kd s.toNatClampNeg p))), (3, .int (nI (lotD kd mn s.toNatClampNeg (dn kd wh mn np lt b) p))), (0, .ref w), (1, .int (nI lt)), (2, .int s)] ([]) h sz 0 0 := by
  intro j0
  induction j0 with
  | zero =>
    intro p hk
    have ek : p = np := by omega
    refine xr_iload X 0 dX8_outcomeByLots_13 rfl ?_
    refine xr_aload_n X 3 dX8_outcomeByLots_15 rfl rfl ?_
    refine xr_get X fF_X8_17_7 hto rfl dX8_outcomeByLots_16 ?_
    refine xr_icmp_ge (tgt := 84) X dX8_outcomeByLots_19 (by decide) (fun _ => ?_) (fun c_19 => absurd (by subst ek; exact i32_le.mpr (Int.le_refl _)) c_19)
    refine xr_iload_n X 2 dX8_outcomeByLots_84 rfl rfl ?_
    exact xr_iret X rfl (by rw [ek]) rfl rfl rfl rfl dX8_outcomeByLots_85
  | succ j0 ih =>
    intro p hk
    have lk : p < np := by omega
    obtain ⟨⟨ap, hap1, hapB, hap2⟩, kr1, kr2, kr3, kr4⟩ := hP p lk
    have hkind : kd p = 1 ∨ kd p = 2 ∨ kd p = 3 ∨ kd p = 4 ∨ kd p = 5 := by omega
    have te := (i32_tn (x := s) (by omega)).2
    have hlx := lotX_lt (kd := kd) (seed := s.toNatClampNeg) (by omega) p
    have hlx2 := lotX_lt (kd := kd) (seed := s.toNatClampNeg) (by omega) (p + 1)
    refine xr_iload X 0 dX8_outcomeByLots_13 rfl ?_
    refine xr_aload_n X 3 dX8_outcomeByLots_15 rfl rfl ?_
    refine xr_get X fF_X8_17_7 hto rfl dX8_outcomeByLots_16 ?_
    refine xr_icmp_ge (tgt := 84) X dX8_outcomeByLots_19 (by decide) (fun c_19 => absurd c_19 (by rw [i32_le, nI_toInt (by omega), nI_toInt (by omega)]; omega)) (fun _ => ?_)
    refine xr_aload_n X 3 dX8_outcomeByLots_22 rfl rfl ?_
    refine xr_iload X 0 dX8_outcomeByLots_23 rfl ?_
    refine xr_callV X hto rfl kw_503 kw_504 kw_505 cw_X8_one [.int (nI p)] (c_X8_one hto htp h6 (by omega) hap1) rfl rfl rfl rfl rfl rfl rfl dX8_outcomeByLots_25 ?_
    refine xr_astore (lv' := [(8, .ref ap), (6, .int (nI p)), (4, .long (lN (lotX kd s.toNatClampNeg p))), (3, .int (nI (lotD kd mn s.toNatClampNeg (dn kd wh mn np lt b) p))), (0, .ref w), (1, .int (nI lt)), (2, .int s)]) X dX8_outcomeByLots_28 rfl rfl ?_
    rcases hkind with hkk | hkk | hkk | hkk | hkk
    · have hob : h ap = some (.inr (9, [.int (nI p), .int (nI (wh p)), .int (nI (mn p))])) := by rw [hap2, hkk]; rfl
      refine xr_aload X 0 dX8_outcomeByLots_30 rfl ?_
      refine xr_instN X hob rfl (C := "EvePost$TrueOne") rfl kw_627 (by decide +kernel) dX8_outcomeByLots_32 ?_
      refine xr_if_eq (tgt := 78) X dX8_outcomeByLots_35 (by decide) (fun _ => ?_) (fun c_35 => absurd rfl c_35)
      refine xr_iinc (v := nI (p + 1)) (lv' := [(6, .int (nI (p + 1))), (8, .ref ap), (4, .long (lN (lotX kd s.toNatClampNeg p))), (3, .int (nI (lotD kd mn s.toNatClampNeg (dn kd wh mn np lt b) p))), (0, .ref w), (1, .int (nI lt)), (2, .int s)]) X 1 dX8_outcomeByLots_78 rfl (nI_1 _) rfl rfl ?_
      refine xr_goto (tgt := 13) X dX8_outcomeByLots_81 (by decide) ?_
      refine xr_locs (lv' := [(6, .int (nI (p + 1))), (4, .long (lN (lotX kd s.toNatClampNeg p))), (3, .int (nI (lotD kd mn s.toNatClampNeg (dn kd wh mn np lt b) p))), (0, .ref w), (1, .int (nI lt)), (2, .int s)]) [0, 2, 3, 4, 5, 6] rfl ?_
      refine xr_lve (lv' := [(6, .int (nI (p + 1))), (4, .long (lN (lotX kd s.toNatClampNeg (p + 1)))), (3, .int (nI (lotD kd mn s.toNatClampNeg (dn kd wh mn np lt b) (p + 1)))), (0, .ref w), (1, .int (nI lt)), (2, .int s)]) (by rw [lotX, if_neg (show ¬ kd p = 3 by omega), lotD, if_neg (fun q => absurd q.1 (by omega))]) ?_
      exact ih (p + 1) (by omega)
    · have hob : h ap = some (.inr (0, [.int (nI p), .int (nI (wh p)), .int (nI (mn p))])) := by rw [hap2, hkk]; rfl
      refine xr_aload X 0 dX8_outcomeByLots_30 rfl ?_
      refine xr_instN X hob rfl (C := "EvePost$CrossOne") rfl kw_627 (by decide +kernel) dX8_outcomeByLots_32 ?_
      refine xr_if_eq (tgt := 78) X dX8_outcomeByLots_35 (by decide) (fun _ => ?_) (fun c_35 => absurd rfl c_35)
      refine xr_iinc (v := nI (p + 1)) (lv' := [(6, .int (nI (p + 1))), (8, .ref ap), (4, .long (lN (lotX kd s.toNatClampNeg p))), (3, .int (nI (lotD kd mn s.toNatClampNeg (dn kd wh mn np lt b) p))), (0, .ref w), (1, .int (nI lt)), (2, .int s)]) X 1 dX8_outcomeByLots_78 rfl (nI_1 _) rfl rfl ?_
      refine xr_goto (tgt := 13) X dX8_outcomeByLots_81 (by decide) ?_
      refine xr_locs (lv' := [(6, .int (nI (p + 1))), (4, .long (lN (lotX kd s.toNatClampNeg p))), (3, .int (nI (lotD kd mn s.toNatClampNeg (dn kd wh mn np lt b) p))), (0, .ref w), (1, .int (nI lt)), (2, .int s)]) [0, 2, 3, 4, 5, 6] rfl ?_
      refine xr_lve (lv' := [(6, .int (nI (p + 1))), (4, .long (lN (lotX kd s.toNatClampNeg (p + 1)))), (3, .int (nI (lotD kd mn s.toNatClampNeg (dn kd wh mn np lt b) (p + 1)))), (0, .ref w), (1, .int (nI lt)), (2, .int s)]) (by rw [lotX, if_neg (show ¬ kd p = 3 by omega), lotD, if_neg (fun q => absurd q.1 (by omega))]) ?_
      exact ih (p + 1) (by omega)
    · have hob : h ap = some (.inr (3, [.int (nI p), .int (nI (wh p)), .int (nI (mn p))])) := by rw [hap2, hkk]; rfl
      refine xr_aload X 0 dX8_outcomeByLots_30 rfl ?_
      refine xr_instY X hob rfl (C := "EvePost$LotOne") rfl kw_627 (Or.inl rfl) dX8_outcomeByLots_32 ?_
      refine xr_if_eq (tgt := 78) X dX8_outcomeByLots_35 (by decide) (fun c_35 => absurd c_35 (by decide)) (fun _ => ?_)
      refine xr_aload X 0 dX8_outcomeByLots_38 rfl ?_
      refine xr_castS X hob rfl (C := "EvePost$LotOne") rfl kw_627 rfl dX8_outcomeByLots_40 ?_
      refine xr_astore (lv' := [(7, .ref ap), (8, .ref ap), (6, .int (nI p)), (4, .long (lN (lotX kd s.toNatClampNeg p))), (3, .int (nI (lotD kd mn s.toNatClampNeg (dn kd wh mn np lt b) p))), (0, .ref w), (1, .int (nI lt)), (2, .int s)]) X dX8_outcomeByLots_43 rfl rfl ?_
      refine xr_lload X 3 dX8_outcomeByLots_45 rfl ?_
      refine xr_ldc2 (v := 16807) X kw_628 dX8_outcomeByLots_47 ?_
      refine xr_lmul X dX8_outcomeByLots_50 ?_
      refine xr_ldc2 (v := 2147483647) X kw_629 dX8_outcomeByLots_51 ?_
      refine xr_lrem X dX8_outcomeByLots_54 (by decide) ?_
      refine xr_topl (y := (lN (lotX kd s.toNatClampNeg (p + 1)))) (by rw [lotX, if_pos hkk, show (16807 : Int64) = lN 16807 from rfl, show (2147483647 : Int64) = lN 2147483647 from rfl, lN_mul, pk_lRem (by omega) (by omega) (by omega)]) ?_
      refine xr_lstore (lv' := [(4, .long (lN (lotX kd s.toNatClampNeg (p + 1)))), (7, .ref ap), (8, .ref ap), (6, .int (nI p)), (3, .int (nI (lotD kd mn s.toNatClampNeg (dn kd wh mn np lt b) p))), (0, .ref w), (1, .int (nI lt)), (2, .int s)]) X dX8_outcomeByLots_55 rfl rfl ?_
      refine xr_iload_n X 4 dX8_outcomeByLots_57 rfl rfl ?_
      refine xr_aload X 1 dX8_outcomeByLots_58 rfl ?_
      refine xr_lload X 0 dX8_outcomeByLots_60 rfl ?_
      refine xr_callV X hob rfl kw_630 kw_631 kw_632 cw_X3_turnsBy [.long (lN (lotX kd s.toNatClampNeg (p + 1)))] (c_X3_turnsBy hob (by omega) (by omega) (by omega) (by omega)) rfl rfl rfl rfl rfl rfl rfl dX8_outcomeByLots_62 ?_
      refine xr_if_eq (tgt := 75) X dX8_outcomeByLots_65 (by decide) (fun c_65 => ?_) (fun c_65 => ?_)
      · have c_65 := of_decide_eq_false (xb_0.mp c_65)
        (try simp (disch := omega) only [nI_toInt, i32_add, i32_sub, i32_mul, i64_addl, i32_l, k32_1, k32_10, k64_1, k64_10] at c_65)
        refine xr_iconst (v := 0) X dX8_outcomeByLots_75 (by decide) ?_
        refine xr_ixor X dX8_outcomeByLots_76 ?_
        refine xr_top (y := (nI (lotD kd mn s.toNatClampNeg (dn kd wh mn np lt b) (p + 1)))) (by rw [lotD, if_neg (fun q => absurd q.2 (by omega))]; simp) ?_
        refine xr_istore_n (lv' := [(3, .int (nI (lotD kd mn s.toNatClampNeg (dn kd wh mn np lt b) (p + 1)))), (4, .long (lN (lotX kd s.toNatClampNeg (p + 1)))), (7, .ref ap), (8, .ref ap), (6, .int (nI p)), (0, .ref w), (1, .int (nI lt)), (2, .int s)]) X dX8_outcomeByLots_77 rfl rfl rfl ?_
        refine xr_iinc (v := nI (p + 1)) (lv' := [(6, .int (nI (p + 1))), (3, .int (nI (lotD kd mn s.toNatClampNeg (dn kd wh mn np lt b) (p + 1)))), (4, .long (lN (lotX kd s.toNatClampNeg (p + 1)))), (7, .ref ap), (8, .ref ap), (0, .ref w), (1, .int (nI lt)), (2, .int s)]) X 4 dX8_outcomeByLots_78 rfl (nI_1 _) rfl rfl ?_
        refine xr_goto (tgt := 13) X dX8_outcomeByLots_81 (by decide) ?_
        refine xr_locs (lv' := [(6, .int (nI (p + 1))), (4, .long (lN (lotX kd s.toNatClampNeg (p + 1)))), (3, .int (nI (lotD kd mn s.toNatClampNeg (dn kd wh mn np lt b) (p + 1)))), (0, .ref w), (1, .int (nI lt)), (2, .int s)]) [0, 2, 1, 5, 6, 7] rfl ?_
        exact ih (p + 1) (by omega)
      · have c_65 := of_decide_eq_true (xb_1.mp c_65)
        (try simp (disch := omega) only [nI_toInt, i32_add, i32_sub, i32_mul, i64_addl, i32_l, k32_1, k32_10, k64_1, k64_10] at c_65)
        refine xr_iconst (v := 1) X dX8_outcomeByLots_68 (by decide) ?_
        refine xr_iload X 3 dX8_outcomeByLots_69 rfl ?_
        refine xr_ishl X dX8_outcomeByLots_71 ?_
        refine xr_goto (tgt := 76) X dX8_outcomeByLots_72 (by decide) ?_
        refine xr_ixor X dX8_outcomeByLots_76 ?_
        refine xr_top (y := (nI (lotD kd mn s.toNatClampNeg (dn kd wh mn np lt b) (p + 1)))) (by rw [lotD, if_pos ⟨hkk, by omega⟩, pw6 _ (by omega), nI_xor]) ?_
        refine xr_istore_n (lv' := [(3, .int (nI (lotD kd mn s.toNatClampNeg (dn kd wh mn np lt b) (p + 1)))), (4, .long (lN (lotX kd s.toNatClampNeg (p + 1)))), (7, .ref ap), (8, .ref ap), (6, .int (nI p)), (0, .ref w), (1, .int (nI lt)), (2, .int s)]) X dX8_outcomeByLots_77 rfl rfl rfl ?_
        refine xr_iinc (v := nI (p + 1)) (lv' := [(6, .int (nI (p + 1))), (3, .int (nI (lotD kd mn s.toNatClampNeg (dn kd wh mn np lt b) (p + 1)))), (4, .long (lN (lotX kd s.toNatClampNeg (p + 1)))), (7, .ref ap), (8, .ref ap), (0, .ref w), (1, .int (nI lt)), (2, .int s)]) X 4 dX8_outcomeByLots_78 rfl (nI_1 _) rfl rfl ?_
        refine xr_goto (tgt := 13) X dX8_outcomeByLots_81 (by decide) ?_
        refine xr_locs (lv' := [(6, .int (nI (p + 1))), (4, .long (lN (lotX kd s.toNatClampNeg (p + 1)))), (3, .int (nI (lotD kd mn s.toNatClampNeg (dn kd wh mn np lt b) (p + 1)))), (0, .ref w), (1, .int (nI lt)), (2, .int s)]) [0, 2, 1, 5, 6, 7] rfl ?_
        exact ih (p + 1) (by omega)
    · have hob : h ap = some (.inr (1, [.int (nI p), .int (nI (wh p)), .int (nI (mn p))])) := by rw [hap2, hkk]; rfl
      refine xr_aload X 0 dX8_outcomeByLots_30 rfl ?_
      refine xr_instN X hob rfl (C := "EvePost$CrowdOne") rfl kw_627 (by decide +kernel) dX8_outcomeByLots_32 ?_
      refine xr_if_eq (tgt := 78) X dX8_outcomeByLots_35 (by decide) (fun _ => ?_) (fun c_35 => absurd rfl c_35)
      refine xr_iinc (v := nI (p + 1)) (lv' := [(6, .int (nI (p + 1))), (8, .ref ap), (4, .long (lN (lotX kd s.toNatClampNeg p))), (3, .int (nI (lotD kd mn s.toNatClampNeg (dn kd wh mn np lt b) p))), (0, .ref w), (1, .int (nI lt)), (2, .int s)]) X 1 dX8_outcomeByLots_78 rfl (nI_1 _) rfl rfl ?_
      refine xr_goto (tgt := 13) X dX8_outcomeByLots_81 (by decide) ?_
      refine xr_locs (lv' := [(6, .int (nI (p + 1))), (4, .long (lN (lotX kd s.toNatClampNeg p))), (3, .int (nI (lotD kd mn s.toNatClampNeg (dn kd wh mn np lt b) p))), (0, .ref w), (1, .int (nI lt)), (2, .int s)]) [0, 2, 3, 4, 5, 6] rfl ?_
      refine xr_lve (lv' := [(6, .int (nI (p + 1))), (4, .long (lN (lotX kd s.toNatClampNeg (p + 1)))), (3, .int (nI (lotD kd mn s.toNatClampNeg (dn kd wh mn np lt b) (p + 1)))), (0, .ref w), (1, .int (nI lt)), (2, .int s)]) (by rw [lotX, if_neg (show ¬ kd p = 3 by omega), lotD, if_neg (fun q => absurd q.1 (by omega))]) ?_
      exact ih (p + 1) (by omega)
    · have hob : h ap = some (.inr (4, [.int (nI p), .int (nI (wh p)), .int (nI (mn p))])) := by rw [hap2, hkk]; rfl
      refine xr_aload X 0 dX8_outcomeByLots_30 rfl ?_
      refine xr_instN X hob rfl (C := "EvePost$MoodyOne") rfl kw_627 (by decide +kernel) dX8_outcomeByLots_32 ?_
      refine xr_if_eq (tgt := 78) X dX8_outcomeByLots_35 (by decide) (fun _ => ?_) (fun c_35 => absurd rfl c_35)
      refine xr_iinc (v := nI (p + 1)) (lv' := [(6, .int (nI (p + 1))), (8, .ref ap), (4, .long (lN (lotX kd s.toNatClampNeg p))), (3, .int (nI (lotD kd mn s.toNatClampNeg (dn kd wh mn np lt b) p))), (0, .ref w), (1, .int (nI lt)), (2, .int s)]) X 1 dX8_outcomeByLots_78 rfl (nI_1 _) rfl rfl ?_
      refine xr_goto (tgt := 13) X dX8_outcomeByLots_81 (by decide) ?_
      refine xr_locs (lv' := [(6, .int (nI (p + 1))), (4, .long (lN (lotX kd s.toNatClampNeg p))), (3, .int (nI (lotD kd mn s.toNatClampNeg (dn kd wh mn np lt b) p))), (0, .ref w), (1, .int (nI lt)), (2, .int s)]) [0, 2, 3, 4, 5, 6] rfl ?_
      refine xr_lve (lv' := [(6, .int (nI (p + 1))), (4, .long (lN (lotX kd s.toNatClampNeg (p + 1)))), (3, .int (nI (lotD kd mn s.toNatClampNeg (dn kd wh mn np lt b) (p + 1)))), (0, .ref w), (1, .int (nI lt)), (2, .int s)]) (by rw [lotX, if_neg (show ¬ kd p = 3 by omega), lotD, if_neg (fun q => absurd q.1 (by omega))]) ?_
      exact ih (p + 1) (by omega)
set_option maxRecDepth 100000 in
theorem c_X8_outcomeByLots {l : Launch} {Ω : xW} {h : xH} {sz : Nat} {w B np day b : Nat} {kd wh mn : Nat → Nat} {pf : Nat → Option Nat} {fr : Nat → Int32} {lt : Nat} {s : Int32} (hto : h w = some (tO w (nI np) (nI day) (nI b) (nI (moM kd np)))) (htp : h (w + 1) = some (.inl (.object "EvePost$Person", 6, .inr (.inr (.inr (.inr pf)))))) (htf : h (w + 2) = some (.inl (.int, 64, .inl fr))) (h6 : np ≤ 6) (hF : frOK fr kd wh mn np) (hP : PW B h pf np kd wh mn) (hlt : lt < 2 ^ np) (hs : 1 ≤ s.toInt) (hs2 : s.toInt ≤ 999999) : xC l Ω yX8_outcomeByLots cX8_outcomeByLots 9 (some .int) 3 0 0 [.ref w, .int (nI lt), .int s] h sz (some (.int (nI (lotD kd mn s.toNatClampNeg (dn kd wh mn np lt b) np)))) h (sz) := by
  refine xC_of (lv := [(0, .ref w), (1, .int (nI lt)), (2, .int s)]) pn_X8 rfl rfl (fun Γ X hΓ hbs => ?_)
  have X : xX Γ Ω cX8_outcomeByLots 9 RX8 "outcomeByLots" (some .int) 3 105 0 0 := X
  subst hΓ
  have te := (i32_tn (x := s) (by omega)).2
  refine xr_aload_n X 0 dX8_outcomeByLots_0 rfl rfl ?_
  refine xr_iload_n X 1 dX8_outcomeByLots_1 rfl rfl ?_
  refine xr_callV X hto rfl kw_623 kw_624 kw_625 cw_X8_outcome [.int (nI lt)] (c_X8_outcome hto htf h6 hF (by omega)) rfl rfl rfl rfl rfl rfl rfl dX8_outcomeByLots_2 ?_
  refine xr_istore_n (lv' := [(3, .int (nI (dn kd wh mn np lt b))), (0, .ref w), (1, .int (nI lt)), (2, .int s)]) X dX8_outcomeByLots_5 rfl rfl rfl ?_
  refine xr_iload_n X 3 dX8_outcomeByLots_6 rfl rfl ?_
  refine xr_i2l X dX8_outcomeByLots_7 ?_
  refine xr_lstore (lv' := [(4, .long s.toInt64), (3, .int (nI (dn kd wh mn np lt b))), (0, .ref w), (1, .int (nI lt)), (2, .int s)]) X dX8_outcomeByLots_8 rfl rfl ?_
  refine xr_iconst (v := 0) X dX8_outcomeByLots_10 (by decide) ?_
  refine xr_istore (lv' := [(6, .int 0), (4, .long s.toInt64), (3, .int (nI (dn kd wh mn np lt b))), (0, .ref w), (1, .int (nI lt)), (2, .int s)]) X dX8_outcomeByLots_11 rfl rfl ?_
  refine xr_locs (lv' := [(6, .int 0), (4, .long s.toInt64), (3, .int (nI (dn kd wh mn np lt b))), (0, .ref w), (1, .int (nI lt)), (2, .int s)]) [0, 1, 2, 3, 4, 5] rfl ?_
  refine xr_lve (lv' := [(6, .int (nI 0)), (4, .long (lN (lotX kd s.toNatClampNeg 0))), (3, .int (nI (lotD kd mn s.toNatClampNeg (dn kd wh mn np lt b) 0))), (0, .ref w), (1, .int (nI lt)), (2, .int s)]) (by rw [lotX, lotD, ← nI_l (by omega), ← (i32_tn (x := s) (by omega)).1]; rfl) ?_
  exact l_X8_lots X hto htp htf h6 hF hP hlt hs hs2 np 0 (by omega)
set_option maxRecDepth 100000 in
theorem l_X8_chances {Γ : xΓ} {Ω : xW} {h : xH} {sz : Nat} (X : xX Γ Ω cX8_chances 6 RX8 "chances" (some .int) 3 105 0 0) {w B np day b : Nat} {kd wh mn : Nat → Nat} {pf : Nat → Option Nat} {lt s2 : Nat} (hto : h w = some (tO w (nI np) (nI day) (nI b) (nI (moM kd np)))) (htp : h (w + 1) = some (.inl (.object "EvePost$Person", 6, .inr (.inr (.inr (.inr pf)))))) (h6 : np ≤ 6) (hP : PW B h pf np kd wh mn) (hlt : lt < 64) (hs : s2 < 64) (hb : b < 64) : ∀ (j0 p : Nat), p + j0 = np → xG Γ Ω 6 (xQ Γ Ω (some (.int (nI (prB (odT kd wh mn b lt s2) np)))) h (sz) 0 0) 5 [(4, .int (nI p)), (3, .int (nI (prB (odT kd wh mn b lt s2) p))), (0, .ref w), (1, .int (nI lt)), (2, .int (nI s2))] ([]) h sz 0 0 := by
  intro j0
  induction j0 with
  | zero =>
    intro p hk
    have ek : p = np := by omega
    refine xr_iload X 0 dX8_chances_5 rfl ?_
    refine xr_aload_n X 2 dX8_chances_7 rfl rfl ?_
    refine xr_get X fF_X8_17_7 hto rfl dX8_chances_8 ?_
    refine xr_icmp_ge (tgt := 56) X dX8_chances_11 (by decide) (fun _ => ?_) (fun c_11 => absurd (by subst ek; exact i32_le.mpr (Int.le_refl _)) c_11)
    refine xr_iload_n X 1 dX8_chances_56 rfl rfl ?_
    exact xr_iret X rfl (by rw [ek]) rfl rfl rfl rfl dX8_chances_57
  | succ j0 ih =>
    intro p hk
    have lk : p < np := by omega
    obtain ⟨⟨ap, hap1, hapB, hap2⟩, kr1, kr2, kr3, kr4⟩ := hP p lk
    have hkind : kd p = 1 ∨ kd p = 2 ∨ kd p = 3 ∨ kd p = 4 ∨ kd p = 5 := by omega
    refine xr_iload X 0 dX8_chances_5 rfl ?_
    refine xr_aload_n X 2 dX8_chances_7 rfl rfl ?_
    refine xr_get X fF_X8_17_7 hto rfl dX8_chances_8 ?_
    refine xr_icmp_ge (tgt := 56) X dX8_chances_11 (by decide) (fun c_11 => absurd c_11 (by rw [i32_le, nI_toInt (by omega), nI_toInt (by omega)]; omega)) (fun _ => ?_)
    refine xr_aload_n X 2 dX8_chances_14 rfl rfl ?_
    refine xr_iload X 0 dX8_chances_15 rfl ?_
    refine xr_callV X hto rfl kw_503 kw_504 kw_505 cw_X8_one [.int (nI p)] (c_X8_one hto htp h6 (by omega) hap1) rfl rfl rfl rfl rfl rfl rfl dX8_chances_17 ?_
    refine xr_astore (lv' := [(5, .ref ap), (4, .int (nI p)), (3, .int (nI (prB (odT kd wh mn b lt s2) p))), (0, .ref w), (1, .int (nI lt)), (2, .int (nI s2))]) X dX8_chances_20 rfl rfl ?_
    rcases hkind with hkk | hkk | hkk | hkk | hkk
    · have hob : h ap = some (.inr (9, [.int (nI p), .int (nI (wh p)), .int (nI (mn p))])) := by rw [hap2, hkk]; rfl
      refine xr_iload_n X 2 dX8_chances_22 rfl rfl ?_
      refine xr_aload X 0 dX8_chances_23 rfl ?_
      refine xr_ifnonnull (tgt := 32) X dX8_chances_25 (by decide) ?_
      refine xr_aload X 0 dX8_chances_32 rfl ?_
      refine xr_iload_n X 4 dX8_chances_34 rfl rfl ?_
      refine xr_aload_n X 3 dX8_chances_35 rfl rfl ?_
      refine xr_get X fF_X8_24_7 hto rfl dX8_chances_36 ?_
      refine xr_iload_n X 5 dX8_chances_39 rfl rfl ?_
      refine xr_iload X 1 dX8_chances_40 rfl ?_
      refine xr_callSN X (by decide +kernel) (host := "EvePost") kw_523 cw_X11_holds [.int (nI s2), .int (nI p)] (c_X11_holds (by omega) (by omega)) rfl rfl rfl rfl rfl rfl rfl dX8_chances_42 ?_
      refine xr_callU (y := yX5_tenths) (x := ⟨"EvePost$Person", "tenths", "(IIZ)I"⟩) (owner := "EvePost$Person") X hob rfl kw_751 kw_753 (Or.inr ⟨_, _, _, kw_752, kw_765⟩) (by decide) rfl kw_752 kw_764 cw_X5_tenths [.int (nI lt), .int (nI b), .int (xb ((s2).testBit p))] (c_tenths_1 (lt := lt) (b := b) (s9 := ((s2).testBit p)) hob (by omega) (by omega) (by omega) (by omega) (by omega)) rfl rfl rfl rfl rfl rfl rfl dX8_chances_45 ?_
      refine xr_top (y := (nI (odT kd wh mn b lt s2 p))) (by rw [odT, dz_1 hkk, if_neg (show ¬ kd p = 3 by omega)]; split <;> rfl) ?_
      refine xr_imul X dX8_chances_48 ?_
      refine xr_top (y := (nI (prB (odT kd wh mn b lt s2) (p + 1)))) (nI_mul _ _) ?_
      refine xr_istore_n (lv' := [(3, .int (nI (prB (odT kd wh mn b lt s2) (p + 1)))), (5, .ref ap), (4, .int (nI p)), (0, .ref w), (1, .int (nI lt)), (2, .int (nI s2))]) X dX8_chances_49 rfl rfl rfl ?_
      refine xr_iinc (v := nI (p + 1)) (lv' := [(4, .int (nI (p + 1))), (3, .int (nI (prB (odT kd wh mn b lt s2) (p + 1)))), (5, .ref ap), (0, .ref w), (1, .int (nI lt)), (2, .int (nI s2))]) X 2 dX8_chances_50 rfl (nI_1 _) rfl rfl ?_
      refine xr_goto (tgt := 5) X dX8_chances_53 (by decide) ?_
      refine xr_locs (lv' := [(4, .int (nI (p + 1))), (3, .int (nI (prB (odT kd wh mn b lt s2) (p + 1)))), (0, .ref w), (1, .int (nI lt)), (2, .int (nI s2))]) [0, 1, 3, 4, 5] rfl ?_
      exact ih (p + 1) (by omega)
    · have hob : h ap = some (.inr (0, [.int (nI p), .int (nI (wh p)), .int (nI (mn p))])) := by rw [hap2, hkk]; rfl
      refine xr_iload_n X 2 dX8_chances_22 rfl rfl ?_
      refine xr_aload X 0 dX8_chances_23 rfl ?_
      refine xr_ifnonnull (tgt := 32) X dX8_chances_25 (by decide) ?_
      refine xr_aload X 0 dX8_chances_32 rfl ?_
      refine xr_iload_n X 4 dX8_chances_34 rfl rfl ?_
      refine xr_aload_n X 3 dX8_chances_35 rfl rfl ?_
      refine xr_get X fF_X8_24_7 hto rfl dX8_chances_36 ?_
      refine xr_iload_n X 5 dX8_chances_39 rfl rfl ?_
      refine xr_iload X 1 dX8_chances_40 rfl ?_
      refine xr_callSN X (by decide +kernel) (host := "EvePost") kw_523 cw_X11_holds [.int (nI s2), .int (nI p)] (c_X11_holds (by omega) (by omega)) rfl rfl rfl rfl rfl rfl rfl dX8_chances_42 ?_
      refine xr_callU (y := yX5_tenths) (x := ⟨"EvePost$Person", "tenths", "(IIZ)I"⟩) (owner := "EvePost$Person") X hob rfl kw_751 kw_753 (Or.inr ⟨_, _, _, kw_752, kw_765⟩) (by decide) rfl kw_752 kw_754 cw_X5_tenths [.int (nI lt), .int (nI b), .int (xb ((s2).testBit p))] (c_tenths_2 (lt := lt) (b := b) (s9 := ((s2).testBit p)) hob (by omega) (by omega) (by omega) (by omega) (by omega)) rfl rfl rfl rfl rfl rfl rfl dX8_chances_45 ?_
      refine xr_top (y := (nI (odT kd wh mn b lt s2 p))) (by rw [odT, dz_2 hkk, if_neg (show ¬ kd p = 3 by omega)]; split <;> rfl) ?_
      refine xr_imul X dX8_chances_48 ?_
      refine xr_top (y := (nI (prB (odT kd wh mn b lt s2) (p + 1)))) (nI_mul _ _) ?_
      refine xr_istore_n (lv' := [(3, .int (nI (prB (odT kd wh mn b lt s2) (p + 1)))), (5, .ref ap), (4, .int (nI p)), (0, .ref w), (1, .int (nI lt)), (2, .int (nI s2))]) X dX8_chances_49 rfl rfl rfl ?_
      refine xr_iinc (v := nI (p + 1)) (lv' := [(4, .int (nI (p + 1))), (3, .int (nI (prB (odT kd wh mn b lt s2) (p + 1)))), (5, .ref ap), (0, .ref w), (1, .int (nI lt)), (2, .int (nI s2))]) X 2 dX8_chances_50 rfl (nI_1 _) rfl rfl ?_
      refine xr_goto (tgt := 5) X dX8_chances_53 (by decide) ?_
      refine xr_locs (lv' := [(4, .int (nI (p + 1))), (3, .int (nI (prB (odT kd wh mn b lt s2) (p + 1)))), (0, .ref w), (1, .int (nI lt)), (2, .int (nI s2))]) [0, 1, 3, 4, 5] rfl ?_
      exact ih (p + 1) (by omega)
    · have hob : h ap = some (.inr (3, [.int (nI p), .int (nI (wh p)), .int (nI (mn p))])) := by rw [hap2, hkk]; rfl
      refine xr_iload_n X 2 dX8_chances_22 rfl rfl ?_
      refine xr_aload X 0 dX8_chances_23 rfl ?_
      refine xr_ifnonnull (tgt := 32) X dX8_chances_25 (by decide) ?_
      refine xr_aload X 0 dX8_chances_32 rfl ?_
      refine xr_iload_n X 4 dX8_chances_34 rfl rfl ?_
      refine xr_aload_n X 3 dX8_chances_35 rfl rfl ?_
      refine xr_get X fF_X8_24_7 hto rfl dX8_chances_36 ?_
      refine xr_iload_n X 5 dX8_chances_39 rfl rfl ?_
      refine xr_iload X 1 dX8_chances_40 rfl ?_
      refine xr_callSN X (by decide +kernel) (host := "EvePost") kw_523 cw_X11_holds [.int (nI s2), .int (nI p)] (c_X11_holds (by omega) (by omega)) rfl rfl rfl rfl rfl rfl rfl dX8_chances_42 ?_
      refine xr_callU (y := yX3_tenths) (x := ⟨"EvePost$Person", "tenths", "(IIZ)I"⟩) (owner := "EvePost$Person") X hob rfl kw_751 kw_753 (Or.inr ⟨_, _, _, kw_752, kw_765⟩) (by decide) rfl kw_757 kw_756 cw_X3_tenths [.int (nI lt), .int (nI b), .int (xb ((s2).testBit p))] (c_tenths_3 (lt := lt) (b := b) (s9 := ((s2).testBit p)) hob (by omega) (by omega) (by omega) (by omega) (by omega)) rfl rfl rfl rfl rfl rfl rfl dX8_chances_45 ?_
      refine xr_top (y := (nI (odT kd wh mn b lt s2 p))) (by rw [odT, dz_3 hkk, if_pos hkk]; split <;> rfl) ?_
      refine xr_imul X dX8_chances_48 ?_
      refine xr_top (y := (nI (prB (odT kd wh mn b lt s2) (p + 1)))) (nI_mul _ _) ?_
      refine xr_istore_n (lv' := [(3, .int (nI (prB (odT kd wh mn b lt s2) (p + 1)))), (5, .ref ap), (4, .int (nI p)), (0, .ref w), (1, .int (nI lt)), (2, .int (nI s2))]) X dX8_chances_49 rfl rfl rfl ?_
      refine xr_iinc (v := nI (p + 1)) (lv' := [(4, .int (nI (p + 1))), (3, .int (nI (prB (odT kd wh mn b lt s2) (p + 1)))), (5, .ref ap), (0, .ref w), (1, .int (nI lt)), (2, .int (nI s2))]) X 2 dX8_chances_50 rfl (nI_1 _) rfl rfl ?_
      refine xr_goto (tgt := 5) X dX8_chances_53 (by decide) ?_
      refine xr_locs (lv' := [(4, .int (nI (p + 1))), (3, .int (nI (prB (odT kd wh mn b lt s2) (p + 1)))), (0, .ref w), (1, .int (nI lt)), (2, .int (nI s2))]) [0, 1, 3, 4, 5] rfl ?_
      exact ih (p + 1) (by omega)
    · have hob : h ap = some (.inr (1, [.int (nI p), .int (nI (wh p)), .int (nI (mn p))])) := by rw [hap2, hkk]; rfl
      refine xr_iload_n X 2 dX8_chances_22 rfl rfl ?_
      refine xr_aload X 0 dX8_chances_23 rfl ?_
      refine xr_ifnonnull (tgt := 32) X dX8_chances_25 (by decide) ?_
      refine xr_aload X 0 dX8_chances_32 rfl ?_
      refine xr_iload_n X 4 dX8_chances_34 rfl rfl ?_
      refine xr_aload_n X 3 dX8_chances_35 rfl rfl ?_
      refine xr_get X fF_X8_24_7 hto rfl dX8_chances_36 ?_
      refine xr_iload_n X 5 dX8_chances_39 rfl rfl ?_
      refine xr_iload X 1 dX8_chances_40 rfl ?_
      refine xr_callSN X (by decide +kernel) (host := "EvePost") kw_523 cw_X11_holds [.int (nI s2), .int (nI p)] (c_X11_holds (by omega) (by omega)) rfl rfl rfl rfl rfl rfl rfl dX8_chances_42 ?_
      refine xr_callU (y := yX5_tenths) (x := ⟨"EvePost$Person", "tenths", "(IIZ)I"⟩) (owner := "EvePost$Person") X hob rfl kw_751 kw_753 (Or.inr ⟨_, _, _, kw_752, kw_765⟩) (by decide) rfl kw_752 kw_755 cw_X5_tenths [.int (nI lt), .int (nI b), .int (xb ((s2).testBit p))] (c_tenths_4 (lt := lt) (b := b) (s9 := ((s2).testBit p)) hob (by omega) (by omega) (by omega) (by omega) (by omega)) rfl rfl rfl rfl rfl rfl rfl dX8_chances_45 ?_
      refine xr_top (y := (nI (odT kd wh mn b lt s2 p))) (by rw [odT, dz_4 hkk, if_neg (show ¬ kd p = 3 by omega)]; split <;> rfl) ?_
      refine xr_imul X dX8_chances_48 ?_
      refine xr_top (y := (nI (prB (odT kd wh mn b lt s2) (p + 1)))) (nI_mul _ _) ?_
      refine xr_istore_n (lv' := [(3, .int (nI (prB (odT kd wh mn b lt s2) (p + 1)))), (5, .ref ap), (4, .int (nI p)), (0, .ref w), (1, .int (nI lt)), (2, .int (nI s2))]) X dX8_chances_49 rfl rfl rfl ?_
      refine xr_iinc (v := nI (p + 1)) (lv' := [(4, .int (nI (p + 1))), (3, .int (nI (prB (odT kd wh mn b lt s2) (p + 1)))), (5, .ref ap), (0, .ref w), (1, .int (nI lt)), (2, .int (nI s2))]) X 2 dX8_chances_50 rfl (nI_1 _) rfl rfl ?_
      refine xr_goto (tgt := 5) X dX8_chances_53 (by decide) ?_
      refine xr_locs (lv' := [(4, .int (nI (p + 1))), (3, .int (nI (prB (odT kd wh mn b lt s2) (p + 1)))), (0, .ref w), (1, .int (nI lt)), (2, .int (nI s2))]) [0, 1, 3, 4, 5] rfl ?_
      exact ih (p + 1) (by omega)
    · have hob : h ap = some (.inr (4, [.int (nI p), .int (nI (wh p)), .int (nI (mn p))])) := by rw [hap2, hkk]; rfl
      refine xr_iload_n X 2 dX8_chances_22 rfl rfl ?_
      refine xr_aload X 0 dX8_chances_23 rfl ?_
      refine xr_ifnonnull (tgt := 32) X dX8_chances_25 (by decide) ?_
      refine xr_aload X 0 dX8_chances_32 rfl ?_
      refine xr_iload_n X 4 dX8_chances_34 rfl rfl ?_
      refine xr_aload_n X 3 dX8_chances_35 rfl rfl ?_
      refine xr_get X fF_X8_24_7 hto rfl dX8_chances_36 ?_
      refine xr_iload_n X 5 dX8_chances_39 rfl rfl ?_
      refine xr_iload X 1 dX8_chances_40 rfl ?_
      refine xr_callSN X (by decide +kernel) (host := "EvePost") kw_523 cw_X11_holds [.int (nI s2), .int (nI p)] (c_X11_holds (by omega) (by omega)) rfl rfl rfl rfl rfl rfl rfl dX8_chances_42 ?_
      refine xr_callU (y := yX5_tenths) (x := ⟨"EvePost$Person", "tenths", "(IIZ)I"⟩) (owner := "EvePost$Person") X hob rfl kw_751 kw_753 (Or.inr ⟨_, _, _, kw_752, kw_765⟩) (by decide) rfl kw_752 kw_763 cw_X5_tenths [.int (nI lt), .int (nI b), .int (xb ((s2).testBit p))] (c_tenths_5 (lt := lt) (b := b) (s9 := ((s2).testBit p)) hob (by omega) (by omega) (by omega) (by omega) (by omega)) rfl rfl rfl rfl rfl rfl rfl dX8_chances_45 ?_
      refine xr_top (y := (nI (odT kd wh mn b lt s2 p))) (by rw [odT, dz_5 hkk, if_neg (show ¬ kd p = 3 by omega)]; split <;> rfl) ?_
      refine xr_imul X dX8_chances_48 ?_
      refine xr_top (y := (nI (prB (odT kd wh mn b lt s2) (p + 1)))) (nI_mul _ _) ?_
      refine xr_istore_n (lv' := [(3, .int (nI (prB (odT kd wh mn b lt s2) (p + 1)))), (5, .ref ap), (4, .int (nI p)), (0, .ref w), (1, .int (nI lt)), (2, .int (nI s2))]) X dX8_chances_49 rfl rfl rfl ?_
      refine xr_iinc (v := nI (p + 1)) (lv' := [(4, .int (nI (p + 1))), (3, .int (nI (prB (odT kd wh mn b lt s2) (p + 1)))), (5, .ref ap), (0, .ref w), (1, .int (nI lt)), (2, .int (nI s2))]) X 2 dX8_chances_50 rfl (nI_1 _) rfl rfl ?_
      refine xr_goto (tgt := 5) X dX8_chances_53 (by decide) ?_
      refine xr_locs (lv' := [(4, .int (nI (p + 1))), (3, .int (nI (prB (odT kd wh mn b lt s2) (p + 1)))), (0, .ref w), (1, .int (nI lt)), (2, .int (nI s2))]) [0, 1, 3, 4, 5] rfl ?_
      exact ih (p + 1) (by omega)
set_option maxRecDepth 100000 in
theorem c_X8_chances {l : Launch} {Ω : xW} {h : xH} {sz : Nat} {w B np day b : Nat} {kd wh mn : Nat → Nat} {pf : Nat → Option Nat} {lt s2 : Nat} (hto : h w = some (tO w (nI np) (nI day) (nI b) (nI (moM kd np)))) (htp : h (w + 1) = some (.inl (.object "EvePost$Person", 6, .inr (.inr (.inr (.inr pf)))))) (h6 : np ≤ 6) (hP : PW B h pf np kd wh mn) (hlt : lt < 64) (hs : s2 < 64) (hb : b < 64) : xC l Ω yX8_chances cX8_chances 6 (some .int) 3 0 0 [.ref w, .int (nI lt), .int (nI s2)] h sz (some (.int (nI (prB (odT kd wh mn b lt s2) np)))) h (sz) := by
  refine xC_of (lv := [(0, .ref w), (1, .int (nI lt)), (2, .int (nI s2))]) pn_X8 rfl rfl (fun Γ X hΓ hbs => ?_)
  have X : xX Γ Ω cX8_chances 6 RX8 "chances" (some .int) 3 105 0 0 := X
  subst hΓ
  refine xr_iconst (v := 1) X dX8_chances_0 (by decide) ?_
  refine xr_istore_n (lv' := [(3, .int 1), (0, .ref w), (1, .int (nI lt)), (2, .int (nI s2))]) X dX8_chances_1 rfl rfl rfl ?_
  refine xr_iconst (v := 0) X dX8_chances_2 (by decide) ?_
  refine xr_istore (lv' := [(4, .int 0), (3, .int 1), (0, .ref w), (1, .int (nI lt)), (2, .int (nI s2))]) X dX8_chances_3 rfl rfl ?_
  refine xr_locs (lv' := [(4, .int 0), (3, .int 1), (0, .ref w), (1, .int (nI lt)), (2, .int (nI s2))]) [0, 1, 2, 3, 4] rfl ?_
  exact l_X8_chances X hto htp h6 hP hlt hs hb np 0 (by omega)
set_option maxRecDepth 100000 in
theorem l_X8_all {Γ : xΓ} {Ω : xW} {h : xH} {sz : Nat} (X : xX Γ Ω cX8_allChances 3 RX8 "allChances" (some .int) 0 0 0 0) {w np : Nat} {d9 b9 m9 : Int32} (hto : h w = some (tO w (nI np) d9 b9 m9)) (h6 : np ≤ 6) : ∀ (j0 p : Nat), p + j0 = np → xG Γ Ω 3 (xQ Γ Ω (some (.int (nI (10 ^ np)))) h (sz) 0 0) 4 [(2, .int (nI p)), (1, .int (nI (10 ^ p))), (0, .ref w)] ([]) h sz 0 0 := by
  intro j0
  induction j0 with
  | zero =>
    intro p hk
    have ek : p = np := by omega
    refine xr_iload_n X 0 dX8_allChances_4 rfl rfl ?_
    refine xr_aload_n X 2 dX8_allChances_5 rfl rfl ?_
    refine xr_get X fF_X8_17_7 hto rfl dX8_allChances_6 ?_
    refine xr_icmp_ge (tgt := 23) X dX8_allChances_9 (by decide) (fun _ => ?_) (fun c_9 => absurd (by subst ek; exact i32_le.mpr (Int.le_refl _)) c_9)
    refine xr_iload_n X 1 dX8_allChances_23 rfl rfl ?_
    exact xr_iret X rfl (by rw [ek]) rfl rfl rfl rfl dX8_allChances_24
  | succ j0 ih =>
    intro p hk
    have lk : p < np := by omega
    refine xr_iload_n X 0 dX8_allChances_4 rfl rfl ?_
    refine xr_aload_n X 2 dX8_allChances_5 rfl rfl ?_
    refine xr_get X fF_X8_17_7 hto rfl dX8_allChances_6 ?_
    refine xr_icmp_ge (tgt := 23) X dX8_allChances_9 (by decide) (fun c_9 => absurd c_9 (by rw [i32_le, nI_toInt (by omega), nI_toInt (by omega)]; omega)) (fun _ => ?_)
    refine xr_iload_n X 1 dX8_allChances_12 rfl rfl ?_
    refine xr_bipush (v := 10) X dX8_allChances_13 (by decide) ?_
    refine xr_imul X dX8_allChances_15 ?_
    refine xr_top (y := (nI (10 ^ (p + 1)))) (by rw [show (10 : Int32) = nI 10 from rfl, nI_mul, Nat.pow_succ]) ?_
    refine xr_istore_n (lv' := [(1, .int (nI (10 ^ (p + 1)))), (2, .int (nI p)), (0, .ref w)]) X dX8_allChances_16 rfl rfl rfl ?_
    refine xr_iinc (v := nI (p + 1)) (lv' := [(2, .int (nI (p + 1))), (1, .int (nI (10 ^ (p + 1)))), (0, .ref w)]) X 1 dX8_allChances_17 rfl (nI_1 _) rfl rfl ?_
    refine xr_goto (tgt := 4) X dX8_allChances_20 (by decide) ?_
    exact ih (p + 1) (by omega)
set_option maxRecDepth 100000 in
theorem c_X8_allChances {l : Launch} {Ω : xW} {h : xH} {sz : Nat} {w np : Nat} {d9 b9 m9 : Int32} (hto : h w = some (tO w (nI np) d9 b9 m9)) (h6 : np ≤ 6) : xC l Ω yX8_allChances cX8_allChances 3 (some .int) 0 0 0 [.ref w] h sz (some (.int (nI (10 ^ np)))) h (sz) := by
  refine xC_of (lv := [(0, .ref w)]) pn_X8 rfl rfl (fun Γ X hΓ hbs => ?_)
  have X : xX Γ Ω cX8_allChances 3 RX8 "allChances" (some .int) 0 0 0 0 := X
  subst hΓ
  refine xr_iconst (v := 1) X dX8_allChances_0 (by decide) ?_
  refine xr_istore_n (lv' := [(1, .int 1), (0, .ref w)]) X dX8_allChances_1 rfl rfl rfl ?_
  refine xr_iconst (v := 0) X dX8_allChances_2 (by decide) ?_
  refine xr_istore_n (lv' := [(2, .int 0), (1, .int 1), (0, .ref w)]) X dX8_allChances_3 rfl rfl rfl ?_
  exact l_X8_all X hto h6 np 0 (by omega)
