abbrev eO (e w : Nat) (ac st : Int32) : xE := .inr (10, [.ref (e + 1), .ref (e + 13), .ref w, .ref (e + 19), .ref (e + 20), .ref (e + 28), .ref (e + 30), .int ac, .int st])
set_option maxRecDepth 100000 in
theorem c_X11_done {l : Launch} {Ω : xW} {h : xH} {sz : Nat} {e w : Nat} {ac st : Int32} {np day b : Nat} {kd wh mn : Nat → Nat} {fr : Nat → Int32} {s : Int32} (heo : h e = some (eO e w ac st)) (hw : w = e + 16) (hfo : h (e + 20) = some (.inr (2, [.ref (e + 21)]))) (hto : h w = some (tO w (nI np) (nI day) (nI b) (nI (moM kd np)))) (htf : h (w + 2) = some (.inl (.int, 64, .inl fr))) (h6 : np ≤ 6) (hF : frOK fr kd wh mn np) (hb : b < 2 ^ np) : xC l Ω yX11_done cX11_done 2 (some .int) 3 0 0 [.ref e, .int s] h sz (some (.int (a_done kd wh mn np b s))) h (sz) := by
  refine xC_of (lv := [(0, .ref e), (1, .int s)]) pn_X11 rfl rfl (fun Γ X hΓ hbs => ?_)
  have X : xX Γ Ω cX11_done 2 RX11 "done" (some .int) 3 105 0 0 := X
  subst hΓ
  have h64 := pw_le h6
  refine xr_aload_n X 0 dX11_done_0 rfl rfl ?_
  refine xr_get X fF_X11_26_10 heo rfl dX11_done_1 ?_
  refine xr_callV X hto rfl kw_559 kw_560 kw_561 cw_X8_isNone [] (c_X8_isNone hto h6) rfl rfl rfl rfl rfl rfl rfl dX11_done_4 ?_
  refine xr_if_eq (tgt := 13) X dX11_done_7 (by decide) (fun c_7 => ?_) (fun c_7 => ?_)
  · have c_7 := of_decide_eq_false (xb_0.mp c_7)
    (try simp (disch := omega) only [nI_toInt, i32_add, i32_sub, i32_mul, i64_addl, i32_l, k32_0, k64_0] at c_7)
    refine xr_aload_n X 0 dX11_done_13 rfl rfl ?_
    refine xr_get X fF_X11_26_10 heo rfl dX11_done_14 ?_
    refine xr_iload_n X 1 dX11_done_17 rfl rfl ?_
    refine xr_callV X hto rfl kw_564 kw_565 kw_566 cw_X8_isSet [.int s] (c_X8_isSet hto h6) rfl rfl rfl rfl rfl rfl rfl dX11_done_18 ?_
    refine xr_if_eq (tgt := 35) X dX11_done_21 (by decide) (fun c_21 => ?_) (fun c_21 => ?_)
    · have c_21 := of_decide_eq_false (xb_0.mp c_21)
      (try simp (disch := omega) only [nI_toInt, i32_add, i32_sub, i32_mul, i64_addl, i32_l, k32_0, k32_2, k64_0, k64_2] at c_21)
      refine xr_ldc (v := (-1000001)) X kw_226 dX11_done_35 ?_
      exact xr_iret X rfl (xv ((if_pos (by omega)).trans (if_neg (by omega)))) rfl rfl rfl rfl dX11_done_37
    · have c_21 := of_decide_eq_true (xb_1.mp c_21)
      (try simp (disch := omega) only [nI_toInt, i32_add, i32_sub, i32_mul, i64_addl, i32_l, k32_0, k32_2, k64_0, k64_2] at c_21)
      have tn_s := (i32_tn (x := s) (by omega)).2
      refine xr_aload_n X 0 dX11_done_24 rfl rfl ?_
      refine xr_get X fF_X11_26_10 heo rfl dX11_done_25 ?_
      refine xr_iload_n X 1 dX11_done_28 rfl rfl ?_
      refine xr_top (y := (nI (s.toNatClampNeg))) ((i32_tn (by omega)).1) ?_
      refine xr_callV X hto rfl kw_653 kw_624 kw_625 cw_X8_outcome [.int (nI (s.toNatClampNeg))] (c_X8_outcome hto htf h6 hF (by omega)) rfl rfl rfl rfl rfl rfl rfl dX11_done_29 ?_
      refine xr_goto (tgt := 37) X dX11_done_32 (by decide) ?_
      exact xr_iret X rfl (xv ((if_pos (by omega)).trans (if_pos (by omega)))) rfl rfl rfl rfl dX11_done_37
  · have c_7 := of_decide_eq_true (xb_1.mp c_7)
    (try simp (disch := omega) only [nI_toInt, i32_add, i32_sub, i32_mul, i64_addl, i32_l, k32_0, k64_0] at c_7)
    refine xr_ldc (v := (-1000002)) X kw_563 dX11_done_10 ?_
    exact xr_iret X rfl (xv (if_neg (by omega))) rfl rfl rfl rfl dX11_done_12
set_option maxRecDepth 100000 in
theorem c_X11_agreeing {l : Launch} {Ω : xW} {h : xH} {sz : Nat} {e w : Nat} {ac st : Int32} {np day b : Nat} {kd wh mn : Nat → Nat} {fr : Nat → Int32} {i : Int32} (heo : h e = some (eO e w ac st)) (hw : w = e + 16) (hfo : h (e + 20) = some (.inr (2, [.ref (e + 21)]))) (hto : h w = some (tO w (nI np) (nI day) (nI b) (nI (moM kd np)))) (htf : h (w + 2) = some (.inl (.int, 64, .inl fr))) (h6 : np ≤ 6) (hF : frOK fr kd wh mn np) (hb : b < 2 ^ np) : xC l Ω yX11_agreeing cX11_agreeing 2 (some .int) 5 0 0 [.ref e, .int i] h sz (some (.int (a_agreeing kd wh mn np b i))) h (sz) := by
  refine xC_of (lv := [(0, .ref e), (1, .int i)]) pn_X11 rfl rfl (fun Γ X hΓ hbs => ?_)
  have X : xX Γ Ω cX11_agreeing 2 RX11 "agreeing" (some .int) 5 175 0 0 := X
  subst hΓ
  have h64 := pw_le h6
  refine xr_aload_n X 0 dX11_agreeing_0 rfl rfl ?_
  refine xr_get X fF_X11_26_10 heo rfl dX11_agreeing_1 ?_
  refine xr_callV X hto rfl kw_559 kw_560 kw_561 cw_X8_isNone [] (c_X8_isNone hto h6) rfl rfl rfl rfl rfl rfl rfl dX11_agreeing_4 ?_
  refine xr_if_eq (tgt := 13) X dX11_agreeing_7 (by decide) (fun c_7 => ?_) (fun c_7 => ?_)
  · have c_7 := of_decide_eq_false (xb_0.mp c_7)
    (try simp (disch := omega) only [nI_toInt, i32_add, i32_sub, i32_mul, i64_addl, i32_l, k32_0, k64_0] at c_7)
    refine xr_iload_n X 1 dX11_agreeing_13 rfl rfl ?_
    refine xr_iconst (v := (-1)) X dX11_agreeing_14 (by decide) ?_
    refine xr_icmp_ge (tgt := 21) X dX11_agreeing_15 (by decide) (fun c_15 => ?_) (fun c_15 => ?_)
    · have c_15 := i32_le.mp c_15
      (try simp (disch := omega) only [nI_toInt, i32_add, i32_sub, i32_mul, i64_addl, i32_l, k32_m1] at c_15)
      refine xr_iload_n X 1 dX11_agreeing_21 rfl rfl ?_
      refine xr_iconst (v := (-1)) X dX11_agreeing_22 (by decide) ?_
      refine xr_icmp_ne (tgt := 40) X dX11_agreeing_23 (by decide) (fun c_23 => ?_) (fun c_23 => ?_)
      · have c_23 := mt i32_eq.mpr c_23
        (try simp (disch := omega) only [nI_toInt, i32_add, i32_sub, i32_mul, i64_addl, i32_l, k32_m1] at c_23)
        refine xr_aload_n X 0 dX11_agreeing_40 rfl rfl ?_
        refine xr_get X fF_X11_37_10 heo rfl dX11_agreeing_41 ?_
        refine xr_aload_n X 0 dX11_agreeing_44 rfl rfl ?_
        refine xr_get X fF_X11_26_10 heo rfl dX11_agreeing_45 ?_
        refine xr_iload_n X 1 dX11_agreeing_48 rfl rfl ?_
        refine xr_callV X hfo rfl kw_673 kw_674 kw_675 cw_X2_agreeingLetter [.ref w, .int i] (c_X2_agreeingLetter hfo hto htf h6 hF hb (by omega)) rfl rfl rfl rfl rfl rfl rfl dX11_agreeing_49 ?_
        exact xr_iret X rfl (xv (((if_pos (by omega)).trans (if_neg (by omega))).trans (if_neg (by omega)))) rfl rfl rfl rfl dX11_agreeing_52
      · have c_23 := i32_eq.mp c_23
        (try simp (disch := omega) only [nI_toInt, i32_add, i32_sub, i32_mul, i64_addl, i32_l, k32_m1] at c_23)
        refine xr_aload_n X 0 dX11_agreeing_26 rfl rfl ?_
        refine xr_get X fF_X11_37_10 heo rfl dX11_agreeing_27 ?_
        refine xr_aload_n X 0 dX11_agreeing_30 rfl rfl ?_
        refine xr_get X fF_X11_26_10 heo rfl dX11_agreeing_31 ?_
        refine xr_callV X hfo rfl kw_658 kw_659 kw_660 cw_X2_howManyAgree [.ref w] (c_X2_howManyAgree hfo hto htf h6 hF hb) rfl rfl rfl rfl rfl rfl rfl dX11_agreeing_34 ?_
        refine xr_goto (tgt := 52) X dX11_agreeing_37 (by decide) ?_
        exact xr_iret X rfl (xv (((if_pos (by omega)).trans (if_neg (by omega))).trans (if_pos (by omega)))) rfl rfl rfl rfl dX11_agreeing_52
    · have c_15 := mt i32_le.mpr c_15
      (try simp (disch := omega) only [nI_toInt, i32_add, i32_sub, i32_mul, i64_addl, i32_l, k32_m1] at c_15)
      refine xr_ldc (v := (-1000001)) X kw_226 dX11_agreeing_18 ?_
      exact xr_iret X rfl (xv ((if_pos (by omega)).trans (if_pos (by omega)))) rfl rfl rfl rfl dX11_agreeing_20
  · have c_7 := of_decide_eq_true (xb_1.mp c_7)
    (try simp (disch := omega) only [nI_toInt, i32_add, i32_sub, i32_mul, i64_addl, i32_l, k32_0, k64_0] at c_7)
    refine xr_ldc (v := (-1000002)) X kw_563 dX11_agreeing_10 ?_
    exact xr_iret X rfl (xv (if_neg (by omega))) rfl rfl rfl rfl dX11_agreeing_12
set_option maxRecDepth 100000 in
theorem c_X11_fullest {l : Launch} {Ω : xW} {h : xH} {sz : Nat} {e w : Nat} {ac st : Int32} {np day b : Nat} {kd wh mn : Nat → Nat} {fr : Nat → Int32} (heo : h e = some (eO e w ac st)) (hw : w = e + 16) (hfo : h (e + 20) = some (.inr (2, [.ref (e + 21)]))) (hto : h w = some (tO w (nI np) (nI day) (nI b) (nI (moM kd np)))) (htf : h (w + 2) = some (.inl (.int, 64, .inl fr))) (h6 : np ≤ 6) (hF : frOK fr kd wh mn np) (hb : b < 2 ^ np) : xC l Ω yX11_fullest cX11_fullest 1 (some .int) 5 0 0 [.ref e] h sz (some (.int (a_fullest kd wh mn np b))) h (sz) := by
  refine xC_of (lv := [(0, .ref e)]) pn_X11 rfl rfl (fun Γ X hΓ hbs => ?_)
  have X : xX Γ Ω cX11_fullest 1 RX11 "fullest" (some .int) 5 175 0 0 := X
  subst hΓ
  have h64 := pw_le h6
  refine xr_aload_n X 0 dX11_fullest_0 rfl rfl ?_
  refine xr_get X fF_X11_26_10 heo rfl dX11_fullest_1 ?_
  refine xr_callV X hto rfl kw_559 kw_560 kw_561 cw_X8_isNone [] (c_X8_isNone hto h6) rfl rfl rfl rfl rfl rfl rfl dX11_fullest_4 ?_
  refine xr_if_eq (tgt := 15) X dX11_fullest_7 (by decide) (fun c_7 => ?_) (fun c_7 => ?_)
  · have c_7 := of_decide_eq_false (xb_0.mp c_7)
    (try simp (disch := omega) only [nI_toInt, i32_add, i32_sub, i32_mul, i64_addl, i32_l, k32_0, k64_0] at c_7)
    refine xr_aload_n X 0 dX11_fullest_15 rfl rfl ?_
    refine xr_get X fF_X11_37_10 heo rfl dX11_fullest_16 ?_
    refine xr_aload_n X 0 dX11_fullest_19 rfl rfl ?_
    refine xr_get X fF_X11_26_10 heo rfl dX11_fullest_20 ?_
    refine xr_callV X hfo rfl kw_683 kw_684 kw_685 cw_X2_fullestLetter [.ref w] (c_X2_fullestLetter hfo hto htf h6 hF hb) rfl rfl rfl rfl rfl rfl rfl dX11_fullest_23 ?_
    exact xr_iret X rfl (xv (if_pos (by omega))) rfl rfl rfl rfl dX11_fullest_26
  · have c_7 := of_decide_eq_true (xb_1.mp c_7)
    (try simp (disch := omega) only [nI_toInt, i32_add, i32_sub, i32_mul, i64_addl, i32_l, k32_0, k64_0] at c_7)
    refine xr_ldc (v := (-1000002)) X kw_563 dX11_fullest_10 ?_
    refine xr_goto (tgt := 26) X dX11_fullest_12 (by decide) ?_
    exact xr_iret X rfl (xv (if_neg (by omega))) rfl rfl rfl rfl dX11_fullest_26
set_option maxRecDepth 100000 in
theorem c_X11_culprits {l : Launch} {Ω : xW} {h : xH} {sz : Nat} {e w : Nat} {ac st : Int32} {np day b : Nat} {kd wh mn : Nat → Nat} {fr : Nat → Int32} {v : Int32} (heo : h e = some (eO e w ac st)) (hw : w = e + 16) (hfo : h (e + 20) = some (.inr (2, [.ref (e + 21)]))) (hto : h w = some (tO w (nI np) (nI day) (nI b) (nI (moM kd np)))) (htf : h (w + 2) = some (.inl (.int, 64, .inl fr))) (h6 : np ≤ 6) (hF : frOK fr kd wh mn np) (hb : b < 2 ^ np) : xC l Ω yX11_culprits cX11_culprits 2 (some .int) 6 0 0 [.ref e, .int v] h sz (some (.int (a_culprits kd wh mn np b v))) h (sz) := by
  refine xC_of (lv := [(0, .ref e), (1, .int v)]) pn_X11 rfl rfl (fun Γ X hΓ hbs => ?_)
  have X : xX Γ Ω cX11_culprits 2 RX11 "culprits" (some .int) 6 210 0 0 := X
  subst hΓ
  have h64 := pw_le h6
  refine xr_aload_n X 0 dX11_culprits_0 rfl rfl ?_
  refine xr_get X fF_X11_26_10 heo rfl dX11_culprits_1 ?_
  refine xr_callV X hto rfl kw_559 kw_560 kw_561 cw_X8_isNone [] (c_X8_isNone hto h6) rfl rfl rfl rfl rfl rfl rfl dX11_culprits_4 ?_
  refine xr_if_eq (tgt := 13) X dX11_culprits_7 (by decide) (fun c_7 => ?_) (fun c_7 => ?_)
  · have c_7 := of_decide_eq_false (xb_0.mp c_7)
    (try simp (disch := omega) only [nI_toInt, i32_add, i32_sub, i32_mul, i64_addl, i32_l, k32_0, k64_0] at c_7)
    refine xr_iload_n X 1 dX11_culprits_13 rfl rfl ?_
    have hcase : v.toInt = 0 ∨ v.toInt = 1 ∨ (¬ v.toInt = 0 ∧ ¬ v.toInt = 1) := by omega
    rcases hcase with ew | ew | ew
    · refine xr_lookup (off := 26) (tgt := 40) X dX11_culprits_14 (by decide) (by rw [ew]; rfl) (by decide) ?_
      refine xr_aload_n X 0 dX11_culprits_40 rfl rfl ?_
      refine xr_get X fF_X11_37_10 heo rfl dX11_culprits_41 ?_
      refine xr_aload_n X 0 dX11_culprits_44 rfl rfl ?_
      refine xr_get X fF_X11_26_10 heo rfl dX11_culprits_45 ?_
      refine xr_callV X hfo rfl kw_692 kw_693 kw_694 cw_X2_whoHinders [.ref w] (c_X2_whoHinders hfo hto htf h6 hF hb) rfl rfl rfl rfl rfl rfl rfl dX11_culprits_48 ?_
      exact xr_iret X rfl (xv (by rw [a_culprits, if_pos (by omega), if_pos (by omega), ew])) rfl rfl rfl rfl dX11_culprits_51
    · refine xr_lookup (off := 38) (tgt := 52) X dX11_culprits_14 (by decide) (by rw [ew]; rfl) (by decide) ?_
      refine xr_aload_n X 0 dX11_culprits_52 rfl rfl ?_
      refine xr_get X fF_X11_37_10 heo rfl dX11_culprits_53 ?_
      refine xr_aload_n X 0 dX11_culprits_56 rfl rfl ?_
      refine xr_get X fF_X11_26_10 heo rfl dX11_culprits_57 ?_
      refine xr_callV X hfo rfl kw_705 kw_706 kw_707 cw_X2_whoCouldStop [.ref w] (c_X2_whoCouldStop hfo hto htf h6 hF hb) rfl rfl rfl rfl rfl rfl rfl dX11_culprits_60 ?_
      exact xr_iret X rfl (xv (by rw [a_culprits, if_pos (by omega), if_pos (by omega), ew])) rfl rfl rfl rfl dX11_culprits_63
    · refine xr_lookup (off := 50) (tgt := 64) X dX11_culprits_14 (by decide) (by simp [Op.lookupswitch.offset]; omega) (by decide) ?_
      refine xr_ldc (v := (-1000001)) X kw_226 dX11_culprits_64 ?_
      exact xr_iret X rfl (xv ((if_pos (by omega)).trans (if_neg (by omega)))) rfl rfl rfl rfl dX11_culprits_66
  · have c_7 := of_decide_eq_true (xb_1.mp c_7)
    (try simp (disch := omega) only [nI_toInt, i32_add, i32_sub, i32_mul, i64_addl, i32_l, k32_0, k64_0] at c_7)
    refine xr_ldc (v := (-1000002)) X kw_563 dX11_culprits_10 ?_
    exact xr_iret X rfl (xv (if_neg (by omega))) rfl rfl rfl rfl dX11_culprits_12
set_option maxRecDepth 100000 in
theorem c_X11_lost {l : Launch} {Ω : xW} {h : xH} {sz : Nat} {e w : Nat} {ac st : Int32} {np day b : Nat} {kd wh mn : Nat → Nat} {fr : Nat → Int32} {s v : Int32} (heo : h e = some (eO e w ac st)) (hw : w = e + 16) (hfo : h (e + 20) = some (.inr (2, [.ref (e + 21)]))) (hto : h w = some (tO w (nI np) (nI day) (nI b) (nI (moM kd np)))) (htf : h (w + 2) = some (.inl (.int, 64, .inl fr))) (h6 : np ≤ 6) (hF : frOK fr kd wh mn np) (hb : b < 2 ^ np) : xC l Ω yX11_lost cX11_lost 3 (some .int) 5 0 0 [.ref e, .int s, .int v] h sz (some (.int (a_lost kd wh mn np b s v))) h (sz) := by
  refine xC_of (lv := [(0, .ref e), (1, .int s), (2, .int v)]) pn_X11 rfl rfl (fun Γ X hΓ hbs => ?_)
  have X : xX Γ Ω cX11_lost 3 RX11 "lost" (some .int) 5 175 0 0 := X
  subst hΓ
  have h64 := pw_le h6
  refine xr_aload_n X 0 dX11_lost_0 rfl rfl ?_
  refine xr_get X fF_X11_26_10 heo rfl dX11_lost_1 ?_
  refine xr_callV X hto rfl kw_559 kw_560 kw_561 cw_X8_isNone [] (c_X8_isNone hto h6) rfl rfl rfl rfl rfl rfl rfl dX11_lost_4 ?_
  refine xr_if_eq (tgt := 13) X dX11_lost_7 (by decide) (fun c_7 => ?_) (fun c_7 => ?_)
  · have c_7 := of_decide_eq_false (xb_0.mp c_7)
    (try simp (disch := omega) only [nI_toInt, i32_add, i32_sub, i32_mul, i64_addl, i32_l, k32_0, k64_0] at c_7)
    refine xr_aload_n X 0 dX11_lost_13 rfl rfl ?_
    refine xr_get X fF_X11_26_10 heo rfl dX11_lost_14 ?_
    refine xr_iload_n X 1 dX11_lost_17 rfl rfl ?_
    refine xr_callV X hto rfl kw_564 kw_565 kw_566 cw_X8_isSet [.int s] (c_X8_isSet hto h6) rfl rfl rfl rfl rfl rfl rfl dX11_lost_18 ?_
    refine xr_if_eq (tgt := 33) X dX11_lost_21 (by decide) (fun c_21 => ?_) (fun c_21 => ?_)
    · have c_21 := of_decide_eq_false (xb_0.mp c_21)
      (try simp (disch := omega) only [nI_toInt, i32_add, i32_sub, i32_mul, i64_addl, i32_l, k32_0, k32_2, k64_0, k64_2] at c_21)
      refine xr_ldc (v := (-1000001)) X kw_226 dX11_lost_33 ?_
      exact xr_iret X rfl (xv ((if_pos (by omega)).trans (if_neg (by omega)))) rfl rfl rfl rfl dX11_lost_35
    · have c_21 := of_decide_eq_true (xb_1.mp c_21)
      (try simp (disch := omega) only [nI_toInt, i32_add, i32_sub, i32_mul, i64_addl, i32_l, k32_0, k32_2, k64_0, k64_2] at c_21)
      have tn_s := (i32_tn (x := s) (by omega)).2
      refine xr_iload_n X 2 dX11_lost_24 rfl rfl ?_
      refine xr_if_lt (tgt := 33) X dX11_lost_25 (by decide) (fun c_25 => ?_) (fun c_25 => ?_)
      · have c_25 := i32_lt.mp c_25
        (try simp (disch := omega) only [nI_toInt, i32_add, i32_sub, i32_mul, i64_addl, i32_l, k32_0, k64_0] at c_25)
        refine xr_ldc (v := (-1000001)) X kw_226 dX11_lost_33 ?_
        exact xr_iret X rfl (xv ((if_pos (by omega)).trans (if_neg (by omega)))) rfl rfl rfl rfl dX11_lost_35
      · have c_25 := mt i32_lt.mpr c_25
        (try simp (disch := omega) only [nI_toInt, i32_add, i32_sub, i32_mul, i64_addl, i32_l, k32_0, k64_0] at c_25)
        refine xr_iload_n X 2 dX11_lost_28 rfl rfl ?_
        refine xr_iconst (v := 1) X dX11_lost_29 (by decide) ?_
        refine xr_icmp_le (tgt := 36) X dX11_lost_30 (by decide) (fun c_30 => ?_) (fun c_30 => ?_)
        · have c_30 := i32_le.mp c_30
          (try simp (disch := omega) only [nI_toInt, i32_add, i32_sub, i32_mul, i64_addl, i32_l, k32_1, k64_1] at c_30)
          refine xr_iload_n X 2 dX11_lost_36 rfl rfl ?_
          refine xr_if_ne (tgt := 55) X dX11_lost_37 (by decide) (fun c_37 => ?_) (fun c_37 => ?_)
          · have c_37 := mt i32_eq.mpr c_37
            (try simp (disch := omega) only [nI_toInt, i32_add, i32_sub, i32_mul, i64_addl, i32_l, k32_0, k64_0] at c_37)
            refine xr_aload_n X 0 dX11_lost_55 rfl rfl ?_
            refine xr_get X fF_X11_37_10 heo rfl dX11_lost_56 ?_
            refine xr_aload_n X 0 dX11_lost_59 rfl rfl ?_
            refine xr_get X fF_X11_26_10 heo rfl dX11_lost_60 ?_
            refine xr_iload_n X 1 dX11_lost_63 rfl rfl ?_
            refine xr_top (y := (nI (s.toNatClampNeg))) ((i32_tn (by omega)).1) ?_
            refine xr_callV X hfo rfl kw_791 kw_792 kw_793 cw_X2_leastThatBrings [.ref w, .int (nI (s.toNatClampNeg))] (c_X2_leastThatBrings hfo hto htf h6 hF hb (by omega)) rfl rfl rfl rfl rfl rfl rfl dX11_lost_64 ?_
            exact xr_iret X rfl (xv (((if_pos (by omega)).trans (if_pos (by omega))).trans (if_neg (by omega)))) rfl rfl rfl rfl dX11_lost_67
          · have c_37 := i32_eq.mp c_37
            (try simp (disch := omega) only [nI_toInt, i32_add, i32_sub, i32_mul, i64_addl, i32_l, k32_0, k64_0] at c_37)
            refine xr_aload_n X 0 dX11_lost_40 rfl rfl ?_
            refine xr_get X fF_X11_37_10 heo rfl dX11_lost_41 ?_
            refine xr_aload_n X 0 dX11_lost_44 rfl rfl ?_
            refine xr_get X fF_X11_26_10 heo rfl dX11_lost_45 ?_
            refine xr_iload_n X 1 dX11_lost_48 rfl rfl ?_
            refine xr_top (y := (nI (s.toNatClampNeg))) ((i32_tn (by omega)).1) ?_
            refine xr_callV X hfo rfl kw_787 kw_788 kw_789 cw_X2_howManyBring [.ref w, .int (nI (s.toNatClampNeg))] (c_X2_howManyBring hfo hto htf h6 hF hb (by omega)) rfl rfl rfl rfl rfl rfl rfl dX11_lost_49 ?_
            refine xr_goto (tgt := 67) X dX11_lost_52 (by decide) ?_
            exact xr_iret X rfl (xv (((if_pos (by omega)).trans (if_pos (by omega))).trans (if_pos (by omega)))) rfl rfl rfl rfl dX11_lost_67
        · have c_30 := mt i32_le.mpr c_30
          (try simp (disch := omega) only [nI_toInt, i32_add, i32_sub, i32_mul, i64_addl, i32_l, k32_1, k64_1] at c_30)
          refine xr_ldc (v := (-1000001)) X kw_226 dX11_lost_33 ?_
          exact xr_iret X rfl (xv ((if_pos (by omega)).trans (if_neg (by omega)))) rfl rfl rfl rfl dX11_lost_35
  · have c_7 := of_decide_eq_true (xb_1.mp c_7)
    (try simp (disch := omega) only [nI_toInt, i32_add, i32_sub, i32_mul, i64_addl, i32_l, k32_0, k64_0] at c_7)
    refine xr_ldc (v := (-1000002)) X kw_563 dX11_lost_10 ?_
    exact xr_iret X rfl (xv (if_neg (by omega))) rfl rfl rfl rfl dX11_lost_12
set_option maxRecDepth 100000 in
theorem c_X11_readBy {l : Launch} {Ω : xW} {h : xH} {sz : Nat} {e w : Nat} {ac st : Int32} {np day b : Nat} {kd wh mn : Nat → Nat} {fr : Nat → Int32} {s v : Int32} (heo : h e = some (eO e w ac st)) (hw : w = e + 16) (hfo : h (e + 20) = some (.inr (2, [.ref (e + 21)]))) (hto : h w = some (tO w (nI np) (nI day) (nI b) (nI (moM kd np)))) (htf : h (w + 2) = some (.inl (.int, 64, .inl fr))) (h6 : np ≤ 6) (hF : frOK fr kd wh mn np) (hb : b < 2 ^ np) : xC l Ω yX11_readBy cX11_readBy 3 (some .int) 5 0 0 [.ref e, .int s, .int v] h sz (some (.int (a_readBy kd wh mn np b s v))) h (sz) := by
  refine xC_of (lv := [(0, .ref e), (1, .int s), (2, .int v)]) pn_X11 rfl rfl (fun Γ X hΓ hbs => ?_)
  have X : xX Γ Ω cX11_readBy 3 RX11 "readBy" (some .int) 5 175 0 0 := X
  subst hΓ
  have h64 := pw_le h6
  refine xr_aload_n X 0 dX11_readBy_0 rfl rfl ?_
  refine xr_get X fF_X11_26_10 heo rfl dX11_readBy_1 ?_
  refine xr_callV X hto rfl kw_559 kw_560 kw_561 cw_X8_isNone [] (c_X8_isNone hto h6) rfl rfl rfl rfl rfl rfl rfl dX11_readBy_4 ?_
  refine xr_if_eq (tgt := 13) X dX11_readBy_7 (by decide) (fun c_7 => ?_) (fun c_7 => ?_)
  · have c_7 := of_decide_eq_false (xb_0.mp c_7)
    (try simp (disch := omega) only [nI_toInt, i32_add, i32_sub, i32_mul, i64_addl, i32_l, k32_0, k64_0] at c_7)
    refine xr_aload_n X 0 dX11_readBy_13 rfl rfl ?_
    refine xr_get X fF_X11_26_10 heo rfl dX11_readBy_14 ?_
    refine xr_iload_n X 1 dX11_readBy_17 rfl rfl ?_
    refine xr_callV X hto rfl kw_564 kw_565 kw_566 cw_X8_isSet [.int s] (c_X8_isSet hto h6) rfl rfl rfl rfl rfl rfl rfl dX11_readBy_18 ?_
    refine xr_if_eq (tgt := 33) X dX11_readBy_21 (by decide) (fun c_21 => ?_) (fun c_21 => ?_)
    · have c_21 := of_decide_eq_false (xb_0.mp c_21)
      (try simp (disch := omega) only [nI_toInt, i32_add, i32_sub, i32_mul, i64_addl, i32_l, k32_0, k32_2, k64_0, k64_2] at c_21)
      refine xr_ldc (v := (-1000001)) X kw_226 dX11_readBy_33 ?_
      exact xr_iret X rfl (xv ((if_pos (by omega)).trans (if_neg (by omega)))) rfl rfl rfl rfl dX11_readBy_35
    · have c_21 := of_decide_eq_true (xb_1.mp c_21)
      (try simp (disch := omega) only [nI_toInt, i32_add, i32_sub, i32_mul, i64_addl, i32_l, k32_0, k32_2, k64_0, k64_2] at c_21)
      have tn_s := (i32_tn (x := s) (by omega)).2
      refine xr_iload_n X 2 dX11_readBy_24 rfl rfl ?_
      refine xr_if_lt (tgt := 33) X dX11_readBy_25 (by decide) (fun c_25 => ?_) (fun c_25 => ?_)
      · have c_25 := i32_lt.mp c_25
        (try simp (disch := omega) only [nI_toInt, i32_add, i32_sub, i32_mul, i64_addl, i32_l, k32_0, k64_0] at c_25)
        refine xr_ldc (v := (-1000001)) X kw_226 dX11_readBy_33 ?_
        exact xr_iret X rfl (xv ((if_pos (by omega)).trans (if_neg (by omega)))) rfl rfl rfl rfl dX11_readBy_35
      · have c_25 := mt i32_lt.mpr c_25
        (try simp (disch := omega) only [nI_toInt, i32_add, i32_sub, i32_mul, i64_addl, i32_l, k32_0, k64_0] at c_25)
        refine xr_iload_n X 2 dX11_readBy_28 rfl rfl ?_
        refine xr_iconst (v := 1) X dX11_readBy_29 (by decide) ?_
        refine xr_icmp_le (tgt := 36) X dX11_readBy_30 (by decide) (fun c_30 => ?_) (fun c_30 => ?_)
        · have c_30 := i32_le.mp c_30
          (try simp (disch := omega) only [nI_toInt, i32_add, i32_sub, i32_mul, i64_addl, i32_l, k32_1, k64_1] at c_30)
          refine xr_iload_n X 2 dX11_readBy_36 rfl rfl ?_
          refine xr_if_ne (tgt := 55) X dX11_readBy_37 (by decide) (fun c_37 => ?_) (fun c_37 => ?_)
          · have c_37 := mt i32_eq.mpr c_37
            (try simp (disch := omega) only [nI_toInt, i32_add, i32_sub, i32_mul, i64_addl, i32_l, k32_0, k64_0] at c_37)
            refine xr_aload_n X 0 dX11_readBy_55 rfl rfl ?_
            refine xr_get X fF_X11_37_10 heo rfl dX11_readBy_56 ?_
            refine xr_aload_n X 0 dX11_readBy_59 rfl rfl ?_
            refine xr_get X fF_X11_26_10 heo rfl dX11_readBy_60 ?_
            refine xr_iload_n X 1 dX11_readBy_63 rfl rfl ?_
            refine xr_top (y := (nI (s.toNatClampNeg))) ((i32_tn (by omega)).1) ?_
            refine xr_callV X hfo rfl kw_800 kw_801 kw_802 cw_X2_leastReadBy [.ref w, .int (nI (s.toNatClampNeg))] (c_X2_leastReadBy hfo hto htf h6 hF hb (by omega)) rfl rfl rfl rfl rfl rfl rfl dX11_readBy_64 ?_
            exact xr_iret X rfl (xv (((if_pos (by omega)).trans (if_pos (by omega))).trans (if_neg (by omega)))) rfl rfl rfl rfl dX11_readBy_67
          · have c_37 := i32_eq.mp c_37
            (try simp (disch := omega) only [nI_toInt, i32_add, i32_sub, i32_mul, i64_addl, i32_l, k32_0, k64_0] at c_37)
            refine xr_aload_n X 0 dX11_readBy_40 rfl rfl ?_
            refine xr_get X fF_X11_37_10 heo rfl dX11_readBy_41 ?_
            refine xr_aload_n X 0 dX11_readBy_44 rfl rfl ?_
            refine xr_get X fF_X11_26_10 heo rfl dX11_readBy_45 ?_
            refine xr_iload_n X 1 dX11_readBy_48 rfl rfl ?_
            refine xr_top (y := (nI (s.toNatClampNeg))) ((i32_tn (by omega)).1) ?_
            refine xr_callV X hfo rfl kw_799 kw_668 kw_669 cw_X2_howManyReadBy [.ref w, .int (nI (s.toNatClampNeg))] (c_X2_howManyReadBy hfo hto htf h6 hF hb (by omega)) rfl rfl rfl rfl rfl rfl rfl dX11_readBy_49 ?_
            refine xr_goto (tgt := 67) X dX11_readBy_52 (by decide) ?_
            exact xr_iret X rfl (xv (((if_pos (by omega)).trans (if_pos (by omega))).trans (if_pos (by omega)))) rfl rfl rfl rfl dX11_readBy_67
        · have c_30 := mt i32_le.mpr c_30
          (try simp (disch := omega) only [nI_toInt, i32_add, i32_sub, i32_mul, i64_addl, i32_l, k32_1, k64_1] at c_30)
          refine xr_ldc (v := (-1000001)) X kw_226 dX11_readBy_33 ?_
          exact xr_iret X rfl (xv ((if_pos (by omega)).trans (if_neg (by omega)))) rfl rfl rfl rfl dX11_readBy_35
  · have c_7 := of_decide_eq_true (xb_1.mp c_7)
    (try simp (disch := omega) only [nI_toInt, i32_add, i32_sub, i32_mul, i64_addl, i32_l, k32_0, k64_0] at c_7)
    refine xr_ldc (v := (-1000002)) X kw_563 dX11_readBy_10 ?_
    exact xr_iret X rfl (xv (if_neg (by omega))) rfl rfl rfl rfl dX11_readBy_12
def nlT (kd : Nat → Nat) : Nat → Nat := fun p => if kd p = 3 then 1 else 10
theorem prB_mul (f g : Nat → Nat) : ∀ n : Nat, prB (fun p => f p * g p) n = prB f n * prB g n
  | 0 => rfl
  | n + 1 => by rw [prB, prB, prB, prB_mul f g n, Nat.mul_mul_mul_comm]
theorem prB_congr {f g : Nat → Nat} : ∀ {n : Nat}, (∀ p, p < n → f p = g p) → prB f n = prB g n
  | 0, _ => rfl
  | n + 1, h => by rw [prB, prB, prB_congr (n := n) (fun p hp => h p (by omega)), h n (by omega)]
theorem prB_c (c : Nat) : ∀ n : Nat, prB (fun _ => c) n = c ^ n
  | 0 => rfl
  | n + 1 => by rw [prB, prB_c c n, Nat.pow_succ]
theorem nlT_pos (kd : Nat → Nat) : ∀ n : Nat, 0 < prB (nlT kd) n
  | 0 => Nat.one_pos
  | n + 1 => by
    rw [prB]
    refine Nat.mul_pos (nlT_pos kd n) ?_
    unfold nlT
    split <;> omega
theorem odT_od (kd wh mn : Nat → Nat) (np b l s : Nat) : prB (odT kd wh mn b l s) np = ods kd wh mn np b l s * prB (nlT kd) np := by
  rw [ods, ← prB_mul]
  refine prB_congr (fun p _ => ?_)
  unfold odT odP nlT
  split <;> split <;> simp
theorem ten_od (kd : Nat → Nat) (np : Nat) : 10 ^ np = odi kd np * prB (nlT kd) np := by
  rw [odi, ← prB_mul, ← prB_c]
  refine prB_congr (fun p _ => ?_)
  unfold odA nlT
  split <;> simp
theorem liS_mul (f : Nat → Nat) {c : Nat} (hc : 0 < c) : ∀ n : Nat, liS (fun l => f l * c) n = liS f n
  | 0 => rfl
  | n + 1 => by
    rw [liS, liS, liS_mul f hc n]
    by_cases h : f (liS f n) < f (n + 1)
    · rw [if_pos h, if_pos (Nat.mul_lt_mul_of_pos_right h hc)]
    · rw [if_neg h, if_neg (fun q => h (Nat.lt_of_mul_lt_mul_right q))]
theorem li_eq (kd wh mn : Nat → Nat) (np b : Nat) : liS (chF kd wh mn np b) (2 ^ np - 1) = liS (fun l => ods kd wh mn np b l l) (2 ^ np - 1) := by
  have e : chF kd wh mn np b = fun l => ods kd wh mn np b l l * prB (nlT kd) np := by
    funext l
    exact odT_od kd wh mn np b l l
  rw [e]
  exact liS_mul (fun l => ods kd wh mn np b l l) (nlT_pos kd np) _
theorem q_od {a b c : Nat} (hc : 0 < c) : (a * c) / Nat.gcd (a * c) (b * c) = a / Nat.gcd a b ∧ (b * c) / Nat.gcd (a * c) (b * c) = b / Nat.gcd a b := by
  rw [Nat.gcd_mul_right]
  exact ⟨Nat.mul_div_mul_right _ _ hc, Nat.mul_div_mul_right _ _ hc⟩
set_option maxRecDepth 100000 in
theorem c_X11_likeliest {l : Launch} {Ω : xW} {h : xH} {sz : Nat} {e w : Nat} {ac st : Int32} {B np day b : Nat} {kd wh mn : Nat → Nat} {pf : Nat → Option Nat} (heo : h e = some (eO e w ac st)) (hw : w = e + 16) (hfo : h (e + 20) = some (.inr (2, [.ref (e + 21)]))) (hto : h w = some (tO w (nI np) (nI day) (nI b) (nI (moM kd np)))) (htp : h (w + 1) = some (.inl (.object "EvePost$Person", 6, .inr (.inr (.inr (.inr pf)))))) (h6 : np ≤ 6) (hP : PW B h pf np kd wh mn) (hb : b < 2 ^ np) : xC l Ω yX11_likeliest cX11_likeliest 1 (some .int) 5 0 0 [.ref e] h sz (some (.int (a_likeliest kd wh mn np b))) h (sz) := by
  refine xC_of (lv := [(0, .ref e)]) pn_X11 rfl rfl (fun Γ X hΓ hbs => ?_)
  have X : xX Γ Ω cX11_likeliest 1 RX11 "likeliest" (some .int) 5 175 0 0 := X
  subst hΓ
  have h64 := pw_le h6
  refine xr_aload_n X 0 dX11_likeliest_0 rfl rfl ?_
  refine xr_get X fF_X11_26_10 heo rfl dX11_likeliest_1 ?_
  refine xr_callV X hto rfl kw_559 kw_560 kw_561 cw_X8_isNone [] (c_X8_isNone hto h6) rfl rfl rfl rfl rfl rfl rfl dX11_likeliest_4 ?_
  refine xr_if_eq (tgt := 15) X dX11_likeliest_7 (by decide) (fun c_7 => ?_) (fun c_7 => ?_)
  · have c_7 := of_decide_eq_false (xb_0.mp c_7)
    (try simp (disch := omega) only [nI_toInt, i32_add, i32_sub, i32_mul, i64_addl, i32_l, k32_0, k64_0] at c_7)
    refine xr_aload_n X 0 dX11_likeliest_15 rfl rfl ?_
    refine xr_get X fF_X11_37_10 heo rfl dX11_likeliest_16 ?_
    refine xr_aload_n X 0 dX11_likeliest_19 rfl rfl ?_
    refine xr_get X fF_X11_26_10 heo rfl dX11_likeliest_20 ?_
    refine xr_callV X hfo rfl kw_778 kw_779 kw_780 cw_X2_likeliestLetter [.ref w] (c_X2_likeliestLetter hfo hto htp h6 hP hb) rfl rfl rfl rfl rfl rfl rfl dX11_likeliest_23 ?_
    exact xr_iret X rfl (xv (by rw [a_likeliest, if_pos (by omega), li_eq])) rfl rfl rfl rfl dX11_likeliest_26
  · have c_7 := of_decide_eq_true (xb_1.mp c_7)
    (try simp (disch := omega) only [nI_toInt, i32_add, i32_sub, i32_mul, i64_addl, i32_l, k32_0, k64_0] at c_7)
    refine xr_ldc (v := (-1000002)) X kw_563 dX11_likeliest_10 ?_
    refine xr_goto (tgt := 26) X dX11_likeliest_12 (by decide) ?_
    exact xr_iret X rfl (xv (if_neg (by omega))) rfl rfl rfl rfl dX11_likeliest_26
theorem gcd_half {H L : Nat} {s : Nat} (hL : 0 < L) (hlt : L < H) (hs : s < 63) (h : H * L < 2 ^ (63 - s)) : L * (H % L) < 2 ^ (63 - (s + 1)) := by
  have h1 : 2 * (H % L) < H := by
    have h2 := Nat.mod_add_div H L
    have h3 := Nat.mod_lt H hL
    have h4 : 1 ≤ H / L := (Nat.one_le_div_iff hL).mpr (by omega)
    have h5 : L * 1 ≤ L * (H / L) := Nat.mul_le_mul_left L h4
    omega
  have h2 : 2 * (L * (H % L)) < 2 * 2 ^ (63 - (s + 1)) := by
    have e : 2 * 2 ^ (63 - (s + 1)) = 2 ^ (63 - s) := by
      rw [show 63 - s = (63 - (s + 1)) + 1 by omega, Nat.pow_succ, Nat.mul_comm]
    rw [e]
    refine Nat.lt_of_le_of_lt ?_ h
    have e2 : 2 * (L * (H % L)) = L * (2 * (H % L)) := by rw [Nat.mul_left_comm]
    rw [e2, Nat.mul_comm H L]
    exact Nat.mul_le_mul_left L (Nat.le_of_lt h1)
  omega
theorem gcd_end {H L : Nat} (hlt : L < H) (h : H * L < 2 ^ (63 - 63)) : L = 0 := by
  cases L with
  | zero => rfl
  | succ L =>
    have : 1 * 1 ≤ H * (L + 1) := Nat.mul_le_mul (by omega) (by omega)
    simp at h
    omega
theorem gcd_step {H L g : Nat} (hg : Nat.gcd H L = g) : Nat.gcd L (H % L) = g := by
  rw [← hg, Nat.gcd_comm H L, Nat.gcd_rec L H, Nat.gcd_comm]
set_option maxRecDepth 100000 in
theorem l_X11_cd {Γ : xΓ} {Ω : xW} {h : xH} {sz : Nat} (X : xX Γ Ω cX11_commonDivisor 6 RX11 "commonDivisor" (some .int) 0 0 0 0) {a0 b0 : Int32} {G : Nat}  : ∀ (j0 s H L : Nat), s + j0 = 63 → L < H → H < 2 ^ 31 → H * L < 2 ^ (63 - s) → Nat.gcd H L = G → L < 2 ^ 31 → xG Γ Ω 6 (xQ Γ Ω (some (.int (nI G))) h (sz) 0 0) 7 [(4, .int (nI s)), (2, .int (nI H)), (3, .int (nI L)), (0, .int a0), (1, .int b0)] ([]) h sz 0 0 := by
  intro j0
  induction j0 with
  | zero =>
    intro s H L hk h1 h2 h3 h4 hL0
    have ek : s = 63 := by omega
    have hz : L = 0 := gcd_end h1 (ek ▸ h3)
    refine xr_iload X 0 dX11_commonDivisor_7 rfl ?_
    refine xr_bipush (v := 64) X dX11_commonDivisor_9 (by decide) ?_
    refine xr_icmp_ge (tgt := 34) X dX11_commonDivisor_11 (by decide) (fun c_11 => absurd c_11 (by subst ek; decide)) (fun _ => ?_)
    refine xr_iload_n X 2 dX11_commonDivisor_14 rfl rfl ?_
    refine xr_if_eq (tgt := 34) X dX11_commonDivisor_15 (by decide) (fun _ => ?_) (fun c_15 => absurd (by rw [hz]; rfl) c_15)
    refine xr_iload_n X 1 dX11_commonDivisor_34 rfl rfl ?_
    exact xr_iret X rfl (by rw [show G = H from by rw [← h4, hz, Nat.gcd_zero_right]]) rfl rfl rfl rfl dX11_commonDivisor_35
  | succ j0 ih =>
    intro s H L hk h1 h2 h3 h4 hL0
    have lk : s < 63 := by omega
    refine xr_iload X 0 dX11_commonDivisor_7 rfl ?_
    refine xr_bipush (v := 64) X dX11_commonDivisor_9 (by decide) ?_
    refine xr_icmp_ge (tgt := 34) X dX11_commonDivisor_11 (by decide) (fun c_11 => absurd c_11 (by rw [i32_le, k32_64, nI_toInt (by omega)]; omega)) (fun _ => ?_)
    refine xr_iload_n X 2 dX11_commonDivisor_14 rfl rfl ?_
    refine xr_if_eq (tgt := 34) X dX11_commonDivisor_15 (by decide) (fun c_15 => ?_) (fun c_15 => ?_)
    · have c9 : L = 0 := by have c8 := i32_eq.mp c_15; rw [nI_toInt (by omega), k32_0] at c8; omega
      refine xr_iload_n X 1 dX11_commonDivisor_34 rfl rfl ?_
      exact xr_iret X rfl (by rw [show G = H from by rw [← h4, c9, Nat.gcd_zero_right]]) rfl rfl rfl rfl dX11_commonDivisor_35
    · have c9 : 0 < L := Nat.pos_of_ne_zero (fun q => c_15 (by rw [q]; rfl))
      refine xr_iload_n X 1 dX11_commonDivisor_18 rfl rfl ?_
      refine xr_iload_n X 2 dX11_commonDivisor_19 rfl rfl ?_
      refine xr_irem X dX11_commonDivisor_20 c_15 ?_
      refine xr_top (y := (nI (H % L))) (pk_rem (by omega) c9 (by omega)) ?_
      refine xr_istore (lv' := [(5, .int (nI (H % L))), (4, .int (nI s)), (2, .int (nI H)), (3, .int (nI L)), (0, .int a0), (1, .int b0)]) X dX11_commonDivisor_21 rfl rfl ?_
      refine xr_iload_n X 3 dX11_commonDivisor_23 rfl rfl ?_
      refine xr_istore_n (lv' := [(2, .int (nI L)), (5, .int (nI (H % L))), (4, .int (nI s)), (3, .int (nI L)), (0, .int a0), (1, .int b0)]) X dX11_commonDivisor_24 rfl rfl rfl ?_
      refine xr_iload X 1 dX11_commonDivisor_25 rfl ?_
      refine xr_istore_n (lv' := [(3, .int (nI (H % L))), (2, .int (nI L)), (5, .int (nI (H % L))), (4, .int (nI s)), (0, .int a0), (1, .int b0)]) X dX11_commonDivisor_27 rfl rfl rfl ?_
      refine xr_iinc (v := nI (s + 1)) (lv' := [(4, .int (nI (s + 1))), (3, .int (nI (H % L))), (2, .int (nI L)), (5, .int (nI (H % L))), (0, .int a0), (1, .int b0)]) X 3 dX11_commonDivisor_28 rfl (nI_1 _) rfl rfl ?_
      refine xr_goto (tgt := 7) X dX11_commonDivisor_31 (by decide) ?_
      refine xr_locs (lv' := [(4, .int (nI (s + 1))), (2, .int (nI L)), (3, .int (nI (H % L))), (0, .int a0), (1, .int b0)]) [0, 2, 1, 4, 5] rfl ?_
      exact ih (s + 1) L (H % L) (by omega) (Nat.mod_lt _ c9) (by omega) (gcd_half c9 h1 (by omega) h3) (gcd_step h4) (by have := Nat.mod_lt H c9; omega)
set_option maxRecDepth 100000 in
theorem c_X11_commonDivisor {l : Launch} {Ω : xW} {h : xH} {sz : Nat} {x y : Nat} (hx : x ≤ 1000000) (hy : 0 < y) (hy2 : y ≤ 1000000) : xC l Ω yX11_commonDivisor cX11_commonDivisor 6 (some .int) 0 0 0 [.int (nI x), .int (nI y)] h sz (some (.int (nI (Nat.gcd x y)))) h (sz) := by
  refine xC_of (lv := [(0, .int (nI x)), (1, .int (nI y))]) pn_X11 rfl rfl (fun Γ X hΓ hbs => ?_)
  have X : xX Γ Ω cX11_commonDivisor 6 RX11 "commonDivisor" (some .int) 0 0 0 0 := X
  subst hΓ
  refine xr_iload_n X 0 dX11_commonDivisor_0 rfl rfl ?_
  refine xr_istore_n (lv' := [(2, .int (nI x)), (0, .int (nI x)), (1, .int (nI y))]) X dX11_commonDivisor_1 rfl rfl rfl ?_
  refine xr_iload_n X 2 dX11_commonDivisor_2 rfl rfl ?_
  refine xr_istore_n (lv' := [(3, .int (nI y)), (2, .int (nI x)), (0, .int (nI x)), (1, .int (nI y))]) X dX11_commonDivisor_3 rfl rfl rfl ?_
  refine xr_iconst (v := 0) X dX11_commonDivisor_4 (by decide) ?_
  refine xr_istore (lv' := [(4, .int 0), (3, .int (nI y)), (2, .int (nI x)), (0, .int (nI x)), (1, .int (nI y))]) X dX11_commonDivisor_5 rfl rfl ?_
  refine xr_iload X 0 dX11_commonDivisor_7 rfl ?_
  refine xr_bipush (v := 64) X dX11_commonDivisor_9 (by decide) ?_
  refine xr_icmp_ge (tgt := 34) X dX11_commonDivisor_11 (by decide) (fun c_11 => absurd c_11 (by decide)) (fun _ => ?_)
  refine xr_iload_n X 1 dX11_commonDivisor_14 rfl rfl ?_
  refine xr_if_eq (tgt := 34) X dX11_commonDivisor_15 (by decide) (fun c_15 => absurd c_15 (nI_ne0 hy (by omega))) (fun _ => ?_)
  refine xr_iload_n X 2 dX11_commonDivisor_18 rfl rfl ?_
  refine xr_iload_n X 1 dX11_commonDivisor_19 rfl rfl ?_
  refine xr_irem X dX11_commonDivisor_20 (nI_ne0 hy (by omega)) ?_
  refine xr_top (y := (nI (x % y))) (pk_rem (by omega) hy (by omega)) ?_
  refine xr_istore (lv' := [(5, .int (nI (x % y))), (4, .int 0), (3, .int (nI y)), (2, .int (nI x)), (0, .int (nI x)), (1, .int (nI y))]) X dX11_commonDivisor_21 rfl rfl ?_
  refine xr_iload_n X 2 dX11_commonDivisor_23 rfl rfl ?_
  refine xr_istore_n (lv' := [(2, .int (nI y)), (5, .int (nI (x % y))), (4, .int 0), (3, .int (nI y)), (0, .int (nI x)), (1, .int (nI y))]) X dX11_commonDivisor_24 rfl rfl rfl ?_
  refine xr_iload X 1 dX11_commonDivisor_25 rfl ?_
  refine xr_istore_n (lv' := [(3, .int (nI (x % y))), (2, .int (nI y)), (5, .int (nI (x % y))), (4, .int 0), (0, .int (nI x)), (1, .int (nI y))]) X dX11_commonDivisor_27 rfl rfl rfl ?_
  refine xr_iinc (v := 1) (lv' := [(4, .int 1), (3, .int (nI (x % y))), (2, .int (nI y)), (5, .int (nI (x % y))), (0, .int (nI x)), (1, .int (nI y))]) X 3 dX11_commonDivisor_28 rfl (by decide) rfl rfl ?_
  refine xr_goto (tgt := 7) X dX11_commonDivisor_31 (by decide) ?_
  refine xr_locs (lv' := [(4, .int 1), (2, .int (nI y)), (3, .int (nI (x % y))), (0, .int (nI x)), (1, .int (nI y))]) [0, 2, 1, 4, 5] rfl ?_
  refine l_X11_cd X 62 1 y (x % y) (by omega) (Nat.mod_lt _ hy) (by omega) ?_ (gcd_step rfl) (by have := Nat.mod_lt x hy; omega)
  have hm := Nat.mod_lt x hy
  have h1 : y * (x % y) ≤ 1000000 * 1000000 := Nat.mul_le_mul (by omega) (by omega)
  have h2 : 1000000 * 1000000 < 2 ^ (63 - 1) := by decide
  omega
set_option maxRecDepth 100000 in
theorem c_X11_comes {l : Launch} {Ω : xW} {h : xH} {sz : Nat} {e w : Nat} {ac st : Int32} {B np day b : Nat} {kd wh mn : Nat → Nat} {pf : Nat → Option Nat} {l3 s v : Int32} (heo : h e = some (eO e w ac st)) (hw : w = e + 16) (hfo : h (e + 20) = some (.inr (2, [.ref (e + 21)]))) (hto : h w = some (tO w (nI np) (nI day) (nI b) (nI (moM kd np)))) (htp : h (w + 1) = some (.inl (.object "EvePost$Person", 6, .inr (.inr (.inr (.inr pf)))))) (h6 : np ≤ 6) (hP : PW B h pf np kd wh mn) (hb : b < 2 ^ np) : xC l Ω yX11_comes cX11_comes 7 (some .int) 4 0 0 [.ref e, .int l3, .int s, .int v] h sz (some (.int (a_comes kd wh mn np b l3 s v))) h (sz) := by
  refine xC_of (lv := [(0, .ref e), (1, .int l3), (2, .int s), (3, .int v)]) pn_X11 rfl rfl (fun Γ X hΓ hbs => ?_)
  have X : xX Γ Ω cX11_comes 7 RX11 "comes" (some .int) 4 140 0 0 := X
  subst hΓ
  have h64 := pw_le h6
  have t6 := ten6 h6
  have t0 : 0 < 10 ^ np := Nat.pow_pos (by omega)
  refine xr_aload_n X 0 dX11_comes_0 rfl rfl ?_
  refine xr_get X fF_X11_26_10 heo rfl dX11_comes_1 ?_
  refine xr_callV X hto rfl kw_559 kw_560 kw_561 cw_X8_isNone [] (c_X8_isNone hto h6) rfl rfl rfl rfl rfl rfl rfl dX11_comes_4 ?_
  refine xr_if_eq (tgt := 13) X dX11_comes_7 (by decide) (fun c_7 => ?_) (fun c_7 => ?_)
  · have c_7 := of_decide_eq_false (xb_0.mp c_7)
    (try simp (disch := omega) only [nI_toInt, i32_add, i32_sub, i32_mul, i64_addl, i32_l, k32_0, k64_0] at c_7)
    refine xr_aload_n X 0 dX11_comes_13 rfl rfl ?_
    refine xr_get X fF_X11_26_10 heo rfl dX11_comes_14 ?_
    refine xr_iload_n X 1 dX11_comes_17 rfl rfl ?_
    refine xr_callV X hto rfl kw_564 kw_565 kw_566 cw_X8_isSet [.int l3] (c_X8_isSet hto h6) rfl rfl rfl rfl rfl rfl rfl dX11_comes_18 ?_
    refine xr_if_eq (tgt := 44) X dX11_comes_21 (by decide) (fun c_21 => ?_) (fun c_21 => ?_)
    · have c_21 := of_decide_eq_false (xb_0.mp c_21)
      (try simp (disch := omega) only [nI_toInt, i32_add, i32_sub, i32_mul, i64_addl, i32_l, k32_0, k32_2, k64_0, k64_2] at c_21)
      refine xr_ldc (v := (-1000001)) X kw_226 dX11_comes_44 ?_
      exact xr_iret X rfl (xv ((if_pos (by omega)).trans (if_neg (by omega)))) rfl rfl rfl rfl dX11_comes_46
    · have c_21 := of_decide_eq_true (xb_1.mp c_21)
      (try simp (disch := omega) only [nI_toInt, i32_add, i32_sub, i32_mul, i64_addl, i32_l, k32_0, k32_2, k64_0, k64_2] at c_21)
      refine xr_aload_n X 0 dX11_comes_24 rfl rfl ?_
      refine xr_get X fF_X11_26_10 heo rfl dX11_comes_25 ?_
      refine xr_iload_n X 2 dX11_comes_28 rfl rfl ?_
      refine xr_callV X hto rfl kw_564 kw_565 kw_566 cw_X8_isSet [.int s] (c_X8_isSet hto h6) rfl rfl rfl rfl rfl rfl rfl dX11_comes_29 ?_
      refine xr_if_eq (tgt := 44) X dX11_comes_32 (by decide) (fun c_32 => ?_) (fun c_32 => ?_)
      · have c_32 := of_decide_eq_false (xb_0.mp c_32)
        (try simp (disch := omega) only [nI_toInt, i32_add, i32_sub, i32_mul, i64_addl, i32_l, k32_0, k32_2, k64_0, k64_2] at c_32)
        refine xr_ldc (v := (-1000001)) X kw_226 dX11_comes_44 ?_
        exact xr_iret X rfl (xv ((if_pos (by omega)).trans (if_neg (by omega)))) rfl rfl rfl rfl dX11_comes_46
      · have c_32 := of_decide_eq_true (xb_1.mp c_32)
        (try simp (disch := omega) only [nI_toInt, i32_add, i32_sub, i32_mul, i64_addl, i32_l, k32_0, k32_2, k64_0, k64_2] at c_32)
        refine xr_iload_n X 3 dX11_comes_35 rfl rfl ?_
        refine xr_if_lt (tgt := 44) X dX11_comes_36 (by decide) (fun c_36 => ?_) (fun c_36 => ?_)
        · have c_36 := i32_lt.mp c_36
          (try simp (disch := omega) only [nI_toInt, i32_add, i32_sub, i32_mul, i64_addl, i32_l, k32_0, k64_0] at c_36)
          refine xr_ldc (v := (-1000001)) X kw_226 dX11_comes_44 ?_
          exact xr_iret X rfl (xv ((if_pos (by omega)).trans (if_neg (by omega)))) rfl rfl rfl rfl dX11_comes_46
        · have c_36 := mt i32_lt.mpr c_36
          (try simp (disch := omega) only [nI_toInt, i32_add, i32_sub, i32_mul, i64_addl, i32_l, k32_0, k64_0] at c_36)
          have tn_l3 := (i32_tn (x := l3) (by omega)).2
          have tn_s := (i32_tn (x := s) (by omega)).2
          have cle : prB (odT kd wh mn b l3.toNatClampNeg s.toNatClampNeg) np ≤ 10 ^ np := odT_le hP.mn
          have gpo : 0 < Nat.gcd (prB (odT kd wh mn b l3.toNatClampNeg s.toNatClampNeg) np) (10 ^ np) := Nat.gcd_pos_of_pos_right _ t0
          have gle : Nat.gcd (prB (odT kd wh mn b l3.toNatClampNeg s.toNatClampNeg) np) (10 ^ np) ≤ 10 ^ np := Nat.gcd_le_right _ t0
          refine xr_iload_n X 3 dX11_comes_39 rfl rfl ?_
          refine xr_iconst (v := 1) X dX11_comes_40 (by decide) ?_
          refine xr_icmp_le (tgt := 47) X dX11_comes_41 (by decide) (fun c_41 => ?_) (fun c_41 => ?_)
          · have c_41 := i32_le.mp c_41
            (try simp (disch := omega) only [nI_toInt, i32_add, i32_sub, i32_mul, i64_addl, i32_l, k32_1, k64_1] at c_41)
            refine xr_aload_n X 0 dX11_comes_47 rfl rfl ?_
            refine xr_get X fF_X11_26_10 heo rfl dX11_comes_48 ?_
            refine xr_iload_n X 1 dX11_comes_51 rfl rfl ?_
            refine xr_top (y := (nI (l3.toNatClampNeg))) ((i32_tn (by omega)).1) ?_
            refine xr_iload_n X 2 dX11_comes_52 rfl rfl ?_
            refine xr_top (y := (nI (s.toNatClampNeg))) ((i32_tn (by omega)).1) ?_
            refine xr_callV X hto rfl kw_746 kw_747 kw_748 cw_X8_chances [.int (nI (l3.toNatClampNeg)), .int (nI (s.toNatClampNeg))] (c_X8_chances (lt := l3.toNatClampNeg) (s2 := s.toNatClampNeg) hto htp h6 hP (by omega) (by omega) (by omega)) rfl rfl rfl rfl rfl rfl rfl dX11_comes_53 ?_
            refine xr_istore (lv' := [(4, .int (nI (prB (odT kd wh mn b l3.toNatClampNeg s.toNatClampNeg) np))), (0, .ref e), (1, .int l3), (2, .int s), (3, .int v)]) X dX11_comes_56 rfl rfl ?_
            refine xr_aload_n X 1 dX11_comes_58 rfl rfl ?_
            refine xr_get X fF_X11_26_10 heo rfl dX11_comes_59 ?_
            refine xr_callV X hto rfl kw_767 kw_768 kw_769 cw_X8_allChances [] (c_X8_allChances hto h6) rfl rfl rfl rfl rfl rfl rfl dX11_comes_62 ?_
            refine xr_istore (lv' := [(5, .int (nI (10 ^ np))), (4, .int (nI (prB (odT kd wh mn b l3.toNatClampNeg s.toNatClampNeg) np))), (0, .ref e), (1, .int l3), (2, .int s), (3, .int v)]) X dX11_comes_65 rfl rfl ?_
            refine xr_iload X 1 dX11_comes_67 rfl ?_
            refine xr_iload X 0 dX11_comes_69 rfl ?_
            refine xr_callS X kw_771 kw_772 cw_X11_commonDivisor [.int (nI (prB (odT kd wh mn b l3.toNatClampNeg s.toNatClampNeg) np)), .int (nI (10 ^ np))] (c_X11_commonDivisor (x := prB (odT kd wh mn b l3.toNatClampNeg s.toNatClampNeg) np) (y := 10 ^ np) (by omega) t0 (by omega)) rfl rfl rfl rfl rfl rfl rfl dX11_comes_71 ?_
            refine xr_istore (lv' := [(6, .int (nI (Nat.gcd (prB (odT kd wh mn b l3.toNatClampNeg s.toNatClampNeg) np) (10 ^ np)))), (5, .int (nI (10 ^ np))), (4, .int (nI (prB (odT kd wh mn b l3.toNatClampNeg s.toNatClampNeg) np))), (0, .ref e), (1, .int l3), (2, .int s), (3, .int v)]) X dX11_comes_74 rfl rfl ?_
            refine xr_iload X 0 dX11_comes_76 rfl ?_
            refine xr_iconst (v := 1) X dX11_comes_78 (by decide) ?_
            refine xr_icmp_ge (tgt := 85) X dX11_comes_79 (by decide) (fun _ => ?_) (fun c_79 => absurd (by rw [i32_le, k32_1, nI_toInt (by omega)]; omega) c_79)
            refine xr_iload_n X 6 dX11_comes_85 rfl rfl ?_
            refine xr_if_ne (tgt := 94) X dX11_comes_86 (by decide) (fun c_86 => ?_) (fun c_86 => ?_)
            · have c_86 := mt i32_eq.mpr c_86
              (try simp (disch := omega) only [nI_toInt, i32_add, i32_sub, i32_mul, i64_addl, i32_l, k32_0, k64_0] at c_86)
              refine xr_iload X 1 dX11_comes_94 rfl ?_
              refine xr_iload X 0 dX11_comes_96 rfl ?_
              refine xr_idiv X dX11_comes_98 (nI_ne0 gpo (by omega)) ?_
              exact xr_iret X rfl (xv (by rw [a_comes, if_pos (by omega), if_pos (by omega), if_neg (by omega), ← (q_od (a := ods kd wh mn np b l3.toNatClampNeg s.toNatClampNeg) (b := odi kd np) (nlT_pos kd np)).2, ← odT_od, ← ten_od, pk_div (by omega) (by omega) (by omega)])) rfl rfl rfl rfl dX11_comes_99
            · have c_86 := i32_eq.mp c_86
              (try simp (disch := omega) only [nI_toInt, i32_add, i32_sub, i32_mul, i64_addl, i32_l, k32_0, k64_0] at c_86)
              refine xr_iload X 2 dX11_comes_89 rfl ?_
              refine xr_goto (tgt := 96) X dX11_comes_91 (by decide) ?_
              refine xr_iload X 0 dX11_comes_96 rfl ?_
              refine xr_idiv X dX11_comes_98 (nI_ne0 gpo (by omega)) ?_
              exact xr_iret X rfl (xv (by rw [a_comes, if_pos (by omega), if_pos (by omega), if_pos (by omega), ← (q_od (a := ods kd wh mn np b l3.toNatClampNeg s.toNatClampNeg) (b := odi kd np) (nlT_pos kd np)).1, ← odT_od, ← ten_od, pk_div (by omega) (by omega) (by omega)])) rfl rfl rfl rfl dX11_comes_99
          · have c_41 := mt i32_le.mpr c_41
            (try simp (disch := omega) only [nI_toInt, i32_add, i32_sub, i32_mul, i64_addl, i32_l, k32_1, k64_1] at c_41)
            refine xr_ldc (v := (-1000001)) X kw_226 dX11_comes_44 ?_
            exact xr_iret X rfl (xv ((if_pos (by omega)).trans (if_neg (by omega)))) rfl rfl rfl rfl dX11_comes_46
  · have c_7 := of_decide_eq_true (xb_1.mp c_7)
    (try simp (disch := omega) only [nI_toInt, i32_add, i32_sub, i32_mul, i64_addl, i32_l, k32_0, k64_0] at c_7)
    refine xr_ldc (v := (-1000002)) X kw_563 dX11_comes_10 ?_
    exact xr_iret X rfl (xv (if_neg (by omega))) rfl rfl rfl rfl dX11_comes_12
