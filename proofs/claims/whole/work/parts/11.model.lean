set_option maxRecDepth 100000 in
theorem c_X12_isThere {l : Launch} {Ω : xW} {h : xH} {sz : Nat} {m : Nat} {st ac tp la le cu tk sa ti fa fl tr : Int32} {t : Nat → Int32} {np day b : Nat} {kd wh mn : Nat → Nat} (hm : h m = some (mO m st ac tp la le cu tk sa ti fa fl tr)) (ht : h (m + 4) = some (.inl (.int, 21, .inl t))) (T : tOK t np kd wh mn day b) : xC l Ω yX12_isThere cX12_isThere 1 (some .boolean) 0 0 0 [.ref m] h sz (some (.int (xb (decide (0 < np))))) h (sz) := by
  refine xC_of (lv := [(0, .ref m)]) pn_X12 rfl rfl (fun Γ X hΓ hbs => ?_)
  have X : xX Γ Ω cX12_isThere 1 RX12 "isThere" (some .boolean) 0 0 0 0 := X
  subst hΓ
  have h6 := T.1
  refine xr_aload_n X 0 dX12_isThere_0 rfl rfl ?_
  refine xr_get X fF_X12_19_11 hm rfl dX12_isThere_1 ?_
  refine xr_iconst (v := 0) X dX12_isThere_4 (by decide) ?_
  refine xr_iald (j := 0) X ht (xI_e (by decide) (by omega) (by omega)) dX12_isThere_5 ?_
  refine xr_top (y := (nI np)) T.2.1 ?_
  refine xr_if_le (tgt := 13) X dX12_isThere_6 (by decide) (fun c_6 => ?_) (fun c_6 => ?_)
  · have c_6 := i32_le.mp c_6
    (try simp (disch := omega) only [nI_toInt, i32_add, i32_sub, i32_mul, i64_addl, i32_l, k32_0, k64_0] at c_6)
    refine xr_iconst (v := 0) X dX12_isThere_13 (by decide) ?_
    exact xr_zret X rfl rfl (by first | exact xbT (by omega) | exact xbF (by omega)) rfl rfl rfl rfl dX12_isThere_14
  · have c_6 := mt i32_le.mpr c_6
    (try simp (disch := omega) only [nI_toInt, i32_add, i32_sub, i32_mul, i64_addl, i32_l, k32_0, k64_0] at c_6)
    refine xr_iconst (v := 1) X dX12_isThere_9 (by decide) ?_
    refine xr_goto (tgt := 14) X dX12_isThere_10 (by decide) ?_
    exact xr_zret X rfl rfl (by first | exact xbT (by omega) | exact xbF (by omega)) rfl rfl rfl rfl dX12_isThere_14
set_option maxRecDepth 100000 in
theorem c_X12_isPerson {l : Launch} {Ω : xW} {h : xH} {sz : Nat} {m : Nat} {st ac tp la le cu tk sa ti fa fl tr : Int32} {t : Nat → Int32} {np day b : Nat} {kd wh mn : Nat → Nat} {p : Int32} (hm : h m = some (mO m st ac tp la le cu tk sa ti fa fl tr)) (ht : h (m + 4) = some (.inl (.int, 21, .inl t))) (T : tOK t np kd wh mn day b) : xC l Ω yX12_isPerson cX12_isPerson 2 (some .boolean) 1 0 0 [.ref m, .int p] h sz (some (.int (xb (decide (0 ≤ p.toInt ∧ p.toInt < np))))) h (sz) := by
  refine xC_of (lv := [(0, .ref m), (1, .int p)]) pn_X12 rfl rfl (fun Γ X hΓ hbs => ?_)
  have X : xX Γ Ω cX12_isPerson 2 RX12 "isPerson" (some .boolean) 1 35 0 0 := X
  subst hΓ
  have h6 := T.1
  refine xr_iload_n X 1 dX12_isPerson_0 rfl rfl ?_
  refine xr_i2l X dX12_isPerson_1 ?_
  refine xr_lconst (v := 0) X dX12_isPerson_2 (by decide) ?_
  refine xr_aload_n X 0 dX12_isPerson_3 rfl rfl ?_
  refine xr_get X fF_X12_19_11 hm rfl dX12_isPerson_4 ?_
  refine xr_iconst (v := 0) X dX12_isPerson_7 (by decide) ?_
  refine xr_iald (j := 0) X ht (xI_e (by decide) (by omega) (by omega)) dX12_isPerson_8 ?_
  refine xr_top (y := (nI np)) T.2.1 ?_
  refine xr_iconst (v := 1) X dX12_isPerson_9 (by decide) ?_
  refine xr_isub X dX12_isPerson_10 ?_
  refine xr_i2l X dX12_isPerson_11 ?_
  refine xr_callS X kw_1027 kw_1028 cw_X12_in [.long p.toInt64, .long 0, .long (((nI np) - 1).toInt64)] c_X12_in rfl rfl rfl rfl rfl rfl rfl dX12_isPerson_12 ?_
  exact xr_zret X rfl (xb_nar _) (by have e : (nI np - 1).toInt = (np : Int) - 1 := (by rw [i32_sub (by rw [nI_toInt (by omega), k32_1]; omega) (by rw [nI_toInt (by omega), k32_1]; omega), nI_toInt (by omega), k32_1]); simp only [i32_l, k64_0, e]; congr 3; apply decide_eq_decide.mpr; omega) rfl rfl rfl rfl dX12_isPerson_15
set_option maxRecDepth 100000 in
theorem c_X12_all {l : Launch} {Ω : xW} {h : xH} {sz : Nat} {m : Nat} {st ac tp la le cu tk sa ti fa fl tr : Int32} {t : Nat → Int32} {np day b : Nat} {kd wh mn : Nat → Nat} (hm : h m = some (mO m st ac tp la le cu tk sa ti fa fl tr)) (ht : h (m + 4) = some (.inl (.int, 21, .inl t))) (T : tOK t np kd wh mn day b) : xC l Ω yX12_all cX12_all 1 (some .int) 0 0 0 [.ref m] h sz (some (.int (nI (2 ^ np - 1)))) h (sz) := by
  refine xC_of (lv := [(0, .ref m)]) pn_X12 rfl rfl (fun Γ X hΓ hbs => ?_)
  have X : xX Γ Ω cX12_all 1 RX12 "all" (some .int) 0 0 0 0 := X
  subst hΓ
  have h6 := T.1
  refine xr_iconst (v := 1) X dX12_all_0 (by decide) ?_
  refine xr_aload_n X 0 dX12_all_1 rfl rfl ?_
  refine xr_get X fF_X12_19_11 hm rfl dX12_all_2 ?_
  refine xr_iconst (v := 0) X dX12_all_5 (by decide) ?_
  refine xr_iald (j := 0) X ht (xI_e (by decide) (by omega) (by omega)) dX12_all_6 ?_
  refine xr_top (y := (nI np)) T.2.1 ?_
  refine xr_ishl X dX12_all_7 ?_
  refine xr_top (y := (nI (2 ^ np))) (pw6 _ h6) ?_
  refine xr_iconst (v := 1) X dX12_all_8 (by decide) ?_
  refine xr_isub X dX12_all_9 ?_
  exact xr_iret X rfl (xv (by have h := Nat.two_pow_pos np; rw [show (1 : Int32) = nI 1 from rfl, pk_sub (by omega)])) rfl rfl rfl rfl dX12_all_10
set_option maxRecDepth 100000 in
theorem c_X12_isSet {l : Launch} {Ω : xW} {h : xH} {sz : Nat} {m : Nat} {st ac tp la le cu tk sa ti fa fl tr : Int32} {t : Nat → Int32} {np day b : Nat} {kd wh mn : Nat → Nat} {s : Int32} (hm : h m = some (mO m st ac tp la le cu tk sa ti fa fl tr)) (ht : h (m + 4) = some (.inl (.int, 21, .inl t))) (T : tOK t np kd wh mn day b) : xC l Ω yX12_isSet cX12_isSet 2 (some .boolean) 1 0 0 [.ref m, .int s] h sz (some (.int (xb (decide (0 ≤ s.toInt ∧ s.toInt < (2 ^ np : Nat)))))) h (sz) := by
  refine xC_of (lv := [(0, .ref m), (1, .int s)]) pn_X12 rfl rfl (fun Γ X hΓ hbs => ?_)
  have X : xX Γ Ω cX12_isSet 2 RX12 "isSet" (some .boolean) 1 35 0 0 := X
  subst hΓ
  have h6 := T.1
  have h64 := pw_le h6
  have hp := Nat.two_pow_pos np
  refine xr_iload_n X 1 dX12_isSet_0 rfl rfl ?_
  refine xr_i2l X dX12_isSet_1 ?_
  refine xr_lconst (v := 0) X dX12_isSet_2 (by decide) ?_
  refine xr_aload_n X 0 dX12_isSet_3 rfl rfl ?_
  refine xr_callV X hm rfl kw_1130 kw_1132 kw_33 cw_X12_all [] (c_X12_all hm ht T) rfl rfl rfl rfl rfl rfl rfl dX12_isSet_4 ?_
  refine xr_i2l X dX12_isSet_7 ?_
  refine xr_callS X kw_1027 kw_1028 cw_X12_in [.long s.toInt64, .long 0, .long ((nI (2 ^ np - 1)).toInt64)] c_X12_in rfl rfl rfl rfl rfl rfl rfl dX12_isSet_8 ?_
  exact xr_zret X rfl (xb_nar _) (by simp only [i32_l, k64_0, nI_toInt (show 2 ^ np - 1 < 2 ^ 31 by omega)]; congr 3; apply decide_eq_decide.mpr; omega) rfl rfl rfl rfl dX12_isSet_11
set_option maxRecDepth 100000 in
theorem c_X12_of {l : Launch} {Ω : xW} {h : xH} {sz : Nat} {m : Nat} {st ac tp la le cu tk sa ti fa fl tr : Int32} {t : Nat → Int32} {p2 w2 : Int32} {p w : Nat} (hm : h m = some (mO m st ac tp la le cu tk sa ti fa fl tr)) (ht : h (m + 4) = some (.inl (.int, 21, .inl t))) (ep : p2.toInt = (p : Int)) (ew : w2.toInt = (w : Int)) (hpw : 3 + 3 * p + w < 21) : xC l Ω yX12_of cX12_of 3 (some .int) 0 0 0 [.ref m, .int p2, .int w2] h sz (some (.int (t (3 + 3 * p + w)))) h (sz) := by
  refine xC_of (lv := [(0, .ref m), (1, .int p2), (2, .int w2)]) pn_X12 rfl rfl (fun Γ X hΓ hbs => ?_)
  have X : xX Γ Ω cX12_of 3 RX12 "of" (some .int) 0 0 0 0 := X
  subst hΓ
  refine xr_aload_n X 0 dX12_of_0 rfl rfl ?_
  refine xr_get X fF_X12_19_11 hm rfl dX12_of_1 ?_
  refine xr_iconst (v := 3) X dX12_of_4 (by decide) ?_
  refine xr_iconst (v := 3) X dX12_of_5 (by decide) ?_
  refine xr_iload_n X 1 dX12_of_6 rfl rfl ?_
  refine xr_imul X dX12_of_7 ?_
  refine xr_iadd X dX12_of_8 ?_
  refine xr_iload_n X 2 dX12_of_9 rfl rfl ?_
  refine xr_iadd X dX12_of_10 ?_
  refine xr_iald (j := (3 + 3 * p + w)) X ht (xI_i (by have e1 : (3 * p2).toInt = 3 * p2.toInt := by { rw [i32_mul (by rw [k32_3]; omega) (by rw [k32_3]; omega), k32_3] }; have e2 : (3 + 3 * p2).toInt = 3 + 3 * p2.toInt := by { rw [i32_add (by rw [k32_3]; omega) (by rw [k32_3]; omega), k32_3, e1] }; rw [i32_add (by omega) (by omega)]; omega) hpw) dX12_of_11 ?_
  exact xr_iret X rfl rfl rfl rfl rfl rfl dX12_of_12
set_option maxRecDepth 100000 in
theorem l_X12_bits {Γ : xΓ} {Ω : xW} {h : xH} {sz : Nat} (X : xX Γ Ω cX12_bits 3 RX12 "bits" (some .int) 0 0 0 0) {l2 : Nat} (hl : l2 < 2 ^ 31) : ∀ (j0 k : Nat), k + j0 = 6 → xG Γ Ω 3 (xQ Γ Ω (some (.int (nI (bcn l2 6)))) h (sz) 0 0) 4 [(2, .int (nI k)), (1, .int (nI (bcn l2 k))), (0, .int (nI l2))] ([]) h sz 0 0 := by
  intro j0
  induction j0 with
  | zero =>
    intro k hk
    have ek : k = 6 := by omega
    refine xr_iload_n X 0 dX12_bits_4 rfl rfl ?_
    refine xr_bipush (v := 6) X dX12_bits_5 (by decide) ?_
    refine xr_icmp_ge (tgt := 24) X dX12_bits_7 (by decide) (fun _ => ?_) (fun c_7 => absurd (by subst ek; decide) c_7)
    refine xr_iload_n X 1 dX12_bits_24 rfl rfl ?_
    exact xr_iret X rfl (by rw [ek]) rfl rfl rfl rfl dX12_bits_25
  | succ j0 ih =>
    intro k hk
    have lk : k < 6 := by omega
    refine xr_iload_n X 0 dX12_bits_4 rfl rfl ?_
    refine xr_bipush (v := 6) X dX12_bits_5 (by decide) ?_
    refine xr_icmp_ge (tgt := 24) X dX12_bits_7 (by decide) (fun c_7 => absurd c_7 (by rw [i32_le, k32_6, nI_toInt (by omega)]; omega)) (fun _ => ?_)
    refine xr_iload_n X 1 dX12_bits_10 rfl rfl ?_
    refine xr_iload_n X 2 dX12_bits_11 rfl rfl ?_
    refine xr_iload_n X 0 dX12_bits_12 rfl rfl ?_
    refine xr_ishr X dX12_bits_13 ?_
    refine xr_iconst (v := 1) X dX12_bits_14 (by decide) ?_
    refine xr_iand X dX12_bits_15 ?_
    refine xr_top (y := (xb (l2.testBit k))) (bt_n hl (by omega)) ?_
    refine xr_iadd X dX12_bits_16 ?_
    refine xr_top (y := (nI (bcn l2 (k + 1)))) (by rw [bcn, ← nI_add]; cases l2.testBit k <;> rfl) ?_
    refine xr_istore_n (lv' := [(1, .int (nI (bcn l2 (k + 1)))), (2, .int (nI k)), (0, .int (nI l2))]) X dX12_bits_17 rfl rfl rfl ?_
    refine xr_iinc (v := nI (k + 1)) (lv' := [(2, .int (nI (k + 1))), (1, .int (nI (bcn l2 (k + 1)))), (0, .int (nI l2))]) X 1 dX12_bits_18 rfl (nI_1 _) rfl rfl ?_
    refine xr_goto (tgt := 4) X dX12_bits_21 (by decide) ?_
    refine xr_locs [0, 1, 2] rfl ?_
    exact ih (k + 1) (by omega)
set_option maxRecDepth 100000 in
theorem c_X12_bits {l : Launch} {Ω : xW} {h : xH} {sz : Nat} {l2 : Nat} (hl : l2 < 2 ^ 31) : xC l Ω yX12_bits cX12_bits 3 (some .int) 0 0 0 [.int (nI l2)] h sz (some (.int (nI (bcn l2 6)))) h (sz) := by
  refine xC_of (lv := [(0, .int (nI l2))]) pn_X12 rfl rfl (fun Γ X hΓ hbs => ?_)
  have X : xX Γ Ω cX12_bits 3 RX12 "bits" (some .int) 0 0 0 0 := X
  subst hΓ
  refine xr_iconst (v := 0) X dX12_bits_0 (by decide) ?_
  refine xr_istore_n (lv' := [(1, .int 0), (0, .int (nI l2))]) X dX12_bits_1 rfl rfl rfl ?_
  refine xr_iconst (v := 0) X dX12_bits_2 (by decide) ?_
  refine xr_istore_n (lv' := [(2, .int 0), (1, .int 0), (0, .int (nI l2))]) X dX12_bits_3 rfl rfl rfl ?_
  exact l_X12_bits X hl 6 0 rfl
set_option maxRecDepth 100000 in
theorem c_X12_doesIt {l : Launch} {Ω : xW} {h : xH} {sz : Nat} {m : Nat} {st ac tp la le cu tk sa ti fa fl tr : Int32} {t : Nat → Int32} {np day b : Nat} {kd wh mn : Nat → Nat} {p l2 b2 : Nat} (hm : h m = some (mO m st ac tp la le cu tk sa ti fa fl tr)) (ht : h (m + 4) = some (.inl (.int, 21, .inl t))) (T : tOK t np kd wh mn day b) (hp : p < np) (hl : l2 < 64) (hb : b2 < 64) : xC l Ω yX12_doesIt cX12_doesIt 5 (some .boolean) 1 0 0 [.ref m, .int (nI p), .int (nI l2), .int (nI b2)] h sz (some (.int (xb (dz kd wh mn p l2 b2)))) h (sz) := by
  refine xC_of (lv := [(0, .ref m), (1, .int (nI p)), (2, .int (nI l2)), (3, .int (nI b2))]) pn_X12 rfl rfl (fun Γ X hΓ hbs => ?_)
  have X : xX Γ Ω cX12_doesIt 5 RX12 "doesIt" (some .boolean) 1 35 0 0 := X
  subst hΓ
  have h6 := T.1
  have hT := T.2.2.2.2.2.2 p hp
  have hbc := bcn_le l2 6
  refine xr_iload_n X 2 dX12_doesIt_0 rfl rfl ?_
  refine xr_aload_n X 0 dX12_doesIt_1 rfl rfl ?_
  refine xr_iload_n X 1 dX12_doesIt_2 rfl rfl ?_
  refine xr_iconst (v := 1) X dX12_doesIt_3 (by decide) ?_
  refine xr_callV X hm rfl kw_1146 kw_1148 kw_37 cw_X12_of [.int (nI p), .int 1] (c_X12_of (p := p) (w := 1) hm ht (nI_toInt (by omega)) (by decide) (by omega)) rfl rfl rfl rfl rfl rfl rfl dX12_doesIt_4 ?_
  refine xr_top (y := nI (wh p)) (by rw [show 3 + 3 * p + 1 = 4 + 3 * p by omega]; exact (T.2.2.2.2.2.2 p (by omega)).2.1) ?_
  refine xr_ishr X dX12_doesIt_7 ?_
  refine xr_iconst (v := 1) X dX12_doesIt_8 (by decide) ?_
  refine xr_iand X dX12_doesIt_9 ?_
  refine xr_top (y := (xb (l2.testBit (wh p)))) (bt_n (by omega) (by omega)) ?_
  refine xr_iconst (v := 1) X dX12_doesIt_10 (by decide) ?_
  refine xr_icmp_ne (tgt := 18) X dX12_doesIt_11 (by decide) (fun c_11 => ?_) (fun c_11 => ?_)
  · have c_11 := xb_not1 c_11
    refine xr_iconst (v := 0) X dX12_doesIt_18 (by decide) ?_
    refine xr_top (y := (xb (l2.testBit (wh p)))) (by rw [c_11]; rfl) ?_
    refine xr_istore (lv' := [(4, .int (xb (l2.testBit (wh p)))), (0, .ref m), (1, .int (nI p)), (2, .int (nI l2)), (3, .int (nI b2))]) X dX12_doesIt_19 rfl rfl ?_
    refine xr_aload_n X 1 dX12_doesIt_21 rfl rfl ?_
    refine xr_iload_n X 2 dX12_doesIt_22 rfl rfl ?_
    refine xr_iconst (v := 0) X dX12_doesIt_23 (by decide) ?_
    refine xr_callV X hm rfl kw_1146 kw_1148 kw_37 cw_X12_of [.int (nI p), .int 0] (c_X12_of (p := p) (w := 0) hm ht (nI_toInt (by omega)) (by decide) (by omega)) rfl rfl rfl rfl rfl rfl rfl dX12_doesIt_24 ?_
    refine xr_top (y := nI (kd p)) (by rw [show 3 + 3 * p + 0 = 3 + 3 * p by omega]; exact (T.2.2.2.2.2.2 p (by omega)).1) ?_
    have hk9 : kd p = 1 ∨ kd p = 2 ∨ kd p = 3 ∨ kd p = 4 ∨ kd p = 5 := by have := T.2.2.2.2.2.2 p hp; omega
    rcases hk9 with ek | ek | ek | ek | ek
    · refine xr_tableOut (tgt := 111) X dX12_doesIt_27 (by rw [ek]; decide) (by decide) ?_
      refine xr_iload X 0 dX12_doesIt_111 rfl ?_
      exact xr_zret X rfl (xb_nar _) (by simp only [dz, ek]; simp_all [xb]) rfl rfl rfl rfl dX12_doesIt_113
    · refine xr_tableIn (off := 29) (tgt := 56) X dX12_doesIt_27 (by rw [ek]; decide) (by rw [ek]; decide) (by rw [ek]; decide) (by decide) ?_
      refine xr_iload X 0 dX12_doesIt_56 rfl ?_
      refine xr_if_ne (tgt := 65) X dX12_doesIt_58 (by decide) (fun c_58 => ?_) (fun c_58 => ?_)
      · have c_58 := xb_1.mp c_58
        refine xr_iconst (v := 0) X dX12_doesIt_65 (by decide) ?_
        exact xr_zret X rfl rfl (by simp only [dz, ek]; simp_all [xb]) rfl rfl rfl rfl dX12_doesIt_66
      · have c_58 := xb_0.mp c_58
        refine xr_iconst (v := 1) X dX12_doesIt_61 (by decide) ?_
        refine xr_goto (tgt := 66) X dX12_doesIt_62 (by decide) ?_
        exact xr_zret X rfl rfl (by simp only [dz, ek]; simp_all [xb]) rfl rfl rfl rfl dX12_doesIt_66
    · refine xr_tableIn (off := 84) (tgt := 111) X dX12_doesIt_27 (by rw [ek]; decide) (by rw [ek]; decide) (by rw [ek]; decide) (by decide) ?_
      refine xr_iload X 0 dX12_doesIt_111 rfl ?_
      exact xr_zret X rfl (xb_nar _) (by simp only [dz, ek]; simp_all [xb]) rfl rfl rfl rfl dX12_doesIt_113
    · refine xr_tableIn (off := 40) (tgt := 67) X dX12_doesIt_27 (by rw [ek]; decide) (by rw [ek]; decide) (by rw [ek]; decide) (by decide) ?_
      refine xr_iload_n X 3 dX12_doesIt_67 rfl rfl ?_
      refine xr_callS X kw_1150 kw_1151 cw_X12_bits [.int (nI l2)] (c_X12_bits (l2 := l2) (by omega)) rfl rfl rfl rfl rfl rfl rfl dX12_doesIt_68 ?_
      refine xr_aload_n X 1 dX12_doesIt_71 rfl rfl ?_
      refine xr_iload_n X 2 dX12_doesIt_72 rfl rfl ?_
      refine xr_iconst (v := 2) X dX12_doesIt_73 (by decide) ?_
      refine xr_callV X hm rfl kw_1146 kw_1148 kw_37 cw_X12_of [.int (nI p), .int 2] (c_X12_of (p := p) (w := 2) hm ht (nI_toInt (by omega)) (by decide) (by omega)) rfl rfl rfl rfl rfl rfl rfl dX12_doesIt_74 ?_
      refine xr_top (y := nI (mn p)) (by rw [show 3 + 3 * p + 2 = 5 + 3 * p by omega]; exact (T.2.2.2.2.2.2 p (by omega)).2.2.1) ?_
      refine xr_icmp_lt (tgt := 84) X dX12_doesIt_77 (by decide) (fun c_77 => ?_) (fun c_77 => ?_)
      · have c_77 := i32_lt.mp c_77
        (try simp (disch := omega) only [nI_toInt, i32_add, i32_sub, i32_mul, i64_addl, i32_l, k32_6, k64_6] at c_77)
        refine xr_iconst (v := 0) X dX12_doesIt_84 (by decide) ?_
        exact xr_zret X rfl rfl (by rw [show dz kd wh mn p l2 b2 = decide (mn p ≤ bcn l2 6) by simp [dz, ek]]; first | exact xbT (by omega) | exact xbF (by omega)) rfl rfl rfl rfl dX12_doesIt_85
      · have c_77 := mt i32_lt.mpr c_77
        (try simp (disch := omega) only [nI_toInt, i32_add, i32_sub, i32_mul, i64_addl, i32_l, k32_6, k64_6] at c_77)
        refine xr_iconst (v := 1) X dX12_doesIt_80 (by decide) ?_
        refine xr_goto (tgt := 85) X dX12_doesIt_81 (by decide) ?_
        exact xr_zret X rfl rfl (by rw [show dz kd wh mn p l2 b2 = decide (mn p ≤ bcn l2 6) by simp [dz, ek]]; first | exact xbT (by omega) | exact xbF (by omega)) rfl rfl rfl rfl dX12_doesIt_85
    · refine xr_tableIn (off := 59) (tgt := 86) X dX12_doesIt_27 (by rw [ek]; decide) (by rw [ek]; decide) (by rw [ek]; decide) (by decide) ?_
      refine xr_iload X 0 dX12_doesIt_86 rfl ?_
      refine xr_iload_n X 4 dX12_doesIt_88 rfl rfl ?_
      refine xr_iload_n X 2 dX12_doesIt_89 rfl rfl ?_
      refine xr_ishr X dX12_doesIt_90 ?_
      refine xr_iconst (v := 1) X dX12_doesIt_91 (by decide) ?_
      refine xr_iand X dX12_doesIt_92 ?_
      refine xr_top (y := (xb (b2.testBit p))) (bt_n (by omega) (by omega)) ?_
      refine xr_iconst (v := 1) X dX12_doesIt_93 (by decide) ?_
      refine xr_icmp_ne (tgt := 101) X dX12_doesIt_94 (by decide) (fun c_94 => ?_) (fun c_94 => ?_)
      · have c_94 := xb_not1 c_94
        refine xr_iconst (v := 0) X dX12_doesIt_101 (by decide) ?_
        refine xr_top (y := (xb (b2.testBit p))) (by rw [c_94]; rfl) ?_
        refine xr_icmp_ne (tgt := 109) X dX12_doesIt_102 (by decide) (fun c_102 => ?_) (fun c_102 => ?_)
        · have c_102 := mt i32_eq.mpr c_102
          (try simp (disch := omega) only [nI_toInt, i32_add, i32_sub, i32_mul, i64_addl, i32_l] at c_102)
          refine xr_iconst (v := 0) X dX12_doesIt_109 (by decide) ?_
          exact xr_zret X rfl rfl (by simp only [dz, ek]; simp_all [xb]) rfl rfl rfl rfl dX12_doesIt_110
        · have c_102 := i32_eq.mp c_102
          (try simp (disch := omega) only [nI_toInt, i32_add, i32_sub, i32_mul, i64_addl, i32_l] at c_102)
          refine xr_iconst (v := 1) X dX12_doesIt_105 (by decide) ?_
          refine xr_goto (tgt := 110) X dX12_doesIt_106 (by decide) ?_
          exact xr_zret X rfl rfl (by simp only [dz, ek]; simp_all [xb]) rfl rfl rfl rfl dX12_doesIt_110
      · have c_94 := xb_is1.mp c_94
        refine xr_iconst (v := 1) X dX12_doesIt_97 (by decide) ?_
        refine xr_goto (tgt := 102) X dX12_doesIt_98 (by decide) ?_
        refine xr_top (y := (xb (b2.testBit p))) (by rw [c_94]; rfl) ?_
        refine xr_icmp_ne (tgt := 109) X dX12_doesIt_102 (by decide) (fun c_102 => ?_) (fun c_102 => ?_)
        · have c_102 := mt i32_eq.mpr c_102
          (try simp (disch := omega) only [nI_toInt, i32_add, i32_sub, i32_mul, i64_addl, i32_l] at c_102)
          refine xr_iconst (v := 0) X dX12_doesIt_109 (by decide) ?_
          exact xr_zret X rfl rfl (by simp only [dz, ek]; simp_all [xb]) rfl rfl rfl rfl dX12_doesIt_110
        · have c_102 := i32_eq.mp c_102
          (try simp (disch := omega) only [nI_toInt, i32_add, i32_sub, i32_mul, i64_addl, i32_l] at c_102)
          refine xr_iconst (v := 1) X dX12_doesIt_105 (by decide) ?_
          refine xr_goto (tgt := 110) X dX12_doesIt_106 (by decide) ?_
          exact xr_zret X rfl rfl (by simp only [dz, ek]; simp_all [xb]) rfl rfl rfl rfl dX12_doesIt_110
  · have c_11 := xb_is1.mp c_11
    refine xr_iconst (v := 1) X dX12_doesIt_14 (by decide) ?_
    refine xr_goto (tgt := 19) X dX12_doesIt_15 (by decide) ?_
    refine xr_top (y := (xb (l2.testBit (wh p)))) (by rw [c_11]; rfl) ?_
    refine xr_istore (lv' := [(4, .int (xb (l2.testBit (wh p)))), (0, .ref m), (1, .int (nI p)), (2, .int (nI l2)), (3, .int (nI b2))]) X dX12_doesIt_19 rfl rfl ?_
    refine xr_aload_n X 1 dX12_doesIt_21 rfl rfl ?_
    refine xr_iload_n X 2 dX12_doesIt_22 rfl rfl ?_
    refine xr_iconst (v := 0) X dX12_doesIt_23 (by decide) ?_
    refine xr_callV X hm rfl kw_1146 kw_1148 kw_37 cw_X12_of [.int (nI p), .int 0] (c_X12_of (p := p) (w := 0) hm ht (nI_toInt (by omega)) (by decide) (by omega)) rfl rfl rfl rfl rfl rfl rfl dX12_doesIt_24 ?_
    refine xr_top (y := nI (kd p)) (by rw [show 3 + 3 * p + 0 = 3 + 3 * p by omega]; exact (T.2.2.2.2.2.2 p (by omega)).1) ?_
    have hk9 : kd p = 1 ∨ kd p = 2 ∨ kd p = 3 ∨ kd p = 4 ∨ kd p = 5 := by have := T.2.2.2.2.2.2 p hp; omega
    rcases hk9 with ek | ek | ek | ek | ek
    · refine xr_tableOut (tgt := 111) X dX12_doesIt_27 (by rw [ek]; decide) (by decide) ?_
      refine xr_iload X 0 dX12_doesIt_111 rfl ?_
      exact xr_zret X rfl (xb_nar _) (by simp only [dz, ek]; simp_all [xb]) rfl rfl rfl rfl dX12_doesIt_113
    · refine xr_tableIn (off := 29) (tgt := 56) X dX12_doesIt_27 (by rw [ek]; decide) (by rw [ek]; decide) (by rw [ek]; decide) (by decide) ?_
      refine xr_iload X 0 dX12_doesIt_56 rfl ?_
      refine xr_if_ne (tgt := 65) X dX12_doesIt_58 (by decide) (fun c_58 => ?_) (fun c_58 => ?_)
      · have c_58 := xb_1.mp c_58
        refine xr_iconst (v := 0) X dX12_doesIt_65 (by decide) ?_
        exact xr_zret X rfl rfl (by simp only [dz, ek]; simp_all [xb]) rfl rfl rfl rfl dX12_doesIt_66
      · have c_58 := xb_0.mp c_58
        refine xr_iconst (v := 1) X dX12_doesIt_61 (by decide) ?_
        refine xr_goto (tgt := 66) X dX12_doesIt_62 (by decide) ?_
        exact xr_zret X rfl rfl (by simp only [dz, ek]; simp_all [xb]) rfl rfl rfl rfl dX12_doesIt_66
    · refine xr_tableIn (off := 84) (tgt := 111) X dX12_doesIt_27 (by rw [ek]; decide) (by rw [ek]; decide) (by rw [ek]; decide) (by decide) ?_
      refine xr_iload X 0 dX12_doesIt_111 rfl ?_
      exact xr_zret X rfl (xb_nar _) (by simp only [dz, ek]; simp_all [xb]) rfl rfl rfl rfl dX12_doesIt_113
    · refine xr_tableIn (off := 40) (tgt := 67) X dX12_doesIt_27 (by rw [ek]; decide) (by rw [ek]; decide) (by rw [ek]; decide) (by decide) ?_
      refine xr_iload_n X 3 dX12_doesIt_67 rfl rfl ?_
      refine xr_callS X kw_1150 kw_1151 cw_X12_bits [.int (nI l2)] (c_X12_bits (l2 := l2) (by omega)) rfl rfl rfl rfl rfl rfl rfl dX12_doesIt_68 ?_
      refine xr_aload_n X 1 dX12_doesIt_71 rfl rfl ?_
      refine xr_iload_n X 2 dX12_doesIt_72 rfl rfl ?_
      refine xr_iconst (v := 2) X dX12_doesIt_73 (by decide) ?_
      refine xr_callV X hm rfl kw_1146 kw_1148 kw_37 cw_X12_of [.int (nI p), .int 2] (c_X12_of (p := p) (w := 2) hm ht (nI_toInt (by omega)) (by decide) (by omega)) rfl rfl rfl rfl rfl rfl rfl dX12_doesIt_74 ?_
      refine xr_top (y := nI (mn p)) (by rw [show 3 + 3 * p + 2 = 5 + 3 * p by omega]; exact (T.2.2.2.2.2.2 p (by omega)).2.2.1) ?_
      refine xr_icmp_lt (tgt := 84) X dX12_doesIt_77 (by decide) (fun c_77 => ?_) (fun c_77 => ?_)
      · have c_77 := i32_lt.mp c_77
        (try simp (disch := omega) only [nI_toInt, i32_add, i32_sub, i32_mul, i64_addl, i32_l, k32_6, k64_6] at c_77)
        refine xr_iconst (v := 0) X dX12_doesIt_84 (by decide) ?_
        exact xr_zret X rfl rfl (by rw [show dz kd wh mn p l2 b2 = decide (mn p ≤ bcn l2 6) by simp [dz, ek]]; first | exact xbT (by omega) | exact xbF (by omega)) rfl rfl rfl rfl dX12_doesIt_85
      · have c_77 := mt i32_lt.mpr c_77
        (try simp (disch := omega) only [nI_toInt, i32_add, i32_sub, i32_mul, i64_addl, i32_l, k32_6, k64_6] at c_77)
        refine xr_iconst (v := 1) X dX12_doesIt_80 (by decide) ?_
        refine xr_goto (tgt := 85) X dX12_doesIt_81 (by decide) ?_
        exact xr_zret X rfl rfl (by rw [show dz kd wh mn p l2 b2 = decide (mn p ≤ bcn l2 6) by simp [dz, ek]]; first | exact xbT (by omega) | exact xbF (by omega)) rfl rfl rfl rfl dX12_doesIt_85
    · refine xr_tableIn (off := 59) (tgt := 86) X dX12_doesIt_27 (by rw [ek]; decide) (by rw [ek]; decide) (by rw [ek]; decide) (by decide) ?_
      refine xr_iload X 0 dX12_doesIt_86 rfl ?_
      refine xr_iload_n X 4 dX12_doesIt_88 rfl rfl ?_
      refine xr_iload_n X 2 dX12_doesIt_89 rfl rfl ?_
      refine xr_ishr X dX12_doesIt_90 ?_
      refine xr_iconst (v := 1) X dX12_doesIt_91 (by decide) ?_
      refine xr_iand X dX12_doesIt_92 ?_
      refine xr_top (y := (xb (b2.testBit p))) (bt_n (by omega) (by omega)) ?_
      refine xr_iconst (v := 1) X dX12_doesIt_93 (by decide) ?_
      refine xr_icmp_ne (tgt := 101) X dX12_doesIt_94 (by decide) (fun c_94 => ?_) (fun c_94 => ?_)
      · have c_94 := xb_not1 c_94
        refine xr_iconst (v := 0) X dX12_doesIt_101 (by decide) ?_
        refine xr_top (y := (xb (b2.testBit p))) (by rw [c_94]; rfl) ?_
        refine xr_icmp_ne (tgt := 109) X dX12_doesIt_102 (by decide) (fun c_102 => ?_) (fun c_102 => ?_)
        · have c_102 := mt i32_eq.mpr c_102
          (try simp (disch := omega) only [nI_toInt, i32_add, i32_sub, i32_mul, i64_addl, i32_l] at c_102)
          refine xr_iconst (v := 0) X dX12_doesIt_109 (by decide) ?_
          exact xr_zret X rfl rfl (by simp only [dz, ek]; simp_all [xb]) rfl rfl rfl rfl dX12_doesIt_110
        · have c_102 := i32_eq.mp c_102
          (try simp (disch := omega) only [nI_toInt, i32_add, i32_sub, i32_mul, i64_addl, i32_l] at c_102)
          refine xr_iconst (v := 1) X dX12_doesIt_105 (by decide) ?_
          refine xr_goto (tgt := 110) X dX12_doesIt_106 (by decide) ?_
          exact xr_zret X rfl rfl (by simp only [dz, ek]; simp_all [xb]) rfl rfl rfl rfl dX12_doesIt_110
      · have c_94 := xb_is1.mp c_94
        refine xr_iconst (v := 1) X dX12_doesIt_97 (by decide) ?_
        refine xr_goto (tgt := 102) X dX12_doesIt_98 (by decide) ?_
        refine xr_top (y := (xb (b2.testBit p))) (by rw [c_94]; rfl) ?_
        refine xr_icmp_ne (tgt := 109) X dX12_doesIt_102 (by decide) (fun c_102 => ?_) (fun c_102 => ?_)
        · have c_102 := mt i32_eq.mpr c_102
          (try simp (disch := omega) only [nI_toInt, i32_add, i32_sub, i32_mul, i64_addl, i32_l] at c_102)
          refine xr_iconst (v := 0) X dX12_doesIt_109 (by decide) ?_
          exact xr_zret X rfl rfl (by simp only [dz, ek]; simp_all [xb]) rfl rfl rfl rfl dX12_doesIt_110
        · have c_102 := i32_eq.mp c_102
          (try simp (disch := omega) only [nI_toInt, i32_add, i32_sub, i32_mul, i64_addl, i32_l] at c_102)
          refine xr_iconst (v := 1) X dX12_doesIt_105 (by decide) ?_
          refine xr_goto (tgt := 110) X dX12_doesIt_106 (by decide) ?_
          exact xr_zret X rfl rfl (by simp only [dz, ek]; simp_all [xb]) rfl rfl rfl rfl dX12_doesIt_110
