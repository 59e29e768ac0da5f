def xwl (i : Nat) : List Nat := [wl_person, wl_true, wl_cross, wl_lot, wl_crowd, wl_moody].getD i []
theorem xw_b : ∀ i, i < 6 → ∀ j, j < x_len.getD i 0 → (x_byt.getD i []).getD j 0 = nI ((xwl i).getD j 0) ∧ (xwl i).getD j 0 < 128 := by decide +kernel
theorem xw_l : ∀ i, i < 6 → x_len.getD i 0 = (xwl i).length ∧ (xwl i).length ≤ 6 := by decide +kernel
theorem allB_f {P : Nat → Bool} : ∀ {n k : Nat}, k < n → P k = false → allB P n = false
  | n + 1, k, hk, h => by
    rw [allB]
    by_cases e : k = n
    · subst e; rw [h]; simp
    · rw [allB_f (n := n) (k := k) (by omega) h]; rfl
theorem cy_n {t : Nat → Nat} {L k : Nat} (hk : k < L) (h : t k < 128) : cyF t L k = nI (t k) := by
  rw [cyF, if_pos hk, i32_eq, sb_v _ (by omega), if_pos h, nI_toInt (by omega)]
set_option maxRecDepth 100000 in
theorem l_X7_isWord {Γ : xΓ} {Ω : xW} {h : xH} {sz : Nat} (X : xX Γ Ω cX7_isWord 3 RX7 "isWord" (some .boolean) 4 140 0 0) {e : Nat} {pr fa : Int32} {bt : Nat → Int32} {t : Nat → Nat} {L q : Nat} {i : Nat} (hko : h (e + 13) = some (kO e (nI L) pr fa (nI (tK t L q)) (nI (tS t L q)) (nI (tE t L q)))) (hbt : h (e + 14) = some (.inl (.byte, 300, .inl bt))) (hB : ∀ q, q < L → bt q = sb (t q)) (ht : ∀ q, q < L → t q < 256) (hL : L ≤ 300) (hq : q ≤ L) (hi : i < 6) (h1 : tK t L q = 1) (h2 : tE t L q - tS t L q = (xwl i).length) : ∀ (j0 k : Nat), k + j0 = (xwl i).length → allB (fun i9 => decide (t (tS t L q + i9) = (xwl i).getD i9 0)) k = true → xG Γ Ω 3 (xQ Γ Ω (some (.int (xb (wdP t L q (xwl i))))) h (sz) 0 0) 28 [(2, .int (nI k)), (0, .ref (e + 13)), (1, .ref (Ω.2.2.1 i))] ([]) h sz 0 0 := by
  intro j0
  induction j0 with
  | zero =>
    intro k hk hinv
    have ek : k = (xwl i).length := by omega
    have kle := tK_le t L q
    obtain ⟨z1, z2⟩ := tE_rng (t := t) hq
    obtain ⟨y1, y2, -, -⟩ := tS_spec (t := t) hq
    have xl := xw_l i hi
    have hlet := (tK_1 h1).2
    refine xr_iload_n X 0 dX7_isWord_28 rfl rfl ?_
    refine xr_aload_n X 2 dX7_isWord_29 rfl rfl ?_
    refine xr_callK X hi kw_337 kw_338 kw_339 cw_J0_length_8abf5 [] (c_J0_length_8abf5 hi) rfl rfl rfl rfl rfl rfl rfl dX7_isWord_30 ?_
    refine xr_icmp_ge (tgt := 62) X dX7_isWord_33 (by decide) (fun _ => ?_) (fun c_33 => absurd (by rw [xl.1, ek]; exact i32_le.mpr (Int.le_refl _)) c_33)
    refine xr_iconst (v := 1) X dX7_isWord_62 (by decide) ?_
    exact xr_zret X rfl rfl (by rw [wdP, decide_eq_true ⟨h1, h2⟩, ← ek, hinv]; rfl) rfl rfl rfl rfl dX7_isWord_63
  | succ j0 ih =>
    intro k hk hinv
    have lk : k < (xwl i).length := by omega
    have kle := tK_le t L q
    obtain ⟨z1, z2⟩ := tE_rng (t := t) hq
    obtain ⟨y1, y2, -, -⟩ := tS_spec (t := t) hq
    have xl := xw_l i hi
    have hlet := (tK_1 h1).2
    refine xr_iload_n X 0 dX7_isWord_28 rfl rfl ?_
    refine xr_aload_n X 2 dX7_isWord_29 rfl rfl ?_
    refine xr_callK X hi kw_337 kw_338 kw_339 cw_J0_length_8abf5 [] (c_J0_length_8abf5 hi) rfl rfl rfl rfl rfl rfl rfl dX7_isWord_30 ?_
    refine xr_icmp_ge (tgt := 62) X dX7_isWord_33 (by decide) (fun c_33 => absurd c_33 (by rw [xl.1, i32_le, nI_toInt (by omega), nI_toInt (by omega)]; omega)) (fun _ => ?_)
    refine xr_aload_n X 1 dX7_isWord_36 rfl rfl ?_
    refine xr_aload_n X 1 dX7_isWord_37 rfl rfl ?_
    refine xr_get X fF_X7_34_6 hko rfl dX7_isWord_38 ?_
    refine xr_iload_n X 0 dX7_isWord_41 rfl rfl ?_
    refine xr_iadd X dX7_isWord_42 ?_
    refine xr_top (y := (nI (tS t L q + k))) (nI_add _ _) ?_
    refine xr_callV X hko rfl kw_315 kw_317 kw_3 cw_X7_byteAt [.int (nI (tS t L q + k))] (c_X7_byteAt (t := t) hko hbt hB ht hL (by omega)) rfl rfl rfl rfl rfl rfl rfl dX7_isWord_43 ?_
    refine xr_aload_n X 2 dX7_isWord_46 rfl rfl ?_
    refine xr_iload_n X 0 dX7_isWord_47 rfl rfl ?_
    refine xr_callK X hi kw_347 kw_348 kw_349 cw_J0_charAt_5068e [.int (nI k)] (c_J0_charAt_5068e hi (by omega) (by omega)) rfl rfl rfl rfl rfl rfl rfl dX7_isWord_48 ?_
    have hc9 := hlet (tS t L q + k) (by omega) (by omega)
    have hb9 := xw_b i hi k (by omega)
    refine xr_icmp_eq (tgt := 56) X dX7_isWord_51 (by decide) (fun c_51 => ?_) (fun c_51 => ?_)
    · rw [cy_n (by omega) (by omega), hb9.1, i32_eq, nI_toInt (by omega), nI_toInt (by omega)] at c_51
      refine xr_iinc (v := nI (k + 1)) (lv' := [(2, .int (nI (k + 1))), (0, .ref (e + 13)), (1, .ref (Ω.2.2.1 i))]) X 0 dX7_isWord_56 rfl (nI_1 _) rfl rfl ?_
      refine xr_goto (tgt := 28) X dX7_isWord_59 (by decide) ?_
      exact ih (k + 1) (by omega) (by rw [allB, hinv, decide_eq_true (by omega)]; rfl)
    · rw [cy_n (by omega) (by omega), hb9.1, i32_eq, nI_toInt (by omega), nI_toInt (by omega)] at c_51
      refine xr_iconst (v := 0) X dX7_isWord_54 (by decide) ?_
      exact xr_zret X rfl rfl (by rw [wdP, allB_f (k := k) lk (decide_eq_false (by omega)), Bool.and_false]; rfl) rfl rfl rfl rfl dX7_isWord_55
set_option maxRecDepth 100000 in
theorem c_X7_isWord {l : Launch} {Ω : xW} {h : xH} {sz : Nat} {e : Nat} {pr fa : Int32} {bt : Nat → Int32} {t : Nat → Nat} {L q : Nat} {i : Nat} (hko : h (e + 13) = some (kO e (nI L) pr fa (nI (tK t L q)) (nI (tS t L q)) (nI (tE t L q)))) (hbt : h (e + 14) = some (.inl (.byte, 300, .inl bt))) (hB : ∀ q, q < L → bt q = sb (t q)) (ht : ∀ q, q < L → t q < 256) (hL : L ≤ 300) (hq : q ≤ L) (hi : i < 6) : xC l Ω yX7_isWord cX7_isWord 3 (some .boolean) 4 0 0 [.ref (e + 13), .ref (Ω.2.2.1 i)] h sz (some (.int (xb (wdP t L q (xwl i))))) h (sz) := by
  refine xC_of (lv := [(0, .ref (e + 13)), (1, .ref (Ω.2.2.1 i))]) pn_X7 rfl rfl (fun Γ X hΓ hbs => ?_)
  have X : xX Γ Ω cX7_isWord 3 RX7 "isWord" (some .boolean) 4 140 0 0 := X
  subst hΓ
  have kle := tK_le t L q
  obtain ⟨z1, z2⟩ := tE_rng (t := t) hq
  obtain ⟨y1, y2, -, -⟩ := tS_spec (t := t) hq
  have xl := xw_l i hi
  refine xr_aload_n X 0 dX7_isWord_0 rfl rfl ?_
  refine xr_get X fF_X7_31_6 hko rfl dX7_isWord_1 ?_
  refine xr_iconst (v := 1) X dX7_isWord_4 (by decide) ?_
  refine xr_icmp_ne (tgt := 24) X dX7_isWord_5 (by decide) (fun c_5 => ?_) (fun c_5 => ?_)
  · have c_5 := mt i32_eq.mpr c_5
    (try simp (disch := omega) only [nI_toInt, i32_add, i32_sub, i32_mul, i64_addl, i32_l, k32_1, k64_1] at c_5)
    refine xr_iconst (v := 0) X dX7_isWord_24 (by decide) ?_
    exact xr_zret X rfl rfl (by rw [wdP, decide_eq_false (by omega), Bool.false_and]; rfl) rfl rfl rfl rfl dX7_isWord_25
  · have c_5 := i32_eq.mp c_5
    (try simp (disch := omega) only [nI_toInt, i32_add, i32_sub, i32_mul, i64_addl, i32_l, k32_1, k64_1] at c_5)
    refine xr_aload_n X 0 dX7_isWord_8 rfl rfl ?_
    refine xr_get X fF_X7_37_6 hko rfl dX7_isWord_9 ?_
    refine xr_aload_n X 0 dX7_isWord_12 rfl rfl ?_
    refine xr_get X fF_X7_34_6 hko rfl dX7_isWord_13 ?_
    refine xr_isub X dX7_isWord_16 ?_
    refine xr_aload_n X 1 dX7_isWord_17 rfl rfl ?_
    refine xr_callK X hi kw_337 kw_338 kw_339 cw_J0_length_8abf5 [] (c_J0_length_8abf5 hi) rfl rfl rfl rfl rfl rfl rfl dX7_isWord_18 ?_
    refine xr_icmp_eq (tgt := 26) X dX7_isWord_21 (by decide) (fun c_21 => ?_) (fun c_21 => ?_)
    · rw [pk_sub (by omega), xl.1, i32_eq, nI_toInt (by omega), nI_toInt (by omega)] at c_21
      refine xr_iconst (v := 0) X dX7_isWord_26 (by decide) ?_
      refine xr_istore_n (lv' := [(2, .int 0), (0, .ref (e + 13)), (1, .ref (Ω.2.2.1 i))]) X dX7_isWord_27 rfl rfl rfl ?_
      exact l_X7_isWord X hko hbt hB ht hL hq hi (by omega) (by omega) (xwl i).length 0 (by omega) rfl
    · rw [pk_sub (by omega), xl.1, i32_eq, nI_toInt (by omega), nI_toInt (by omega)] at c_21
      refine xr_iconst (v := 0) X dX7_isWord_24 (by decide) ?_
      exact xr_zret X rfl rfl (by rw [wdP, decide_eq_false (by omega), Bool.false_and]; rfl) rfl rfl rfl rfl dX7_isWord_25
set_option maxRecDepth 100000 in
theorem l_X7_num {Γ : xΓ} {Ω : xW} {h : xH} {sz : Nat} (X : xX Γ Ω cX7_numberAtHand 3 RX7 "numberAtHand" (some .int) 1 35 0 0) {e : Nat} {pr fa : Int32} {bt : Nat → Int32} {t : Nat → Nat} {L q : Nat} (hko : h (e + 13) = some (kO e (nI L) pr fa (nI (tK t L q)) (nI (tS t L q)) (nI (tE t L q)))) (hbt : h (e + 14) = some (.inl (.byte, 300, .inl bt))) (hB : ∀ q, q < L → bt q = sb (t q)) (ht : ∀ q, q < L → t q < 256) (hL : L ≤ 300) (hq : q ≤ L) (h2 : tK t L q = 2) : ∀ (j0 k : Nat), k + j0 = tE t L q - tS t L q → xG Γ Ω 3 (xQ Γ Ω (some (.int (nI (nuv t L q)))) h (sz) 0 0) 7 [(2, .int (nI (tS t L q + k))), (1, .int (nI (fgF t (tS t L q) k))), (0, .ref (e + 13))] ([]) h sz 0 0 := by
  intro j0
  induction j0 with
  | zero =>
    intro k hk
    have ek : k = tE t L q - tS t L q := by omega
    have kle := tK_le t L q
    obtain ⟨z1, z2⟩ := tE_rng (t := t) hq
    obtain ⟨y1, y2, -, -⟩ := tS_spec (t := t) hq
    obtain ⟨-, w2, w3⟩ := tK_2 h2
    refine xr_iload_n X 0 dX7_numberAtHand_7 rfl rfl ?_
    refine xr_aload_n X 2 dX7_numberAtHand_8 rfl rfl ?_
    refine xr_get X fF_X7_37_6 hko rfl dX7_numberAtHand_9 ?_
    refine xr_icmp_ge (tgt := 35) X dX7_numberAtHand_12 (by decide) (fun _ => ?_) (fun c_12 => absurd (by rw [i32_le, nI_toInt (by omega), nI_toInt (by omega)]; omega) c_12)
    refine xr_iload_n X 1 dX7_numberAtHand_35 rfl rfl ?_
    exact xr_iret X rfl (by rw [nuv, if_pos h2, ek]) rfl rfl rfl rfl dX7_numberAtHand_36
  | succ j0 ih =>
    intro k hk
    have lk : k < tE t L q - tS t L q := by omega
    have kle := tK_le t L q
    obtain ⟨z1, z2⟩ := tE_rng (t := t) hq
    obtain ⟨y1, y2, -, -⟩ := tS_spec (t := t) hq
    obtain ⟨-, w2, w3⟩ := tK_2 h2
    refine xr_iload_n X 0 dX7_numberAtHand_7 rfl rfl ?_
    refine xr_aload_n X 2 dX7_numberAtHand_8 rfl rfl ?_
    refine xr_get X fF_X7_37_6 hko rfl dX7_numberAtHand_9 ?_
    refine xr_icmp_ge (tgt := 35) X dX7_numberAtHand_12 (by decide) (fun c_12 => absurd c_12 (by rw [i32_le, nI_toInt (by omega), nI_toInt (by omega)]; omega)) (fun _ => ?_)
    refine xr_bipush (v := 10) X dX7_numberAtHand_15 (by decide) ?_
    refine xr_iload_n X 1 dX7_numberAtHand_17 rfl rfl ?_
    refine xr_imul X dX7_numberAtHand_18 ?_
    refine xr_aload_n X 2 dX7_numberAtHand_19 rfl rfl ?_
    refine xr_iload_n X 0 dX7_numberAtHand_20 rfl rfl ?_
    refine xr_callV X hko rfl kw_315 kw_317 kw_3 cw_X7_byteAt [.int (nI (tS t L q + k))] (c_X7_byteAt (t := t) hko hbt hB ht hL (by omega)) rfl rfl rfl rfl rfl rfl rfl dX7_numberAtHand_21 ?_
    have w4 := w3 (tS t L q + k) (by omega) (by omega)
    refine xr_top (y := (nI (t (tS t L q + k)))) (cy_n (by omega) (by omega)) ?_
    refine xr_bipush (v := 48) X dX7_numberAtHand_24 (by decide) ?_
    refine xr_isub X dX7_numberAtHand_26 ?_
    refine xr_top (y := (nI (t (tS t L q + k) - 48))) (pk_sub (b := 48) (by omega)) ?_
    refine xr_iadd X dX7_numberAtHand_27 ?_
    refine xr_top (y := (nI (fgF t (tS t L q) (k + 1)))) (by rw [fgF, show (10 : Int32) = nI 10 from rfl, nI_mul, nI_add]) ?_
    refine xr_istore_n (lv' := [(1, .int (nI (fgF t (tS t L q) (k + 1)))), (2, .int (nI (tS t L q + k))), (0, .ref (e + 13))]) X dX7_numberAtHand_28 rfl rfl rfl ?_
    refine xr_iinc (v := nI ((tS t L q + k) + 1)) (lv' := [(2, .int (nI ((tS t L q + k) + 1))), (1, .int (nI (fgF t (tS t L q) (k + 1)))), (0, .ref (e + 13))]) X 1 dX7_numberAtHand_29 rfl (nI_1 _) rfl rfl ?_
    refine xr_goto (tgt := 7) X dX7_numberAtHand_32 (by decide) ?_
    refine xr_lve (lv' := [(2, .int (nI (tS t L q + (k + 1)))), (1, .int (nI (fgF t (tS t L q) (k + 1)))), (0, .ref (e + 13))]) (rfl) ?_
    exact ih (k + 1) (by omega)
set_option maxRecDepth 100000 in
theorem c_X7_numberAtHand {l : Launch} {Ω : xW} {h : xH} {sz : Nat} {e : Nat} {pr fa : Int32} {bt : Nat → Int32} {t : Nat → Nat} {L q : Nat} (hko : h (e + 13) = some (kO e (nI L) pr fa (nI (tK t L q)) (nI (tS t L q)) (nI (tE t L q)))) (hbt : h (e + 14) = some (.inl (.byte, 300, .inl bt))) (hB : ∀ q, q < L → bt q = sb (t q)) (ht : ∀ q, q < L → t q < 256) (hL : L ≤ 300) (hq : q ≤ L) (h2 : tK t L q = 2) : xC l Ω yX7_numberAtHand cX7_numberAtHand 3 (some .int) 1 0 0 [.ref (e + 13)] h sz (some (.int (nI (nuv t L q)))) h (sz) := by
  refine xC_of (lv := [(0, .ref (e + 13))]) pn_X7 rfl rfl (fun Γ X hΓ hbs => ?_)
  have X : xX Γ Ω cX7_numberAtHand 3 RX7 "numberAtHand" (some .int) 1 35 0 0 := X
  subst hΓ
  have kle := tK_le t L q
  obtain ⟨z1, z2⟩ := tE_rng (t := t) hq
  obtain ⟨y1, y2, -, -⟩ := tS_spec (t := t) hq
  refine xr_iconst (v := 0) X dX7_numberAtHand_0 (by decide) ?_
  refine xr_istore_n (lv' := [(1, .int 0), (0, .ref (e + 13))]) X dX7_numberAtHand_1 rfl rfl rfl ?_
  refine xr_aload_n X 1 dX7_numberAtHand_2 rfl rfl ?_
  refine xr_get X fF_X7_34_6 hko rfl dX7_numberAtHand_3 ?_
  refine xr_istore_n (lv' := [(2, .int (nI (tS t L q))), (1, .int 0), (0, .ref (e + 13))]) X dX7_numberAtHand_6 rfl rfl rfl ?_
  exact l_X7_num X hko hbt hB ht hL hq h2 (tE t L q - tS t L q) 0 (by omega)
set_option maxRecDepth 100000 in
theorem c_X7_faulty {l : Launch} {Ω : xW} {h : xH} {sz : Nat} {e : Nat} {le pr fa tk fi be v : Int32} (hko : h (e + 13) = some (kO e le pr fa tk fi be)) : xC l Ω yX7_faulty cX7_faulty 2 (some .boolean) 0 0 0 [.ref (e + 13), .int v] h sz (some (.int 0)) (xu h (e + 13) (.inr (6, [.ref (e + 14), .int (le), .ref (e + 15), .int (pr), .int (v), .int (tk), .int (fi), .int (be)]))) (sz) := by
  refine xC_of (lv := [(0, .ref (e + 13)), (1, .int v)]) pn_X7 rfl rfl (fun Γ X hΓ hbs => ?_)
  have X : xX Γ Ω cX7_faulty 2 RX7 "faulty" (some .boolean) 0 0 0 0 := X
  subst hΓ
  refine xr_aload_n X 0 dX7_faulty_0 rfl rfl ?_
  refine xr_iload_n X 1 dX7_faulty_1 rfl rfl ?_
  refine xr_put (fs' := [.ref (e + 14), .int (le), .ref (e + 15), .int (pr), .int v, .int (tk), .int (fi), .int (be)]) X (fW_X7_28_6 _) hko rfl rfl rfl rfl dX7_faulty_2 ?_
  refine xr_iconst (v := 0) X dX7_faulty_5 (by decide) ?_
  exact xr_zret X rfl rfl rfl rfl rfl rfl rfl dX7_faulty_6
set_option maxRecDepth 100000 in
theorem c_X7_nut {l : Launch} {Ω : xW} {h : xH} {sz : Nat} {e : Nat} {pr fa : Int32} {bt : Nat → Int32} {t : Nat → Nat} {L q : Nat} {hi : Nat} (hko : h (e + 13) = some (kO e (nI L) pr fa (nI (tK t L q)) (nI (tS t L q)) (nI (tE t L q)))) (hbt : h (e + 14) = some (.inl (.byte, 300, .inl bt))) (hB : ∀ q, q < L → bt q = sb (t q)) (ht : ∀ q, q < L → t q < 256) (hL : L ≤ 300) (hq : q ≤ L) (hh : hi < 1000) (h2 : tK t L q = 2) (hv : nuv t L q ≤ hi) : xC l Ω yX7_isNumberUpTo cX7_isNumberUpTo 2 (some .boolean) 2 0 0 [.ref (e + 13), .int (nI hi)] h sz (some (.int 1)) h (sz) := by
  refine xC_of (lv := [(0, .ref (e + 13)), (1, .int (nI hi))]) pn_X7 rfl rfl (fun Γ X hΓ hbs => ?_)
  have X : xX Γ Ω cX7_isNumberUpTo 2 RX7 "isNumberUpTo" (some .boolean) 2 70 0 0 := X
  subst hΓ
  have kle := tK_le t L q
  obtain ⟨z1, z2⟩ := tE_rng (t := t) hq
  obtain ⟨y1, y2, -, -⟩ := tS_spec (t := t) hq
  have nle := nuv_lt t L q hq
  refine xr_aload_n X 0 dX7_isNumberUpTo_0 rfl rfl ?_
  refine xr_get X fF_X7_31_6 hko rfl dX7_isNumberUpTo_1 ?_
  refine xr_iconst (v := 2) X dX7_isNumberUpTo_4 (by decide) ?_
  refine xr_icmp_eq (tgt := 14) X dX7_isNumberUpTo_5 (by decide) (fun _ => ?_) (fun c_5 => absurd (by rw [h2]; rfl) c_5)
  refine xr_aload_n X 0 dX7_isNumberUpTo_14 rfl rfl ?_
  refine xr_callV X hko rfl kw_402 kw_404 kw_9 cw_X7_numberAtHand [] (c_X7_numberAtHand hko hbt hB ht hL (by omega) (by assumption)) rfl rfl rfl rfl rfl rfl rfl dX7_isNumberUpTo_15 ?_
  refine xr_iload_n X 1 dX7_isNumberUpTo_18 rfl rfl ?_
  refine xr_icmp_le (tgt := 30) X dX7_isNumberUpTo_19 (by decide) (fun _ => ?_) (fun c_19 => absurd (by rw [i32_le, nI_toInt (by omega), nI_toInt (by omega)]; omega) c_19)
  refine xr_iconst (v := 1) X dX7_isNumberUpTo_30 (by decide) ?_
  refine xr_goto (tgt := 35) X dX7_isNumberUpTo_31 (by decide) ?_
  exact xr_zret X rfl rfl rfl rfl rfl rfl rfl dX7_isNumberUpTo_35
set_option maxRecDepth 100000 in
theorem c_X7_nut2 {l : Launch} {Ω : xW} {h : xH} {sz : Nat} {e : Nat} {pr fa : Int32} {bt : Nat → Int32} {t : Nat → Nat} {L q : Nat} {hi : Nat} (hko : h (e + 13) = some (kO e (nI L) pr fa (nI (tK t L q)) (nI (tS t L q)) (nI (tE t L q)))) (hbt : h (e + 14) = some (.inl (.byte, 300, .inl bt))) (hB : ∀ q, q < L → bt q = sb (t q)) (ht : ∀ q, q < L → t q < 256) (hL : L ≤ 300) (hq : q ≤ L) (hh : hi < 1000) (h2 : tK t L q = 2) (hv : hi < nuv t L q) : xC l Ω yX7_isNumberUpTo cX7_isNumberUpTo 2 (some .boolean) 2 0 0 [.ref (e + 13), .int (nI hi)] h sz (some (.int 0)) (xu h (e + 13) (.inr (6, [.ref (e + 14), .int (nI L), .ref (e + 15), .int (pr), .int (2), .int (nI (tK t L q)), .int (nI (tS t L q)), .int (nI (tE t L q))]))) (sz) := by
  refine xC_of (lv := [(0, .ref (e + 13)), (1, .int (nI hi))]) pn_X7 rfl rfl (fun Γ X hΓ hbs => ?_)
  have X : xX Γ Ω cX7_isNumberUpTo 2 RX7 "isNumberUpTo" (some .boolean) 2 70 0 0 := X
  subst hΓ
  have kle := tK_le t L q
  obtain ⟨z1, z2⟩ := tE_rng (t := t) hq
  obtain ⟨y1, y2, -, -⟩ := tS_spec (t := t) hq
  have nle := nuv_lt t L q hq
  refine xr_aload_n X 0 dX7_isNumberUpTo_0 rfl rfl ?_
  refine xr_get X fF_X7_31_6 hko rfl dX7_isNumberUpTo_1 ?_
  refine xr_iconst (v := 2) X dX7_isNumberUpTo_4 (by decide) ?_
  refine xr_icmp_eq (tgt := 14) X dX7_isNumberUpTo_5 (by decide) (fun _ => ?_) (fun c_5 => absurd (by rw [h2]; rfl) c_5)
  refine xr_aload_n X 0 dX7_isNumberUpTo_14 rfl rfl ?_
  refine xr_callV X hko rfl kw_402 kw_404 kw_9 cw_X7_numberAtHand [] (c_X7_numberAtHand hko hbt hB ht hL (by omega) (by assumption)) rfl rfl rfl rfl rfl rfl rfl dX7_isNumberUpTo_15 ?_
  refine xr_iload_n X 1 dX7_isNumberUpTo_18 rfl rfl ?_
  refine xr_icmp_le (tgt := 30) X dX7_isNumberUpTo_19 (by decide) (fun c_19 => absurd c_19 (by rw [i32_le, nI_toInt (by omega), nI_toInt (by omega)]; omega)) (fun _ => ?_)
  refine xr_aload_n X 0 dX7_isNumberUpTo_22 rfl rfl ?_
  refine xr_iconst (v := 2) X dX7_isNumberUpTo_23 (by decide) ?_
  refine xr_callV X hko rfl kw_385 kw_387 kw_6 cw_X7_faulty [.int 2] (c_X7_faulty hko) rfl rfl rfl rfl rfl rfl rfl dX7_isNumberUpTo_24 ?_
  refine xr_if_eq (tgt := 34) X dX7_isNumberUpTo_27 (by decide) (fun _ => ?_) (fun c_27 => absurd rfl c_27)
  refine xr_iconst (v := 0) X dX7_isNumberUpTo_34 (by decide) ?_
  exact xr_zret X rfl rfl rfl rfl rfl rfl rfl dX7_isNumberUpTo_35
set_option maxRecDepth 100000 in
theorem c_X7_nut1 {l : Launch} {Ω : xW} {h : xH} {sz : Nat} {e : Nat} {pr fa : Int32} {bt : Nat → Int32} {t : Nat → Nat} {L q : Nat} {hi : Nat} (hko : h (e + 13) = some (kO e (nI L) pr fa (nI (tK t L q)) (nI (tS t L q)) (nI (tE t L q)))) (hbt : h (e + 14) = some (.inl (.byte, 300, .inl bt))) (hB : ∀ q, q < L → bt q = sb (t q)) (ht : ∀ q, q < L → t q < 256) (hL : L ≤ 300) (hq : q ≤ L) (hh : hi < 1000) (h2 : ¬ tK t L q = 2) : xC l Ω yX7_isNumberUpTo cX7_isNumberUpTo 2 (some .boolean) 2 0 0 [.ref (e + 13), .int (nI hi)] h sz (some (.int 0)) (xu h (e + 13) (.inr (6, [.ref (e + 14), .int (nI L), .ref (e + 15), .int (pr), .int (1), .int (nI (tK t L q)), .int (nI (tS t L q)), .int (nI (tE t L q))]))) (sz) := by
  refine xC_of (lv := [(0, .ref (e + 13)), (1, .int (nI hi))]) pn_X7 rfl rfl (fun Γ X hΓ hbs => ?_)
  have X : xX Γ Ω cX7_isNumberUpTo 2 RX7 "isNumberUpTo" (some .boolean) 2 70 0 0 := X
  subst hΓ
  have kle := tK_le t L q
  obtain ⟨z1, z2⟩ := tE_rng (t := t) hq
  obtain ⟨y1, y2, -, -⟩ := tS_spec (t := t) hq
  have nle := nuv_lt t L q hq
  refine xr_aload_n X 0 dX7_isNumberUpTo_0 rfl rfl ?_
  refine xr_get X fF_X7_31_6 hko rfl dX7_isNumberUpTo_1 ?_
  refine xr_iconst (v := 2) X dX7_isNumberUpTo_4 (by decide) ?_
  refine xr_icmp_eq (tgt := 14) X dX7_isNumberUpTo_5 (by decide) (fun c_5 => absurd c_5 (by rw [i32_eq, nI_toInt (by omega), k32_2]; omega)) (fun _ => ?_)
  refine xr_aload_n X 0 dX7_isNumberUpTo_8 rfl rfl ?_
  refine xr_iconst (v := 1) X dX7_isNumberUpTo_9 (by decide) ?_
  refine xr_callV X hko rfl kw_385 kw_387 kw_6 cw_X7_faulty [.int 1] (c_X7_faulty hko) rfl rfl rfl rfl rfl rfl rfl dX7_isNumberUpTo_10 ?_
  exact xr_zret X rfl rfl rfl rfl rfl rfl rfl dX7_isNumberUpTo_13
set_option maxRecDepth 100000 in
theorem c_X7_kindAtHand {l : Launch} {Ω : xW} {h : xH} {sz : Nat} {e : Nat} {pr fa : Int32} {bt : Nat → Int32} {t : Nat → Nat} {L q : Nat} (hko : h (e + 13) = some (kO e (nI L) pr fa (nI (tK t L q)) (nI (tS t L q)) (nI (tE t L q)))) (hbt : h (e + 14) = some (.inl (.byte, 300, .inl bt))) (hB : ∀ q, q < L → bt q = sb (t q)) (ht : ∀ q, q < L → t q < 256) (hL : L ≤ 300) (hq : q ≤ L) : xC l Ω yX7_kindAtHand cX7_kindAtHand 1 (some .int) 5 0 0 [.ref (e + 13)] h sz (some (.int (nI (kiW t L q)))) h (sz) := by
  refine xC_of (lv := [(0, .ref (e + 13))]) pn_X7 rfl rfl (fun Γ X hΓ hbs => ?_)
  have X : xX Γ Ω cX7_kindAtHand 1 RX7 "kindAtHand" (some .int) 5 175 0 0 := X
  subst hΓ
  refine xr_aload_n X 0 dX7_kindAtHand_0 rfl rfl ?_
  refine xr_ldcS (i := 1) X rfl rfl dX7_kindAtHand_1 ?_
  refine xr_callV X hko rfl kw_333 kw_335 kw_5 cw_X7_isWord [.ref (Ω.2.2.1 1)] (c_X7_isWord (i := 1) hko hbt hB ht hL (by omega) (by omega)) rfl rfl rfl rfl rfl rfl rfl dX7_kindAtHand_3 ?_
  refine xr_if_eq (tgt := 11) X dX7_kindAtHand_6 (by decide) (fun c_6 => ?_) (fun c_6 => ?_)
  · have c_6 := xb_0.mp c_6
    refine xr_aload_n X 0 dX7_kindAtHand_11 rfl rfl ?_
    refine xr_ldcS (i := 2) X rfl rfl dX7_kindAtHand_12 ?_
    refine xr_callV X hko rfl kw_333 kw_335 kw_5 cw_X7_isWord [.ref (Ω.2.2.1 2)] (c_X7_isWord (i := 2) hko hbt hB ht hL (by omega) (by omega)) rfl rfl rfl rfl rfl rfl rfl dX7_kindAtHand_14 ?_
    refine xr_if_eq (tgt := 22) X dX7_kindAtHand_17 (by decide) (fun c_17 => ?_) (fun c_17 => ?_)
    · have c_17 := xb_0.mp c_17
      refine xr_aload_n X 0 dX7_kindAtHand_22 rfl rfl ?_
      refine xr_ldcS (i := 3) X rfl rfl dX7_kindAtHand_23 ?_
      refine xr_callV X hko rfl kw_333 kw_335 kw_5 cw_X7_isWord [.ref (Ω.2.2.1 3)] (c_X7_isWord (i := 3) hko hbt hB ht hL (by omega) (by omega)) rfl rfl rfl rfl rfl rfl rfl dX7_kindAtHand_25 ?_
      refine xr_if_eq (tgt := 33) X dX7_kindAtHand_28 (by decide) (fun c_28 => ?_) (fun c_28 => ?_)
      · have c_28 := xb_0.mp c_28
        refine xr_aload_n X 0 dX7_kindAtHand_33 rfl rfl ?_
        refine xr_ldcS (i := 4) X rfl rfl dX7_kindAtHand_34 ?_
        refine xr_callV X hko rfl kw_333 kw_335 kw_5 cw_X7_isWord [.ref (Ω.2.2.1 4)] (c_X7_isWord (i := 4) hko hbt hB ht hL (by omega) (by omega)) rfl rfl rfl rfl rfl rfl rfl dX7_kindAtHand_36 ?_
        refine xr_if_eq (tgt := 44) X dX7_kindAtHand_39 (by decide) (fun c_39 => ?_) (fun c_39 => ?_)
        · have c_39 := xb_0.mp c_39
          refine xr_aload_n X 0 dX7_kindAtHand_44 rfl rfl ?_
          refine xr_ldcS (i := 5) X rfl rfl dX7_kindAtHand_45 ?_
          refine xr_callV X hko rfl kw_333 kw_335 kw_5 cw_X7_isWord [.ref (Ω.2.2.1 5)] (c_X7_isWord (i := 5) hko hbt hB ht hL (by omega) (by omega)) rfl rfl rfl rfl rfl rfl rfl dX7_kindAtHand_47 ?_
          refine xr_if_eq (tgt := 57) X dX7_kindAtHand_50 (by decide) (fun c_50 => ?_) (fun c_50 => ?_)
          · have c_50 := xb_0.mp c_50
            refine xr_iconst (v := 0) X dX7_kindAtHand_57 (by decide) ?_
            exact xr_iret X rfl (by rw [show kiW t L q = 0 from (((((if_neg (by rw [show wdP t L q wl_true = false from c_6]; decide)).trans (if_neg (by rw [show wdP t L q wl_cross = false from c_17]; decide))).trans (if_neg (by rw [show wdP t L q wl_lot = false from c_28]; decide))).trans (if_neg (by rw [show wdP t L q wl_crowd = false from c_39]; decide))).trans (if_neg (by rw [show wdP t L q wl_moody = false from c_50]; decide)))]; rfl) rfl rfl rfl rfl dX7_kindAtHand_58
          · have c_50 := xb_1.mp c_50
            refine xr_iconst (v := 5) X dX7_kindAtHand_53 (by decide) ?_
            refine xr_goto (tgt := 58) X dX7_kindAtHand_54 (by decide) ?_
            exact xr_iret X rfl (by rw [show kiW t L q = 5 from (((((if_neg (by rw [show wdP t L q wl_true = false from c_6]; decide)).trans (if_neg (by rw [show wdP t L q wl_cross = false from c_17]; decide))).trans (if_neg (by rw [show wdP t L q wl_lot = false from c_28]; decide))).trans (if_neg (by rw [show wdP t L q wl_crowd = false from c_39]; decide))).trans (if_pos c_50))]; rfl) rfl rfl rfl rfl dX7_kindAtHand_58
        · have c_39 := xb_1.mp c_39
          refine xr_iconst (v := 4) X dX7_kindAtHand_42 (by decide) ?_
          exact xr_iret X rfl (by rw [show kiW t L q = 4 from ((((if_neg (by rw [show wdP t L q wl_true = false from c_6]; decide)).trans (if_neg (by rw [show wdP t L q wl_cross = false from c_17]; decide))).trans (if_neg (by rw [show wdP t L q wl_lot = false from c_28]; decide))).trans (if_pos c_39))]; rfl) rfl rfl rfl rfl dX7_kindAtHand_43
      · have c_28 := xb_1.mp c_28
        refine xr_iconst (v := 3) X dX7_kindAtHand_31 (by decide) ?_
        exact xr_iret X rfl (by rw [show kiW t L q = 3 from (((if_neg (by rw [show wdP t L q wl_true = false from c_6]; decide)).trans (if_neg (by rw [show wdP t L q wl_cross = false from c_17]; decide))).trans (if_pos c_28))]; rfl) rfl rfl rfl rfl dX7_kindAtHand_32
    · have c_17 := xb_1.mp c_17
      refine xr_iconst (v := 2) X dX7_kindAtHand_20 (by decide) ?_
      exact xr_iret X rfl (by rw [show kiW t L q = 2 from ((if_neg (by rw [show wdP t L q wl_true = false from c_6]; decide)).trans (if_pos c_17))]; rfl) rfl rfl rfl rfl dX7_kindAtHand_21
  · have c_6 := xb_1.mp c_6
    refine xr_iconst (v := 1) X dX7_kindAtHand_9 (by decide) ?_
    exact xr_iret X rfl (by rw [show kiW t L q = 1 from (if_pos c_6)]; rfl) rfl rfl rfl rfl dX7_kindAtHand_10
/-- the class of a kind -/
def pCi (k : Nat) : Nat := if k = 1 then 9 else if k = 2 then 0 else if k = 3 then 3 else if k = 4 then 1 else 4
theorem pC_cast {k : Nat} (h1 : 1 ≤ k) (h5 : k ≤ 5) : ∃ r : vw_C, vwCl[pCi k]? = some r ∧ (r.1, "EvePost$Person") ∈ x_cast := by
  have h : k = 1 ∨ k = 2 ∨ k = 3 ∨ k = 4 ∨ k = 5 := by omega
  rcases h with rfl | rfl | rfl | rfl | rfl
  · exact ⟨_, rfl, by decide +kernel⟩
  · exact ⟨_, rfl, by decide +kernel⟩
  · exact ⟨_, rfl, by decide +kernel⟩
  · exact ⟨_, rfl, by decide +kernel⟩
  · exact ⟨_, rfl, by decide +kernel⟩
set_option maxRecDepth 100000 in
theorem c_X7_newPerson_1 {l : Launch} {Ω : xW} {h : xH} {sz : Nat} {n0 w0 k0 : Int32}  : xC l Ω yX7_newPerson cX7_newPerson 4 (some (.object "EvePost$Person")) 4 1 3 [.int 1, .int n0, .int w0, .int k0] h sz (some (.ref sz)) (xu h sz (.inr (9, [.int n0, .int w0, .int k0]))) (sz + 1) := by
  refine xC_of (lv := [(0, .int 1), (1, .int n0), (2, .int w0), (3, .int k0)]) pn_X7 rfl rfl (fun Γ X hΓ hbs => ?_)
  have X : xX Γ Ω cX7_newPerson 4 RX7 "newPerson" (some (.object "EvePost$Person")) 4 140 1 3 := X
  subst hΓ
  refine xr_iload_n X 0 dX7_newPerson_0 rfl rfl ?_
  refine xr_tableIn (off := 31) (tgt := 32) X dX7_newPerson_1 (by decide) (by decide) rfl (by decide) ?_
  refine xr_new (fs := [.int 0, .int 0, .int 0]) X tyX10 (ci := 9) rfl xin_X10 tyX10_ok kw_409 kw_410 kw_67 rfl rfl rfl dX7_newPerson_32 ?_
  refine xr_dup X dX7_newPerson_35 rfl ?_
  refine xr_iload_n X 1 dX7_newPerson_36 rfl rfl ?_
  refine xr_iload_n X 2 dX7_newPerson_37 rfl rfl ?_
  refine xr_iload_n X 3 dX7_newPerson_38 rfl rfl ?_
  refine xr_callI (ret' := none) X kw_411 kw_412 rfl cw_X10_init [.int n0, .int w0, .int k0] (c_X10_init_1 (xu_s _ _ _)) rfl rfl rfl rfl rfl rfl rfl dX7_newPerson_39 ?_
  refine xr_heap (h' := (xu h sz (.inr (9, [.int n0, .int w0, .int k0])))) (xu_uu _ _ _ _) ?_
  exact xr_aret X rfl (Or.inr ⟨_, rfl⟩) rfl rfl rfl rfl rfl dX7_newPerson_42
set_option maxRecDepth 100000 in
theorem c_X7_newPerson_2 {l : Launch} {Ω : xW} {h : xH} {sz : Nat} {n0 w0 k0 : Int32}  : xC l Ω yX7_newPerson cX7_newPerson 4 (some (.object "EvePost$Person")) 4 1 3 [.int 2, .int n0, .int w0, .int k0] h sz (some (.ref sz)) (xu h sz (.inr (0, [.int n0, .int w0, .int k0]))) (sz + 1) := by
  refine xC_of (lv := [(0, .int 2), (1, .int n0), (2, .int w0), (3, .int k0)]) pn_X7 rfl rfl (fun Γ X hΓ hbs => ?_)
  have X : xX Γ Ω cX7_newPerson 4 RX7 "newPerson" (some (.object "EvePost$Person")) 4 140 1 3 := X
  subst hΓ
  refine xr_iload_n X 0 dX7_newPerson_0 rfl rfl ?_
  refine xr_tableIn (off := 42) (tgt := 43) X dX7_newPerson_1 (by decide) (by decide) rfl (by decide) ?_
  refine xr_new (fs := [.int 0, .int 0, .int 0]) X tyX0 (ci := 0) rfl xin_X0 tyX0_ok kw_443 kw_444 kw_68 rfl rfl rfl dX7_newPerson_43 ?_
  refine xr_dup X dX7_newPerson_46 rfl ?_
  refine xr_iload_n X 1 dX7_newPerson_47 rfl rfl ?_
  refine xr_iload_n X 2 dX7_newPerson_48 rfl rfl ?_
  refine xr_iload_n X 3 dX7_newPerson_49 rfl rfl ?_
  refine xr_callI (ret' := none) X kw_445 kw_446 rfl cw_X0_init [.int n0, .int w0, .int k0] (c_X0_init_2 (xu_s _ _ _)) rfl rfl rfl rfl rfl rfl rfl dX7_newPerson_50 ?_
  refine xr_heap (h' := (xu h sz (.inr (0, [.int n0, .int w0, .int k0])))) (xu_uu _ _ _ _) ?_
  exact xr_aret X rfl (Or.inr ⟨_, rfl⟩) rfl rfl rfl rfl rfl dX7_newPerson_53
set_option maxRecDepth 100000 in
theorem c_X7_newPerson_3 {l : Launch} {Ω : xW} {h : xH} {sz : Nat} {n0 w0 k0 : Int32}  : xC l Ω yX7_newPerson cX7_newPerson 4 (some (.object "EvePost$Person")) 4 1 3 [.int 3, .int n0, .int w0, .int k0] h sz (some (.ref sz)) (xu h sz (.inr (3, [.int n0, .int w0, .int k0]))) (sz + 1) := by
  refine xC_of (lv := [(0, .int 3), (1, .int n0), (2, .int w0), (3, .int k0)]) pn_X7 rfl rfl (fun Γ X hΓ hbs => ?_)
  have X : xX Γ Ω cX7_newPerson 4 RX7 "newPerson" (some (.object "EvePost$Person")) 4 140 1 3 := X
  subst hΓ
  refine xr_iload_n X 0 dX7_newPerson_0 rfl rfl ?_
  refine xr_tableIn (off := 53) (tgt := 54) X dX7_newPerson_1 (by decide) (by decide) rfl (by decide) ?_
  refine xr_new (fs := [.int 0, .int 0, .int 0]) X tyX3 (ci := 3) rfl xin_X3 tyX3_ok kw_453 kw_454 kw_69 rfl rfl rfl dX7_newPerson_54 ?_
  refine xr_dup X dX7_newPerson_57 rfl ?_
  refine xr_iload_n X 1 dX7_newPerson_58 rfl rfl ?_
  refine xr_iload_n X 2 dX7_newPerson_59 rfl rfl ?_
  refine xr_iload_n X 3 dX7_newPerson_60 rfl rfl ?_
  refine xr_callI (ret' := none) X kw_455 kw_456 rfl cw_X3_init [.int n0, .int w0, .int k0] (c_X3_init_3 (xu_s _ _ _)) rfl rfl rfl rfl rfl rfl rfl dX7_newPerson_61 ?_
  refine xr_heap (h' := (xu h sz (.inr (3, [.int n0, .int w0, .int k0])))) (xu_uu _ _ _ _) ?_
  exact xr_aret X rfl (Or.inr ⟨_, rfl⟩) rfl rfl rfl rfl rfl dX7_newPerson_64
set_option maxRecDepth 100000 in
theorem c_X7_newPerson_4 {l : Launch} {Ω : xW} {h : xH} {sz : Nat} {n0 w0 k0 : Int32}  : xC l Ω yX7_newPerson cX7_newPerson 4 (some (.object "EvePost$Person")) 4 1 3 [.int 4, .int n0, .int w0, .int k0] h sz (some (.ref sz)) (xu h sz (.inr (1, [.int n0, .int w0, .int k0]))) (sz + 1) := by
  refine xC_of (lv := [(0, .int 4), (1, .int n0), (2, .int w0), (3, .int k0)]) pn_X7 rfl rfl (fun Γ X hΓ hbs => ?_)
  have X : xX Γ Ω cX7_newPerson 4 RX7 "newPerson" (some (.object "EvePost$Person")) 4 140 1 3 := X
  subst hΓ
  refine xr_iload_n X 0 dX7_newPerson_0 rfl rfl ?_
  refine xr_tableIn (off := 64) (tgt := 65) X dX7_newPerson_1 (by decide) (by decide) rfl (by decide) ?_
  refine xr_new (fs := [.int 0, .int 0, .int 0]) X tyX1 (ci := 1) rfl xin_X1 tyX1_ok kw_463 kw_464 kw_70 rfl rfl rfl dX7_newPerson_65 ?_
  refine xr_dup X dX7_newPerson_68 rfl ?_
  refine xr_iload_n X 1 dX7_newPerson_69 rfl rfl ?_
  refine xr_iload_n X 2 dX7_newPerson_70 rfl rfl ?_
  refine xr_iload_n X 3 dX7_newPerson_71 rfl rfl ?_
  refine xr_callI (ret' := none) X kw_465 kw_466 rfl cw_X1_init [.int n0, .int w0, .int k0] (c_X1_init_4 (xu_s _ _ _)) rfl rfl rfl rfl rfl rfl rfl dX7_newPerson_72 ?_
  refine xr_heap (h' := (xu h sz (.inr (1, [.int n0, .int w0, .int k0])))) (xu_uu _ _ _ _) ?_
  exact xr_aret X rfl (Or.inr ⟨_, rfl⟩) rfl rfl rfl rfl rfl dX7_newPerson_75
set_option maxRecDepth 100000 in
theorem c_X7_newPerson_5 {l : Launch} {Ω : xW} {h : xH} {sz : Nat} {n0 w0 k0 : Int32}  : xC l Ω yX7_newPerson cX7_newPerson 4 (some (.object "EvePost$Person")) 4 1 3 [.int 5, .int n0, .int w0, .int k0] h sz (some (.ref sz)) (xu h sz (.inr (4, [.int n0, .int w0, .int k0]))) (sz + 1) := by
  refine xC_of (lv := [(0, .int 5), (1, .int n0), (2, .int w0), (3, .int k0)]) pn_X7 rfl rfl (fun Γ X hΓ hbs => ?_)
  have X : xX Γ Ω cX7_newPerson 4 RX7 "newPerson" (some (.object "EvePost$Person")) 4 140 1 3 := X
  subst hΓ
  refine xr_iload_n X 0 dX7_newPerson_0 rfl rfl ?_
  refine xr_tableOut (tgt := 76) X dX7_newPerson_1 (by decide) (by decide) ?_
  refine xr_new (fs := [.int 0, .int 0, .int 0]) X tyX4 (ci := 4) rfl xin_X4 tyX4_ok kw_473 kw_474 kw_71 rfl rfl rfl dX7_newPerson_76 ?_
  refine xr_dup X dX7_newPerson_79 rfl ?_
  refine xr_iload_n X 1 dX7_newPerson_80 rfl rfl ?_
  refine xr_iload_n X 2 dX7_newPerson_81 rfl rfl ?_
  refine xr_iload_n X 3 dX7_newPerson_82 rfl rfl ?_
  refine xr_callI (ret' := none) X kw_475 kw_476 rfl cw_X4_init [.int n0, .int w0, .int k0] (c_X4_init_5 (xu_s _ _ _)) rfl rfl rfl rfl rfl rfl rfl dX7_newPerson_83 ?_
  refine xr_heap (h' := (xu h sz (.inr (4, [.int n0, .int w0, .int k0])))) (xu_uu _ _ _ _) ?_
  exact xr_aret X rfl (Or.inr ⟨_, rfl⟩) rfl rfl rfl rfl rfl dX7_newPerson_86
theorem c_X7_newPerson {l : Launch} {Ω : xW} {h : xH} {sz : Nat} {K : Nat} {n0 w0 k0 : Int32} (h1 : 1 ≤ K) (h5 : K ≤ 5) : xC l Ω yX7_newPerson cX7_newPerson 4 (some (.object "EvePost$Person")) 4 1 3 [.int (nI K), .int n0, .int w0, .int k0] h sz (some (.ref sz)) (xu h sz (.inr (pCi K, [.int n0, .int w0, .int k0]))) (sz + 1) := by
  have hh : K = 1 ∨ K = 2 ∨ K = 3 ∨ K = 4 ∨ K = 5 := by omega
  rcases hh with rfl | rfl | rfl | rfl | rfl
  · exact c_X7_newPerson_1
  · exact c_X7_newPerson_2
  · exact c_X7_newPerson_3
  · exact c_X7_newPerson_4
  · exact c_X7_newPerson_5
