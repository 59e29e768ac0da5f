theorem bc6 : ∀ l, l < 64 → ((((((((nI l) - ((((nI l).toUInt32 >>> ((1 : Int32).toUInt32 &&& Int32.toUInt32 31)).toInt32) &&& 1431655765)) &&& 858993459) + (((((nI l) - ((((nI l).toUInt32 >>> ((1 : Int32).toUInt32 &&& Int32.toUInt32 31)).toInt32) &&& 1431655765)).toUInt32 >>> ((2 : Int32).toUInt32 &&& Int32.toUInt32 31)).toInt32) &&& 858993459)) + ((((((nI l) - ((((nI l).toUInt32 >>> ((1 : Int32).toUInt32 &&& Int32.toUInt32 31)).toInt32) &&& 1431655765)) &&& 858993459) + (((((nI l) - ((((nI l).toUInt32 >>> ((1 : Int32).toUInt32 &&& Int32.toUInt32 31)).toInt32) &&& 1431655765)).toUInt32 >>> ((2 : Int32).toUInt32 &&& Int32.toUInt32 31)).toInt32) &&& 858993459)).toUInt32 >>> ((4 : Int32).toUInt32 &&& Int32.toUInt32 31)).toInt32)) &&& 252645135) + ((((((((nI l) - ((((nI l).toUInt32 >>> ((1 : Int32).toUInt32 &&& Int32.toUInt32 31)).toInt32) &&& 1431655765)) &&& 858993459) + (((((nI l) - ((((nI l).toUInt32 >>> ((1 : Int32).toUInt32 &&& Int32.toUInt32 31)).toInt32) &&& 1431655765)).toUInt32 >>> ((2 : Int32).toUInt32 &&& Int32.toUInt32 31)).toInt32) &&& 858993459)) + ((((((nI l) - ((((nI l).toUInt32 >>> ((1 : Int32).toUInt32 &&& Int32.toUInt32 31)).toInt32) &&& 1431655765)) &&& 858993459) + (((((nI l) - ((((nI l).toUInt32 >>> ((1 : Int32).toUInt32 &&& Int32.toUInt32 31)).toInt32) &&& 1431655765)).toUInt32 >>> ((2 : Int32).toUInt32 &&& Int32.toUInt32 31)).toInt32) &&& 858993459)).toUInt32 >>> ((4 : Int32).toUInt32 &&& Int32.toUInt32 31)).toInt32)) &&& 252645135).toUInt32 >>> ((8 : Int32).toUInt32 &&& Int32.toUInt32 31)).toInt32)) + (((((((((nI l) - ((((nI l).toUInt32 >>> ((1 : Int32).toUInt32 &&& Int32.toUInt32 31)).toInt32) &&& 1431655765)) &&& 858993459) + (((((nI l) - ((((nI l).toUInt32 >>> ((1 : Int32).toUInt32 &&& Int32.toUInt32 31)).toInt32) &&& 1431655765)).toUInt32 >>> ((2 : Int32).toUInt32 &&& Int32.toUInt32 31)).toInt32) &&& 858993459)) + ((((((nI l) - ((((nI l).toUInt32 >>> ((1 : Int32).toUInt32 &&& Int32.toUInt32 31)).toInt32) &&& 1431655765)) &&& 858993459) + (((((nI l) - ((((nI l).toUInt32 >>> ((1 : Int32).toUInt32 &&& Int32.toUInt32 31)).toInt32) &&& 1431655765)).toUInt32 >>> ((2 : Int32).toUInt32 &&& Int32.toUInt32 31)).toInt32) &&& 858993459)).toUInt32 >>> ((4 : Int32).toUInt32 &&& Int32.toUInt32 31)).toInt32)) &&& 252645135) + ((((((((nI l) - ((((nI l).toUInt32 >>> ((1 : Int32).toUInt32 &&& Int32.toUInt32 31)).toInt32) &&& 1431655765)) &&& 858993459) + (((((nI l) - ((((nI l).toUInt32 >>> ((1 : Int32).toUInt32 &&& Int32.toUInt32 31)).toInt32) &&& 1431655765)).toUInt32 >>> ((2 : Int32).toUInt32 &&& Int32.toUInt32 31)).toInt32) &&& 858993459)) + ((((((nI l) - ((((nI l).toUInt32 >>> ((1 : Int32).toUInt32 &&& Int32.toUInt32 31)).toInt32) &&& 1431655765)) &&& 858993459) + (((((nI l) - ((((nI l).toUInt32 >>> ((1 : Int32).toUInt32 &&& Int32.toUInt32 31)).toInt32) &&& 1431655765)).toUInt32 >>> ((2 : Int32).toUInt32 &&& Int32.toUInt32 31)).toInt32) &&& 858993459)).toUInt32 >>> ((4 : Int32).toUInt32 &&& Int32.toUInt32 31)).toInt32)) &&& 252645135).toUInt32 >>> ((8 : Int32).toUInt32 &&& Int32.toUInt32 31)).toInt32)).toUInt32 >>> ((16 : Int32).toUInt32 &&& Int32.toUInt32 31)).toInt32)) &&& 63 = nI (bcn l 6) := by decide +kernel
set_option maxRecDepth 100000 in
theorem c_J6_bitCount_0f7a4 {l : Launch} {Ω : xW} {h : xH} {sz : Nat} {q : Nat} (hq : q < 64) : xC l Ω yJ6_bitCount_0f7a4 cJ6_bitCount_0f7a4 1 (some .int) 0 0 0 [.int (nI q)] h sz (some (.int (nI (bcn q 6)))) h (sz) := by
  refine xC_of (lv := [(0, .int (nI q))]) pn_J6 rfl rfl (fun Γ X hΓ hbs => ?_)
  have X : xX Γ Ω cJ6_bitCount_0f7a4 1 RJ6 "bitCount" (some .int) 0 0 0 0 := X
  subst hΓ
  refine xr_iload_n X 0 dJ6_bitCount_0f7a4_0 rfl rfl ?_
  refine xr_iload_n X 0 dJ6_bitCount_0f7a4_1 rfl rfl ?_
  refine xr_iconst (v := 1) X dJ6_bitCount_0f7a4_2 (by decide) ?_
  refine xr_iushr X dJ6_bitCount_0f7a4_3 ?_
  refine xr_ldcw (v := 1431655765) X kw_531 dJ6_bitCount_0f7a4_4 ?_
  refine xr_iand X dJ6_bitCount_0f7a4_7 ?_
  refine xr_isub X dJ6_bitCount_0f7a4_8 ?_
  refine xr_istore_n (lv' := [(0, .int ((nI q) - ((((nI q).toUInt32 >>> ((1 : Int32).toUInt32 &&& Int32.toUInt32 31)).toInt32) &&& 1431655765)))]) X dJ6_bitCount_0f7a4_9 rfl rfl rfl ?_
  refine xr_iload_n X 0 dJ6_bitCount_0f7a4_10 rfl rfl ?_
  refine xr_ldcw (v := 858993459) X kw_532 dJ6_bitCount_0f7a4_11 ?_
  refine xr_iand X dJ6_bitCount_0f7a4_14 ?_
  refine xr_iload_n X 0 dJ6_bitCount_0f7a4_15 rfl rfl ?_
  refine xr_iconst (v := 2) X dJ6_bitCount_0f7a4_16 (by decide) ?_
  refine xr_iushr X dJ6_bitCount_0f7a4_17 ?_
  refine xr_ldcw (v := 858993459) X kw_532 dJ6_bitCount_0f7a4_18 ?_
  refine xr_iand X dJ6_bitCount_0f7a4_21 ?_
  refine xr_iadd X dJ6_bitCount_0f7a4_22 ?_
  refine xr_istore_n (lv' := [(0, .int ((((nI q) - ((((nI q).toUInt32 >>> ((1 : Int32).toUInt32 &&& Int32.toUInt32 31)).toInt32) &&& 1431655765)) &&& 858993459) + (((((nI q) - ((((nI q).toUInt32 >>> ((1 : Int32).toUInt32 &&& Int32.toUInt32 31)).toInt32) &&& 1431655765)).toUInt32 >>> ((2 : Int32).toUInt32 &&& Int32.toUInt32 31)).toInt32) &&& 858993459)))]) X dJ6_bitCount_0f7a4_23 rfl rfl rfl ?_
  refine xr_iload_n X 0 dJ6_bitCount_0f7a4_24 rfl rfl ?_
  refine xr_iload_n X 0 dJ6_bitCount_0f7a4_25 rfl rfl ?_
  refine xr_iconst (v := 4) X dJ6_bitCount_0f7a4_26 (by decide) ?_
  refine xr_iushr X dJ6_bitCount_0f7a4_27 ?_
  refine xr_iadd X dJ6_bitCount_0f7a4_28 ?_
  refine xr_ldcw (v := 252645135) X kw_533 dJ6_bitCount_0f7a4_29 ?_
  refine xr_iand X dJ6_bitCount_0f7a4_32 ?_
  refine xr_istore_n (lv' := [(0, .int ((((((nI q) - ((((nI q).toUInt32 >>> ((1 : Int32).toUInt32 &&& Int32.toUInt32 31)).toInt32) &&& 1431655765)) &&& 858993459) + (((((nI q) - ((((nI q).toUInt32 >>> ((1 : Int32).toUInt32 &&& Int32.toUInt32 31)).toInt32) &&& 1431655765)).toUInt32 >>> ((2 : Int32).toUInt32 &&& Int32.toUInt32 31)).toInt32) &&& 858993459)) + ((((((nI q) - ((((nI q).toUInt32 >>> ((1 : Int32).toUInt32 &&& Int32.toUInt32 31)).toInt32) &&& 1431655765)) &&& 858993459) + (((((nI q) - ((((nI q).toUInt32 >>> ((1 : Int32).toUInt32 &&& Int32.toUInt32 31)).toInt32) &&& 1431655765)).toUInt32 >>> ((2 : Int32).toUInt32 &&& Int32.toUInt32 31)).toInt32) &&& 858993459)).toUInt32 >>> ((4 : Int32).toUInt32 &&& Int32.toUInt32 31)).toInt32)) &&& 252645135))]) X dJ6_bitCount_0f7a4_33 rfl rfl rfl ?_
  refine xr_iload_n X 0 dJ6_bitCount_0f7a4_34 rfl rfl ?_
  refine xr_iload_n X 0 dJ6_bitCount_0f7a4_35 rfl rfl ?_
  refine xr_bipush (v := 8) X dJ6_bitCount_0f7a4_36 (by decide) ?_
  refine xr_iushr X dJ6_bitCount_0f7a4_38 ?_
  refine xr_iadd X dJ6_bitCount_0f7a4_39 ?_
  refine xr_istore_n (lv' := [(0, .int (((((((nI q) - ((((nI q).toUInt32 >>> ((1 : Int32).toUInt32 &&& Int32.toUInt32 31)).toInt32) &&& 1431655765)) &&& 858993459) + (((((nI q) - ((((nI q).toUInt32 >>> ((1 : Int32).toUInt32 &&& Int32.toUInt32 31)).toInt32) &&& 1431655765)).toUInt32 >>> ((2 : Int32).toUInt32 &&& Int32.toUInt32 31)).toInt32) &&& 858993459)) + ((((((nI q) - ((((nI q).toUInt32 >>> ((1 : Int32).toUInt32 &&& Int32.toUInt32 31)).toInt32) &&& 1431655765)) &&& 858993459) + (((((nI q) - ((((nI q).toUInt32 >>> ((1 : Int32).toUInt32 &&& Int32.toUInt32 31)).toInt32) &&& 1431655765)).toUInt32 >>> ((2 : Int32).toUInt32 &&& Int32.toUInt32 31)).toInt32) &&& 858993459)).toUInt32 >>> ((4 : Int32).toUInt32 &&& Int32.toUInt32 31)).toInt32)) &&& 252645135) + ((((((((nI q) - ((((nI q).toUInt32 >>> ((1 : Int32).toUInt32 &&& Int32.toUInt32 31)).toInt32) &&& 1431655765)) &&& 858993459) + (((((nI q) - ((((nI q).toUInt32 >>> ((1 : Int32).toUInt32 &&& Int32.toUInt32 31)).toInt32) &&& 1431655765)).toUInt32 >>> ((2 : Int32).toUInt32 &&& Int32.toUInt32 31)).toInt32) &&& 858993459)) + ((((((nI q) - ((((nI q).toUInt32 >>> ((1 : Int32).toUInt32 &&& Int32.toUInt32 31)).toInt32) &&& 1431655765)) &&& 858993459) + (((((nI q) - ((((nI q).toUInt32 >>> ((1 : Int32).toUInt32 &&& Int32.toUInt32 31)).toInt32) &&& 1431655765)).toUInt32 >>> ((2 : Int32).toUInt32 &&& Int32.toUInt32 31)).toInt32) &&& 858993459)).toUInt32 >>> ((4 : Int32).toUInt32 &&& Int32.toUInt32 31)).toInt32)) &&& 252645135).toUInt32 >>> ((8 : Int32).toUInt32 &&& Int32.toUInt32 31)).toInt32)))]) X dJ6_bitCount_0f7a4_40 rfl rfl rfl ?_
  refine xr_iload_n X 0 dJ6_bitCount_0f7a4_41 rfl rfl ?_
  refine xr_iload_n X 0 dJ6_bitCount_0f7a4_42 rfl rfl ?_
  refine xr_bipush (v := 16) X dJ6_bitCount_0f7a4_43 (by decide) ?_
  refine xr_iushr X dJ6_bitCount_0f7a4_45 ?_
  refine xr_iadd X dJ6_bitCount_0f7a4_46 ?_
  refine xr_istore_n (lv' := [(0, .int ((((((((nI q) - ((((nI q).toUInt32 >>> ((1 : Int32).toUInt32 &&& Int32.toUInt32 31)).toInt32) &&& 1431655765)) &&& 858993459) + (((((nI q) - ((((nI q).toUInt32 >>> ((1 : Int32).toUInt32 &&& Int32.toUInt32 31)).toInt32) &&& 1431655765)).toUInt32 >>> ((2 : Int32).toUInt32 &&& Int32.toUInt32 31)).toInt32) &&& 858993459)) + ((((((nI q) - ((((nI q).toUInt32 >>> ((1 : Int32).toUInt32 &&& Int32.toUInt32 31)).toInt32) &&& 1431655765)) &&& 858993459) + (((((nI q) - ((((nI q).toUInt32 >>> ((1 : Int32).toUInt32 &&& Int32.toUInt32 31)).toInt32) &&& 1431655765)).toUInt32 >>> ((2 : Int32).toUInt32 &&& Int32.toUInt32 31)).toInt32) &&& 858993459)).toUInt32 >>> ((4 : Int32).toUInt32 &&& Int32.toUInt32 31)).toInt32)) &&& 252645135) + ((((((((nI q) - ((((nI q).toUInt32 >>> ((1 : Int32).toUInt32 &&& Int32.toUInt32 31)).toInt32) &&& 1431655765)) &&& 858993459) + (((((nI q) - ((((nI q).toUInt32 >>> ((1 : Int32).toUInt32 &&& Int32.toUInt32 31)).toInt32) &&& 1431655765)).toUInt32 >>> ((2 : Int32).toUInt32 &&& Int32.toUInt32 31)).toInt32) &&& 858993459)) + ((((((nI q) - ((((nI q).toUInt32 >>> ((1 : Int32).toUInt32 &&& Int32.toUInt32 31)).toInt32) &&& 1431655765)) &&& 858993459) + (((((nI q) - ((((nI q).toUInt32 >>> ((1 : Int32).toUInt32 &&& Int32.toUInt32 31)).toInt32) &&& 1431655765)).toUInt32 >>> ((2 : Int32).toUInt32 &&& Int32.toUInt32 31)).toInt32) &&& 858993459)).toUInt32 >>> ((4 : Int32).toUInt32 &&& Int32.toUInt32 31)).toInt32)) &&& 252645135).toUInt32 >>> ((8 : Int32).toUInt32 &&& Int32.toUInt32 31)).toInt32)) + (((((((((nI q) - ((((nI q).toUInt32 >>> ((1 : Int32).toUInt32 &&& Int32.toUInt32 31)).toInt32) &&& 1431655765)) &&& 858993459) + (((((nI q) - ((((nI q).toUInt32 >>> ((1 : Int32).toUInt32 &&& Int32.toUInt32 31)).toInt32) &&& 1431655765)).toUInt32 >>> ((2 : Int32).toUInt32 &&& Int32.toUInt32 31)).toInt32) &&& 858993459)) + ((((((nI q) - ((((nI q).toUInt32 >>> ((1 : Int32).toUInt32 &&& Int32.toUInt32 31)).toInt32) &&& 1431655765)) &&& 858993459) + (((((nI q) - ((((nI q).toUInt32 >>> ((1 : Int32).toUInt32 &&& Int32.toUInt32 31)).toInt32) &&& 1431655765)).toUInt32 >>> ((2 : Int32).toUInt32 &&& Int32.toUInt32 31)).toInt32) &&& 858993459)).toUInt32 >>> ((4 : Int32).toUInt32 &&& Int32.toUInt32 31)).toInt32)) &&& 252645135) + ((((((((nI q) - ((((nI q).toUInt32 >>> ((1 : Int32).toUInt32 &&& Int32.toUInt32 31)).toInt32) &&& 1431655765)) &&& 858993459) + (((((nI q) - ((((nI q).toUInt32 >>> ((1 : Int32).toUInt32 &&& Int32.toUInt32 31)).toInt32) &&& 1431655765)).toUInt32 >>> ((2 : Int32).toUInt32 &&& Int32.toUInt32 31)).toInt32) &&& 858993459)) + ((((((nI q) - ((((nI q).toUInt32 >>> ((1 : Int32).toUInt32 &&& Int32.toUInt32 31)).toInt32) &&& 1431655765)) &&& 858993459) + (((((nI q) - ((((nI q).toUInt32 >>> ((1 : Int32).toUInt32 &&& Int32.toUInt32 31)).toInt32) &&& 1431655765)).toUInt32 >>> ((2 : Int32).toUInt32 &&& Int32.toUInt32 31)).toInt32) &&& 858993459)).toUInt32 >>> ((4 : Int32).toUInt32 &&& Int32.toUInt32 31)).toInt32)) &&& 252645135).toUInt32 >>> ((8 : Int32).toUInt32 &&& Int32.toUInt32 31)).toInt32)).toUInt32 >>> ((16 : Int32).toUInt32 &&& Int32.toUInt32 31)).toInt32)))]) X dJ6_bitCount_0f7a4_47 rfl rfl rfl ?_
  refine xr_iload_n X 0 dJ6_bitCount_0f7a4_48 rfl rfl ?_
  refine xr_bipush (v := 63) X dJ6_bitCount_0f7a4_49 (by decide) ?_
  refine xr_iand X dJ6_bitCount_0f7a4_51 ?_
  exact xr_iret X rfl (xv (bc6 q hq).symm) rfl rfl rfl rfl dJ6_bitCount_0f7a4_52
set_option maxRecDepth 100000 in
theorem c_J0_coder_7d493 {l : Launch} {Ω : xW} {h : xH} {sz : Nat} {i : Nat} (hi : i < 6) : xC l Ω yJ0_coder_7d493 cJ0_coder_7d493 1 (some .byte) 0 0 0 [.ref (Ω.2.2.1 i)] h sz (some (.int 0)) h (sz) := by
  refine xC_of (lv := [(0, .ref (Ω.2.2.1 i))]) pn_J0 rfl rfl (fun Γ X hΓ hbs => ?_)
  have X : xX Γ Ω cJ0_coder_7d493 1 RJ0 "coder" (some .byte) 0 0 0 0 := X
  subst hΓ
  refine xr_kcs X kw_345 dJ0_coder_7d493_0 ?_
  refine xr_if_eq (tgt := 13) X dJ0_coder_7d493_3 (by decide) (fun c_3 => absurd c_3 (by decide)) (fun _ => ?_)
  refine xr_aload_n X 0 dJ0_coder_7d493_6 rfl rfl ?_
  refine xr_kcod X hi kw_1327 dJ0_coder_7d493_7 ?_
  refine xr_goto (tgt := 14) X dJ0_coder_7d493_10 (by decide) ?_
  exact xr_zret X rfl rfl rfl rfl rfl rfl rfl dJ0_coder_7d493_14
set_option maxRecDepth 100000 in
theorem c_J0_isLatin1_aae02 {l : Launch} {Ω : xW} {h : xH} {sz : Nat} {i : Nat} (hi : i < 6) : xC l Ω yJ0_isLatin1_aae02 cJ0_isLatin1_aae02 1 (some .boolean) 0 0 0 [.ref (Ω.2.2.1 i)] h sz (some (.int 1)) h (sz) := by
  refine xC_of (lv := [(0, .ref (Ω.2.2.1 i))]) pn_J0 rfl rfl (fun Γ X hΓ hbs => ?_)
  have X : xX Γ Ω cJ0_isLatin1_aae02 1 RJ0 "isLatin1" (some .boolean) 0 0 0 0 := X
  subst hΓ
  refine xr_kcs X kw_345 dJ0_isLatin1_aae02_0 ?_
  refine xr_if_eq (tgt := 17) X dJ0_isLatin1_aae02_3 (by decide) (fun c_3 => absurd c_3 (by decide)) (fun _ => ?_)
  refine xr_aload_n X 0 dJ0_isLatin1_aae02_6 rfl rfl ?_
  refine xr_kcod X hi kw_1327 dJ0_isLatin1_aae02_7 ?_
  refine xr_if_ne (tgt := 17) X dJ0_isLatin1_aae02_10 (by decide) (fun c_10 => absurd (by decide) c_10) (fun _ => ?_)
  refine xr_iconst (v := 1) X dJ0_isLatin1_aae02_13 (by decide) ?_
  refine xr_goto (tgt := 18) X dJ0_isLatin1_aae02_14 (by decide) ?_
  exact xr_zret X rfl rfl rfl rfl rfl rfl rfl dJ0_isLatin1_aae02_18
theorem k_sh0 (x : Int32) : x >>> ((0 : Int32) &&& 31) = x := by simp
set_option maxRecDepth 100000 in
theorem c_J0_length_8abf5 {l : Launch} {Ω : xW} {h : xH} {sz : Nat} {i : Nat} (hi : i < 6) : xC l Ω yJ0_length_8abf5 cJ0_length_8abf5 1 (some .int) 1 0 0 [.ref (Ω.2.2.1 i)] h sz (some (.int (nI (x_len.getD i 0)))) h (sz) := by
  refine xC_of (lv := [(0, .ref (Ω.2.2.1 i))]) pn_J0 rfl rfl (fun Γ X hΓ hbs => ?_)
  have X : xX Γ Ω cJ0_length_8abf5 1 RJ0 "length" (some .int) 1 35 0 0 := X
  subst hΓ
  refine xr_aload_n X 0 dJ0_length_8abf5_0 rfl rfl ?_
  refine xr_kval X hi kw_1326 dJ0_length_8abf5_1 ?_
  refine xr_klen (v := nI (x_len.getD i 0)) X hi rfl dJ0_length_8abf5_4 ?_
  refine xr_aload_n X 0 dJ0_length_8abf5_5 rfl rfl ?_
  refine xr_callK X hi kw_341 kw_342 kw_343 cw_J0_coder_7d493 [] (c_J0_coder_7d493 hi) rfl rfl rfl rfl rfl rfl rfl dJ0_length_8abf5_6 ?_
  refine xr_ishr X dJ0_length_8abf5_9 ?_
  exact xr_iret X rfl (xv (k_sh0 _).symm) rfl rfl rfl rfl dJ0_length_8abf5_10
set_option maxRecDepth 100000 in
theorem c_J3_checkIndexN {l : Launch} {Ω : xW} {h : xH} {sz : Nat} {x n2 : Int32} (h0 : 0 ≤ x.toInt) (h1 : x.toInt < n2.toInt) : xC l Ω yJ3_checkIndex_8e157 cJ3_checkIndex_8e157 3 (some .int) 0 0 0 [.int x, .int n2, .null] h sz (some (.int x)) h (sz) := by
  refine xC_of (lv := [(0, .int x), (1, .int n2), (2, .null)]) pn_J3 rfl rfl (fun Γ X hΓ hbs => ?_)
  have X : xX Γ Ω cJ3_checkIndex_8e157 3 RJ3 "checkIndex" (some .int) 0 0 0 0 := X
  subst hΓ
  refine xr_iload_n X 0 dJ3_checkIndex_8e157_0 rfl rfl ?_
  refine xr_if_lt (tgt := 9) X dJ3_checkIndex_8e157_1 (by decide) (fun c_1 => absurd c_1 (by rw [i32_lt, k32_0]; omega)) (fun _ => ?_)
  refine xr_iload_n X 0 dJ3_checkIndex_8e157_4 rfl rfl ?_
  refine xr_iload_n X 1 dJ3_checkIndex_8e157_5 rfl rfl ?_
  refine xr_icmp_lt (tgt := 16) X dJ3_checkIndex_8e157_6 (by decide) (fun _ => ?_) (fun c_6 => absurd (by rw [i32_lt]; exact h1) c_6)
  refine xr_iload_n X 0 dJ3_checkIndex_8e157_16 rfl rfl ?_
  exact xr_iret X rfl rfl rfl rfl rfl rfl dJ3_checkIndex_8e157_17
set_option maxRecDepth 100000 in
theorem c_J3_checkIndexR {l : Launch} {Ω : xW} {h : xH} {sz : Nat} {x n2 : Int32} {t : Nat} (h0 : 0 ≤ x.toInt) (h1 : x.toInt < n2.toInt) : xC l Ω yJ3_checkIndex_8e157 cJ3_checkIndex_8e157 3 (some .int) 0 0 0 [.int x, .int n2, .ref t] h sz (some (.int x)) h (sz) := by
  refine xC_of (lv := [(0, .int x), (1, .int n2), (2, .ref t)]) pn_J3 rfl rfl (fun Γ X hΓ hbs => ?_)
  have X : xX Γ Ω cJ3_checkIndex_8e157 3 RJ3 "checkIndex" (some .int) 0 0 0 0 := X
  subst hΓ
  refine xr_iload_n X 0 dJ3_checkIndex_8e157_0 rfl rfl ?_
  refine xr_if_lt (tgt := 9) X dJ3_checkIndex_8e157_1 (by decide) (fun c_1 => absurd c_1 (by rw [i32_lt, k32_0]; omega)) (fun _ => ?_)
  refine xr_iload_n X 0 dJ3_checkIndex_8e157_4 rfl rfl ?_
  refine xr_iload_n X 1 dJ3_checkIndex_8e157_5 rfl rfl ?_
  refine xr_icmp_lt (tgt := 16) X dJ3_checkIndex_8e157_6 (by decide) (fun _ => ?_) (fun c_6 => absurd (by rw [i32_lt]; exact h1) c_6)
  refine xr_iload_n X 0 dJ3_checkIndex_8e157_16 rfl rfl ?_
  exact xr_iret X rfl rfl rfl rfl rfl rfl dJ3_checkIndex_8e157_17
set_option maxRecDepth 100000 in
theorem c_J0_checkIndex_df160 {l : Launch} {Ω : xW} {h : xH} {sz : Nat} {x n2 : Int32} (h0 : 0 ≤ x.toInt) (h1 : x.toInt < n2.toInt) : xC l Ω yJ0_checkIndex_df160 cJ0_checkIndex_df160 2 none 1 0 0 [.int x, .int n2] h sz (none) h (sz) := by
  refine xC_of (lv := [(0, .int x), (1, .int n2)]) pn_J0 rfl rfl (fun Γ X hΓ hbs => ?_)
  have X : xX Γ Ω cJ0_checkIndex_df160 2 RJ0 "checkIndex" none 1 35 0 0 := X
  subst hΓ
  refine xr_iload_n X 0 dJ0_checkIndex_df160_0 rfl rfl ?_
  refine xr_iload_n X 1 dJ0_checkIndex_df160_1 rfl rfl ?_
  refine xr_ksi X kw_361 dJ0_checkIndex_df160_2 ?_ (fun t9 => ?_)
  · refine xr_callS X kw_363 kw_364 cw_J3_checkIndex_8e157 [.int x, .int n2, .null] (c_J3_checkIndexN h0 h1) rfl rfl rfl rfl rfl rfl rfl dJ0_checkIndex_df160_5 ?_
    refine xr_pop X dJ0_checkIndex_df160_8 rfl ?_
    exact xr_vret X rfl rfl rfl rfl rfl rfl dJ0_checkIndex_df160_9
  · refine xr_callS X kw_363 kw_364 cw_J3_checkIndex_8e157 [.int x, .int n2, .ref t9] (c_J3_checkIndexR h0 h1) rfl rfl rfl rfl rfl rfl rfl dJ0_checkIndex_df160_5 ?_
    refine xr_pop X dJ0_checkIndex_df160_8 rfl ?_
    exact xr_vret X rfl rfl rfl rfl rfl rfl dJ0_checkIndex_df160_9
theorem k_byt : ∀ i, i < 6 → ∀ j, j < x_len.getD i 0 → (((((x_byt.getD i []).getD j 0) &&& 255).toUInt32 % 65536).toInt32) = (x_byt.getD i []).getD j 0 := by decide +kernel
theorem k_bn : ∀ i, i < 6 → ∀ j, j < x_len.getD i 0 → narrow .char (.int ((x_byt.getD i []).getD j 0)) = .int ((x_byt.getD i []).getD j 0) := by decide +kernel
set_option maxRecDepth 100000 in
theorem c_J1_charAt_3b067 {l : Launch} {Ω : xW} {h : xH} {sz : Nat} {i j : Nat} (hi : i < 6) (hj : j < x_len.getD i 0) (hl : x_len.getD i 0 < 1000) : xC l Ω yJ1_charAt_3b067 cJ1_charAt_3b067 2 (some .char) 2 0 0 [.ref (Ω.2.2.2 i), .int (nI j)] h sz (some (.int ((x_byt.getD i []).getD j 0))) h (sz) := by
  refine xC_of (lv := [(0, .ref (Ω.2.2.2 i)), (1, .int (nI j))]) pn_J1 rfl rfl (fun Γ X hΓ hbs => ?_)
  have X : xX Γ Ω cJ1_charAt_3b067 2 RJ1 "charAt" (some .char) 2 70 0 0 := X
  subst hΓ
  refine xr_iload_n X 1 dJ1_charAt_3b067_0 rfl rfl ?_
  refine xr_aload_n X 0 dJ1_charAt_3b067_1 rfl rfl ?_
  refine xr_klen (v := nI (x_len.getD i 0)) X hi rfl dJ1_charAt_3b067_2 ?_
  refine xr_callS X kw_358 kw_359 cw_J0_checkIndex_df160 [.int (nI j), .int (nI (x_len.getD i 0))] (c_J0_checkIndex_df160 (by rw [nI_toInt (by omega)]; omega) (by rw [nI_toInt (by omega), nI_toInt (by omega)]; omega)) rfl rfl rfl rfl rfl rfl rfl dJ1_charAt_3b067_3 ?_
  refine xr_aload_n X 0 dJ1_charAt_3b067_6 rfl rfl ?_
  refine xr_iload_n X 1 dJ1_charAt_3b067_7 rfl rfl ?_
  refine xr_kbyte (j := j) X hi (xI_n hj (by omega)) dJ1_charAt_3b067_8 ?_
  refine xr_sipush (v := 255) X dJ1_charAt_3b067_9 (by decide) ?_
  refine xr_iand X dJ1_charAt_3b067_12 ?_
  refine xr_i2c X dJ1_charAt_3b067_13 ?_
  refine xr_top (y := ((x_byt.getD i []).getD j 0)) (k_byt i hi j hj) ?_
  exact xr_zret X rfl (k_bn i hi j hj) rfl rfl rfl rfl rfl dJ1_charAt_3b067_14
set_option maxRecDepth 100000 in
theorem c_J0_charAt_5068e {l : Launch} {Ω : xW} {h : xH} {sz : Nat} {i j : Nat} (hi : i < 6) (hj : j < x_len.getD i 0) (hl : x_len.getD i 0 < 1000) : xC l Ω yJ0_charAt_5068e cJ0_charAt_5068e 2 (some .char) 3 0 0 [.ref (Ω.2.2.1 i), .int (nI j)] h sz (some (.int ((x_byt.getD i []).getD j 0))) h (sz) := by
  refine xC_of (lv := [(0, .ref (Ω.2.2.1 i)), (1, .int (nI j))]) pn_J0 rfl rfl (fun Γ X hΓ hbs => ?_)
  have X : xX Γ Ω cJ0_charAt_5068e 2 RJ0 "charAt" (some .char) 3 105 0 0 := X
  subst hΓ
  refine xr_aload_n X 0 dJ0_charAt_5068e_0 rfl rfl ?_
  refine xr_callK X hi kw_351 kw_352 kw_353 cw_J0_isLatin1_aae02 [] (c_J0_isLatin1_aae02 hi) rfl rfl rfl rfl rfl rfl rfl dJ0_charAt_5068e_1 ?_
  refine xr_if_eq (tgt := 16) X dJ0_charAt_5068e_4 (by decide) (fun c_4 => absurd c_4 (by decide)) (fun _ => ?_)
  refine xr_aload_n X 0 dJ0_charAt_5068e_7 rfl rfl ?_
  refine xr_kval X hi kw_1326 dJ0_charAt_5068e_8 ?_
  refine xr_iload_n X 1 dJ0_charAt_5068e_11 rfl rfl ?_
  refine xr_callS X kw_355 kw_356 cw_J1_charAt_3b067 [.ref (Ω.2.2.2 i), .int (nI j)] (c_J1_charAt_3b067 hi hj hl) rfl rfl rfl rfl rfl rfl rfl dJ0_charAt_5068e_12 ?_
  exact xr_zret X rfl (k_bn i hi j hj) rfl rfl rfl rfl rfl dJ0_charAt_5068e_15
def ffl (f : Nat → Int32) (v : Int32) (k : Nat) : Nat → Int32 := fun q => if q < k then v else f q
theorem ffl_0 (f : Nat → Int32) (v : Int32) : ffl f v 0 = f := by funext q; simp [ffl]
theorem ffl_s (f : Nat → Int32) (v : Int32) (k : Nat) : upd (ffl f v k) k v = ffl f v (k + 1) := by
  funext q
  unfold upd ffl
  by_cases h : q = k
  · rw [if_pos h, if_pos (by omega)]
  · rw [if_neg h]
    by_cases h2 : q < k
    · rw [if_pos h2, if_pos (by omega)]
    · rw [if_neg h2, if_neg (by omega)]
set_option maxRecDepth 100000 in
theorem l_J7_fill {Γ : xΓ} {Ω : xW} {h : xH} {sz : Nat} (X : xX Γ Ω cJ7_fill_53178 4 RJ7 "fill" none 0 0 0 0) {a N : Nat} {f : Nat → Int32} {v : Int32} (ha : h a = some (.inl (.int, N, .inl f))) (hN : N < 1000) : ∀ (j0 k : Nat), k + j0 = N → xG Γ Ω 4 (xQ Γ Ω (none) (xu h a (.inl (.int, N, .inl (ffl f v N)))) (sz) 0 0) 5 [(2, .int (nI k)), (3, .int (nI N)), (0, .ref a), (1, .int v)] ([]) (xu h a (.inl (.int, N, .inl (ffl f v k)))) sz 0 0 := by
  intro j0
  induction j0 with
  | zero =>
    intro k hk
    have ek : k = N := by omega
    refine xr_iload_n X 0 dJ7_fill_53178_5 rfl rfl ?_
    refine xr_iload_n X 1 dJ7_fill_53178_6 rfl rfl ?_
    refine xr_icmp_ge (tgt := 20) X dJ7_fill_53178_7 (by decide) (fun _ => ?_) (fun c_7 => absurd (by rw [i32_le, nI_toInt (by omega), nI_toInt (by omega)]; omega) c_7)
    exact xr_vret X rfl rfl (by rw [ek]) rfl rfl rfl dJ7_fill_53178_20
  | succ j0 ih =>
    intro k hk
    have lk : k < N := by omega
    refine xr_iload_n X 0 dJ7_fill_53178_5 rfl rfl ?_
    refine xr_iload_n X 1 dJ7_fill_53178_6 rfl rfl ?_
    refine xr_icmp_ge (tgt := 20) X dJ7_fill_53178_7 (by decide) (fun c_7 => absurd c_7 (by rw [i32_le, nI_toInt (by omega), nI_toInt (by omega)]; omega)) (fun _ => ?_)
    refine xr_aload_n X 2 dJ7_fill_53178_10 rfl rfl ?_
    refine xr_iload_n X 0 dJ7_fill_53178_11 rfl rfl ?_
    refine xr_iload_n X 3 dJ7_fill_53178_12 rfl rfl ?_
    refine xr_iast (j := k) X (xu_s _ _ _) (xI_n (by omega) (by omega)) dJ7_fill_53178_13 ?_
    refine xr_heap (h' := (xu h a (.inl (.int, N, .inl (upd (ffl f v k) k v))))) (xu_uu _ _ _ _) ?_
    refine xr_iinc (v := nI (k + 1)) (lv' := [(2, .int (nI (k + 1))), (3, .int (nI N)), (0, .ref a), (1, .int v)]) X 0 dJ7_fill_53178_14 rfl (nI_1 _) rfl rfl ?_
    refine xr_goto (tgt := 5) X dJ7_fill_53178_17 (by decide) ?_
    refine xr_heap (h' := (xu h a (.inl (.int, N, .inl (ffl f v (k + 1)))))) (by rw [ffl_s]) ?_
    exact ih (k + 1) (by omega)
set_option maxRecDepth 100000 in
theorem c_J7_fill_53178 {l : Launch} {Ω : xW} {h : xH} {sz : Nat} {a N : Nat} {f : Nat → Int32} {v : Int32} (ha : h a = some (.inl (.int, N, .inl f))) (hN : N < 1000) : xC l Ω yJ7_fill_53178 cJ7_fill_53178 4 none 0 0 0 [.ref a, .int v] h sz (none) (xu h a (.inl (.int, N, .inl (ffl f v N)))) (sz) := by
  refine xC_of (lv := [(0, .ref a), (1, .int v)]) pn_J7 rfl rfl (fun Γ X hΓ hbs => ?_)
  have X : xX Γ Ω cJ7_fill_53178 4 RJ7 "fill" none 0 0 0 0 := X
  subst hΓ
  refine xr_iconst (v := 0) X dJ7_fill_53178_0 (by decide) ?_
  refine xr_istore_n (lv' := [(2, .int 0), (0, .ref a), (1, .int v)]) X dJ7_fill_53178_1 rfl rfl rfl ?_
  refine xr_aload_n X 1 dJ7_fill_53178_2 rfl rfl ?_
  refine xr_alen (v := nI N) X ha rfl dJ7_fill_53178_3 ?_
  refine xr_istore_n (lv' := [(3, .int (nI N)), (2, .int 0), (0, .ref a), (1, .int v)]) X dJ7_fill_53178_4 rfl rfl rfl ?_
  refine xr_locs (lv' := [(2, .int 0), (3, .int (nI N)), (0, .ref a), (1, .int v)]) [1, 0, 2, 3] rfl ?_
  refine xr_heap (h' := (xu h a (.inl (.int, N, .inl (ffl f v 0))))) (by rw [ffl_0]; exact (xu_id ha).symm) ?_
  exact l_J7_fill X ha hN N 0 (by omega)
