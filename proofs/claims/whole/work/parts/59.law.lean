set_option maxRecDepth 100000 in
theorem l_law {Γ : xΓ} {Ω : xW} {e w m b L : Nat} {xs : Nat → Int32} {nm : String} {Q : State → Prop} (X : xX Γ Ω cL_law 4 RL nm ret 12 430 600000 7302250) (S : xScr Γ Ω b L xs) (hw : w = e + 16) (hm : m = e + 37) (hL : L ≤ 384) (KR : ∀ (lv : List (Nat × Value)) (h : xH) (sz k n : Nat), k ≤ 600000 → n ≤ 7302250 → xG Γ Ω 4 Q 1055 lv [.int 1] h sz k n) : ∀ (j0 i : Nat) (h : xH) (sz : Nat), i + j0 = 64 → INV e w m h sz → xG Γ Ω 4 Q 18 [(3, .int (nI (6 * i))), (2, .ref m), (1, .ref e), (0, .ref b)] [] h sz (49 + 7 * i) (2983 + 21 * i) := by
  intro j0
  induction j0 with
  | zero =>
    intro i h sz hk I
    refine xr_iload_n X 0 dL_law_18 rfl rfl ?_
    refine xr_aload_n X 3 dL_law_19 rfl rfl ?_
    refine xr_slen X S dL_law_20 ?_
    refine xr_bipush (v := 6) X dL_law_21 (by decide) ?_
    refine xr_isub X dL_law_23 ?_
    refine xr_nm (fun q9 e_q9 => ?_)
    have eq9 : q9.toInt = (L : Int) - 6 := by rw [e_q9, i32_sub (by rw [nI_toInt (by omega), k32_6]; omega) (by rw [nI_toInt (by omega), k32_6]; omega), nI_toInt (by omega), k32_6]
    refine xr_icmp_gt (tgt := 1054) X dL_law_24 (by decide) (fun c_24 => ?_) (fun c_24 => ?_)
    · have c_24 := i32_lt.mp c_24
      (try simp (disch := omega) only [nI_toInt, i32_add, i32_sub, i32_mul, i64_addl, i32_l, k32_6, k64_6] at c_24)
      refine xr_iconst (v := 1) X dL_law_1054 (by decide) ?_
      exact KR _ _ _ _ _ (by omega) (by omega)
    · have c_24 := mt i32_lt.mpr c_24
      (try simp (disch := omega) only [nI_toInt, i32_add, i32_sub, i32_mul, i64_addl, i32_l, k32_6, k64_6] at c_24)
      exfalso
      omega
      --end
  | succ j0 ih =>
    intro i h sz hk I
    refine xr_sz (fun z9 ez9 hz9 hdom => ?_) X
    subst ez9
    refine xr_iload_n X 0 dL_law_18 rfl rfl ?_
    refine xr_aload_n X 3 dL_law_19 rfl rfl ?_
    refine xr_slen X S dL_law_20 ?_
    refine xr_bipush (v := 6) X dL_law_21 (by decide) ?_
    refine xr_isub X dL_law_23 ?_
    refine xr_nm (fun q9 e_q9 => ?_)
    have eq9 : q9.toInt = (L : Int) - 6 := by rw [e_q9, i32_sub (by rw [nI_toInt (by omega), k32_6]; omega) (by rw [nI_toInt (by omega), k32_6]; omega), nI_toInt (by omega), k32_6]
    refine xr_icmp_gt (tgt := 1054) X dL_law_24 (by decide) (fun c_24 => ?_) (fun c_24 => ?_)
    · have c_24 := i32_lt.mp c_24
      (try simp (disch := omega) only [nI_toInt, i32_add, i32_sub, i32_mul, i64_addl, i32_l, k32_6, k64_6] at c_24)
      refine xr_iconst (v := 1) X dL_law_1054 (by decide) ?_
      exact KR _ _ _ _ _ (by omega) (by omega)
    · have c_24 := mt i32_lt.mpr c_24
      (try simp (disch := omega) only [nI_toInt, i32_add, i32_sub, i32_mul, i64_addl, i32_l, k32_6, k64_6] at c_24)
      refine xr_aload_n X 3 dL_law_27 rfl rfl ?_
      refine xr_iload_n X 0 dL_law_28 rfl rfl ?_
      refine xr_sld (j := (6 * i)) X S (xI_n (by omega) (by omega)) dL_law_29 ?_
      refine xr_bipush (v := 31) X dL_law_30 (by decide) ?_
      refine xr_iand X dL_law_32 ?_
      refine xr_nm (fun v9 e_v9 => ?_)
      have hcase : v9.toInt = 0 ∨ v9.toInt = 1 ∨ v9.toInt = 2 ∨ v9.toInt = 3 ∨ v9.toInt = 4 ∨ v9.toInt = 5 ∨ v9.toInt = 6 ∨ v9.toInt = 7 ∨ v9.toInt = 8 ∨ v9.toInt = 9 ∨ v9.toInt = 10 ∨ v9.toInt = 11 ∨ v9.toInt = 12 ∨ v9.toInt = 13 ∨ v9.toInt = 14 ∨ v9.toInt = 15 ∨ v9.toInt = 16 ∨ v9.toInt = 17 ∨ v9.toInt = 18 ∨ v9.toInt = 19 ∨ v9.toInt = 20 ∨ v9.toInt = 21 ∨ v9.toInt = 22 ∨ v9.toInt = 23 ∨ v9.toInt = 24 ∨ v9.toInt = 25 ∨ v9.toInt = 26 ∨ v9.toInt = 27 ∨ v9.toInt = 28 ∨ v9.toInt = 29 ∨ (v9.toInt < 0 ∨ 29 < v9.toInt) := by omega
      rcases hcase with ew | ew | ew | ew | ew | ew | ew | ew | ew | ew | ew | ew | ew | ew | ew | ew | ew | ew | ew | ew | ew | ew | ew | ew | ew | ew | ew | ew | ew | ew | ew
      · refine xr_tableIn (off := 135) (tgt := 168) X dL_law_33 (by omega) (by omega) (by rw [ew]; rfl) (by decide) ?_
        exact l_case_row X S hw hm hL (by omega) I hdom (fun h sz I => ih (i + 1) h sz (by omega) I)
      · refine xr_tableIn (off := 178) (tgt := 211) X dL_law_33 (by omega) (by omega) (by rw [ew]; rfl) (by decide) ?_
        exact l_case_set X S hw hm hL (by omega) I hdom (fun h sz I => ih (i + 1) h sz (by omega) I)
      · refine xr_tableIn (off := 221) (tgt := 254) X dL_law_33 (by omega) (by omega) (by rw [ew]; rfl) (by decide) ?_
        exact l_case_copy X S hw hm hL (by omega) I hdom (fun h sz I => ih (i + 1) h sz (by omega) I)
      · refine xr_tableIn (off := 284) (tgt := 317) X dL_law_33 (by omega) (by omega) (by rw [ew]; rfl) (by decide) ?_
        exact l_case_drop X S hw hm hL (by omega) I hdom (fun h sz I => ih (i + 1) h sz (by omega) I)
      · refine xr_tableIn (off := 307) (tgt := 340) X dL_law_33 (by omega) (by omega) (by rw [ew]; rfl) (by decide) ?_
        exact l_case_feed X S hw hm hL (by omega) I hdom (fun h sz I => ih (i + 1) h sz (by omega) I)
      · refine xr_tableIn (off := 370) (tgt := 403) X dL_law_33 (by omega) (by omega) (by rw [ew]; rfl) (by decide) ?_
        exact l_case_town X S hw hm hL (by omega) I hdom (fun h sz I => ih (i + 1) h sz (by omega) I)
      · refine xr_tableIn (off := 383) (tgt := 416) X dL_law_33 (by omega) (by omega) (by rw [ew]; rfl) (by decide) ?_
        exact l_case_fault X S hw hm hL (by omega) I hdom (fun h sz I => ih (i + 1) h sz (by omega) I)
      · refine xr_tableIn (off := 396) (tgt := 429) X dL_law_33 (by omega) (by omega) (by rw [ew]; rfl) (by decide) ?_
        exact l_case_post X S hw hm hL (by omega) I hdom (fun h sz I => ih (i + 1) h sz (by omega) I)
      · refine xr_tableIn (off := 419) (tgt := 452) X dL_law_33 (by omega) (by omega) (by rw [ew]; rfl) (by decide) ?_
        exact l_case_posts X S hw hm hL (by omega) I hdom (fun h sz I => ih (i + 1) h sz (by omega) I)
      · refine xr_tableIn (off := 462) (tgt := 495) X dL_law_33 (by omega) (by omega) (by rw [ew]; rfl) (by decide) ?_
        exact l_case_lots X S hw hm hL (by omega) I hdom (fun h sz I => ih (i + 1) h sz (by omega) I)
      · refine xr_tableIn (off := 495) (tgt := 528) X dL_law_33 (by omega) (by omega) (by rw [ew]; rfl) (by decide) ?_
        exact l_case_undo X S hw hm hL (by omega) I hdom (fun h sz I => ih (i + 1) h sz (by omega) I)
      · refine xr_tableIn (off := 508) (tgt := 541) X dL_law_33 (by omega) (by omega) (by rw [ew]; rfl) (by decide) ?_
        exact l_case_person X S hw hm hL (by omega) I hdom (fun h sz I => ih (i + 1) h sz (by omega) I)
      · refine xr_tableIn (off := 541) (tgt := 574) X dL_law_33 (by omega) (by omega) (by rw [ew]; rfl) (by decide) ?_
        exact l_case_done X S hw hm hL (by omega) I hdom (fun h sz I => ih (i + 1) h sz (by omega) I)
      · refine xr_tableIn (off := 564) (tgt := 597) X dL_law_33 (by omega) (by omega) (by rw [ew]; rfl) (by decide) ?_
        exact l_case_agreeing X S hw hm hL (by omega) I hdom (fun h sz I => ih (i + 1) h sz (by omega) I)
      · refine xr_tableIn (off := 587) (tgt := 620) X dL_law_33 (by omega) (by omega) (by rw [ew]; rfl) (by decide) ?_
        exact l_case_fullest X S hw hm hL (by omega) I hdom (fun h sz I => ih (i + 1) h sz (by omega) I)
      · refine xr_tableIn (off := 600) (tgt := 633) X dL_law_33 (by omega) (by omega) (by rw [ew]; rfl) (by decide) ?_
        exact l_case_culprits X S hw hm hL (by omega) I hdom (fun h sz I => ih (i + 1) h sz (by omega) I)
      · refine xr_tableIn (off := 623) (tgt := 656) X dL_law_33 (by omega) (by omega) (by rw [ew]; rfl) (by decide) ?_
        exact l_case_chains X S hw hm hL (by omega) I hdom (fun h sz I => ih (i + 1) h sz (by omega) I)
      · refine xr_tableIn (off := 656) (tgt := 689) X dL_law_33 (by omega) (by omega) (by rw [ew]; rfl) (by decide) ?_
        exact l_case_breaks X S hw hm hL (by omega) I hdom (fun h sz I => ih (i + 1) h sz (by omega) I)
      · refine xr_tableIn (off := 699) (tgt := 732) X dL_law_33 (by omega) (by omega) (by rw [ew]; rfl) (by decide) ?_
        exact l_case_comes X S hw hm hL (by omega) I hdom (fun h sz I => ih (i + 1) h sz (by omega) I)
      · refine xr_tableIn (off := 742) (tgt := 775) X dL_law_33 (by omega) (by omega) (by rw [ew]; rfl) (by decide) ?_
        exact l_case_likeliest X S hw hm hL (by omega) I hdom (fun h sz I => ih (i + 1) h sz (by omega) I)
      · refine xr_tableIn (off := 755) (tgt := 788) X dL_law_33 (by omega) (by omega) (by rw [ew]; rfl) (by decide) ?_
        exact l_case_lost X S hw hm hL (by omega) I hdom (fun h sz I => ih (i + 1) h sz (by omega) I)
      · refine xr_tableIn (off := 788) (tgt := 821) X dL_law_33 (by omega) (by omega) (by rw [ew]; rfl) (by decide) ?_
        exact l_case_readBy X S hw hm hL (by omega) I hdom (fun h sz I => ih (i + 1) h sz (by omega) I)
      · refine xr_tableIn (off := 821) (tgt := 854) X dL_law_33 (by omega) (by omega) (by rw [ew]; rfl) (by decide) ?_
        exact l_case_image X S hw hm hL (by omega) I hdom (fun h sz I => ih (i + 1) h sz (by omega) I)
      · refine xr_tableIn (off := 844) (tgt := 877) X dL_law_33 (by omega) (by omega) (by rw [ew]; rfl) (by decide) ?_
        exact l_case_restore X S hw hm hL (by omega) I hdom (fun h sz I => ih (i + 1) h sz (by omega) I)
      · refine xr_tableIn (off := 867) (tgt := 900) X dL_law_33 (by omega) (by omega) (by rw [ew]; rfl) (by decide) ?_
        exact l_case_kind X S hw hm hL (by omega) I hdom (fun h sz I => ih (i + 1) h sz (by omega) I)
      · refine xr_tableIn (off := 890) (tgt := 923) X dL_law_33 (by omega) (by omega) (by rw [ew]; rfl) (by decide) ?_
        exact l_case_as X S hw hm hL (by omega) I hdom (fun h sz I => ih (i + 1) h sz (by omega) I)
      · refine xr_tableIn (off := 923) (tgt := 956) X dL_law_33 (by omega) (by omega) (by rw [ew]; rfl) (by decide) ?_
        exact l_case_ask X S hw hm hL (by omega) I hdom (fun h sz I => ih (i + 1) h sz (by omega) I)
      · refine xr_tableIn (off := 956) (tgt := 989) X dL_law_33 (by omega) (by omega) (by rw [ew]; rfl) (by decide) ?_
        exact l_case_trace X S hw hm hL (by omega) I hdom (fun h sz I => ih (i + 1) h sz (by omega) I)
      · refine xr_tableIn (off := 979) (tgt := 1012) X dL_law_33 (by omega) (by omega) (by rw [ew]; rfl) (by decide) ?_
        exact l_case_count X S hw hm hL (by omega) I hdom (fun h sz I => ih (i + 1) h sz (by omega) I)
      · refine xr_tableIn (off := 1002) (tgt := 1035) X dL_law_33 (by omega) (by omega) (by rw [ew]; rfl) (by decide) ?_
        exact l_case_status X S hw hm hL (by omega) I hdom (fun h sz I => ih (i + 1) h sz (by omega) I)
      · refine xr_tableOut (tgt := 1048) X dL_law_33 (by omega) (by decide) ?_
        refine xr_iinc (v := nI (6 * (i + 1))) (lv' := [(3, .int (nI (6 * (i + 1)))), (2, .ref m), (1, .ref e), (0, .ref b)]) X 0 dL_law_1048 rfl (by rw [show 6 * (i + 1) = 6 * i + 6 by omega]; exact nI_add (6 * i) 6) rfl rfl ?_
        refine xr_goto (tgt := 18) X dL_law_1051 (by decide) ?_
        refine xr_wid (k2 := 49 + 7 * (i + 1)) (n2 := 2983 + 21 * (i + 1)) (by omega) (by omega) ?_
        exact ih (i + 1) h _ (by omega) I
