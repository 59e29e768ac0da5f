abbrev kO (e : Nat) (le pr fa tk fi be : Int32) : xE := .inr (6, [.ref (e + 14), .int le, .ref (e + 15), .int pr, .int fa, .int tk, .int fi, .int be])
/-- a byte of the class's tape -/
def sb (v : Nat) : Int32 := (nI v).toInt8.toInt32
theorem sb_v : ∀ v, v < 256 → (sb v).toInt = if v < 128 then (v : Int) else (v : Int) - 256 := by decide +kernel
theorem sb_n : ∀ v, v < 256 → vp_nar .byte (sb v) = sb v := by decide +kernel
def cyF (t : Nat → Nat) (L k : Nat) : Int32 := if k < L then sb (t k) else 0
theorem cyF_v {t : Nat → Nat} {L k : Nat} (h : ∀ q, q < L → t q < 256) : (k < L ∧ t k < 128 ∧ (cyF t L k).toInt = t k) ∨ (k < L ∧ 128 ≤ t k ∧ t k < 256 ∧ (cyF t L k).toInt = (t k : Int) - 256) ∨ (¬ k < L ∧ (cyF t L k).toInt = 0) := by
  unfold cyF
  by_cases c : k < L
  · rw [if_pos c]
    have h1 := h k c
    rw [sb_v _ h1]
    by_cases c2 : t k < 128
    · rw [if_pos c2]; exact Or.inl ⟨c, c2, rfl⟩
    · rw [if_neg c2]; exact Or.inr (Or.inl ⟨c, by omega, h1, rfl⟩)
  · rw [if_neg c]
    exact Or.inr (Or.inr ⟨c, by decide⟩)
theorem cy_bk {t : Nat → Nat} {L k : Nat} (h : ∀ q, q < L → t q < 256) : (decide ((cyF t L k).toInt = 32 ∨ (cyF t L k).toInt = 10)) = bkP t L k := by
  unfold bkP
  apply decide_eq_decide.mpr
  have := cyF_v (k := k) h
  omega
theorem cy_lt {t : Nat → Nat} {L k : Nat} (h : ∀ q, q < L → t q < 256) : (decide (97 ≤ (cyF t L k).toInt ∧ (cyF t L k).toInt ≤ 122)) = ltP t L k := by
  unfold ltP
  apply decide_eq_decide.mpr
  have := cyF_v (k := k) h
  omega
theorem cy_fg {t : Nat → Nat} {L k : Nat} (h : ∀ q, q < L → t q < 256) : (decide (48 ≤ (cyF t L k).toInt ∧ (cyF t L k).toInt ≤ 57)) = fgP t L k := by
  unfold fgP
  apply decide_eq_decide.mpr
  have := cyF_v (k := k) h
  omega
set_option maxRecDepth 100000 in
theorem c_X7_byteAt {l : Launch} {Ω : xW} {h : xH} {sz : Nat} {e : Nat} {pr fa tk fi be : Int32} {bt : Nat → Int32} {t : Nat → Nat} {L : Nat} {k : Nat} (hko : h (e + 13) = some (kO e (nI L) pr fa tk fi be)) (hbt : h (e + 14) = some (.inl (.byte, 300, .inl bt))) (hB : ∀ q, q < L → bt q = sb (t q)) (ht : ∀ q, q < L → t q < 256) (hL : L ≤ 300) (hk : k ≤ 300) : xC l Ω yX7_byteAt cX7_byteAt 2 (some .int) 0 0 0 [.ref (e + 13), .int (nI k)] h sz (some (.int (cyF t L k))) h (sz) := by
  refine xC_of (lv := [(0, .ref (e + 13)), (1, .int (nI k))]) pn_X7 rfl rfl (fun Γ X hΓ hbs => ?_)
  have X : xX Γ Ω cX7_byteAt 2 RX7 "byteAt" (some .int) 0 0 0 0 := X
  subst hΓ
  refine xr_iload_n X 1 dX7_byteAt_0 rfl rfl ?_
  refine xr_if_lt (tgt := 21) X dX7_byteAt_1 (by decide) (fun c_1 => ?_) (fun c_1 => ?_)
  · have c_1 := i32_lt.mp c_1
    (try simp (disch := omega) only [nI_toInt, i32_add, i32_sub, i32_mul, i64_addl, i32_l, k32_0, k64_0] at c_1)
    refine xr_iconst (v := 0) X dX7_byteAt_21 (by decide) ?_
    refine xr_goto (tgt := 31) X dX7_byteAt_22 (by decide) ?_
    exact xr_iret X rfl (xv (if_neg (by omega))) rfl rfl rfl rfl dX7_byteAt_31
  · have c_1 := mt i32_lt.mpr c_1
    (try simp (disch := omega) only [nI_toInt, i32_add, i32_sub, i32_mul, i64_addl, i32_l, k32_0, k64_0] at c_1)
    refine xr_iload_n X 1 dX7_byteAt_4 rfl rfl ?_
    refine xr_aload_n X 0 dX7_byteAt_5 rfl rfl ?_
    refine xr_get X fF_X7_15_6 hko rfl dX7_byteAt_6 ?_
    refine xr_icmp_ge (tgt := 21) X dX7_byteAt_9 (by decide) (fun c_9 => ?_) (fun c_9 => ?_)
    · have c_9 := i32_le.mp c_9
      (try simp (disch := omega) only [nI_toInt, i32_add, i32_sub, i32_mul, i64_addl, i32_l] at c_9)
      refine xr_iconst (v := 0) X dX7_byteAt_21 (by decide) ?_
      refine xr_goto (tgt := 31) X dX7_byteAt_22 (by decide) ?_
      exact xr_iret X rfl (xv (if_neg (by omega))) rfl rfl rfl rfl dX7_byteAt_31
    · have c_9 := mt i32_le.mpr c_9
      (try simp (disch := omega) only [nI_toInt, i32_add, i32_sub, i32_mul, i64_addl, i32_l] at c_9)
      refine xr_iload_n X 1 dX7_byteAt_12 rfl rfl ?_
      refine xr_aload_n X 0 dX7_byteAt_13 rfl rfl ?_
      refine xr_get X fF_X7_11_6 hko rfl dX7_byteAt_14 ?_
      refine xr_alen (v := 300) X hbt (show nI 300 = 300 by decide) dX7_byteAt_17 ?_
      refine xr_icmp_lt (tgt := 25) X dX7_byteAt_18 (by decide) (fun c_18 => ?_) (fun c_18 => ?_)
      · have c_18 := i32_lt.mp c_18
        (try simp (disch := omega) only [nI_toInt, i32_add, i32_sub, i32_mul, i64_addl, i32_l, k32_300] at c_18)
        refine xr_aload_n X 0 dX7_byteAt_25 rfl rfl ?_
        refine xr_get X fF_X7_11_6 hko rfl dX7_byteAt_26 ?_
        refine xr_iload_n X 1 dX7_byteAt_29 rfl rfl ?_
        refine xr_bald (j := k) X hbt (xI_n (by omega) (by omega)) dX7_byteAt_30 ?_
        exact xr_iret X rfl (xv ((if_pos (by omega)).trans (hB k (by omega)).symm)) rfl rfl rfl rfl dX7_byteAt_31
      · have c_18 := mt i32_lt.mpr c_18
        (try simp (disch := omega) only [nI_toInt, i32_add, i32_sub, i32_mul, i64_addl, i32_l, k32_300] at c_18)
        refine xr_iconst (v := 0) X dX7_byteAt_21 (by decide) ?_
        refine xr_goto (tgt := 31) X dX7_byteAt_22 (by decide) ?_
        exact xr_iret X rfl (xv (if_neg (by omega))) rfl rfl rfl rfl dX7_byteAt_31
set_option maxRecDepth 100000 in
theorem c_X7_isBlank {l : Launch} {Ω : xW} {h : xH} {sz : Nat} {c : Int32}  : xC l Ω yX7_isBlank cX7_isBlank 1 (some .boolean) 0 0 0 [.int c] h sz (some (.int (xb (decide (c.toInt = 32 ∨ c.toInt = 10))))) h (sz) := by
  refine xC_of (lv := [(0, .int c)]) pn_X7 rfl rfl (fun Γ X hΓ hbs => ?_)
  have X : xX Γ Ω cX7_isBlank 1 RX7 "isBlank" (some .boolean) 0 0 0 0 := X
  subst hΓ
  refine xr_iload_n X 0 dX7_isBlank_0 rfl rfl ?_
  refine xr_bipush (v := 32) X dX7_isBlank_1 (by decide) ?_
  refine xr_icmp_eq (tgt := 12) X dX7_isBlank_3 (by decide) (fun c_3 => ?_) (fun c_3 => ?_)
  · have c_3 := i32_eq.mp c_3
    (try simp (disch := omega) only [nI_toInt, i32_add, i32_sub, i32_mul, i64_addl, i32_l, k32_32] at c_3)
    refine xr_iconst (v := 1) X dX7_isBlank_12 (by decide) ?_
    refine xr_goto (tgt := 17) X dX7_isBlank_13 (by decide) ?_
    exact xr_zret X rfl rfl (by first | exact xbT (by omega) | exact xbF (by omega)) rfl rfl rfl rfl dX7_isBlank_17
  · have c_3 := mt i32_eq.mpr c_3
    (try simp (disch := omega) only [nI_toInt, i32_add, i32_sub, i32_mul, i64_addl, i32_l, k32_32] at c_3)
    refine xr_iload_n X 0 dX7_isBlank_6 rfl rfl ?_
    refine xr_bipush (v := 10) X dX7_isBlank_7 (by decide) ?_
    refine xr_icmp_ne (tgt := 16) X dX7_isBlank_9 (by decide) (fun c_9 => ?_) (fun c_9 => ?_)
    · have c_9 := mt i32_eq.mpr c_9
      (try simp (disch := omega) only [nI_toInt, i32_add, i32_sub, i32_mul, i64_addl, i32_l, k32_10, k64_10] at c_9)
      refine xr_iconst (v := 0) X dX7_isBlank_16 (by decide) ?_
      exact xr_zret X rfl rfl (by first | exact xbT (by omega) | exact xbF (by omega)) rfl rfl rfl rfl dX7_isBlank_17
    · have c_9 := i32_eq.mp c_9
      (try simp (disch := omega) only [nI_toInt, i32_add, i32_sub, i32_mul, i64_addl, i32_l, k32_10, k64_10] at c_9)
      refine xr_iconst (v := 1) X dX7_isBlank_12 (by decide) ?_
      refine xr_goto (tgt := 17) X dX7_isBlank_13 (by decide) ?_
      exact xr_zret X rfl rfl (by first | exact xbT (by omega) | exact xbF (by omega)) rfl rfl rfl rfl dX7_isBlank_17
set_option maxRecDepth 100000 in
theorem c_X7_isLetter {l : Launch} {Ω : xW} {h : xH} {sz : Nat} {c : Int32}  : xC l Ω yX7_isLetter cX7_isLetter 1 (some .boolean) 0 0 0 [.int c] h sz (some (.int (xb (decide (97 ≤ c.toInt ∧ c.toInt ≤ 122))))) h (sz) := by
  refine xC_of (lv := [(0, .int c)]) pn_X7 rfl rfl (fun Γ X hΓ hbs => ?_)
  have X : xX Γ Ω cX7_isLetter 1 RX7 "isLetter" (some .boolean) 0 0 0 0 := X
  subst hΓ
  refine xr_iload_n X 0 dX7_isLetter_0 rfl rfl ?_
  refine xr_bipush (v := 97) X dX7_isLetter_1 (by decide) ?_
  refine xr_icmp_lt (tgt := 16) X dX7_isLetter_3 (by decide) (fun c_3 => ?_) (fun c_3 => ?_)
  · have c_3 := i32_lt.mp c_3
    (try simp (disch := omega) only [nI_toInt, i32_add, i32_sub, i32_mul, i64_addl, i32_l, k32_97] at c_3)
    refine xr_iconst (v := 0) X dX7_isLetter_16 (by decide) ?_
    exact xr_zret X rfl rfl (by first | exact xbT (by omega) | exact xbF (by omega)) rfl rfl rfl rfl dX7_isLetter_17
  · have c_3 := mt i32_lt.mpr c_3
    (try simp (disch := omega) only [nI_toInt, i32_add, i32_sub, i32_mul, i64_addl, i32_l, k32_97] at c_3)
    refine xr_iload_n X 0 dX7_isLetter_6 rfl rfl ?_
    refine xr_bipush (v := 122) X dX7_isLetter_7 (by decide) ?_
    refine xr_icmp_gt (tgt := 16) X dX7_isLetter_9 (by decide) (fun c_9 => ?_) (fun c_9 => ?_)
    · have c_9 := i32_lt.mp c_9
      (try simp (disch := omega) only [nI_toInt, i32_add, i32_sub, i32_mul, i64_addl, i32_l, k32_122] at c_9)
      refine xr_iconst (v := 0) X dX7_isLetter_16 (by decide) ?_
      exact xr_zret X rfl rfl (by first | exact xbT (by omega) | exact xbF (by omega)) rfl rfl rfl rfl dX7_isLetter_17
    · have c_9 := mt i32_lt.mpr c_9
      (try simp (disch := omega) only [nI_toInt, i32_add, i32_sub, i32_mul, i64_addl, i32_l, k32_122] at c_9)
      refine xr_iconst (v := 1) X dX7_isLetter_12 (by decide) ?_
      refine xr_goto (tgt := 17) X dX7_isLetter_13 (by decide) ?_
      exact xr_zret X rfl rfl (by first | exact xbT (by omega) | exact xbF (by omega)) rfl rfl rfl rfl dX7_isLetter_17
set_option maxRecDepth 100000 in
theorem c_X7_isFigure {l : Launch} {Ω : xW} {h : xH} {sz : Nat} {c : Int32}  : xC l Ω yX7_isFigure cX7_isFigure 1 (some .boolean) 0 0 0 [.int c] h sz (some (.int (xb (decide (48 ≤ c.toInt ∧ c.toInt ≤ 57))))) h (sz) := by
  refine xC_of (lv := [(0, .int c)]) pn_X7 rfl rfl (fun Γ X hΓ hbs => ?_)
  have X : xX Γ Ω cX7_isFigure 1 RX7 "isFigure" (some .boolean) 0 0 0 0 := X
  subst hΓ
  refine xr_iload_n X 0 dX7_isFigure_0 rfl rfl ?_
  refine xr_bipush (v := 48) X dX7_isFigure_1 (by decide) ?_
  refine xr_icmp_lt (tgt := 16) X dX7_isFigure_3 (by decide) (fun c_3 => ?_) (fun c_3 => ?_)
  · have c_3 := i32_lt.mp c_3
    (try simp (disch := omega) only [nI_toInt, i32_add, i32_sub, i32_mul, i64_addl, i32_l, k32_48] at c_3)
    refine xr_iconst (v := 0) X dX7_isFigure_16 (by decide) ?_
    exact xr_zret X rfl rfl (by first | exact xbT (by omega) | exact xbF (by omega)) rfl rfl rfl rfl dX7_isFigure_17
  · have c_3 := mt i32_lt.mpr c_3
    (try simp (disch := omega) only [nI_toInt, i32_add, i32_sub, i32_mul, i64_addl, i32_l, k32_48] at c_3)
    refine xr_iload_n X 0 dX7_isFigure_6 rfl rfl ?_
    refine xr_bipush (v := 57) X dX7_isFigure_7 (by decide) ?_
    refine xr_icmp_gt (tgt := 16) X dX7_isFigure_9 (by decide) (fun c_9 => ?_) (fun c_9 => ?_)
    · have c_9 := i32_lt.mp c_9
      (try simp (disch := omega) only [nI_toInt, i32_add, i32_sub, i32_mul, i64_addl, i32_l, k32_57] at c_9)
      refine xr_iconst (v := 0) X dX7_isFigure_16 (by decide) ?_
      exact xr_zret X rfl rfl (by first | exact xbT (by omega) | exact xbF (by omega)) rfl rfl rfl rfl dX7_isFigure_17
    · have c_9 := mt i32_lt.mpr c_9
      (try simp (disch := omega) only [nI_toInt, i32_add, i32_sub, i32_mul, i64_addl, i32_l, k32_57] at c_9)
      refine xr_iconst (v := 1) X dX7_isFigure_12 (by decide) ?_
      refine xr_goto (tgt := 17) X dX7_isFigure_13 (by decide) ?_
      exact xr_zret X rfl rfl (by first | exact xbT (by omega) | exact xbF (by omega)) rfl rfl rfl rfl dX7_isFigure_17
set_option maxRecDepth 100000 in
theorem l_X7_stA {Γ : xΓ} {Ω : xW} {h : xH} {sz : Nat} (X : xX Γ Ω cX7_step 1 RX7 "step" none 1 35 0 0) {e : Nat} {pr fa tk fi be : Int32} {bt : Nat → Int32} {t : Nat → Nat} {L : Nat} {p s9 : Nat} {b9 : Int32} {Q : State → Prop} (hko : h (e + 13) = some (kO e (nI L) pr fa tk fi be)) (hbt : h (e + 14) = some (.inl (.byte, 300, .inl bt))) (hB : ∀ q, q < L → bt q = sb (t q)) (ht : ∀ q, q < L → t q < 256) (hL : L ≤ 300) (hs : s9 ≤ L) (hq : bkP t L s9 = false) (hr : ∀ r, p ≤ r → r < s9 → bkP t L r = true) (K : xG Γ Ω 1 Q 46 [(0, .ref (e + 13))] [] (xu h (e + 13) (.inr (6, [.ref (e + 14), .int (nI L), .ref (e + 15), .int (pr), .int (fa), .int (tk), .int (nI s9), .int (b9)]))) sz 0 0) : ∀ (j0 k : Nat), k + j0 = s9 → p ≤ k → xG Γ Ω 1 (Q) 8 [(0, .ref (e + 13))] ([]) (xu h (e + 13) (.inr (6, [.ref (e + 14), .int (nI L), .ref (e + 15), .int (pr), .int (fa), .int (tk), .int (nI k), .int (b9)]))) sz 0 0 := by
  intro j0
  induction j0 with
  | zero =>
    intro k hk hinv
    have ek : k = s9 := by omega
    refine xr_aload_n X 0 dX7_step_8 rfl rfl ?_
    refine xr_get X fF_X7_34_6 (xu_s _ _ _) rfl dX7_step_9 ?_
    refine xr_aload_n X 0 dX7_step_12 rfl rfl ?_
    refine xr_get X fF_X7_15_6 (xu_s _ _ _) rfl dX7_step_13 ?_
    refine xr_icmp_ge (tgt := 46) X dX7_step_16 (by decide) (fun c_16 => ?_) (fun c_16 => ?_)
    · have c_16 := i32_le.mp c_16
      (try simp (disch := omega) only [nI_toInt, i32_add, i32_sub, i32_mul, i64_addl, i32_l] at c_16)
      rw [ek]
      exact K
    · have c_16 := mt i32_le.mpr c_16
      (try simp (disch := omega) only [nI_toInt, i32_add, i32_sub, i32_mul, i64_addl, i32_l] at c_16)
      refine xr_aload_n X 0 dX7_step_19 rfl rfl ?_
      refine xr_aload_n X 0 dX7_step_20 rfl rfl ?_
      refine xr_get X fF_X7_34_6 (xu_s _ _ _) rfl dX7_step_21 ?_
      refine xr_callV X (xu_s _ _ _) rfl kw_315 kw_317 kw_3 cw_X7_byteAt [.int (nI k)] (c_X7_byteAt (t := t) (xu_s _ _ _) (xu_at (xne _ rfl) hbt) hB ht hL (by omega)) rfl rfl rfl rfl rfl rfl rfl dX7_step_24 ?_
      refine xr_callS X kw_319 kw_320 cw_X7_isBlank [.int (cyF t L k)] c_X7_isBlank rfl rfl rfl rfl rfl rfl rfl dX7_step_27 ?_
      refine xr_top (y := (xb (bkP t L k))) (by rw [cy_bk ht]) ?_
      refine xr_if_eq (tgt := 46) X dX7_step_30 (by decide) (fun _ => ?_) (fun c_30 => absurd (xb_0.mpr (by rw [ek]; exact hq)) c_30)
      rw [ek]
      exact K
  | succ j0 ih =>
    intro k hk hinv
    have lk : k < s9 := by omega
    refine xr_aload_n X 0 dX7_step_8 rfl rfl ?_
    refine xr_get X fF_X7_34_6 (xu_s _ _ _) rfl dX7_step_9 ?_
    refine xr_aload_n X 0 dX7_step_12 rfl rfl ?_
    refine xr_get X fF_X7_15_6 (xu_s _ _ _) rfl dX7_step_13 ?_
    refine xr_icmp_ge (tgt := 46) X dX7_step_16 (by decide) (fun c_16 => absurd c_16 (by rw [i32_le, nI_toInt (by omega), nI_toInt (by omega)]; omega)) (fun _ => ?_)
    refine xr_aload_n X 0 dX7_step_19 rfl rfl ?_
    refine xr_aload_n X 0 dX7_step_20 rfl rfl ?_
    refine xr_get X fF_X7_34_6 (xu_s _ _ _) rfl dX7_step_21 ?_
    refine xr_callV X (xu_s _ _ _) rfl kw_315 kw_317 kw_3 cw_X7_byteAt [.int (nI k)] (c_X7_byteAt (t := t) (xu_s _ _ _) (xu_at (xne _ rfl) hbt) hB ht hL (by omega)) rfl rfl rfl rfl rfl rfl rfl dX7_step_24 ?_
    refine xr_callS X kw_319 kw_320 cw_X7_isBlank [.int (cyF t L k)] c_X7_isBlank rfl rfl rfl rfl rfl rfl rfl dX7_step_27 ?_
    refine xr_top (y := (xb (bkP t L k))) (by rw [cy_bk ht]) ?_
    refine xr_if_eq (tgt := 46) X dX7_step_30 (by decide) (fun c_30 => absurd c_30 (xb_1.mpr (hr k hinv lk))) (fun _ => ?_)
    refine xr_aload_n X 0 dX7_step_33 rfl rfl ?_
    refine xr_dup X dX7_step_34 rfl ?_
    refine xr_get X fF_X7_34_6 (xu_s _ _ _) rfl dX7_step_35 ?_
    refine xr_iconst (v := 1) X dX7_step_38 (by decide) ?_
    refine xr_iadd X dX7_step_39 ?_
    refine xr_top (y := (nI (k + 1))) (nI_1 k) ?_
    refine xr_put (fs' := [.ref (e + 14), .int (nI L), .ref (e + 15), .int (pr), .int (fa), .int (tk), .int (nI (k + 1)), .int (b9)]) X (fW_X7_34_6 _) (xu_s _ _ _) rfl rfl rfl rfl dX7_step_40 ?_
    refine xr_heap (h' := (xu h (e + 13) (.inr (6, [.ref (e + 14), .int (nI L), .ref (e + 15), .int (pr), .int (fa), .int (tk), .int (nI (k + 1)), .int (b9)])))) (xu_uu _ _ _ _) ?_
    refine xr_goto (tgt := 8) X dX7_step_43 (by decide) ?_
    exact ih (k + 1) (by omega) (by omega)
set_option maxRecDepth 100000 in
theorem l_X7_stB {Γ : xΓ} {Ω : xW} {h : xH} {sz : Nat} (X : xX Γ Ω cX7_step 1 RX7 "step" none 1 35 0 0) {e : Nat} {pr fa tk fi be : Int32} {bt : Nat → Int32} {t : Nat → Nat} {L : Nat} {p s9 : Nat} {f9 : Int32} {Q : State → Prop} (hko : h (e + 13) = some (kO e (nI L) pr fa tk fi be)) (hbt : h (e + 14) = some (.inl (.byte, 300, .inl bt))) (hB : ∀ q, q < L → bt q = sb (t q)) (ht : ∀ q, q < L → t q < 256) (hL : L ≤ 300) (hs : s9 ≤ L) (hq : ltP t L s9 = false) (hr : ∀ r, p ≤ r → r < s9 → ltP t L r = true) (K : xG Γ Ω 1 Q 135 [(0, .ref (e + 13))] [] (xu h (e + 13) (.inr (6, [.ref (e + 14), .int (nI L), .ref (e + 15), .int (pr), .int (fa), .int (tk), .int (f9), .int (nI s9)]))) sz 0 0) : ∀ (j0 k : Nat), k + j0 = s9 → p ≤ k → xG Γ Ω 1 (Q) 97 [(0, .ref (e + 13))] ([]) (xu h (e + 13) (.inr (6, [.ref (e + 14), .int (nI L), .ref (e + 15), .int (pr), .int (fa), .int (tk), .int (f9), .int (nI k)]))) sz 0 0 := by
  intro j0
  induction j0 with
  | zero =>
    intro k hk hinv
    have ek : k = s9 := by omega
    refine xr_aload_n X 0 dX7_step_97 rfl rfl ?_
    refine xr_get X fF_X7_37_6 (xu_s _ _ _) rfl dX7_step_98 ?_
    refine xr_aload_n X 0 dX7_step_101 rfl rfl ?_
    refine xr_get X fF_X7_15_6 (xu_s _ _ _) rfl dX7_step_102 ?_
    refine xr_icmp_ge (tgt := 135) X dX7_step_105 (by decide) (fun c_105 => ?_) (fun c_105 => ?_)
    · have c_105 := i32_le.mp c_105
      (try simp (disch := omega) only [nI_toInt, i32_add, i32_sub, i32_mul, i64_addl, i32_l] at c_105)
      rw [ek]
      exact K
    · have c_105 := mt i32_le.mpr c_105
      (try simp (disch := omega) only [nI_toInt, i32_add, i32_sub, i32_mul, i64_addl, i32_l] at c_105)
      refine xr_aload_n X 0 dX7_step_108 rfl rfl ?_
      refine xr_aload_n X 0 dX7_step_109 rfl rfl ?_
      refine xr_get X fF_X7_37_6 (xu_s _ _ _) rfl dX7_step_110 ?_
      refine xr_callV X (xu_s _ _ _) rfl kw_315 kw_317 kw_3 cw_X7_byteAt [.int (nI k)] (c_X7_byteAt (t := t) (xu_s _ _ _) (xu_at (xne _ rfl) hbt) hB ht hL (by omega)) rfl rfl rfl rfl rfl rfl rfl dX7_step_113 ?_
      refine xr_callS X kw_322 kw_323 cw_X7_isLetter [.int (cyF t L k)] c_X7_isLetter rfl rfl rfl rfl rfl rfl rfl dX7_step_116 ?_
      refine xr_top (y := (xb (ltP t L k))) (by rw [cy_lt ht]) ?_
      refine xr_if_eq (tgt := 135) X dX7_step_119 (by decide) (fun _ => ?_) (fun c_119 => absurd (xb_0.mpr (by rw [ek]; exact hq)) c_119)
      rw [ek]
      exact K
  | succ j0 ih =>
    intro k hk hinv
    have lk : k < s9 := by omega
    refine xr_aload_n X 0 dX7_step_97 rfl rfl ?_
    refine xr_get X fF_X7_37_6 (xu_s _ _ _) rfl dX7_step_98 ?_
    refine xr_aload_n X 0 dX7_step_101 rfl rfl ?_
    refine xr_get X fF_X7_15_6 (xu_s _ _ _) rfl dX7_step_102 ?_
    refine xr_icmp_ge (tgt := 135) X dX7_step_105 (by decide) (fun c_105 => absurd c_105 (by rw [i32_le, nI_toInt (by omega), nI_toInt (by omega)]; omega)) (fun _ => ?_)
    refine xr_aload_n X 0 dX7_step_108 rfl rfl ?_
    refine xr_aload_n X 0 dX7_step_109 rfl rfl ?_
    refine xr_get X fF_X7_37_6 (xu_s _ _ _) rfl dX7_step_110 ?_
    refine xr_callV X (xu_s _ _ _) rfl kw_315 kw_317 kw_3 cw_X7_byteAt [.int (nI k)] (c_X7_byteAt (t := t) (xu_s _ _ _) (xu_at (xne _ rfl) hbt) hB ht hL (by omega)) rfl rfl rfl rfl rfl rfl rfl dX7_step_113 ?_
    refine xr_callS X kw_322 kw_323 cw_X7_isLetter [.int (cyF t L k)] c_X7_isLetter rfl rfl rfl rfl rfl rfl rfl dX7_step_116 ?_
    refine xr_top (y := (xb (ltP t L k))) (by rw [cy_lt ht]) ?_
    refine xr_if_eq (tgt := 135) X dX7_step_119 (by decide) (fun c_119 => absurd c_119 (xb_1.mpr (hr k hinv lk))) (fun _ => ?_)
    refine xr_aload_n X 0 dX7_step_122 rfl rfl ?_
    refine xr_dup X dX7_step_123 rfl ?_
    refine xr_get X fF_X7_37_6 (xu_s _ _ _) rfl dX7_step_124 ?_
    refine xr_iconst (v := 1) X dX7_step_127 (by decide) ?_
    refine xr_iadd X dX7_step_128 ?_
    refine xr_top (y := (nI (k + 1))) (nI_1 k) ?_
    refine xr_put (fs' := [.ref (e + 14), .int (nI L), .ref (e + 15), .int (pr), .int (fa), .int (tk), .int (f9), .int (nI (k + 1))]) X (fW_X7_37_6 _) (xu_s _ _ _) rfl rfl rfl rfl dX7_step_129 ?_
    refine xr_heap (h' := (xu h (e + 13) (.inr (6, [.ref (e + 14), .int (nI L), .ref (e + 15), .int (pr), .int (fa), .int (tk), .int (f9), .int (nI (k + 1))])))) (xu_uu _ _ _ _) ?_
    refine xr_goto (tgt := 97) X dX7_step_132 (by decide) ?_
    exact ih (k + 1) (by omega) (by omega)
set_option maxRecDepth 100000 in
theorem l_X7_stC {Γ : xΓ} {Ω : xW} {h : xH} {sz : Nat} (X : xX Γ Ω cX7_step 1 RX7 "step" none 1 35 0 0) {e : Nat} {pr fa tk fi be : Int32} {bt : Nat → Int32} {t : Nat → Nat} {L : Nat} {p s9 : Nat} {f9 : Int32} {Q : State → Prop} (hko : h (e + 13) = some (kO e (nI L) pr fa tk fi be)) (hbt : h (e + 14) = some (.inl (.byte, 300, .inl bt))) (hB : ∀ q, q < L → bt q = sb (t q)) (ht : ∀ q, q < L → t q < 256) (hL : L ≤ 300) (hs : s9 ≤ L) (hq : fgP t L s9 = false) (hr : ∀ r, p ≤ r → r < s9 → fgP t L r = true) (K : xG Γ Ω 1 Q 195 [(0, .ref (e + 13))] [] (xu h (e + 13) (.inr (6, [.ref (e + 14), .int (nI L), .ref (e + 15), .int (pr), .int (fa), .int (tk), .int (f9), .int (nI s9)]))) sz 0 0) : ∀ (j0 k : Nat), k + j0 = s9 → p ≤ k → xG Γ Ω 1 (Q) 157 [(0, .ref (e + 13))] ([]) (xu h (e + 13) (.inr (6, [.ref (e + 14), .int (nI L), .ref (e + 15), .int (pr), .int (fa), .int (tk), .int (f9), .int (nI k)]))) sz 0 0 := by
  intro j0
  induction j0 with
  | zero =>
    intro k hk hinv
    have ek : k = s9 := by omega
    refine xr_aload_n X 0 dX7_step_157 rfl rfl ?_
    refine xr_get X fF_X7_37_6 (xu_s _ _ _) rfl dX7_step_158 ?_
    refine xr_aload_n X 0 dX7_step_161 rfl rfl ?_
    refine xr_get X fF_X7_15_6 (xu_s _ _ _) rfl dX7_step_162 ?_
    refine xr_icmp_ge (tgt := 195) X dX7_step_165 (by decide) (fun c_165 => ?_) (fun c_165 => ?_)
    · have c_165 := i32_le.mp c_165
      (try simp (disch := omega) only [nI_toInt, i32_add, i32_sub, i32_mul, i64_addl, i32_l] at c_165)
      rw [ek]
      exact K
    · have c_165 := mt i32_le.mpr c_165
      (try simp (disch := omega) only [nI_toInt, i32_add, i32_sub, i32_mul, i64_addl, i32_l] at c_165)
      refine xr_aload_n X 0 dX7_step_168 rfl rfl ?_
      refine xr_aload_n X 0 dX7_step_169 rfl rfl ?_
      refine xr_get X fF_X7_37_6 (xu_s _ _ _) rfl dX7_step_170 ?_
      refine xr_callV X (xu_s _ _ _) rfl kw_315 kw_317 kw_3 cw_X7_byteAt [.int (nI k)] (c_X7_byteAt (t := t) (xu_s _ _ _) (xu_at (xne _ rfl) hbt) hB ht hL (by omega)) rfl rfl rfl rfl rfl rfl rfl dX7_step_173 ?_
      refine xr_callS X kw_325 kw_326 cw_X7_isFigure [.int (cyF t L k)] c_X7_isFigure rfl rfl rfl rfl rfl rfl rfl dX7_step_176 ?_
      refine xr_top (y := (xb (fgP t L k))) (by rw [cy_fg ht]) ?_
      refine xr_if_eq (tgt := 195) X dX7_step_179 (by decide) (fun _ => ?_) (fun c_179 => absurd (xb_0.mpr (by rw [ek]; exact hq)) c_179)
      rw [ek]
      exact K
  | succ j0 ih =>
    intro k hk hinv
    have lk : k < s9 := by omega
    refine xr_aload_n X 0 dX7_step_157 rfl rfl ?_
    refine xr_get X fF_X7_37_6 (xu_s _ _ _) rfl dX7_step_158 ?_
    refine xr_aload_n X 0 dX7_step_161 rfl rfl ?_
    refine xr_get X fF_X7_15_6 (xu_s _ _ _) rfl dX7_step_162 ?_
    refine xr_icmp_ge (tgt := 195) X dX7_step_165 (by decide) (fun c_165 => absurd c_165 (by rw [i32_le, nI_toInt (by omega), nI_toInt (by omega)]; omega)) (fun _ => ?_)
    refine xr_aload_n X 0 dX7_step_168 rfl rfl ?_
    refine xr_aload_n X 0 dX7_step_169 rfl rfl ?_
    refine xr_get X fF_X7_37_6 (xu_s _ _ _) rfl dX7_step_170 ?_
    refine xr_callV X (xu_s _ _ _) rfl kw_315 kw_317 kw_3 cw_X7_byteAt [.int (nI k)] (c_X7_byteAt (t := t) (xu_s _ _ _) (xu_at (xne _ rfl) hbt) hB ht hL (by omega)) rfl rfl rfl rfl rfl rfl rfl dX7_step_173 ?_
    refine xr_callS X kw_325 kw_326 cw_X7_isFigure [.int (cyF t L k)] c_X7_isFigure rfl rfl rfl rfl rfl rfl rfl dX7_step_176 ?_
    refine xr_top (y := (xb (fgP t L k))) (by rw [cy_fg ht]) ?_
    refine xr_if_eq (tgt := 195) X dX7_step_179 (by decide) (fun c_179 => absurd c_179 (xb_1.mpr (hr k hinv lk))) (fun _ => ?_)
    refine xr_aload_n X 0 dX7_step_182 rfl rfl ?_
    refine xr_dup X dX7_step_183 rfl ?_
    refine xr_get X fF_X7_37_6 (xu_s _ _ _) rfl dX7_step_184 ?_
    refine xr_iconst (v := 1) X dX7_step_187 (by decide) ?_
    refine xr_iadd X dX7_step_188 ?_
    refine xr_top (y := (nI (k + 1))) (nI_1 k) ?_
    refine xr_put (fs' := [.ref (e + 14), .int (nI L), .ref (e + 15), .int (pr), .int (fa), .int (tk), .int (f9), .int (nI (k + 1))]) X (fW_X7_37_6 _) (xu_s _ _ _) rfl rfl rfl rfl dX7_step_189 ?_
    refine xr_heap (h' := (xu h (e + 13) (.inr (6, [.ref (e + 14), .int (nI L), .ref (e + 15), .int (pr), .int (fa), .int (tk), .int (f9), .int (nI (k + 1))])))) (xu_uu _ _ _ _) ?_
    refine xr_goto (tgt := 157) X dX7_step_192 (by decide) ?_
    exact ih (k + 1) (by omega) (by omega)
set_option maxRecDepth 100000 in
theorem c_X7_step {l : Launch} {Ω : xW} {h : xH} {sz : Nat} {e : Nat} {pr fa tk fi : Int32} {bt : Nat → Int32} {t : Nat → Nat} {L : Nat} {p : Nat} (hko : h (e + 13) = some (kO e (nI L) pr fa tk fi (nI p))) (hbt : h (e + 14) = some (.inl (.byte, 300, .inl bt))) (hB : ∀ q, q < L → bt q = sb (t q)) (ht : ∀ q, q < L → t q < 256) (hL : L ≤ 300) (hp : p ≤ L) : xC l Ω yX7_step cX7_step 1 none 1 0 0 [.ref (e + 13)] h sz (none) (xu h (e + 13) (.inr (6, [.ref (e + 14), .int (nI L), .ref (e + 15), .int (pr), .int (fa), .int (nI (tK t L p)), .int (nI (tS t L p)), .int (nI (tE t L p))]))) (sz) := by
  refine xC_of (lv := [(0, .ref (e + 13))]) pn_X7 rfl rfl (fun Γ X hΓ hbs => ?_)
  have X : xX Γ Ω cX7_step 1 RX7 "step" none 1 35 0 0 := X
  subst hΓ
  obtain ⟨s1, s2, s3, s4⟩ := tS_spec (t := t) hp
  have bv := cyF_v (k := (tS t L p)) ht
  refine xr_aload_n X 0 dX7_step_0 rfl rfl ?_
  refine xr_aload_n X 0 dX7_step_1 rfl rfl ?_
  refine xr_get X fF_X7_37_6 hko rfl dX7_step_2 ?_
  refine xr_put (fs' := [.ref (e + 14), .int (nI L), .ref (e + 15), .int (pr), .int (fa), .int (tk), .int (nI p), .int (nI p)]) X (fW_X7_34_6 _) hko rfl rfl rfl rfl dX7_step_5 ?_
  refine l_X7_stA X hko hbt hB ht hL s2 s3 s4 ?_ ((tS t L p) - p) p (by omega) (Nat.le_refl p)
  refine xr_aload_n X 0 dX7_step_46 rfl rfl ?_
  refine xr_aload_n X 0 dX7_step_47 rfl rfl ?_
  refine xr_get X fF_X7_34_6 (xu_s _ _ _) rfl dX7_step_48 ?_
  refine xr_iconst (v := 1) X dX7_step_51 (by decide) ?_
  refine xr_iadd X dX7_step_52 ?_
  refine xr_top (y := (nI ((tS t L p) + 1))) (nI_1 _) ?_
  refine xr_put (fs' := [.ref (e + 14), .int (nI L), .ref (e + 15), .int (pr), .int (fa), .int (tk), .int (nI (tS t L p)), .int (nI ((tS t L p) + 1))]) X (fW_X7_37_6 _) (xu_s _ _ _) rfl rfl rfl rfl dX7_step_53 ?_
  refine xr_heap (h' := (xu h (e + 13) (.inr (6, [.ref (e + 14), .int (nI L), .ref (e + 15), .int (pr), .int (fa), .int (tk), .int (nI (tS t L p)), .int (nI ((tS t L p) + 1))])))) (xu_uu _ _ _ _) ?_
  refine xr_aload_n X 0 dX7_step_56 rfl rfl ?_
  refine xr_get X fF_X7_34_6 (xu_s _ _ _) rfl dX7_step_57 ?_
  refine xr_aload_n X 0 dX7_step_60 rfl rfl ?_
  refine xr_get X fF_X7_15_6 (xu_s _ _ _) rfl dX7_step_61 ?_
  refine xr_icmp_lt (tgt := 83) X dX7_step_64 (by decide) (fun c_64 => ?_) (fun c_64 => ?_)
  · have c_64 := i32_lt.mp c_64
    (try simp (disch := omega) only [nI_toInt, i32_add, i32_sub, i32_mul, i64_addl, i32_l] at c_64)
    have hsl : (tS t L p) < L := by omega
    refine xr_aload_n X 0 dX7_step_83 rfl rfl ?_
    refine xr_aload_n X 0 dX7_step_84 rfl rfl ?_
    refine xr_get X fF_X7_34_6 (xu_s _ _ _) rfl dX7_step_85 ?_
    refine xr_callV X (xu_s _ _ _) rfl kw_315 kw_317 kw_3 cw_X7_byteAt [.int (nI (tS t L p))] (c_X7_byteAt (t := t) (xu_s _ _ _) (xu_at (xne _ rfl) hbt) hB ht hL (by omega)) rfl rfl rfl rfl rfl rfl rfl dX7_step_88 ?_
    refine xr_callS X kw_322 kw_323 cw_X7_isLetter [.int (cyF t L (tS t L p))] c_X7_isLetter rfl rfl rfl rfl rfl rfl rfl dX7_step_91 ?_
    refine xr_top (y := (xb (ltP t L (tS t L p)))) (by rw [cy_lt ht]) ?_
    refine xr_if_eq (tgt := 143) X dX7_step_94 (by decide) (fun c_94 => ?_) (fun c_94 => ?_)
    · have c_94 := xb_0.mp c_94
      refine xr_aload_n X 0 dX7_step_143 rfl rfl ?_
      refine xr_aload_n X 0 dX7_step_144 rfl rfl ?_
      refine xr_get X fF_X7_34_6 (xu_s _ _ _) rfl dX7_step_145 ?_
      refine xr_callV X (xu_s _ _ _) rfl kw_315 kw_317 kw_3 cw_X7_byteAt [.int (nI (tS t L p))] (c_X7_byteAt (t := t) (xu_s _ _ _) (xu_at (xne _ rfl) hbt) hB ht hL (by omega)) rfl rfl rfl rfl rfl rfl rfl dX7_step_148 ?_
      refine xr_callS X kw_325 kw_326 cw_X7_isFigure [.int (cyF t L (tS t L p))] c_X7_isFigure rfl rfl rfl rfl rfl rfl rfl dX7_step_151 ?_
      refine xr_top (y := (xb (fgP t L (tS t L p)))) (by rw [cy_fg ht]) ?_
      refine xr_if_eq (tgt := 220) X dX7_step_154 (by decide) (fun c_154 => ?_) (fun c_154 => ?_)
      · have c_154 := xb_0.mp c_154
        refine xr_aload_n X 0 dX7_step_220 rfl rfl ?_
        refine xr_aload_n X 0 dX7_step_221 rfl rfl ?_
        refine xr_aload_n X 0 dX7_step_222 rfl rfl ?_
        refine xr_get X fF_X7_34_6 (xu_s _ _ _) rfl dX7_step_223 ?_
        refine xr_callV X (xu_s _ _ _) rfl kw_315 kw_317 kw_3 cw_X7_byteAt [.int (nI (tS t L p))] (c_X7_byteAt (t := t) (xu_s _ _ _) (xu_at (xne _ rfl) hbt) hB ht hL (by omega)) rfl rfl rfl rfl rfl rfl rfl dX7_step_226 ?_
        refine xr_bipush (v := 59) X dX7_step_229 (by decide) ?_
        refine xr_icmp_ne (tgt := 238) X dX7_step_231 (by decide) (fun c_231 => ?_) (fun c_231 => ?_)
        · have c_231 := mt i32_eq.mpr c_231
          (try simp (disch := omega) only [nI_toInt, i32_add, i32_sub, i32_mul, i64_addl, i32_l, k32_59] at c_231)
          refine xr_iconst (v := 4) X dX7_step_238 (by decide) ?_
          refine xr_put (fs' := [.ref (e + 14), .int (nI L), .ref (e + 15), .int (pr), .int (fa), .int 4, .int (nI (tS t L p)), .int (nI ((tS t L p) + 1))]) X (fW_X7_31_6 _) (xu_s _ _ _) rfl rfl rfl rfl dX7_step_239 ?_
          refine xr_heap (h' := (xu h (e + 13) (.inr (6, [.ref (e + 14), .int (nI L), .ref (e + 15), .int (pr), .int (fa), .int 4, .int (nI (tS t L p)), .int (nI ((tS t L p) + 1))])))) (xu_uu _ _ _ _) ?_
          exact xr_vret X rfl rfl (by rw [show tK t L p = _ from (tJ_no hsl c_94 c_154).trans (if_neg (by omega)), show tE t L p = _ from tF_no hsl c_94 c_154]; rfl) rfl rfl rfl dX7_step_242
        · have c_231 := i32_eq.mp c_231
          (try simp (disch := omega) only [nI_toInt, i32_add, i32_sub, i32_mul, i64_addl, i32_l, k32_59] at c_231)
          refine xr_iconst (v := 3) X dX7_step_234 (by decide) ?_
          refine xr_goto (tgt := 239) X dX7_step_235 (by decide) ?_
          refine xr_put (fs' := [.ref (e + 14), .int (nI L), .ref (e + 15), .int (pr), .int (fa), .int 3, .int (nI (tS t L p)), .int (nI ((tS t L p) + 1))]) X (fW_X7_31_6 _) (xu_s _ _ _) rfl rfl rfl rfl dX7_step_239 ?_
          refine xr_heap (h' := (xu h (e + 13) (.inr (6, [.ref (e + 14), .int (nI L), .ref (e + 15), .int (pr), .int (fa), .int 3, .int (nI (tS t L p)), .int (nI ((tS t L p) + 1))])))) (xu_uu _ _ _ _) ?_
          exact xr_vret X rfl rfl (by rw [show tK t L p = _ from (tJ_no hsl c_94 c_154).trans (if_pos (by omega)), show tE t L p = _ from tF_no hsl c_94 c_154]; rfl) rfl rfl rfl dX7_step_242
      · have c_154 := xb_1.mp c_154
        obtain ⟨f1, f2, f3, f4⟩ := tF_fg hsl c_94 c_154
        have f5 : tS t L p < tF t L (tS t L p) := by
          refine Nat.lt_of_le_of_ne f1 (fun e9 => ?_)
          rw [← e9, c_154] at f3
          cases f3
        refine l_X7_stC (p := tS t L p + 1) X hko hbt hB ht hL f2 f3 (fun r r1 r2 => f4 r (by omega) r2) ?_ (tF t L (tS t L p) - ((tS t L p) + 1)) ((tS t L p) + 1) (by omega) (Nat.le_refl _)
        refine xr_aload_n X 0 dX7_step_195 rfl rfl ?_
        refine xr_aload_n X 0 dX7_step_196 rfl rfl ?_
        refine xr_get X fF_X7_37_6 (xu_s _ _ _) rfl dX7_step_197 ?_
        refine xr_aload_n X 0 dX7_step_200 rfl rfl ?_
        refine xr_get X fF_X7_34_6 (xu_s _ _ _) rfl dX7_step_201 ?_
        refine xr_isub X dX7_step_204 ?_
        refine xr_top (y := (nI (tF t L (tS t L p) - (tS t L p)))) (pk_sub (by omega)) ?_
        refine xr_iconst (v := 3) X dX7_step_205 (by decide) ?_
        refine xr_icmp_gt (tgt := 213) X dX7_step_206 (by decide) (fun c_206 => ?_) (fun c_206 => ?_)
        · have c_206 := i32_lt.mp c_206
          (try simp (disch := omega) only [nI_toInt, i32_add, i32_sub, i32_mul, i64_addl, i32_l, k32_3, k64_3] at c_206)
          refine xr_iconst (v := 4) X dX7_step_213 (by decide) ?_
          refine xr_put (fs' := [.ref (e + 14), .int (nI L), .ref (e + 15), .int (pr), .int (fa), .int 4, .int (nI (tS t L p)), .int (nI (tF t L (tS t L p)))]) X (fW_X7_31_6 _) (xu_s _ _ _) rfl rfl rfl rfl dX7_step_214 ?_
          refine xr_heap (h' := (xu h (e + 13) (.inr (6, [.ref (e + 14), .int (nI L), .ref (e + 15), .int (pr), .int (fa), .int 4, .int (nI (tS t L p)), .int (nI (tF t L (tS t L p)))])))) (xu_uu _ _ _ _) ?_
          refine xr_goto (tgt := 242) X dX7_step_217 (by decide) ?_
          exact xr_vret X rfl rfl (by rw [show tK t L p = _ from (tJ_fg hsl c_94 c_154).trans (if_neg (by omega))]; rfl) rfl rfl rfl dX7_step_242
        · have c_206 := mt i32_lt.mpr c_206
          (try simp (disch := omega) only [nI_toInt, i32_add, i32_sub, i32_mul, i64_addl, i32_l, k32_3, k64_3] at c_206)
          refine xr_iconst (v := 2) X dX7_step_209 (by decide) ?_
          refine xr_goto (tgt := 214) X dX7_step_210 (by decide) ?_
          refine xr_put (fs' := [.ref (e + 14), .int (nI L), .ref (e + 15), .int (pr), .int (fa), .int 2, .int (nI (tS t L p)), .int (nI (tF t L (tS t L p)))]) X (fW_X7_31_6 _) (xu_s _ _ _) rfl rfl rfl rfl dX7_step_214 ?_
          refine xr_heap (h' := (xu h (e + 13) (.inr (6, [.ref (e + 14), .int (nI L), .ref (e + 15), .int (pr), .int (fa), .int 2, .int (nI (tS t L p)), .int (nI (tF t L (tS t L p)))])))) (xu_uu _ _ _ _) ?_
          refine xr_goto (tgt := 242) X dX7_step_217 (by decide) ?_
          exact xr_vret X rfl rfl (by rw [show tK t L p = _ from (tJ_fg hsl c_94 c_154).trans (if_pos (by omega))]; rfl) rfl rfl rfl dX7_step_242
    · have c_94 := xb_1.mp c_94
      obtain ⟨f1, f2, f3, f4⟩ := tF_lt hsl c_94
      have f5 : tS t L p < tF t L (tS t L p) := by
        refine Nat.lt_of_le_of_ne f1 (fun e9 => ?_)
        rw [← e9, c_94] at f3
        cases f3
      refine l_X7_stB (p := tS t L p + 1) X hko hbt hB ht hL f2 f3 (fun r r1 r2 => f4 r (by omega) r2) ?_ (tF t L (tS t L p) - ((tS t L p) + 1)) ((tS t L p) + 1) (by omega) (Nat.le_refl _)
      refine xr_aload_n X 0 dX7_step_135 rfl rfl ?_
      refine xr_iconst (v := 1) X dX7_step_136 (by decide) ?_
      refine xr_put (fs' := [.ref (e + 14), .int (nI L), .ref (e + 15), .int (pr), .int (fa), .int 1, .int (nI (tS t L p)), .int (nI (tF t L (tS t L p)))]) X (fW_X7_31_6 _) (xu_s _ _ _) rfl rfl rfl rfl dX7_step_137 ?_
      refine xr_heap (h' := (xu h (e + 13) (.inr (6, [.ref (e + 14), .int (nI L), .ref (e + 15), .int (pr), .int (fa), .int 1, .int (nI (tS t L p)), .int (nI (tF t L (tS t L p)))])))) (xu_uu _ _ _ _) ?_
      refine xr_goto (tgt := 242) X dX7_step_140 (by decide) ?_
      exact xr_vret X rfl rfl (by rw [show tK t L p = _ from tJ_lt hsl c_94]; rfl) rfl rfl rfl dX7_step_242
  · have c_64 := mt i32_lt.mpr c_64
    (try simp (disch := omega) only [nI_toInt, i32_add, i32_sub, i32_mul, i64_addl, i32_l] at c_64)
    have c_64x : ¬ (tS t L p) < L := by omega
    refine xr_aload_n X 0 dX7_step_67 rfl rfl ?_
    refine xr_aload_n X 0 dX7_step_68 rfl rfl ?_
    refine xr_get X fF_X7_34_6 (xu_s _ _ _) rfl dX7_step_69 ?_
    refine xr_put (fs' := [.ref (e + 14), .int (nI L), .ref (e + 15), .int (pr), .int (fa), .int (tk), .int (nI (tS t L p)), .int (nI (tS t L p))]) X (fW_X7_37_6 _) (xu_s _ _ _) rfl rfl rfl rfl dX7_step_72 ?_
    refine xr_heap (h' := (xu h (e + 13) (.inr (6, [.ref (e + 14), .int (nI L), .ref (e + 15), .int (pr), .int (fa), .int (tk), .int (nI (tS t L p)), .int (nI (tS t L p))])))) (xu_uu _ _ _ _) ?_
    refine xr_aload_n X 0 dX7_step_75 rfl rfl ?_
    refine xr_iconst (v := 0) X dX7_step_76 (by decide) ?_
    refine xr_put (fs' := [.ref (e + 14), .int (nI L), .ref (e + 15), .int (pr), .int (fa), .int 0, .int (nI (tS t L p)), .int (nI (tS t L p))]) X (fW_X7_31_6 _) (xu_s _ _ _) rfl rfl rfl rfl dX7_step_77 ?_
    refine xr_heap (h' := (xu h (e + 13) (.inr (6, [.ref (e + 14), .int (nI L), .ref (e + 15), .int (pr), .int (fa), .int 0, .int (nI (tS t L p)), .int (nI (tS t L p))])))) (xu_uu _ _ _ _) ?_
    refine xr_goto (tgt := 242) X dX7_step_80 (by decide) ?_
    exact xr_vret X rfl rfl (by rw [show tK t L p = _ from tJ_e c_64x, show tE t L p = _ from tF_e c_64x]; rfl) rfl rfl rfl dX7_step_242
