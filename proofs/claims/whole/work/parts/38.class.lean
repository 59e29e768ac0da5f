/-! the class's town -/
def moM (kd : Nat → Nat) (np : Nat) : Nat := osum (fun p => decide (kd p = 5)) np
def PW (B : Nat) (h : xH) (pf : Nat → Option Nat) (np : Nat) (kd wh mn : Nat → Nat) : Prop := ∀ p, p < np → (∃ ap, pf p = some ap ∧ B ≤ ap ∧ h ap = some (.inr (pCi (kd p), [.int (nI p), .int (nI (wh p)), .int (nI (mn p))]))) ∧ 1 ≤ kd p ∧ kd p ≤ 5 ∧ wh p ≤ 5 ∧ mn p ≤ 9
theorem PW.put {B a : Nat} {h : xH} {e : xE} {pf : Nat → Option Nat} {np : Nat} {kd wh mn : Nat → Nat} (g : PW B h pf np kd wh mn) (ha : a < B) : PW B (xu h a e) pf np kd wh mn := fun p hp => by
  obtain ⟨⟨ap, h1, h2, h3⟩, h4⟩ := g p hp
  exact ⟨⟨ap, h1, h2, xu_at (by omega) h3⟩, h4⟩
theorem dz_1 {kd wh mn : Nat → Nat} {p l b : Nat} (h : kd p = 1) : dz kd wh mn p l b = l.testBit (wh p) := by simp [dz, h]
theorem dz_2 {kd wh mn : Nat → Nat} {p l b : Nat} (h : kd p = 2) : dz kd wh mn p l b = !l.testBit (wh p) := by simp [dz, h]
theorem dz_3 {kd wh mn : Nat → Nat} {p l b : Nat} (h : kd p = 3) : dz kd wh mn p l b = l.testBit (wh p) := by simp [dz, h]
theorem dz_4 {kd wh mn : Nat → Nat} {p l b : Nat} (h : kd p = 4) : dz kd wh mn p l b = decide (mn p ≤ bcn l 6) := by simp [dz, h]
theorem dz_5 {kd wh mn : Nat → Nat} {p l b : Nat} (h : kd p = 5) : dz kd wh mn p l b = (l.testBit (wh p) == b.testBit p) := by simp [dz, h]
theorem dz_x (kd wh mn : Nat → Nat) (p l b : Nat) : dz kd wh mn p l b = (dz kd wh mn p l 0 ^^ (b.testBit p && decide (kd p = 5))) := by
  by_cases h : kd p = 5
  · rw [dz_5 h, dz_5 h, decide_eq_true h]
    cases l.testBit (wh p) <;> cases b.testBit p <;> simp
  · rw [decide_eq_false h]
    simp [dz, h]
theorem dn_x (kd wh mn : Nat → Nat) (np l b : Nat) : dn kd wh mn np l b = dn kd wh mn np l 0 ^^^ (b &&& moM kd np) := by
  apply Nat.eq_of_testBit_eq
  intro p
  rw [Nat.testBit_xor, Nat.testBit_and, dn, dn, moM, osum_bit, osum_bit, osum_bit, dz_x kd wh mn p l b]
  by_cases h : p < np
  · simp [h]
  · simp [h]
theorem dn_lt (kd wh mn : Nat → Nat) (np l b : Nat) : dn kd wh mn np l b < 2 ^ np := osum_lt _ _
theorem moM_lt (kd : Nat → Nat) (np : Nat) : moM kd np < 2 ^ np := osum_lt _ _
def odT (kd wh mn : Nat → Nat) (b l s : Nat) : Nat → Nat := fun p => if kd p = 3 then (if (dz kd wh mn p l b == s.testBit p) = true then 10 - mn p else mn p) else (if (dz kd wh mn p l b == s.testBit p) = true then 10 else 0)
def frOK (fr : Nat → Int32) (kd wh mn : Nat → Nat) (np : Nat) : Prop := ∀ q, q < 2 ^ np → fr q = nI (dn kd wh mn np q 0)
abbrev tO (w : Nat) (size day b mo : Int32) : xE := .inr (7, [.ref (w + 1), .int size, .int day, .int b, .ref (w + 2), .int mo])
set_option maxRecDepth 100000 in
theorem c_X8_isNone {l : Launch} {Ω : xW} {h : xH} {sz : Nat} {w np : Nat} {d9 b9 m9 : Int32} (hto : h w = some (tO w (nI np) d9 b9 m9)) (h6 : np ≤ 6) : xC l Ω yX8_isNone cX8_isNone 1 (some .boolean) 0 0 0 [.ref w] h sz (some (.int (xb (decide (np = 0))))) h (sz) := by
  refine xC_of (lv := [(0, .ref w)]) pn_X8 rfl rfl (fun Γ X hΓ hbs => ?_)
  have X : xX Γ Ω cX8_isNone 1 RX8 "isNone" (some .boolean) 0 0 0 0 := X
  subst hΓ
  refine xr_aload_n X 0 dX8_isNone_0 rfl rfl ?_
  refine xr_get X fF_X8_17_7 hto rfl dX8_isNone_1 ?_
  refine xr_if_ne (tgt := 11) X dX8_isNone_4 (by decide) (fun c_4 => ?_) (fun c_4 => ?_)
  · have c_4 := mt i32_eq.mpr c_4
    (try simp (disch := omega) only [nI_toInt, i32_add, i32_sub, i32_mul, i64_addl, i32_l, k32_0, k64_0] at c_4)
    refine xr_iconst (v := 0) X dX8_isNone_11 (by decide) ?_
    exact xr_zret X rfl rfl (by first | exact xbT (by omega) | exact xbF (by omega)) rfl rfl rfl rfl dX8_isNone_12
  · have c_4 := i32_eq.mp c_4
    (try simp (disch := omega) only [nI_toInt, i32_add, i32_sub, i32_mul, i64_addl, i32_l, k32_0, k64_0] at c_4)
    refine xr_iconst (v := 1) X dX8_isNone_7 (by decide) ?_
    refine xr_goto (tgt := 12) X dX8_isNone_8 (by decide) ?_
    exact xr_zret X rfl rfl (by first | exact xbT (by omega) | exact xbF (by omega)) rfl rfl rfl rfl dX8_isNone_12
set_option maxRecDepth 100000 in
theorem c_X8_size {l : Launch} {Ω : xW} {h : xH} {sz : Nat} {w np : Nat} {d9 b9 m9 : Int32} (hto : h w = some (tO w (nI np) d9 b9 m9)) : xC l Ω yX8_size cX8_size 1 (some .int) 0 0 0 [.ref w] h sz (some (.int (nI np))) h (sz) := by
  refine xC_of (lv := [(0, .ref w)]) pn_X8 rfl rfl (fun Γ X hΓ hbs => ?_)
  have X : xX Γ Ω cX8_size 1 RX8 "size" (some .int) 0 0 0 0 := X
  subst hΓ
  refine xr_aload_n X 0 dX8_size_0 rfl rfl ?_
  refine xr_get X fF_X8_17_7 hto rfl dX8_size_1 ?_
  exact xr_iret X rfl rfl rfl rfl rfl rfl dX8_size_4
set_option maxRecDepth 100000 in
theorem c_X8_day {l : Launch} {Ω : xW} {h : xH} {sz : Nat} {w np : Nat} {d9 b9 m9 : Int32} (hto : h w = some (tO w (nI np) d9 b9 m9)) : xC l Ω yX8_day cX8_day 1 (some .int) 0 0 0 [.ref w] h sz (some (.int d9)) h (sz) := by
  refine xC_of (lv := [(0, .ref w)]) pn_X8 rfl rfl (fun Γ X hΓ hbs => ?_)
  have X : xX Γ Ω cX8_day 1 RX8 "day" (some .int) 0 0 0 0 := X
  subst hΓ
  refine xr_aload_n X 0 dX8_day_0 rfl rfl ?_
  refine xr_get X fF_X8_21_7 hto rfl dX8_day_1 ?_
  exact xr_iret X rfl rfl rfl rfl rfl rfl dX8_day_4
set_option maxRecDepth 100000 in
theorem c_X8_before {l : Launch} {Ω : xW} {h : xH} {sz : Nat} {w np : Nat} {d9 b9 m9 : Int32} (hto : h w = some (tO w (nI np) d9 b9 m9)) : xC l Ω yX8_before cX8_before 1 (some .int) 0 0 0 [.ref w] h sz (some (.int b9)) h (sz) := by
  refine xC_of (lv := [(0, .ref w)]) pn_X8 rfl rfl (fun Γ X hΓ hbs => ?_)
  have X : xX Γ Ω cX8_before 1 RX8 "before" (some .int) 0 0 0 0 := X
  subst hΓ
  refine xr_aload_n X 0 dX8_before_0 rfl rfl ?_
  refine xr_get X fF_X8_24_7 hto rfl dX8_before_1 ?_
  exact xr_iret X rfl rfl rfl rfl rfl rfl dX8_before_4
set_option maxRecDepth 100000 in
theorem c_X8_letters {l : Launch} {Ω : xW} {h : xH} {sz : Nat} {w np : Nat} {d9 b9 m9 : Int32} (hto : h w = some (tO w (nI np) d9 b9 m9)) (h6 : np ≤ 6) : xC l Ω yX8_letters cX8_letters 1 (some .int) 0 0 0 [.ref w] h sz (some (.int (nI (2 ^ np)))) h (sz) := by
  refine xC_of (lv := [(0, .ref w)]) pn_X8 rfl rfl (fun Γ X hΓ hbs => ?_)
  have X : xX Γ Ω cX8_letters 1 RX8 "letters" (some .int) 0 0 0 0 := X
  subst hΓ
  refine xr_iconst (v := 1) X dX8_letters_0 (by decide) ?_
  refine xr_aload_n X 0 dX8_letters_1 rfl rfl ?_
  refine xr_get X fF_X8_17_7 hto rfl dX8_letters_2 ?_
  refine xr_ishl X dX8_letters_5 ?_
  exact xr_iret X rfl (xv (pw6 np h6).symm) rfl rfl rfl rfl dX8_letters_6
set_option maxRecDepth 100000 in
theorem c_X8_isSet {l : Launch} {Ω : xW} {h : xH} {sz : Nat} {w np : Nat} {d9 b9 m9 : Int32} {s : Int32} (hto : h w = some (tO w (nI np) d9 b9 m9)) (h6 : np ≤ 6) : xC l Ω yX8_isSet cX8_isSet 2 (some .boolean) 1 0 0 [.ref w, .int s] h sz (some (.int (xb (decide (0 ≤ s.toInt ∧ s.toInt < (2 ^ np : Nat)))))) h (sz) := by
  refine xC_of (lv := [(0, .ref w), (1, .int s)]) pn_X8 rfl rfl (fun Γ X hΓ hbs => ?_)
  have X : xX Γ Ω cX8_isSet 2 RX8 "isSet" (some .boolean) 1 35 0 0 := X
  subst hΓ
  have h64 := pw_le h6
  refine xr_iload_n X 1 dX8_isSet_0 rfl rfl ?_
  refine xr_if_lt (tgt := 16) X dX8_isSet_1 (by decide) (fun c_1 => ?_) (fun c_1 => ?_)
  · have c_1 := i32_lt.mp c_1
    (try simp (disch := omega) only [nI_toInt, i32_add, i32_sub, i32_mul, i64_addl, i32_l, k32_0, k64_0] at c_1)
    refine xr_iconst (v := 0) X dX8_isSet_16 (by decide) ?_
    exact xr_zret X rfl rfl (by first | exact xbT (by omega) | exact xbF (by omega)) rfl rfl rfl rfl dX8_isSet_17
  · have c_1 := mt i32_lt.mpr c_1
    (try simp (disch := omega) only [nI_toInt, i32_add, i32_sub, i32_mul, i64_addl, i32_l, k32_0, k64_0] at c_1)
    refine xr_iload_n X 1 dX8_isSet_4 rfl rfl ?_
    refine xr_aload_n X 0 dX8_isSet_5 rfl rfl ?_
    refine xr_callV X hto rfl kw_508 kw_509 kw_510 cw_X8_letters [] (c_X8_letters hto h6) rfl rfl rfl rfl rfl rfl rfl dX8_isSet_6 ?_
    refine xr_icmp_ge (tgt := 16) X dX8_isSet_9 (by decide) (fun c_9 => ?_) (fun c_9 => ?_)
    · have c_9 := i32_le.mp c_9
      (try simp (disch := omega) only [nI_toInt, i32_add, i32_sub, i32_mul, i64_addl, i32_l, k32_2, k64_2] at c_9)
      refine xr_iconst (v := 0) X dX8_isSet_16 (by decide) ?_
      exact xr_zret X rfl rfl (by first | exact xbT (by omega) | exact xbF (by omega)) rfl rfl rfl rfl dX8_isSet_17
    · have c_9 := mt i32_le.mpr c_9
      (try simp (disch := omega) only [nI_toInt, i32_add, i32_sub, i32_mul, i64_addl, i32_l, k32_2, k64_2] at c_9)
      refine xr_iconst (v := 1) X dX8_isSet_12 (by decide) ?_
      refine xr_goto (tgt := 17) X dX8_isSet_13 (by decide) ?_
      exact xr_zret X rfl rfl (by first | exact xbT (by omega) | exact xbF (by omega)) rfl rfl rfl rfl dX8_isSet_17
set_option maxRecDepth 100000 in
theorem c_X8_one {l : Launch} {Ω : xW} {h : xH} {sz : Nat} {w np : Nat} {d9 b9 m9 : Int32} {p a : Nat} {pf : Nat → Option Nat} (hto : h w = some (tO w (nI np) d9 b9 m9)) (htp : h (w + 1) = some (.inl (.object "EvePost$Person", 6, .inr (.inr (.inr (.inr pf)))))) (h6 : np ≤ 6) (hp : p < np) (ha : pf p = some a) : xC l Ω yX8_one cX8_one 2 (some (.object "EvePost$Person")) 0 0 0 [.ref w, .int (nI p)] h sz (some (.ref a)) h (sz) := by
  refine xC_of (lv := [(0, .ref w), (1, .int (nI p))]) pn_X8 rfl rfl (fun Γ X hΓ hbs => ?_)
  have X : xX Γ Ω cX8_one 2 RX8 "one" (some (.object "EvePost$Person")) 0 0 0 0 := X
  subst hΓ
  refine xr_iload_n X 1 dX8_one_0 rfl rfl ?_
  refine xr_if_lt (tgt := 21) X dX8_one_1 (by decide) (fun c_1 => absurd c_1 (nI_pos (by omega))) (fun _ => ?_)
  refine xr_iload_n X 1 dX8_one_4 rfl rfl ?_
  refine xr_aload_n X 0 dX8_one_5 rfl rfl ?_
  refine xr_get X fF_X8_17_7 hto rfl dX8_one_6 ?_
  refine xr_icmp_ge (tgt := 21) X dX8_one_9 (by decide) (fun c_9 => absurd c_9 (by rw [i32_le, nI_toInt (by omega), nI_toInt (by omega)]; omega)) (fun _ => ?_)
  refine xr_iload_n X 1 dX8_one_12 rfl rfl ?_
  refine xr_aload_n X 0 dX8_one_13 rfl rfl ?_
  refine xr_get X fF_X8_11_7 hto rfl dX8_one_14 ?_
  refine xr_alen (v := 6) X htp (show nI 6 = 6 by decide) dX8_one_17 ?_
  refine xr_icmp_lt (tgt := 25) X dX8_one_18 (by decide) (fun _ => ?_) (fun c_18 => absurd (by rw [i32_lt, nI_toInt (by omega), k32_6]; omega) c_18)
  refine xr_aload_n X 0 dX8_one_25 rfl rfl ?_
  refine xr_get X fF_X8_11_7 hto rfl dX8_one_26 ?_
  refine xr_iload_n X 1 dX8_one_29 rfl rfl ?_
  refine xr_aald (j := p) (v := .ref a) X htp rfl (xI_n (by omega) (by omega)) (by rw [ha]; rfl) dX8_one_30 ?_
  exact xr_aret X rfl (Or.inr ⟨_, rfl⟩) rfl rfl rfl rfl rfl dX8_one_31
set_option maxRecDepth 100000 in
theorem c_X8_oneN {l : Launch} {Ω : xW} {h : xH} {sz : Nat} {w np : Nat} {d9 b9 m9 : Int32} {x : Int32} {pf : Nat → Option Nat} (hto : h w = some (tO w (nI np) d9 b9 m9)) (htp : h (w + 1) = some (.inl (.object "EvePost$Person", 6, .inr (.inr (.inr (.inr pf)))))) (h6 : np ≤ 6) (hx : ¬ (0 ≤ x.toInt ∧ x.toInt < np)) : xC l Ω yX8_one cX8_one 2 (some (.object "EvePost$Person")) 0 0 0 [.ref w, .int x] h sz (some (.null)) h (sz) := by
  refine xC_of (lv := [(0, .ref w), (1, .int x)]) pn_X8 rfl rfl (fun Γ X hΓ hbs => ?_)
  have X : xX Γ Ω cX8_one 2 RX8 "one" (some (.object "EvePost$Person")) 0 0 0 0 := X
  subst hΓ
  refine xr_iload_n X 1 dX8_one_0 rfl rfl ?_
  refine xr_if_lt (tgt := 21) X dX8_one_1 (by decide) (fun c_1 => ?_) (fun c_1 => ?_)
  · have c_1 := i32_lt.mp c_1
    (try simp (disch := omega) only [nI_toInt, i32_add, i32_sub, i32_mul, i64_addl, i32_l, k32_0, k64_0] at c_1)
    refine xr_null X dX8_one_21 ?_
    refine xr_goto (tgt := 31) X dX8_one_22 (by decide) ?_
    exact xr_aret X rfl (Or.inl rfl) rfl rfl rfl rfl rfl dX8_one_31
  · have c_1 := mt i32_lt.mpr c_1
    (try simp (disch := omega) only [nI_toInt, i32_add, i32_sub, i32_mul, i64_addl, i32_l, k32_0, k64_0] at c_1)
    refine xr_iload_n X 1 dX8_one_4 rfl rfl ?_
    refine xr_aload_n X 0 dX8_one_5 rfl rfl ?_
    refine xr_get X fF_X8_17_7 hto rfl dX8_one_6 ?_
    refine xr_icmp_ge (tgt := 21) X dX8_one_9 (by decide) (fun c_9 => ?_) (fun c_9 => ?_)
    · have c_9 := i32_le.mp c_9
      (try simp (disch := omega) only [nI_toInt, i32_add, i32_sub, i32_mul, i64_addl, i32_l] at c_9)
      refine xr_null X dX8_one_21 ?_
      refine xr_goto (tgt := 31) X dX8_one_22 (by decide) ?_
      exact xr_aret X rfl (Or.inl rfl) rfl rfl rfl rfl rfl dX8_one_31
    · have c_9 := mt i32_le.mpr c_9
      (try simp (disch := omega) only [nI_toInt, i32_add, i32_sub, i32_mul, i64_addl, i32_l] at c_9)
      refine xr_iload_n X 1 dX8_one_12 rfl rfl ?_
      refine xr_aload_n X 0 dX8_one_13 rfl rfl ?_
      refine xr_get X fF_X8_11_7 hto rfl dX8_one_14 ?_
      refine xr_alen (v := 6) X htp (show nI 6 = 6 by decide) dX8_one_17 ?_
      refine xr_icmp_lt (tgt := 25) X dX8_one_18 (by decide) (fun c_18 => ?_) (fun c_18 => ?_)
      · have c_18 := i32_lt.mp c_18
        (try simp (disch := omega) only [nI_toInt, i32_add, i32_sub, i32_mul, i64_addl, i32_l, k32_6, k64_6] at c_18)
        exact absurd (show 0 ≤ x.toInt ∧ x.toInt < np by omega) hx
      · have c_18 := mt i32_lt.mpr c_18
        (try simp (disch := omega) only [nI_toInt, i32_add, i32_sub, i32_mul, i64_addl, i32_l, k32_6, k64_6] at c_18)
        exact absurd (show 0 ≤ x.toInt ∧ x.toInt < np by omega) hx
set_option maxRecDepth 100000 in
theorem c_X8_goOn {l : Launch} {Ω : xW} {h : xH} {sz : Nat} {w : Nat} {s9 d9 b9 m9 v : Int32} (hto : h w = some (tO w s9 d9 b9 m9)) : xC l Ω yX8_goOn cX8_goOn 2 none 0 0 0 [.ref w, .int v] h sz (none) (xu h w (.inr (7, [.ref (w + 1), .int (s9), .int (d9 + 1), .int (v), .ref (w + 2), .int (m9)]))) (sz) := by
  refine xC_of (lv := [(0, .ref w), (1, .int v)]) pn_X8 rfl rfl (fun Γ X hΓ hbs => ?_)
  have X : xX Γ Ω cX8_goOn 2 RX8 "goOn" none 0 0 0 0 := X
  subst hΓ
  refine xr_aload_n X 0 dX8_goOn_0 rfl rfl ?_
  refine xr_dup X dX8_goOn_1 rfl ?_
  refine xr_get X fF_X8_21_7 hto rfl dX8_goOn_2 ?_
  refine xr_iconst (v := 1) X dX8_goOn_5 (by decide) ?_
  refine xr_iadd X dX8_goOn_6 ?_
  refine xr_put (fs' := [.ref (w + 1), .int (s9), .int (d9 + 1), .int (b9), .ref (w + 2), .int (m9)]) X (fW_X8_21_7 _) hto rfl rfl rfl rfl dX8_goOn_7 ?_
  refine xr_aload_n X 0 dX8_goOn_10 rfl rfl ?_
  refine xr_iload_n X 1 dX8_goOn_11 rfl rfl ?_
  refine xr_put (fs' := [.ref (w + 1), .int (s9), .int (d9 + 1), .int v, .ref (w + 2), .int (m9)]) X (fW_X8_24_7 _) (xu_s _ _ _) rfl rfl rfl rfl dX8_goOn_12 ?_
  refine xr_heap (h' := (xu h w (.inr (7, [.ref (w + 1), .int (s9), .int (d9 + 1), .int v, .ref (w + 2), .int (m9)])))) (xu_uu _ _ _ _) ?_
  exact xr_vret X rfl rfl rfl rfl rfl rfl dX8_goOn_15
set_option maxRecDepth 100000 in
theorem c_X8_goBack {l : Launch} {Ω : xW} {h : xH} {sz : Nat} {w : Nat} {s9 d9 b9 m9 v : Int32} (hto : h w = some (tO w s9 d9 b9 m9)) : xC l Ω yX8_goBack cX8_goBack 2 none 0 0 0 [.ref w, .int v] h sz (none) (xu h w (.inr (7, [.ref (w + 1), .int (s9), .int (d9 - 1), .int (v), .ref (w + 2), .int (m9)]))) (sz) := by
  refine xC_of (lv := [(0, .ref w), (1, .int v)]) pn_X8 rfl rfl (fun Γ X hΓ hbs => ?_)
  have X : xX Γ Ω cX8_goBack 2 RX8 "goBack" none 0 0 0 0 := X
  subst hΓ
  refine xr_aload_n X 0 dX8_goBack_0 rfl rfl ?_
  refine xr_dup X dX8_goBack_1 rfl ?_
  refine xr_get X fF_X8_21_7 hto rfl dX8_goBack_2 ?_
  refine xr_iconst (v := 1) X dX8_goBack_5 (by decide) ?_
  refine xr_isub X dX8_goBack_6 ?_
  refine xr_put (fs' := [.ref (w + 1), .int (s9), .int (d9 - 1), .int (b9), .ref (w + 2), .int (m9)]) X (fW_X8_21_7 _) hto rfl rfl rfl rfl dX8_goBack_7 ?_
  refine xr_aload_n X 0 dX8_goBack_10 rfl rfl ?_
  refine xr_iload_n X 1 dX8_goBack_11 rfl rfl ?_
  refine xr_put (fs' := [.ref (w + 1), .int (s9), .int (d9 - 1), .int v, .ref (w + 2), .int (m9)]) X (fW_X8_24_7 _) (xu_s _ _ _) rfl rfl rfl rfl dX8_goBack_12 ?_
  refine xr_heap (h' := (xu h w (.inr (7, [.ref (w + 1), .int (s9), .int (d9 - 1), .int v, .ref (w + 2), .int (m9)])))) (xu_uu _ _ _ _) ?_
  exact xr_vret X rfl rfl rfl rfl rfl rfl dX8_goBack_15
set_option maxRecDepth 100000 in
theorem c_X8_moodyAmong {l : Launch} {Ω : xW} {h : xH} {sz : Nat} {w np day b : Nat} {kd : Nat → Nat} {s : Nat} (hto : h w = some (tO w (nI np) (nI day) (nI b) (nI (moM kd np)))) : xC l Ω yX8_moodyAmong cX8_moodyAmong 2 (some .int) 0 0 0 [.ref w, .int (nI s)] h sz (some (.int (nI (s &&& moM kd np)))) h (sz) := by
  refine xC_of (lv := [(0, .ref w), (1, .int (nI s))]) pn_X8 rfl rfl (fun Γ X hΓ hbs => ?_)
  have X : xX Γ Ω cX8_moodyAmong 2 RX8 "moodyAmong" (some .int) 0 0 0 0 := X
  subst hΓ
  refine xr_iload_n X 1 dX8_moodyAmong_0 rfl rfl ?_
  refine xr_aload_n X 0 dX8_moodyAmong_1 rfl rfl ?_
  refine xr_get X fF_X8_31_7 hto rfl dX8_moodyAmong_2 ?_
  refine xr_iand X dX8_moodyAmong_5 ?_
  exact xr_iret X rfl (xv (nI_and _ _).symm) rfl rfl rfl rfl dX8_moodyAmong_6
set_option maxRecDepth 100000 in
theorem c_X8_outcomeAfter {l : Launch} {Ω : xW} {h : xH} {sz : Nat} {w np day b : Nat} {kd wh mn : Nat → Nat} {fr : Nat → Int32} {lt c : Nat} (hto : h w = some (tO w (nI np) (nI day) (nI b) (nI (moM kd np)))) (htf : h (w + 2) = some (.inl (.int, 64, .inl fr))) (h6 : np ≤ 6) (hF : frOK fr kd wh mn np) (hlt : lt < 2 ^ np) : xC l Ω yX8_outcomeAfter cX8_outcomeAfter 3 (some .int) 1 0 0 [.ref w, .int (nI lt), .int (nI c)] h sz (some (.int (nI (dn kd wh mn np lt c)))) h (sz) := by
  refine xC_of (lv := [(0, .ref w), (1, .int (nI lt)), (2, .int (nI c))]) pn_X8 rfl rfl (fun Γ X hΓ hbs => ?_)
  have X : xX Γ Ω cX8_outcomeAfter 3 RX8 "outcomeAfter" (some .int) 1 35 0 0 := X
  subst hΓ
  have h64 := pw_le h6
  have hmo := moM_lt kd np
  refine xr_iload_n X 1 dX8_outcomeAfter_0 rfl rfl ?_
  refine xr_if_lt (tgt := 13) X dX8_outcomeAfter_1 (by decide) (fun c_1 => absurd c_1 (nI_pos (by omega))) (fun _ => ?_)
  refine xr_iload_n X 1 dX8_outcomeAfter_4 rfl rfl ?_
  refine xr_aload_n X 0 dX8_outcomeAfter_5 rfl rfl ?_
  refine xr_get X fF_X8_27_7 hto rfl dX8_outcomeAfter_6 ?_
  refine xr_alen (v := 64) X htf (show nI 64 = 64 by decide) dX8_outcomeAfter_9 ?_
  refine xr_icmp_lt (tgt := 16) X dX8_outcomeAfter_10 (by decide) (fun _ => ?_) (fun c_10 => absurd (by rw [i32_lt, nI_toInt (by omega), k32_64]; omega) c_10)
  refine xr_aload_n X 0 dX8_outcomeAfter_16 rfl rfl ?_
  refine xr_get X fF_X8_27_7 hto rfl dX8_outcomeAfter_17 ?_
  refine xr_iload_n X 1 dX8_outcomeAfter_20 rfl rfl ?_
  refine xr_iald (j := lt) X htf (xI_n (by omega) (by omega)) dX8_outcomeAfter_21 ?_
  refine xr_top (y := (nI (dn kd wh mn np lt 0))) (hF lt hlt) ?_
  refine xr_aload_n X 0 dX8_outcomeAfter_22 rfl rfl ?_
  refine xr_iload_n X 2 dX8_outcomeAfter_23 rfl rfl ?_
  refine xr_callV X hto rfl kw_581 kw_582 kw_583 cw_X8_moodyAmong [.int (nI c)] (c_X8_moodyAmong hto) rfl rfl rfl rfl rfl rfl rfl dX8_outcomeAfter_24 ?_
  refine xr_ixor X dX8_outcomeAfter_27 ?_
  exact xr_iret X rfl (xv (by rw [dn_x, nI_xor])) rfl rfl rfl rfl dX8_outcomeAfter_28
set_option maxRecDepth 100000 in
theorem c_X8_outcome {l : Launch} {Ω : xW} {h : xH} {sz : Nat} {w np day b : Nat} {kd wh mn : Nat → Nat} {fr : Nat → Int32} {lt : Nat} (hto : h w = some (tO w (nI np) (nI day) (nI b) (nI (moM kd np)))) (htf : h (w + 2) = some (.inl (.int, 64, .inl fr))) (h6 : np ≤ 6) (hF : frOK fr kd wh mn np) (hlt : lt < 2 ^ np) : xC l Ω yX8_outcome cX8_outcome 2 (some .int) 2 0 0 [.ref w, .int (nI lt)] h sz (some (.int (nI (dn kd wh mn np lt b)))) h (sz) := by
  refine xC_of (lv := [(0, .ref w), (1, .int (nI lt))]) pn_X8 rfl rfl (fun Γ X hΓ hbs => ?_)
  have X : xX Γ Ω cX8_outcome 2 RX8 "outcome" (some .int) 2 70 0 0 := X
  subst hΓ
  refine xr_aload_n X 0 dX8_outcome_0 rfl rfl ?_
  refine xr_iload_n X 1 dX8_outcome_1 rfl rfl ?_
  refine xr_aload_n X 0 dX8_outcome_2 rfl rfl ?_
  refine xr_get X fF_X8_24_7 hto rfl dX8_outcome_3 ?_
  refine xr_callV X hto rfl kw_576 kw_578 kw_12 cw_X8_outcomeAfter [.int (nI lt), .int (nI b)] (c_X8_outcomeAfter (c := b) hto htf h6 hF (by omega)) rfl rfl rfl rfl rfl rfl rfl dX8_outcome_6 ?_
  exact xr_iret X rfl rfl rfl rfl rfl rfl dX8_outcome_9
set_option maxRecDepth 100000 in
theorem c_X8_agreesAfter {l : Launch} {Ω : xW} {h : xH} {sz : Nat} {w np day b : Nat} {kd wh mn : Nat → Nat} {fr : Nat → Int32} {lt c : Nat} (hto : h w = some (tO w (nI np) (nI day) (nI b) (nI (moM kd np)))) (htf : h (w + 2) = some (.inl (.int, 64, .inl fr))) (h6 : np ≤ 6) (hF : frOK fr kd wh mn np) (hlt : lt < 2 ^ np) : xC l Ω yX8_agreesAfter cX8_agreesAfter 3 (some .boolean) 2 0 0 [.ref w, .int (nI lt), .int (nI c)] h sz (some (.int (xb (agr kd wh mn np c lt)))) h (sz) := by
  refine xC_of (lv := [(0, .ref w), (1, .int (nI lt)), (2, .int (nI c))]) pn_X8 rfl rfl (fun Γ X hΓ hbs => ?_)
  have X : xX Γ Ω cX8_agreesAfter 3 RX8 "agreesAfter" (some .boolean) 2 70 0 0 := X
  subst hΓ
  have h64 := pw_le h6
  have hmo := moM_lt kd np
  have dl := dn_lt kd wh mn np lt c
  refine xr_aload_n X 0 dX8_agreesAfter_0 rfl rfl ?_
  refine xr_iload_n X 1 dX8_agreesAfter_1 rfl rfl ?_
  refine xr_iload_n X 2 dX8_agreesAfter_2 rfl rfl ?_
  refine xr_callV X hto rfl kw_576 kw_578 kw_12 cw_X8_outcomeAfter [.int (nI lt), .int (nI c)] (c_X8_outcomeAfter (c := c) hto htf h6 hF (by omega)) rfl rfl rfl rfl rfl rfl rfl dX8_agreesAfter_3 ?_
  refine xr_iload_n X 1 dX8_agreesAfter_6 rfl rfl ?_
  refine xr_icmp_ne (tgt := 14) X dX8_agreesAfter_7 (by decide) (fun c_7 => ?_) (fun c_7 => ?_)
  · have c_7 := mt i32_eq.mpr c_7
    (try simp (disch := omega) only [nI_toInt, i32_add, i32_sub, i32_mul, i64_addl, i32_l] at c_7)
    refine xr_iconst (v := 0) X dX8_agreesAfter_14 (by decide) ?_
    exact xr_zret X rfl rfl (by first | exact xbT (by omega) | exact xbF (by omega)) rfl rfl rfl rfl dX8_agreesAfter_15
  · have c_7 := i32_eq.mp c_7
    (try simp (disch := omega) only [nI_toInt, i32_add, i32_sub, i32_mul, i64_addl, i32_l] at c_7)
    refine xr_iconst (v := 1) X dX8_agreesAfter_10 (by decide) ?_
    refine xr_goto (tgt := 15) X dX8_agreesAfter_11 (by decide) ?_
    exact xr_zret X rfl rfl (by first | exact xbT (by omega) | exact xbF (by omega)) rfl rfl rfl rfl dX8_agreesAfter_15
set_option maxRecDepth 100000 in
theorem c_X8_agrees {l : Launch} {Ω : xW} {h : xH} {sz : Nat} {w np day b : Nat} {kd wh mn : Nat → Nat} {fr : Nat → Int32} {lt : Nat} (hto : h w = some (tO w (nI np) (nI day) (nI b) (nI (moM kd np)))) (htf : h (w + 2) = some (.inl (.int, 64, .inl fr))) (h6 : np ≤ 6) (hF : frOK fr kd wh mn np) (hlt : lt < 2 ^ np) : xC l Ω yX8_agrees cX8_agrees 2 (some .boolean) 3 0 0 [.ref w, .int (nI lt)] h sz (some (.int (xb (agr kd wh mn np b lt)))) h (sz) := by
  refine xC_of (lv := [(0, .ref w), (1, .int (nI lt))]) pn_X8 rfl rfl (fun Γ X hΓ hbs => ?_)
  have X : xX Γ Ω cX8_agrees 2 RX8 "agrees" (some .boolean) 3 105 0 0 := X
  subst hΓ
  refine xr_aload_n X 0 dX8_agrees_0 rfl rfl ?_
  refine xr_iload_n X 1 dX8_agrees_1 rfl rfl ?_
  refine xr_aload_n X 0 dX8_agrees_2 rfl rfl ?_
  refine xr_get X fF_X8_24_7 hto rfl dX8_agrees_3 ?_
  refine xr_callV X hto rfl kw_572 kw_573 kw_574 cw_X8_agreesAfter [.int (nI lt), .int (nI b)] (c_X8_agreesAfter hto htf h6 hF (by omega)) rfl rfl rfl rfl rfl rfl rfl dX8_agrees_6 ?_
  exact xr_zret X rfl (xb_nar _) rfl rfl rfl rfl rfl dX8_agrees_9
set_option maxRecDepth 100000 in
theorem c_X8_moodOf {l : Launch} {Ω : xW} {h : xH} {sz : Nat} {w np day b : Nat} {kd wh mn : Nat → Nat} {fr : Nat → Int32} {lt : Nat} (hto : h w = some (tO w (nI np) (nI day) (nI b) (nI (moM kd np)))) (htf : h (w + 2) = some (.inl (.int, 64, .inl fr))) (h6 : np ≤ 6) (hF : frOK fr kd wh mn np) (hlt : lt < 2 ^ np) : xC l Ω yX8_moodOf cX8_moodOf 2 (some .int) 2 0 0 [.ref w, .int (nI lt)] h sz (some (.int (nI (dn kd wh mn np lt 0 ^^^ lt)))) h (sz) := by
  refine xC_of (lv := [(0, .ref w), (1, .int (nI lt))]) pn_X8 rfl rfl (fun Γ X hΓ hbs => ?_)
  have X : xX Γ Ω cX8_moodOf 2 RX8 "moodOf" (some .int) 2 70 0 0 := X
  subst hΓ
  refine xr_aload_n X 0 dX8_moodOf_0 rfl rfl ?_
  refine xr_iload_n X 1 dX8_moodOf_1 rfl rfl ?_
  refine xr_iconst (v := 0) X dX8_moodOf_2 (by decide) ?_
  refine xr_callV X hto rfl kw_576 kw_578 kw_12 cw_X8_outcomeAfter [.int (nI lt), .int 0] (c_X8_outcomeAfter (c := 0) hto htf h6 hF (by omega)) rfl rfl rfl rfl rfl rfl rfl dX8_moodOf_3 ?_
  refine xr_iload_n X 1 dX8_moodOf_6 rfl rfl ?_
  refine xr_ixor X dX8_moodOf_7 ?_
  exact xr_iret X rfl (xv (nI_xor _ _).symm) rfl rfl rfl rfl dX8_moodOf_8
